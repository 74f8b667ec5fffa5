/-! The reference: sets of names -/
theorem bt_1 : ∀ i, i < 32 → bt 1 i = decide (i = 0) := by decide +kernel
theorem shr1 (x : Int32) {k : Nat} (hk : k < 32) : (x >>> (nI k &&& 31)) &&& 1 = nI (if bt x k = true then 1 else 0) := by
  refine b_ext (fun i hi => ?_)
  rw [b_and, b_sshr k hk x hi, bt_1 i hi]
  by_cases z : i = 0
  · subst z
    rw [decide_eq_true rfl, Bool.and_true, Nat.add_zero, if_pos hk]
    cases bt x k with
    | true => rw [if_pos rfl]; rfl
    | false => rw [if_neg (by decide)]; rfl
  · rw [decide_eq_false z, Bool.and_false]
    by_cases q : bt x k = true
    · rw [if_pos q, show nI 1 = (1 : Int32) from rfl, bt_1 i hi, decide_eq_false z]
    · rw [if_neg q, show nI 0 = (0 : Int32) from rfl, b_0]
theorem fb_tail {p : Nat → Bool} {a : Nat} : ∀ b, (∀ i, a ≤ i → i < a + b → p i = false) → fb_ct p (a + b) = fb_ct p a := by
  intro b
  induction b with
  | zero => intro _; rfl
  | succ b ih =>
    intro h
    rw [← Nat.add_assoc, fb_ct_succ, ih (fun i h1 h2 => h i h1 (by omega)), h (a + b) (by omega) (by omega), if_neg (by decide), Nat.add_zero]
theorem pc_26 {x : Int32} (h : ∀ i, 26 ≤ i → i < 32 → bt x i = false) : fb_ct (bt x) 26 = pc x := (fb_tail (p := bt x) (a := 26) 6 h).symm
set_option maxRecDepth 100000 in
set_option maxHeartbeats 400000 in
theorem m_bits (g : Gx) (x : Int32) (h : Hp) (hx : ∀ i, 26 ≤ i → i < 32 → bt x i = false) : AD g yX8_bits wsX8_bits rmX8_bits [.int x] h (some (.int (nI (pc x)))) h := by
  rw [← pc_26 hx]
  generalize hZ : ZP g (fun r h2 => r = some (.int (nI (fb_ct (bt x) 26))) ∧ h2 = h) = Z
  have z0 : Z.1 = 0 ∧ Z.2.1 = 0 := by rw [← hZ]; exact ⟨rfl, rfl⟩
  refine AC.of (cc := cX8_bits) (maxL := 3) (ret := (some .int)) (by decide +kernel) rfl (Nat.le_of_ble_eq_true rfl) ?_
  show AW g mmX8_bits _ 0 [(0, some (.int x))] [] _
  rw [hZ]
  refine am_iconst (n := 1) (v := 0) dX8_bits_0 rfl rfl ?_
  refine am_istore_n (n := 2) (i := 1) dX8_bits_1 rfl (Nat.le_of_ble_eq_true rfl) rfl rfl ?_
  refine am_iconst (n := 3) (v := 0) dX8_bits_2 rfl rfl ?_
  refine am_istore_n (n := 4) (i := 2) dX8_bits_3 rfl (Nat.le_of_ble_eq_true rfl) rfl rfl ?_
  refine am_loc [(0, some (.int x)), (1, some (.int (nI (fb_ct (bt x) 0)))), (2, some (.int (nI 0)))] rfl ?_
  refine loop_up (Wp := fun k => AW g mmX8_bits Z 4 [(0, some (.int x)), (1, some (.int (nI (fb_ct (bt x) k)))), (2, some (.int (nI k)))] [] h) 26 ?_ ?_ 0 (by omega)
  · rw [← hZ]
    generalize fb_ct (bt x) 26 = y
    refine am_iload_n (n := 5) (i := 2) dX8_bits_4 rfl rfl rfl ?_
    refine am_bipush (n := 7) (v := 26) dX8_bits_5 rfl rfl ?_
    refine am_icmp_ge (tgt := 24) (n := 10) dX8_bits_7 (by decide) rfl (fun _ => ?_) (fun q_z => absurd (by decide) q_z)
    refine am_iload_n (n := 25) (i := 1) dX8_bits_24 rfl rfl rfl ?_
    refine am_iret dX8_bits_25 rfl rfl ?_
    exact ⟨rfl, rfl⟩
  · intro k hk K
    rw [fb_ct_succ, ← nI_add] at K
    generalize nI (fb_ct (bt x) k) = y at *
    refine am_iload_n (n := 5) (i := 2) dX8_bits_4 rfl rfl rfl ?_
    refine am_bipush (n := 7) (v := 26) dX8_bits_5 rfl rfl ?_
    refine am_icmp_ge (tgt := 24) (n := 10) dX8_bits_7 (by decide) rfl (fun q_z => absurd q_z (nI_ge hk (by decide))) (fun _ => ?_)
    refine am_iload_n (n := 11) (i := 1) dX8_bits_10 rfl rfl rfl ?_
    refine am_iload_n (n := 12) (i := 0) dX8_bits_11 rfl rfl rfl ?_
    refine am_iload_n (n := 13) (i := 2) dX8_bits_12 rfl rfl rfl ?_
    refine am_ishr (n := 14) dX8_bits_13 rfl ?_
    refine am_iconst (n := 15) (v := 1) dX8_bits_14 rfl rfl ?_
    refine am_iand (n := 16) dX8_bits_15 rfl ?_
    rw [shr1 x (show k < 32 by omega)]
    refine am_iadd (n := 17) dX8_bits_16 rfl ?_
    refine am_istore_n (n := 18) (i := 1) dX8_bits_17 rfl (Nat.le_of_ble_eq_true rfl) rfl rfl ?_
    first | refine am_iincN (n := 21) dX8_bits_18 rfl rfl rfl ?_ | refine am_iinc1 (n := 21) dX8_bits_18 rfl rfl rfl ?_
    refine am_goto (tgt := 4) dX8_bits_21 (by decide) ?_
    exact am_loc _ rfl K
theorem HA.at {cs : List (List Nat)} {h : Hp} (H : HA cs h) {i : Nat} (hi : i < cs.length) : h.1 50 i = nI (cN cs i).length ∧ ∀ (j c : Nat), (cN cs i)[j]? = some c → h.2.1 49 (4 * i + j) = lN (lc c) := by
  have q := cN_of (List.getElem?_eq_getElem hi)
  rw [q]
  exact H.2 i _ (List.getElem?_eq_getElem hi)
theorem VC.at {cs : List (List Nat)} (H : VC cs) {i : Nat} (hi : i < cs.length) : (cN cs i).length ≤ 4 ∧ ∀ c ∈ cN cs i, c < 2 ^ 30 := by
  have q := cN_of (List.getElem?_eq_getElem hi)
  rw [q]
  have := H.2 _ (List.getElem_mem hi)
  exact ⟨this.1, this.2.2.1⟩
set_option maxRecDepth 100000 in
set_option maxHeartbeats 400000 in
theorem m_hasCode (g : Gx) (i c : Nat) (cs : List (List Nat)) (h : Hp) (H : HA cs h) (V : VC cs) (hi : i < cs.length) (hc : c < 2 ^ 30) : AD g yX8_hasCode wsX8_hasCode rmX8_hasCode [.ref 40, .int (nI i), .long (lN (lc c))] h (some (.int (bI (decide (c ∈ cN cs i))))) h := by
  have c40 := isC_40
  have c49 := isC_49
  have c50 := isC_50
  obtain ⟨H1, H2⟩ := H.at hi
  obtain ⟨V1, V2⟩ := V.at hi
  have V0 := V.1
  generalize cN cs i = l at *
  generalize hZ : ZP g (fun r h2 => r = some (.int (bI (decide (c ∈ l)))) ∧ h2 = h) = Z
  have z0 : Z.1 = 0 ∧ Z.2.1 = 0 := by rw [← hZ]; exact ⟨rfl, rfl⟩
  refine AC.of (cc := cX8_hasCode) (maxL := 6) (ret := (some .boolean)) (by decide +kernel) rfl (Nat.le_of_ble_eq_true rfl) ?_
  show AW g mmX8_hasCode _ 0 [(0, some (.ref 40)), (1, some (.int (nI i))), (2, some (.long (lN (lc c))))] [] _
  rw [hZ]
  have hin0 : vp_in (nI i) 24 := vp_in_nI (by omega) (by decide)
  refine am_iconst (n := 1) (v := 0) dX8_hasCode_0 rfl rfl ?_
  refine am_istore (n := 3) dX8_hasCode_1 (Nat.le_of_ble_eq_true rfl) rfl rfl ?_
  refine am_iconst (n := 4) (v := 0) dX8_hasCode_3 rfl rfl ?_
  refine am_istore (n := 6) dX8_hasCode_4 (Nat.le_of_ble_eq_true rfl) rfl rfl ?_
  refine am_loc [(0, some (.ref 40)), (1, some (.int (nI i))), (2, some (.long (lN (lc c)))), (4, some (.int (bI (decide (c ∈ l.take 0))))), (5, some (.int (nI 0)))] rfl ?_
  refine loop_up (Wp := fun k => AW g mmX8_hasCode Z 6 [(0, some (.ref 40)), (1, some (.int (nI i))), (2, some (.long (lN (lc c)))), (4, some (.int (bI (decide (c ∈ l.take k))))), (5, some (.int (nI k)))] [] h) l.length ?_ ?_ 0 (Nat.zero_le _)
  · rw [List.take_length]
    refine am_iload (n := 8) dX8_hasCode_6 rfl rfl ?_
    refine am_aload_n (n := 9) (i := 0) dX8_hasCode_8 rfl rfl rfl ?_
    refine gfX8_hasCode_39 (n := 12) dX8_hasCode_9 (by first | assumption | exact isC_of (by decide +kernel)) rfl ?_
    refine am_iload_n (n := 13) (i := 1) dX8_hasCode_12 rfl rfl rfl ?_
    refine am_iald (n := 14) dX8_hasCode_13 (by first | assumption | exact isC_of (by decide +kernel)) (by first | assumption | exact vp_in_nI (by omega) (by omega) | exact vp_in_iff.mpr (by decide)) rfl ?_
    rw [nI_clamp (by omega), H1]
    refine am_icmp_ge (tgt := 51) (n := 17) dX8_hasCode_14 (by decide) rfl (fun _ => ?_) (fun q_z => absurd (nI_le (Nat.le_refl _) (by omega)) q_z)
    rw [← hZ]
    refine am_iload (n := 53) dX8_hasCode_51 rfl rfl ?_
    exact am_iret dX8_hasCode_53 rfl (nar_bI _) ⟨rfl, rfl⟩
  · intro k hk K
    have hx := gD_at hk
    have hC := H2 k _ hx
    have hxx := V2 _ (List.mem_of_getElem? hx)
    have hmt : c ∈ l.take (k + 1) ↔ c ∈ l.take k ∨ c = l.getD k 0 := mem_take_s hx
    have hin : vp_in (nI (4 * i + k)) 96 := vp_in_nI (by omega) (by decide)
    refine am_iload (n := 8) dX8_hasCode_6 rfl rfl ?_
    refine am_aload_n (n := 9) (i := 0) dX8_hasCode_8 rfl rfl rfl ?_
    refine gfX8_hasCode_39 (n := 12) dX8_hasCode_9 (by first | assumption | exact isC_of (by decide +kernel)) rfl ?_
    refine am_iload_n (n := 13) (i := 1) dX8_hasCode_12 rfl rfl rfl ?_
    refine am_iald (n := 14) dX8_hasCode_13 (by first | assumption | exact isC_of (by decide +kernel)) (by first | assumption | exact vp_in_nI (by omega) (by omega) | exact vp_in_iff.mpr (by decide)) rfl ?_
    rw [nI_clamp (by omega), H1]
    refine am_icmp_ge (tgt := 51) (n := 17) dX8_hasCode_14 (by decide) rfl (fun q_z => absurd q_z (nI_ge hk (by omega))) (fun _ => ?_)
    refine am_iload (n := 19) dX8_hasCode_17 rfl rfl ?_
    by_cases hm : c ∈ l.take k
    · rw [decide_eq_true (hmt.mpr (Or.inl hm))] at K
      rw [decide_eq_true hm]
      refine am_if_ne (tgt := 38) (n := 22) dX8_hasCode_19 (by decide) rfl (fun _ => ?_) (fun q_z => absurd q_z (show ¬ (1 : Int32) = 0 by decide))
      refine am_iconst (n := 39) (v := 1) dX8_hasCode_38 rfl rfl ?_
      refine am_goto (tgt := 43) dX8_hasCode_39 (by decide) ?_
      refine am_istore (n := 45) dX8_hasCode_43 (Nat.le_of_ble_eq_true rfl) rfl rfl ?_
      first | refine am_iincN (n := 48) dX8_hasCode_45 rfl rfl rfl ?_ | refine am_iinc1 (n := 48) dX8_hasCode_45 rfl rfl rfl ?_
      refine am_goto (tgt := 6) dX8_hasCode_48 (by decide) ?_
      exact am_loc _ rfl K
    · rw [decide_eq_false hm]
      refine am_if_ne (tgt := 38) (n := 22) dX8_hasCode_19 (by decide) rfl (fun q_z => absurd rfl q_z) (fun _ => ?_)
      refine am_aload_n (n := 23) (i := 0) dX8_hasCode_22 rfl rfl rfl ?_
      refine gfX8_hasCode_36 (n := 26) dX8_hasCode_23 (by first | assumption | exact isC_of (by decide +kernel)) rfl ?_
      refine am_iconst (n := 27) (v := 4) dX8_hasCode_26 rfl rfl ?_
      refine am_iload_n (n := 28) (i := 1) dX8_hasCode_27 rfl rfl rfl ?_
      refine am_imul (n := 29) dX8_hasCode_28 rfl ?_
      refine am_iload (n := 31) dX8_hasCode_29 rfl rfl ?_
      refine am_iadd (n := 32) dX8_hasCode_31 rfl ?_
      rw [ix_4]
      refine am_lald (n := 33) dX8_hasCode_32 (by first | assumption | exact isC_of (by decide +kernel)) (by first | assumption | exact vp_in_nI (by omega) (by omega) | exact vp_in_iff.mpr (by decide)) rfl ?_
      rw [nI_clamp (by omega), hC]
      refine am_lload_n (n := 34) (i := 2) dX8_hasCode_33 rfl rfl rfl ?_
      refine am_lcmp (n := 35) dX8_hasCode_34 rfl ?_
      by_cases q : c = l.getD k 0
      · rw [decide_eq_true (hmt.mpr (Or.inr q))] at K
        refine am_if_ne (tgt := 42) (n := 38) dX8_hasCode_35 (by decide) rfl (fun q_z => absurd ((cmp_lc hxx hc).mpr q.symm) q_z) (fun _ => ?_)
        refine am_iconst (n := 39) (v := 1) dX8_hasCode_38 rfl rfl ?_
        refine am_goto (tgt := 43) dX8_hasCode_39 (by decide) ?_
        refine am_istore (n := 45) dX8_hasCode_43 (Nat.le_of_ble_eq_true rfl) rfl rfl ?_
        first | refine am_iincN (n := 48) dX8_hasCode_45 rfl rfl rfl ?_ | refine am_iinc1 (n := 48) dX8_hasCode_45 rfl rfl rfl ?_
        refine am_goto (tgt := 6) dX8_hasCode_48 (by decide) ?_
        exact am_loc _ rfl K
      · rw [decide_eq_false (fun z => (hmt.mp z).elim hm q)] at K
        refine am_if_ne (tgt := 42) (n := 38) dX8_hasCode_35 (by decide) rfl (fun _ => ?_) (fun q_z => absurd q_z (fun z => q ((cmp_lc hxx hc).mp z).symm))
        refine am_iconst (n := 43) (v := 0) dX8_hasCode_42 rfl rfl ?_
        refine am_istore (n := 45) dX8_hasCode_43 (Nat.le_of_ble_eq_true rfl) rfl rfl ?_
        first | refine am_iincN (n := 48) dX8_hasCode_45 rfl rfl rfl ?_ | refine am_iinc1 (n := 48) dX8_hasCode_45 rfl rfl rfl ?_
        refine am_goto (tgt := 6) dX8_hasCode_48 (by decide) ?_
        exact am_loc _ rfl K
theorem any_take_s {l : List Nat} {p : Nat → Bool} {k x : Nat} (hk : l[k]? = some x) : (l.take (k + 1)).any p = ((l.take k).any p || p x) := by
  rw [List.take_succ, hk, List.any_append]
  simp
set_option maxRecDepth 100000 in
set_option maxHeartbeats 400000 in
theorem m_haveCommon (g : Gx) (i o : Nat) (cs : List (List Nat)) (h : Hp) (H : HA cs h) (V : VC cs) (hi : i < cs.length) (ho : o < cs.length) : AD g yX8_haveCommon wsX8_haveCommon rmX8_haveCommon [.ref 40, .int (nI i), .int (nI o)] h (some (.int (bI (com cs i o)))) h := by
  have c40 := isC_40
  have c49 := isC_49
  have c50 := isC_50
  obtain ⟨H1, H2⟩ := H.at hi
  obtain ⟨V1, V2⟩ := V.at hi
  have V0 := V.1
  unfold com
  have hcall := fun c hc => m_hasCode g o c cs h H V ho hc
  generalize cN cs i = l at *
  generalize cN cs o = lo at *
  generalize hZ : ZP g (fun r h2 => r = some (.int (bI (l.any (fun c => decide (c ∈ lo))))) ∧ h2 = h) = Z
  have z0 : Z.1 = 0 ∧ Z.2.1 = 0 := by rw [← hZ]; exact ⟨rfl, rfl⟩
  refine AC.of (cc := cX8_haveCommon) (maxL := 5) (ret := (some .boolean)) (by decide +kernel) rfl (Nat.le_of_ble_eq_true rfl) ?_
  show AW g mmX8_haveCommon _ 0 [(0, some (.ref 40)), (1, some (.int (nI i))), (2, some (.int (nI o)))] [] _
  rw [hZ]
  have hin0 : vp_in (nI i) 24 := vp_in_nI (by omega) (by decide)
  refine am_iconst (n := 1) (v := 0) dX8_haveCommon_0 rfl rfl ?_
  refine am_istore_n (n := 2) (i := 3) dX8_haveCommon_1 rfl (Nat.le_of_ble_eq_true rfl) rfl rfl ?_
  refine am_iconst (n := 3) (v := 0) dX8_haveCommon_2 rfl rfl ?_
  refine am_istore (n := 5) dX8_haveCommon_3 (Nat.le_of_ble_eq_true rfl) rfl rfl ?_
  refine am_loc [(0, some (.ref 40)), (1, some (.int (nI i))), (2, some (.int (nI o))), (3, some (.int (bI ((l.take 0).any (fun c => decide (c ∈ lo)))))), (4, some (.int (nI 0)))] rfl ?_
  refine loop_up (Wp := fun k => AW g mmX8_haveCommon Z 5 [(0, some (.ref 40)), (1, some (.int (nI i))), (2, some (.int (nI o))), (3, some (.int (bI ((l.take k).any (fun c => decide (c ∈ lo)))))), (4, some (.int (nI k)))] [] h) l.length ?_ ?_ 0 (Nat.zero_le _)
  · rw [List.take_length]
    refine am_iload (n := 7) dX8_haveCommon_5 rfl rfl ?_
    refine am_aload_n (n := 8) (i := 0) dX8_haveCommon_7 rfl rfl rfl ?_
    refine gfX8_haveCommon_39 (n := 11) dX8_haveCommon_8 (by first | assumption | exact isC_of (by decide +kernel)) rfl ?_
    refine am_iload_n (n := 12) (i := 1) dX8_haveCommon_11 rfl rfl rfl ?_
    refine am_iald (n := 13) dX8_haveCommon_12 (by first | assumption | exact isC_of (by decide +kernel)) (by first | assumption | exact vp_in_nI (by omega) (by omega) | exact vp_in_iff.mpr (by decide)) rfl ?_
    rw [nI_clamp (by omega), H1]
    refine am_icmp_ge (tgt := 51) (n := 16) dX8_haveCommon_13 (by decide) rfl (fun _ => ?_) (fun q_z => absurd (nI_le (Nat.le_refl _) (by omega)) q_z)
    rw [← hZ]
    refine am_iload_n (n := 52) (i := 3) dX8_haveCommon_51 rfl rfl rfl ?_
    exact am_iret dX8_haveCommon_52 rfl (nar_bI _) ⟨rfl, rfl⟩
  · intro k hk K
    have hx := gD_at hk
    have hC := H2 k _ hx
    have hxx := V2 _ (List.mem_of_getElem? hx)
    rw [any_take_s hx] at K
    have hin : vp_in (nI (4 * i + k)) 96 := vp_in_nI (by omega) (by decide)
    generalize (l.take k).any (fun c => decide (c ∈ lo)) = y at *
    refine am_iload (n := 7) dX8_haveCommon_5 rfl rfl ?_
    refine am_aload_n (n := 8) (i := 0) dX8_haveCommon_7 rfl rfl rfl ?_
    refine gfX8_haveCommon_39 (n := 11) dX8_haveCommon_8 (by first | assumption | exact isC_of (by decide +kernel)) rfl ?_
    refine am_iload_n (n := 12) (i := 1) dX8_haveCommon_11 rfl rfl rfl ?_
    refine am_iald (n := 13) dX8_haveCommon_12 (by first | assumption | exact isC_of (by decide +kernel)) (by first | assumption | exact vp_in_nI (by omega) (by omega) | exact vp_in_iff.mpr (by decide)) rfl ?_
    rw [nI_clamp (by omega), H1]
    refine am_icmp_ge (tgt := 51) (n := 16) dX8_haveCommon_13 (by decide) rfl (fun q_z => absurd q_z (nI_ge hk (by omega))) (fun _ => ?_)
    refine am_iload_n (n := 17) (i := 3) dX8_haveCommon_16 rfl rfl rfl ?_
    cases y with
    | true =>
      refine am_if_ne (tgt := 39) (n := 20) dX8_haveCommon_17 (by decide) rfl (fun _ => ?_) (fun q_z => absurd q_z (show ¬ (1 : Int32) = 0 by decide))
      refine am_iconst (n := 40) (v := 1) dX8_haveCommon_39 rfl rfl ?_
      refine am_goto (tgt := 44) dX8_haveCommon_40 (by decide) ?_
      refine am_istore_n (n := 45) (i := 3) dX8_haveCommon_44 rfl (Nat.le_of_ble_eq_true rfl) rfl rfl ?_
      first | refine am_iincN (n := 48) dX8_haveCommon_45 rfl rfl rfl ?_ | refine am_iinc1 (n := 48) dX8_haveCommon_45 rfl rfl rfl ?_
      refine am_goto (tgt := 5) dX8_haveCommon_48 (by decide) ?_
      exact am_loc _ rfl K
    | false =>
      refine am_if_ne (tgt := 39) (n := 20) dX8_haveCommon_17 (by decide) rfl (fun q_z => absurd rfl q_z) (fun _ => ?_)
      refine am_aload_n (n := 21) (i := 0) dX8_haveCommon_20 rfl rfl rfl ?_
      refine am_iload_n (n := 22) (i := 2) dX8_haveCommon_21 rfl rfl rfl ?_
      refine am_aload_n (n := 23) (i := 0) dX8_haveCommon_22 rfl rfl rfl ?_
      refine gfX8_haveCommon_36 (n := 26) dX8_haveCommon_23 (by first | assumption | exact isC_of (by decide +kernel)) rfl ?_
      refine am_iconst (n := 27) (v := 4) dX8_haveCommon_26 rfl rfl ?_
      refine am_iload_n (n := 28) (i := 1) dX8_haveCommon_27 rfl rfl rfl ?_
      refine am_imul (n := 29) dX8_haveCommon_28 rfl ?_
      refine am_iload (n := 31) dX8_haveCommon_29 rfl rfl ?_
      refine am_iadd (n := 32) dX8_haveCommon_31 rfl ?_
      rw [ix_4]
      refine am_lald (n := 33) dX8_haveCommon_32 (by first | assumption | exact isC_of (by decide +kernel)) (by first | assumption | exact vp_in_nI (by omega) (by omega) | exact vp_in_iff.mpr (by decide)) rfl ?_
      rw [nI_clamp (by omega), hC]
      refine cdX8_haveCommon_140 (n := 36) dX8_haveCommon_33 (by first | exact ⟨rfl, rfl⟩ | assumption) (hcall _ hxx) rfl rfl (Nat.le_of_ble_eq_true rfl) (by first | assumption | exact isC_of (by decide +kernel)) rfl ?_
      rw [Bool.false_or] at K
      cases q : decide (l.getD k 0 ∈ lo) with
      | true =>
        rw [q] at K
        refine am_if_eq (tgt := 43) (n := 39) dX8_haveCommon_36 (by decide) rfl (fun q_z => absurd q_z (show ¬ (1 : Int32) = 0 by decide)) (fun _ => ?_)
        refine am_iconst (n := 40) (v := 1) dX8_haveCommon_39 rfl rfl ?_
        refine am_goto (tgt := 44) dX8_haveCommon_40 (by decide) ?_
        refine am_istore_n (n := 45) (i := 3) dX8_haveCommon_44 rfl (Nat.le_of_ble_eq_true rfl) rfl rfl ?_
        first | refine am_iincN (n := 48) dX8_haveCommon_45 rfl rfl rfl ?_ | refine am_iinc1 (n := 48) dX8_haveCommon_45 rfl rfl rfl ?_
        refine am_goto (tgt := 5) dX8_haveCommon_48 (by decide) ?_
        exact am_loc _ rfl K
      | false =>
        rw [q] at K
        refine am_if_eq (tgt := 43) (n := 39) dX8_haveCommon_36 (by decide) rfl (fun _ => ?_) (fun q_z => absurd rfl q_z)
        refine am_iconst (n := 44) (v := 0) dX8_haveCommon_43 rfl rfl ?_
        refine am_istore_n (n := 45) (i := 3) dX8_haveCommon_44 rfl (Nat.le_of_ble_eq_true rfl) rfl rfl ?_
        first | refine am_iincN (n := 48) dX8_haveCommon_45 rfl rfl rfl ?_ | refine am_iinc1 (n := 48) dX8_haveCommon_45 rfl rfl rfl ?_
        refine am_goto (tgt := 5) dX8_haveCommon_48 (by decide) ?_
        exact am_loc _ rfl K
set_option maxRecDepth 100000 in
set_option maxHeartbeats 400000 in
theorem m_namesWith (g : Gx) (c : Nat) (cs : List (List Nat)) (h : Hp) (H : HA cs h) (V : VC cs) (hc : c < 2 ^ 30) (hz : h.1 41 2 = nI cs.length) : AD g yX8_namesWith wsX8_namesWith rmX8_namesWith [.ref 40, .long (lN (lc c))] h (some (.int (mkC cs c cs.length))) h := by
  have c40 := isC_40
  have c41 := isC_41
  have V0 := V.1
  unfold mkC
  generalize hZ : ZP g (fun r h2 => r = some (.int (orF (fun m => if c ∈ cN cs m then sh1 m else 0) cs.length)) ∧ h2 = h) = Z
  have z0 : Z.1 = 0 ∧ Z.2.1 = 0 := by rw [← hZ]; exact ⟨rfl, rfl⟩
  refine AC.of (cc := cX8_namesWith) (maxL := 5) (ret := (some .int)) (by decide +kernel) rfl (Nat.le_of_ble_eq_true rfl) ?_
  show AW g mmX8_namesWith _ 0 [(0, some (.ref 40)), (1, some (.long (lN (lc c))))] [] _
  rw [hZ]
  refine am_iconst (n := 1) (v := 0) dX8_namesWith_0 rfl rfl ?_
  refine am_istore_n (n := 2) (i := 3) dX8_namesWith_1 rfl (Nat.le_of_ble_eq_true rfl) rfl rfl ?_
  refine am_iconst (n := 3) (v := 0) dX8_namesWith_2 rfl rfl ?_
  refine am_istore (n := 5) dX8_namesWith_3 (Nat.le_of_ble_eq_true rfl) rfl rfl ?_
  refine am_loc [(0, some (.ref 40)), (1, some (.long (lN (lc c)))), (3, some (.int (orF (fun m => if c ∈ cN cs m then sh1 m else 0) 0))), (4, some (.int (nI 0)))] rfl ?_
  refine loop_up (Wp := fun k => AW g mmX8_namesWith Z 5 [(0, some (.ref 40)), (1, some (.long (lN (lc c)))), (3, some (.int (orF (fun m => if c ∈ cN cs m then sh1 m else 0) k))), (4, some (.int (nI k)))] [] h) cs.length ?_ ?_ 0 (Nat.zero_le _)
  · refine am_iload (n := 7) dX8_namesWith_5 rfl rfl ?_
    refine am_aload_n (n := 8) (i := 0) dX8_namesWith_7 rfl rfl rfl ?_
    refine gfX8_namesWith_7 (n := 11) dX8_namesWith_8 (by first | assumption | exact isC_of (by decide +kernel)) rfl ?_
    refine am_iconst (n := 12) (v := 2) dX8_namesWith_11 rfl rfl ?_
    refine am_iald (n := 13) dX8_namesWith_12 (by first | assumption | exact isC_of (by decide +kernel)) (by first | assumption | exact vp_in_nI (by omega) (by omega) | exact vp_in_iff.mpr (by decide)) rfl ?_
    rw [show (2 : Int32).toNatClampNeg = 2 from rfl, hz]
    refine am_icmp_ge (tgt := 43) (n := 16) dX8_namesWith_13 (by decide) rfl (fun _ => ?_) (fun q_z => absurd (nI_le (Nat.le_refl _) (by omega)) q_z)
    rw [← hZ]
    generalize orF (fun m => if c ∈ cN cs m then sh1 m else 0) cs.length = y
    refine am_iload_n (n := 44) (i := 3) dX8_namesWith_43 rfl rfl rfl ?_
    refine am_iret dX8_namesWith_44 rfl rfl ?_
    exact ⟨rfl, rfl⟩
  · intro k hk K
    rw [show orF (fun m => if c ∈ cN cs m then sh1 m else 0) (k + 1) = orF (fun m => if c ∈ cN cs m then sh1 m else 0) k ||| (if c ∈ cN cs k then sh1 k else 0) from rfl] at K
    generalize orF (fun m => if c ∈ cN cs m then sh1 m else 0) k = y at *
    refine am_iload (n := 7) dX8_namesWith_5 rfl rfl ?_
    refine am_aload_n (n := 8) (i := 0) dX8_namesWith_7 rfl rfl rfl ?_
    refine gfX8_namesWith_7 (n := 11) dX8_namesWith_8 (by first | assumption | exact isC_of (by decide +kernel)) rfl ?_
    refine am_iconst (n := 12) (v := 2) dX8_namesWith_11 rfl rfl ?_
    refine am_iald (n := 13) dX8_namesWith_12 (by first | assumption | exact isC_of (by decide +kernel)) (by first | assumption | exact vp_in_nI (by omega) (by omega) | exact vp_in_iff.mpr (by decide)) rfl ?_
    rw [show (2 : Int32).toNatClampNeg = 2 from rfl, hz]
    refine am_icmp_ge (tgt := 43) (n := 16) dX8_namesWith_13 (by decide) rfl (fun q_z => absurd q_z (nI_ge hk (by omega))) (fun _ => ?_)
    refine am_iload_n (n := 17) (i := 3) dX8_namesWith_16 rfl rfl rfl ?_
    refine am_aload_n (n := 18) (i := 0) dX8_namesWith_17 rfl rfl rfl ?_
    refine am_iload (n := 20) dX8_namesWith_18 rfl rfl ?_
    refine am_lload_n (n := 21) (i := 1) dX8_namesWith_20 rfl rfl rfl ?_
    refine cdX8_namesWith_140 (n := 24) dX8_namesWith_21 (by first | exact ⟨rfl, rfl⟩ | assumption) (m_hasCode g k c cs h H V hk hc) rfl rfl (Nat.le_of_ble_eq_true rfl) (by first | assumption | exact isC_of (by decide +kernel)) rfl ?_
    by_cases q : c ∈ cN cs k
    · rw [if_pos q] at K
      rw [decide_eq_true q]
      refine am_if_eq (tgt := 34) (n := 27) dX8_namesWith_24 (by decide) rfl (fun q_z => absurd q_z (show ¬ (1 : Int32) = 0 by decide)) (fun _ => ?_)
      refine am_iconst (n := 28) (v := 1) dX8_namesWith_27 rfl rfl ?_
      refine am_iload (n := 30) dX8_namesWith_28 rfl rfl ?_
      refine am_ishl (n := 31) dX8_namesWith_30 rfl ?_
      refine am_goto (tgt := 35) dX8_namesWith_31 (by decide) ?_
      refine am_ior (n := 36) dX8_namesWith_35 rfl ?_
      refine am_istore_n (n := 37) (i := 3) dX8_namesWith_36 rfl (Nat.le_of_ble_eq_true rfl) rfl rfl ?_
      first | refine am_iincN (n := 40) dX8_namesWith_37 rfl rfl rfl ?_ | refine am_iinc1 (n := 40) dX8_namesWith_37 rfl rfl rfl ?_
      refine am_goto (tgt := 5) dX8_namesWith_40 (by decide) ?_
      exact am_loc _ rfl K
    · rw [if_neg q] at K
      rw [decide_eq_false q]
      refine am_if_eq (tgt := 34) (n := 27) dX8_namesWith_24 (by decide) rfl (fun _ => ?_) (fun q_z => absurd rfl q_z)
      refine am_iconst (n := 35) (v := 0) dX8_namesWith_34 rfl rfl ?_
      refine am_ior (n := 36) dX8_namesWith_35 rfl ?_
      refine am_istore_n (n := 37) (i := 3) dX8_namesWith_36 rfl (Nat.le_of_ble_eq_true rfl) rfl rfl ?_
      first | refine am_iincN (n := 40) dX8_namesWith_37 rfl rfl rfl ?_ | refine am_iinc1 (n := 40) dX8_namesWith_37 rfl rfl rfl ?_
      refine am_goto (tgt := 5) dX8_namesWith_40 (by decide) ?_
      exact am_loc _ rfl K
set_option maxRecDepth 100000 in
set_option maxHeartbeats 400000 in
theorem m_likeOnes (g : Gx) (i : Nat) (cs : List (List Nat)) (h : Hp) (H : HA cs h) (V : VC cs) (hi : i < cs.length) (hz : h.1 41 2 = nI cs.length) : AD g yX8_likeOnes wsX8_likeOnes rmX8_likeOnes [.ref 40, .int (nI i)] h (some (.int (lkM cs i))) h := by
  have c40 := isC_40
  have c41 := isC_41
  have V0 := V.1
  unfold lkM msk
  generalize hZ : ZP g (fun r h2 => r = some (.int (orF (fun m => if com cs i m = true then sh1 m else 0) cs.length)) ∧ h2 = h) = Z
  have z0 : Z.1 = 0 ∧ Z.2.1 = 0 := by rw [← hZ]; exact ⟨rfl, rfl⟩
  refine AC.of (cc := cX8_likeOnes) (maxL := 4) (ret := (some .int)) (by decide +kernel) rfl (Nat.le_of_ble_eq_true rfl) ?_
  show AW g mmX8_likeOnes _ 0 [(0, some (.ref 40)), (1, some (.int (nI i)))] [] _
  rw [hZ]
  refine am_iconst (n := 1) (v := 0) dX8_likeOnes_0 rfl rfl ?_
  refine am_istore_n (n := 2) (i := 2) dX8_likeOnes_1 rfl (Nat.le_of_ble_eq_true rfl) rfl rfl ?_
  refine am_iconst (n := 3) (v := 0) dX8_likeOnes_2 rfl rfl ?_
  refine am_istore_n (n := 4) (i := 3) dX8_likeOnes_3 rfl (Nat.le_of_ble_eq_true rfl) rfl rfl ?_
  refine am_loc [(0, some (.ref 40)), (1, some (.int (nI i))), (2, some (.int (orF (fun m => if com cs i m = true then sh1 m else 0) 0))), (3, some (.int (nI 0)))] rfl ?_
  refine loop_up (Wp := fun k => AW g mmX8_likeOnes Z 4 [(0, some (.ref 40)), (1, some (.int (nI i))), (2, some (.int (orF (fun m => if com cs i m = true then sh1 m else 0) k))), (3, some (.int (nI k)))] [] h) cs.length ?_ ?_ 0 (Nat.zero_le _)
  · refine am_iload_n (n := 5) (i := 3) dX8_likeOnes_4 rfl rfl rfl ?_
    refine am_aload_n (n := 6) (i := 0) dX8_likeOnes_5 rfl rfl rfl ?_
    refine gfX8_likeOnes_7 (n := 9) dX8_likeOnes_6 (by first | assumption | exact isC_of (by decide +kernel)) rfl ?_
    refine am_iconst (n := 10) (v := 2) dX8_likeOnes_9 rfl rfl ?_
    refine am_iald (n := 11) dX8_likeOnes_10 (by first | assumption | exact isC_of (by decide +kernel)) (by first | assumption | exact vp_in_nI (by omega) (by omega) | exact vp_in_iff.mpr (by decide)) rfl ?_
    rw [show (2 : Int32).toNatClampNeg = 2 from rfl, hz]
    refine am_icmp_ge (tgt := 39) (n := 14) dX8_likeOnes_11 (by decide) rfl (fun _ => ?_) (fun q_z => absurd (nI_le (Nat.le_refl _) (by omega)) q_z)
    rw [← hZ]
    generalize orF (fun m => if com cs i m = true then sh1 m else 0) cs.length = y
    refine am_iload_n (n := 40) (i := 2) dX8_likeOnes_39 rfl rfl rfl ?_
    refine am_iret dX8_likeOnes_40 rfl rfl ?_
    exact ⟨rfl, rfl⟩
  · intro k hk K
    rw [show orF (fun m => if com cs i m = true then sh1 m else 0) (k + 1) = orF (fun m => if com cs i m = true then sh1 m else 0) k ||| (if com cs i k = true then sh1 k else 0) from rfl] at K
    generalize orF (fun m => if com cs i m = true then sh1 m else 0) k = y at *
    refine am_iload_n (n := 5) (i := 3) dX8_likeOnes_4 rfl rfl rfl ?_
    refine am_aload_n (n := 6) (i := 0) dX8_likeOnes_5 rfl rfl rfl ?_
    refine gfX8_likeOnes_7 (n := 9) dX8_likeOnes_6 (by first | assumption | exact isC_of (by decide +kernel)) rfl ?_
    refine am_iconst (n := 10) (v := 2) dX8_likeOnes_9 rfl rfl ?_
    refine am_iald (n := 11) dX8_likeOnes_10 (by first | assumption | exact isC_of (by decide +kernel)) (by first | assumption | exact vp_in_nI (by omega) (by omega) | exact vp_in_iff.mpr (by decide)) rfl ?_
    rw [show (2 : Int32).toNatClampNeg = 2 from rfl, hz]
    refine am_icmp_ge (tgt := 39) (n := 14) dX8_likeOnes_11 (by decide) rfl (fun q_z => absurd q_z (nI_ge hk (by omega))) (fun _ => ?_)
    refine am_iload_n (n := 15) (i := 2) dX8_likeOnes_14 rfl rfl rfl ?_
    refine am_aload_n (n := 16) (i := 0) dX8_likeOnes_15 rfl rfl rfl ?_
    refine am_iload_n (n := 17) (i := 1) dX8_likeOnes_16 rfl rfl rfl ?_
    refine am_iload_n (n := 18) (i := 3) dX8_likeOnes_17 rfl rfl rfl ?_
    refine cdX8_likeOnes_144 (n := 21) dX8_likeOnes_18 (by first | exact ⟨rfl, rfl⟩ | assumption) (m_haveCommon g i k cs h H V hi hk) rfl rfl (Nat.le_of_ble_eq_true rfl) (by first | assumption | exact isC_of (by decide +kernel)) rfl ?_
    cases q : com cs i k with
    | true =>
      rw [q, if_pos rfl] at K
      refine am_if_eq (tgt := 30) (n := 24) dX8_likeOnes_21 (by decide) rfl (fun q_z => absurd q_z (show ¬ (1 : Int32) = 0 by decide)) (fun _ => ?_)
      refine am_iconst (n := 25) (v := 1) dX8_likeOnes_24 rfl rfl ?_
      refine am_iload_n (n := 26) (i := 3) dX8_likeOnes_25 rfl rfl rfl ?_
      refine am_ishl (n := 27) dX8_likeOnes_26 rfl ?_
      refine am_goto (tgt := 31) dX8_likeOnes_27 (by decide) ?_
      refine am_ior (n := 32) dX8_likeOnes_31 rfl ?_
      refine am_istore_n (n := 33) (i := 2) dX8_likeOnes_32 rfl (Nat.le_of_ble_eq_true rfl) rfl rfl ?_
      first | refine am_iincN (n := 36) dX8_likeOnes_33 rfl rfl rfl ?_ | refine am_iinc1 (n := 36) dX8_likeOnes_33 rfl rfl rfl ?_
      refine am_goto (tgt := 4) dX8_likeOnes_36 (by decide) ?_
      exact am_loc _ rfl K
    | false =>
      rw [q, if_neg (by decide)] at K
      refine am_if_eq (tgt := 30) (n := 24) dX8_likeOnes_21 (by decide) rfl (fun _ => ?_) (fun q_z => absurd rfl q_z)
      refine am_iconst (n := 31) (v := 0) dX8_likeOnes_30 rfl rfl ?_
      refine am_ior (n := 32) dX8_likeOnes_31 rfl ?_
      refine am_istore_n (n := 33) (i := 2) dX8_likeOnes_32 rfl (Nat.le_of_ble_eq_true rfl) rfl rfl ?_
      first | refine am_iincN (n := 36) dX8_likeOnes_33 rfl rfl rfl ?_ | refine am_iinc1 (n := 36) dX8_likeOnes_33 rfl rfl rfl ?_
      refine am_goto (tgt := 4) dX8_likeOnes_36 (by decide) ?_
      exact am_loc _ rfl K
theorem lkM_26 {cs : List (List Nat)} (V0 : cs.length ≤ 24) (i : Nat) : ∀ j, 26 ≤ j → j < 32 → bt (lkM cs i) j = false := by
  intro j h1 h2
  cases q : bt (lkM cs i) j with
  | false => rfl
  | true =>
    unfold lkM at q
    have := ((bt_msk (by omega)).mp q).1
    omega
set_option maxRecDepth 100000 in
set_option maxHeartbeats 400000 in
theorem m_pairs (g : Gx) (e : Nat) (S : SV) (E : EV) (h : Hp) (R : RZ 0 S (h.1 41)) (V : VS S) (hx : S.2.2.2[e]? = some E) : AC g yX8_pairs wsX8_pairs rmX8_pairs [.ref 40, .int (nI e)] h (fun v h' => v = some (.int (prs (csOf S E))) ∧ HA (csOf S E) h' ∧ FrS h h') := by
  have c40 := isC_40
  have c41 := isC_41
  obtain ⟨e4, RE, VE'⟩ := mE R V hx
  have hVC := VC_of V VE'
  have hn24 := V.2.2.1
  have hlen := csOf_len S E
  have hr2 : h.1 41 2 = nI S.2.2.1.length := R.2.2.1
  rw [← hlen] at hr2 hn24
  have hcall := m_hearAll g e S E h R V hx
  generalize csOf S E = cs at *
  unfold prs
  generalize hZ : ZP g (fun v h' => v = some (.int (twF cs cs.length / 2)) ∧ HA cs h' ∧ FrS h h') = Z
  have z0 : Z.1 = 0 ∧ Z.2.1 = 0 := by rw [← hZ]; exact ⟨rfl, rfl⟩
  refine AC.of (cc := cX8_pairs) (maxL := 4) (ret := (some .int)) (by decide +kernel) rfl (Nat.le_of_ble_eq_true rfl) ?_
  show AW g mmX8_pairs _ 0 [(0, some (.ref 40)), (1, some (.int (nI e)))] [] _
  rw [hZ]
  refine am_aload_n (n := 1) (i := 0) dX8_pairs_0 rfl rfl rfl ?_
  refine am_iload_n (n := 2) (i := 1) dX8_pairs_1 rfl rfl rfl ?_
  refine caX8_pairs_147 (n := 5) dX8_pairs_2 (by first | exact ⟨rfl, rfl⟩ | assumption) hcall rfl rfl (Nat.le_of_ble_eq_true rfl) (by first | assumption | exact isC_of (by decide +kernel)) rfl ?_
  rintro v h1 ⟨rfl, H1, F1⟩
  have hz1 : h1.1 41 2 = nI cs.length := by rw [F1.2.1]; exact hr2
  refine am_iconst (n := 6) (v := 0) dX8_pairs_5 rfl rfl ?_
  refine am_istore_n (n := 7) (i := 2) dX8_pairs_6 rfl (Nat.le_of_ble_eq_true rfl) rfl rfl ?_
  refine am_iconst (n := 8) (v := 0) dX8_pairs_7 rfl rfl ?_
  refine am_istore_n (n := 9) (i := 3) dX8_pairs_8 rfl (Nat.le_of_ble_eq_true rfl) rfl rfl ?_
  refine am_loc [(0, some (.ref 40)), (2, some (.int (twF cs 0))), (3, some (.int (nI 0)))] rfl ?_
  refine loop_up (Wp := fun k => AW g mmX8_pairs Z 9 [(0, some (.ref 40)), (2, some (.int (twF cs k))), (3, some (.int (nI k)))] [] h1) cs.length ?_ ?_ 0 (Nat.zero_le _)
  · refine am_iload_n (n := 10) (i := 3) dX8_pairs_9 rfl rfl rfl ?_
    refine am_aload_n (n := 11) (i := 0) dX8_pairs_10 rfl rfl rfl ?_
    refine gfX8_pairs_7 (n := 14) dX8_pairs_11 (by first | assumption | exact isC_of (by decide +kernel)) rfl ?_
    refine am_iconst (n := 15) (v := 2) dX8_pairs_14 rfl rfl ?_
    refine am_iald (n := 16) dX8_pairs_15 (by first | assumption | exact isC_of (by decide +kernel)) (by first | assumption | exact vp_in_nI (by omega) (by omega) | exact vp_in_iff.mpr (by decide)) rfl ?_
    rw [show (2 : Int32).toNatClampNeg = 2 from rfl, hz1]
    refine am_icmp_ge (tgt := 38) (n := 19) dX8_pairs_16 (by decide) rfl (fun _ => ?_) (fun q_z => absurd (nI_le (Nat.le_refl _) (by omega)) q_z)
    rw [← hZ]
    generalize twF cs cs.length = y
    refine am_iload_n (n := 39) (i := 2) dX8_pairs_38 rfl rfl rfl ?_
    refine am_iconst (n := 40) (v := 2) dX8_pairs_39 rfl rfl ?_
    refine am_idiv (n := 41) dX8_pairs_40 (by decide) rfl ?_
    refine am_iret dX8_pairs_41 rfl rfl ?_
    exact ⟨rfl, H1, F1⟩
  · intro k hk K
    rw [show twF cs (k + 1) = twF cs k + (nI (pc (lkM cs k)) - 1) from rfl] at K
    have h26 := lkM_26 hn24 k
    generalize twF cs k = y at *
    refine am_iload_n (n := 10) (i := 3) dX8_pairs_9 rfl rfl rfl ?_
    refine am_aload_n (n := 11) (i := 0) dX8_pairs_10 rfl rfl rfl ?_
    refine gfX8_pairs_7 (n := 14) dX8_pairs_11 (by first | assumption | exact isC_of (by decide +kernel)) rfl ?_
    refine am_iconst (n := 15) (v := 2) dX8_pairs_14 rfl rfl ?_
    refine am_iald (n := 16) dX8_pairs_15 (by first | assumption | exact isC_of (by decide +kernel)) (by first | assumption | exact vp_in_nI (by omega) (by omega) | exact vp_in_iff.mpr (by decide)) rfl ?_
    rw [show (2 : Int32).toNatClampNeg = 2 from rfl, hz1]
    refine am_icmp_ge (tgt := 38) (n := 19) dX8_pairs_16 (by decide) rfl (fun q_z => absurd q_z (nI_ge hk (by omega))) (fun _ => ?_)
    refine am_iload_n (n := 20) (i := 2) dX8_pairs_19 rfl rfl rfl ?_
    refine am_aload_n (n := 21) (i := 0) dX8_pairs_20 rfl rfl rfl ?_
    refine am_iload_n (n := 22) (i := 3) dX8_pairs_21 rfl rfl rfl ?_
    refine cdX8_pairs_150 (n := 25) dX8_pairs_22 (by first | exact ⟨rfl, rfl⟩ | assumption) (m_likeOnes g k cs h1 H1 hVC hk hz1) rfl rfl (Nat.le_of_ble_eq_true rfl) (by first | assumption | exact isC_of (by decide +kernel)) rfl ?_
    generalize lkM cs k = x at *
    refine cdX8_pairs_153 (n := 28) dX8_pairs_25 (by first | exact ⟨rfl, rfl⟩ | assumption) (m_bits g x h1 h26) rfl rfl (Nat.le_of_ble_eq_true rfl) rfl ?_
    generalize nI (pc x) = x2 at *
    refine am_iconst (n := 29) (v := 1) dX8_pairs_28 rfl rfl ?_
    refine am_isub (n := 30) dX8_pairs_29 rfl ?_
    refine am_iadd (n := 31) dX8_pairs_30 rfl ?_
    refine am_istore_n (n := 32) (i := 2) dX8_pairs_31 rfl (Nat.le_of_ble_eq_true rfl) rfl rfl ?_
    first | refine am_iincN (n := 35) dX8_pairs_32 rfl rfl rfl ?_ | refine am_iinc1 (n := 35) dX8_pairs_32 rfl rfl rfl ?_
    refine am_goto (tgt := 9) dX8_pairs_35 (by decide) ?_
    exact am_loc _ rfl K
set_option maxRecDepth 100000 in
set_option maxHeartbeats 400000 in
theorem m_letterSet (g : Gx) (i : Nat) (S : SV) (h : Hp) (R : RZ 0 S (h.1 41)) (V : VS S) (hi : i < S.2.2.1.length) : AD g yX8_letterSet wsX8_letterSet rmX8_letterSet [.ref 40, .int (nI i)] h (some (.int (wset (S.2.2.1.getD i 0)))) h := by
  have c40 := isC_40
  obtain ⟨i24, w1, w2, vW⟩ := mW R V hi
  have hsz := wsz_le (S.2.2.1.getD i 0)
  generalize S.2.2.1.getD i 0 = m at *
  unfold wset
  generalize wsz m = s at *
  generalize hZ : ZP g (fun r h2 => r = some (.int (orF (fun p => sh1 (wl m p - 1)) s)) ∧ h2 = h) = Z
  have z0 : Z.1 = 0 ∧ Z.2.1 = 0 := by rw [← hZ]; exact ⟨rfl, rfl⟩
  refine AC.of (cc := cX8_letterSet) (maxL := 4) (ret := (some .int)) (by decide +kernel) rfl (Nat.le_of_ble_eq_true rfl) ?_
  show AW g mmX8_letterSet _ 0 [(0, some (.ref 40)), (1, some (.int (nI i)))] [] _
  rw [hZ]
  refine am_iconst (n := 1) (v := 0) dX8_letterSet_0 rfl rfl ?_
  refine am_istore_n (n := 2) (i := 2) dX8_letterSet_1 rfl (Nat.le_of_ble_eq_true rfl) rfl rfl ?_
  refine am_iconst (n := 3) (v := 0) dX8_letterSet_2 rfl rfl ?_
  refine am_istore_n (n := 4) (i := 3) dX8_letterSet_3 rfl (Nat.le_of_ble_eq_true rfl) rfl rfl ?_
  refine am_loc [(0, some (.ref 40)), (1, some (.int (nI i))), (2, some (.int (orF (fun p => sh1 (wl m p - 1)) 0))), (3, some (.int (nI 0)))] rfl ?_
  refine loop_up (Wp := fun k => AW g mmX8_letterSet Z 4 [(0, some (.ref 40)), (1, some (.int (nI i))), (2, some (.int (orF (fun p => sh1 (wl m p - 1)) k))), (3, some (.int (nI k)))] [] h) s ?_ ?_ 0 (Nat.zero_le _)
  · refine am_iload_n (n := 5) (i := 3) dX8_letterSet_4 rfl rfl rfl ?_
    refine am_aload_n (n := 6) (i := 0) dX8_letterSet_5 rfl rfl rfl ?_
    refine am_iload_n (n := 7) (i := 1) dX8_letterSet_6 rfl rfl rfl ?_
    refine cdX8_letterSet_78 (n := 10) dX8_letterSet_7 (by first | exact ⟨rfl, rfl⟩ | assumption) (m_lengthOf g i h i24) rfl rfl (Nat.le_of_ble_eq_true rfl) (by first | assumption | exact isC_of (by decide +kernel)) rfl ?_
    rw [w1]
    refine am_icmp_ge (tgt := 30) (n := 13) dX8_letterSet_10 (by decide) rfl (fun _ => ?_) (fun q_z => absurd (nI_le (Nat.le_refl _) (by omega)) q_z)
    rw [← hZ]
    generalize orF (fun p => sh1 (wl m p - 1)) s = y
    refine am_iload_n (n := 31) (i := 2) dX8_letterSet_30 rfl rfl rfl ?_
    refine am_iret dX8_letterSet_31 rfl rfl ?_
    exact ⟨rfl, rfl⟩
  · intro k hk K
    rw [show orF (fun p => sh1 (wl m p - 1)) (k + 1) = orF (fun p => sh1 (wl m p - 1)) k ||| sh1 (wl m k - 1) from rfl] at K
    generalize orF (fun p => sh1 (wl m p - 1)) k = y at *
    refine am_iload_n (n := 5) (i := 3) dX8_letterSet_4 rfl rfl rfl ?_
    refine am_aload_n (n := 6) (i := 0) dX8_letterSet_5 rfl rfl rfl ?_
    refine am_iload_n (n := 7) (i := 1) dX8_letterSet_6 rfl rfl rfl ?_
    refine cdX8_letterSet_78 (n := 10) dX8_letterSet_7 (by first | exact ⟨rfl, rfl⟩ | assumption) (m_lengthOf g i h i24) rfl rfl (Nat.le_of_ble_eq_true rfl) (by first | assumption | exact isC_of (by decide +kernel)) rfl ?_
    rw [w1]
    refine am_icmp_ge (tgt := 30) (n := 13) dX8_letterSet_10 (by decide) rfl (fun q_z => absurd q_z (nI_ge hk (by omega))) (fun _ => ?_)
    refine am_iload_n (n := 14) (i := 2) dX8_letterSet_13 rfl rfl rfl ?_
    refine am_iconst (n := 15) (v := 1) dX8_letterSet_14 rfl rfl ?_
    refine am_aload_n (n := 16) (i := 0) dX8_letterSet_15 rfl rfl rfl ?_
    refine am_iload_n (n := 17) (i := 1) dX8_letterSet_16 rfl rfl rfl ?_
    refine am_iload_n (n := 18) (i := 3) dX8_letterSet_17 rfl rfl rfl ?_
    refine cdX8_letterSet_82 (n := 21) dX8_letterSet_18 (by first | exact ⟨rfl, rfl⟩ | assumption) (m_letterOf g i k h i24 (by omega)) rfl rfl (Nat.le_of_ble_eq_true rfl) (by first | assumption | exact isC_of (by decide +kernel)) rfl ?_
    rw [w2 k (by omega)]
    refine am_ishl (n := 22) dX8_letterSet_21 rfl ?_
    refine am_ior (n := 23) dX8_letterSet_22 rfl ?_
    refine am_istore_n (n := 24) (i := 2) dX8_letterSet_23 rfl (Nat.le_of_ble_eq_true rfl) rfl rfl ?_
    first | refine am_iincN (n := 27) dX8_letterSet_24 rfl rfl rfl ?_ | refine am_iinc1 (n := 27) dX8_letterSet_24 rfl rfl rfl ?_
    refine am_goto (tgt := 4) dX8_letterSet_27 (by decide) ?_
    exact am_loc _ rfl K
