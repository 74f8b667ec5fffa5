/-! The reference: hearWord, drawerWith, hearAll -/
/-- the codes of the word that is looked at -/
def CDM (xs : List Nat) (h : Hp) : Prop := h.1 40 11 = nI xs.length ∧ ∀ (j c : Nat), xs[j]? = some c → h.2.1 48 j = lN (lc c)
def FH (h h' : Hp) : Prop := (∀ c, c ≠ 40 → h'.1 c = h.1 c) ∧ (∀ j, j ≠ 11 → h'.1 40 j = h.1 40 j) ∧ (∀ c, c ≠ 48 → h'.2.1 c = h.2.1 c) ∧ h'.2.2 = h.2.2
theorem FH.rf {h : Hp} : FH h h := ⟨fun _ _ => rfl, fun _ _ => rfl, fun _ _ => rfl, rfl⟩
theorem FH.w48 {h h1 : Hp} (F : FH h h1) (r : Nat → Int64) : FH h (setJ h1 48 r) := ⟨F.1, F.2.1, fun c hc => (setJ_n _ _ hc).trans (F.2.2.1 c hc), F.2.2.2⟩
theorem FH.f11 {h h1 : Hp} (F : FH h h1) (v : Int32) : FH h (setI h1 40 (upd (h1.1 40) 11 v)) := ⟨fun c hc => (setI_n _ _ hc).trans (F.1 c hc), fun j hj => by rw [setI_s, pk_un hj]; exact F.2.1 j hj, F.2.2.1, F.2.2.2⟩
theorem FH.s {h h' : Hp} (F : FH h h') : FrS h h' := ⟨⟨fun c hc => ⟨F.1 c (by omega), F.2.2.1 c (by omega)⟩, F.2.2.2⟩, F.1 41 (by omega), F.2.1 3 (by omega), F.2.1 7 (by omega), fun c c1 c2 => F.1 c (by omega)⟩
theorem cw_30 {E : EV} {L n v : Nat} (hV : VE E) (hn : VW n) (hL : L ≤ 5) : cw E L n v < 2 ^ 30 := by
  obtain ⟨i1, i2, -⟩ := hs_inv (L := L) (v := v) hV hn (wsz n) (Nat.le_refl _)
  have := Nat.pow_le_pow_right (n := 64) (by decide) (show (hs E L n v (wsz n)).2.1 ≤ 5 by omega)
  unfold cw
  generalize hs E L n v (wsz n) = t at *
  have h5 : (64 : Nat) ^ 5 = 2 ^ 30 := by decide
  omega
theorem cmp_lc {a b : Nat} (ha : a < 2 ^ 30) (hb : b < 2 ^ 30) : lg_cmp (lN (lc a)) (lN (lc b)) = 0 ↔ a = b := by
  rw [lg_cmp_eq, lcN_inj ha hb]
theorem mem_take_s {xs : List Nat} {c x k : Nat} (hk : xs[k]? = some x) : c ∈ xs.take (k + 1) ↔ c ∈ xs.take k ∨ c = x := by
  rw [List.take_succ, hk, List.mem_append]
  simp
set_option maxRecDepth 100000 in
set_option maxHeartbeats 400000 in
theorem m_hearWord (g : Gx) (e n L : Nat) (E : EV) (h : Hp) (he : e < 4) (R : REZ (268 + 78 * e) E (h.1 41)) (hV : VE E) (hW : MWd n h) (hn : VW n) (hL : L ≤ 5) (hz : h.1 41 0 = nI L) : AC g yX8_hearWord wsX8_hearWord rmX8_hearWord [.ref 40, .int (nI e)] h (fun v h' => v = none ∧ CDM (codes E L n) h' ∧ FH h h') := by
  have c40 := isC_40
  have c48 := isC_48
  have hcb := fun (v : Nat) (h1 : Hp) (F : FH h h1) (hv : v < 4) => m_codeBy g e n v L E h1 he (by rw [F.1 41 (by omega)]; exact R) hV ⟨(F.2.1 9 (by omega)).trans hW.1, fun p hp => by rw [F.1 47 (by omega)]; exact hW.2 p hp⟩ hn hv hL (by rw [F.1 41 (by omega)]; exact hz)
  have h30 := fun v => cw_30 (v := v) hV hn hL
  have hcod : codes E L n = dd (cw E L n) 4 := rfl
  generalize codes E L n = cds at *
  generalize cw E L n = f at *
  generalize hZ : ZP g (fun v h' => v = none ∧ CDM cds h' ∧ FH h h') = Z
  have z0 : Z.1 = 0 ∧ Z.2.1 = 0 := by rw [← hZ]; exact ⟨rfl, rfl⟩
  refine AC.of (cc := cX8_hearWord) (maxL := 7) (ret := none) (by decide +kernel) rfl (Nat.le_of_ble_eq_true rfl) ?_
  show AW g mmX8_hearWord _ 0 [(0, some (.ref 40)), (1, some (.int (nI e)))] [] _
  rw [hZ]
  refine am_aload_n (n := 1) (i := 0) dX8_hearWord_0 rfl rfl rfl ?_
  refine am_iconst (n := 2) (v := 0) dX8_hearWord_1 rfl rfl ?_
  refine pfX8_hearWord_123 (n := 5) dX8_hearWord_2 (by first | assumption | exact isC_of (by decide +kernel)) rfl ?_
  refine am_iconst (n := 6) (v := 0) dX8_hearWord_5 rfl rfl ?_
  refine am_istore_n (n := 7) (i := 2) dX8_hearWord_6 rfl (Nat.le_of_ble_eq_true rfl) rfl rfl ?_
  refine am_loc [(0, some (.ref 40)), (1, some (.int (nI e))), (2, some (.int (nI 0)))] rfl ?_
  refine loop_up (Wp := fun w => ∀ h1 : Hp, FH h h1 → CDM (dd f w) h1 → AW g mmX8_hearWord Z 7 [(0, some (.ref 40)), (1, some (.int (nI e))), (2, some (.int (nI w)))] [] h1) 4 ?_ ?_ 0 (by omega) _ (FH.rf.f11 _) ⟨by rw [setI_s, pk_us]; rfl, fun j c hj => by cases hj⟩
  · intro h1 F C
    refine am_iload_n (n := 8) (i := 2) dX8_hearWord_7 rfl rfl rfl ?_
    refine am_iconst (n := 9) (v := 4) dX8_hearWord_8 rfl rfl ?_
    refine am_icmp_ge (tgt := 95) (n := 12) dX8_hearWord_9 (by decide) rfl (fun _ => ?_) (fun q_z => absurd (by decide) q_z)
    rw [← hZ]
    refine am_vret dX8_hearWord_95 rfl ?_
    rw [hcod]
    exact ⟨rfl, C, F⟩
  · intro w hw K h1 F C
    rw [show dd f (w + 1) = if f w ∈ dd f w then dd f w else dd f w ++ [f w] from rfl] at K
    have hlen := dd_le f w
    have hx30 : ∀ x ∈ dd f w, x < 2 ^ 30 := fun x hx => by
      obtain ⟨i, -, q⟩ := dd_mem.mp hx
      rw [← q]
      exact h30 i
    have hcall := hcb w h1 F hw
    have hc30 := h30 w
    generalize dd f w = xs at *
    generalize f w = c at *
    obtain ⟨C1, C2⟩ := C
    refine am_iload_n (n := 8) (i := 2) dX8_hearWord_7 rfl rfl rfl ?_
    refine am_iconst (n := 9) (v := 4) dX8_hearWord_8 rfl rfl ?_
    refine am_icmp_ge (tgt := 95) (n := 12) dX8_hearWord_9 (by decide) rfl (fun q_z => absurd q_z (nI_ge hw (by decide))) (fun _ => ?_)
    refine am_aload_n (n := 13) (i := 0) dX8_hearWord_12 rfl rfl rfl ?_
    refine am_iload_n (n := 14) (i := 1) dX8_hearWord_13 rfl rfl rfl ?_
    refine am_iload_n (n := 15) (i := 2) dX8_hearWord_14 rfl rfl rfl ?_
    refine cdX8_hearWord_126 (n := 18) dX8_hearWord_15 (by first | exact ⟨rfl, rfl⟩ | assumption) hcall rfl rfl (Nat.le_of_ble_eq_true rfl) (by first | assumption | exact isC_of (by decide +kernel)) rfl ?_
    refine am_lstore_n (n := 19) (i := 3) dX8_hearWord_18 rfl (Nat.le_of_ble_eq_true rfl) rfl rfl ?_
    refine am_iconst (n := 20) (v := 1) dX8_hearWord_19 rfl rfl ?_
    refine am_istore (n := 22) dX8_hearWord_20 (Nat.le_of_ble_eq_true rfl) rfl rfl ?_
    refine am_iconst (n := 23) (v := 0) dX8_hearWord_22 rfl rfl ?_
    refine am_istore (n := 25) dX8_hearWord_23 (Nat.le_of_ble_eq_true rfl) rfl rfl ?_
    refine am_loc [(0, some (.ref 40)), (1, some (.int (nI e))), (2, some (.int (nI w))), (3, some (.long (lN (lc c)))), (5, some (.int (bI (decide (c ∉ xs.take 0))))), (6, some (.int (nI 0)))] (by rw [List.take_zero, decide_eq_true (List.not_mem_nil)]; rfl) ?_
    refine loop_up (Wp := fun k => AW g mmX8_hearWord Z 25 [(0, some (.ref 40)), (1, some (.int (nI e))), (2, some (.int (nI w))), (3, some (.long (lN (lc c)))), (5, some (.int (bI (decide (c ∉ xs.take k))))), (6, some (.int (nI k)))] [] h1) xs.length ?_ ?_ 0 (Nat.zero_le _)
    · rw [List.take_length]
      refine am_iload (n := 27) dX8_hearWord_25 rfl rfl ?_
      refine am_aload_n (n := 28) (i := 0) dX8_hearWord_27 rfl rfl rfl ?_
      refine gfX8_hearWord_123 (n := 31) dX8_hearWord_28 (by first | assumption | exact isC_of (by decide +kernel)) rfl ?_
      rw [C1]
      refine am_icmp_ge (tgt := 64) (n := 34) dX8_hearWord_31 (by decide) rfl (fun _ => ?_) (fun q_z => absurd (nI_le (Nat.le_refl _) (by omega)) q_z)
      refine am_iload (n := 66) dX8_hearWord_64 rfl rfl ?_
      by_cases hm : c ∈ xs
      · rw [if_pos hm] at K
        rw [decide_eq_false (fun q => q hm)]
        refine am_if_eq (tgt := 89) (n := 69) dX8_hearWord_66 (by decide) rfl (fun _ => ?_) (fun q_z => absurd rfl q_z)
        first | refine am_iincN (n := 92) dX8_hearWord_89 rfl rfl rfl ?_ | refine am_iinc1 (n := 92) dX8_hearWord_89 rfl rfl rfl ?_
        refine am_goto (tgt := 7) dX8_hearWord_92 (by decide) ?_
        exact am_loc _ rfl (K h1 F ⟨C1, C2⟩)
      · rw [if_neg hm] at K
        rw [decide_eq_true hm]
        refine am_if_eq (tgt := 89) (n := 69) dX8_hearWord_66 (by decide) rfl (fun q_z => absurd q_z (show ¬ (1 : Int32) = 0 by decide)) (fun _ => ?_)
        refine am_aload_n (n := 70) (i := 0) dX8_hearWord_69 rfl rfl rfl ?_
        refine gfX8_hearWord_32 (n := 73) dX8_hearWord_70 (by first | assumption | exact isC_of (by decide +kernel)) rfl ?_
        refine am_aload_n (n := 74) (i := 0) dX8_hearWord_73 rfl rfl rfl ?_
        refine gfX8_hearWord_123 (n := 77) dX8_hearWord_74 (by first | assumption | exact isC_of (by decide +kernel)) rfl ?_
        rw [C1]
        have hin : vp_in (nI xs.length) 4 := vp_in_nI (by omega) (by decide)
        refine am_lload_n (n := 78) (i := 3) dX8_hearWord_77 rfl rfl rfl ?_
        refine am_last (n := 79) dX8_hearWord_78 (by first | assumption | exact isC_of (by decide +kernel)) (by first | assumption | exact vp_in_nI (by omega) (by omega) | exact vp_in_iff.mpr (by decide)) rfl ?_
        rw [nI_clamp (by omega)]
        refine am_aload_n (n := 80) (i := 0) dX8_hearWord_79 rfl rfl rfl ?_
        refine am_dup (n := 81) dX8_hearWord_80 rfl rfl ?_
        refine gfX8_hearWord_123 (n := 84) dX8_hearWord_81 (by first | assumption | exact isC_of (by decide +kernel)) rfl ?_
        rw [setJ_1, C1]
        refine am_iconst (n := 85) (v := 1) dX8_hearWord_84 rfl rfl ?_
        refine am_iadd (n := 86) dX8_hearWord_85 rfl ?_
        rw [nI_1]
        refine pfX8_hearWord_123 (n := 89) dX8_hearWord_86 (by first | assumption | exact isC_of (by decide +kernel)) rfl ?_
        first | refine am_iincN (n := 92) dX8_hearWord_89 rfl rfl rfl ?_ | refine am_iinc1 (n := 92) dX8_hearWord_89 rfl rfl rfl ?_
        refine am_goto (tgt := 7) dX8_hearWord_92 (by decide) ?_
        refine am_loc _ rfl (K _ ((F.w48 _).f11 _) ⟨by rw [setI_s, pk_us, List.length_append]; rfl, fun j x hj => ?_⟩)
        rw [setI_J, setJ_s]
        by_cases z : j = xs.length
        · subst z
          rw [List.getElem?_append_right (Nat.le_refl _), Nat.sub_self, List.getElem?_cons_zero] at hj
          rw [← Option.some.inj hj, pk_uLs]
        · have hil := (List.getElem?_eq_some_iff.mp hj).1
          rw [List.length_append] at hil
          simp at hil
          rw [List.getElem?_append_left (by omega)] at hj
          rw [pk_uLn z]
          exact C2 j x hj
    · intro k hk K2
      have hx := gD_at hk
      have hC := C2 k _ hx
      have hxx := hx30 _ (List.mem_of_getElem? hx)
      have hmt : c ∈ xs.take (k + 1) ↔ c ∈ xs.take k ∨ c = xs.getD k 0 := mem_take_s hx
      have hin : vp_in (nI k) 4 := vp_in_nI (by omega) (by decide)
      refine am_iload (n := 27) dX8_hearWord_25 rfl rfl ?_
      refine am_aload_n (n := 28) (i := 0) dX8_hearWord_27 rfl rfl rfl ?_
      refine gfX8_hearWord_123 (n := 31) dX8_hearWord_28 (by first | assumption | exact isC_of (by decide +kernel)) rfl ?_
      rw [C1]
      refine am_icmp_ge (tgt := 64) (n := 34) dX8_hearWord_31 (by decide) rfl (fun q_z => absurd q_z (nI_ge hk (by omega))) (fun _ => ?_)
      refine am_iload (n := 36) dX8_hearWord_34 rfl rfl ?_
      by_cases hm : c ∈ xs.take k
      · rw [decide_eq_false (fun q => q (hmt.mpr (Or.inl hm)))] at K2
        rw [decide_eq_false (fun q => q hm)]
        refine am_if_eq (tgt := 55) (n := 39) dX8_hearWord_36 (by decide) rfl (fun _ => ?_) (fun q_z => absurd rfl q_z)
        refine am_iconst (n := 56) (v := 0) dX8_hearWord_55 rfl rfl ?_
        refine am_istore (n := 58) dX8_hearWord_56 (Nat.le_of_ble_eq_true rfl) rfl rfl ?_
        first | refine am_iincN (n := 61) dX8_hearWord_58 rfl rfl rfl ?_ | refine am_iinc1 (n := 61) dX8_hearWord_58 rfl rfl rfl ?_
        refine am_goto (tgt := 25) dX8_hearWord_61 (by decide) ?_
        exact am_loc _ rfl K2
      · rw [decide_eq_true hm]
        refine am_if_eq (tgt := 55) (n := 39) dX8_hearWord_36 (by decide) rfl (fun q_z => absurd q_z (show ¬ (1 : Int32) = 0 by decide)) (fun _ => ?_)
        refine am_aload_n (n := 40) (i := 0) dX8_hearWord_39 rfl rfl rfl ?_
        refine gfX8_hearWord_32 (n := 43) dX8_hearWord_40 (by first | assumption | exact isC_of (by decide +kernel)) rfl ?_
        refine am_iload (n := 45) dX8_hearWord_43 rfl rfl ?_
        refine am_lald (n := 46) dX8_hearWord_45 (by first | assumption | exact isC_of (by decide +kernel)) (by first | assumption | exact vp_in_nI (by omega) (by omega) | exact vp_in_iff.mpr (by decide)) rfl ?_
        rw [nI_clamp (by omega), hC]
        refine am_lload_n (n := 47) (i := 3) dX8_hearWord_46 rfl rfl rfl ?_
        refine am_lcmp (n := 48) dX8_hearWord_47 rfl ?_
        by_cases q : c = xs.getD k 0
        · rw [decide_eq_false (fun z => z (hmt.mpr (Or.inr q)))] at K2
          refine am_if_eq (tgt := 55) (n := 51) dX8_hearWord_48 (by decide) rfl (fun _ => ?_) (fun q_z => absurd ((cmp_lc hxx hc30).mpr q.symm) q_z)
          refine am_iconst (n := 56) (v := 0) dX8_hearWord_55 rfl rfl ?_
          refine am_istore (n := 58) dX8_hearWord_56 (Nat.le_of_ble_eq_true rfl) rfl rfl ?_
          first | refine am_iincN (n := 61) dX8_hearWord_58 rfl rfl rfl ?_ | refine am_iinc1 (n := 61) dX8_hearWord_58 rfl rfl rfl ?_
          refine am_goto (tgt := 25) dX8_hearWord_61 (by decide) ?_
          exact am_loc _ rfl K2
        · rw [decide_eq_true (show ¬ c ∈ xs.take (k + 1) from fun z => (hmt.mp z).elim hm q)] at K2
          refine am_if_eq (tgt := 55) (n := 51) dX8_hearWord_48 (by decide) rfl (fun q_z => absurd q_z (fun z => q ((cmp_lc hxx hc30).mp z).symm)) (fun _ => ?_)
          refine am_iconst (n := 52) (v := 1) dX8_hearWord_51 rfl rfl ?_
          refine am_goto (tgt := 56) dX8_hearWord_52 (by decide) ?_
          refine am_istore (n := 58) dX8_hearWord_56 (Nat.le_of_ble_eq_true rfl) rfl rfl ?_
          first | refine am_iincN (n := 61) dX8_hearWord_58 rfl rfl rfl ?_ | refine am_iinc1 (n := 61) dX8_hearWord_58 rfl rfl rfl ?_
          refine am_goto (tgt := 25) dX8_hearWord_61 (by decide) ?_
          exact am_loc _ rfl K2
/-- the drawers -/
def DRZ (ds : List Nat) (h : Hp) : Prop := h.1 40 15 = nI ds.length ∧ ∀ (d c : Nat), ds[d]? = some c → h.2.1 51 d = lN (lc c)
set_option maxRecDepth 100000 in
set_option maxHeartbeats 400000 in
theorem m_drawerWith (g : Gx) (c : Nat) (ds : List Nat) (h : Hp) (hD : DRZ ds h) (hc : c < 2 ^ 30) (hd : ∀ x ∈ ds, x < 2 ^ 30) (hl : ds.length ≤ 96) : AD g yX8_drawerWith wsX8_drawerWith rmX8_drawerWith [.ref 40, .long (lN (lc c))] h (some (.int (if c ∈ ds then nI (ix c ds) else -6))) h := by
  have c40 := isC_40
  have c51 := isC_51
  obtain ⟨D1, D2⟩ := hD
  generalize hZ : ZP g (fun r h2 => r = some (.int (if c ∈ ds then nI (ix c ds) else -6)) ∧ h2 = h) = Z
  have z0 : Z.1 = 0 ∧ Z.2.1 = 0 := by rw [← hZ]; exact ⟨rfl, rfl⟩
  refine AC.of (cc := cX8_drawerWith) (maxL := 5) (ret := (some .int)) (by decide +kernel) rfl (Nat.le_of_ble_eq_true rfl) ?_
  show AW g mmX8_drawerWith _ 0 [(0, some (.ref 40)), (1, some (.long (lN (lc c))))] [] _
  rw [hZ]
  refine am_bipush (n := 2) (v := (-6)) dX8_drawerWith_0 rfl rfl ?_
  refine am_istore_n (n := 3) (i := 3) dX8_drawerWith_2 rfl (Nat.le_of_ble_eq_true rfl) rfl rfl ?_
  refine am_aload_n (n := 4) (i := 0) dX8_drawerWith_3 rfl rfl rfl ?_
  refine gfX8_drawerWith_130 (n := 7) dX8_drawerWith_4 (by first | assumption | exact isC_of (by decide +kernel)) rfl ?_
  rw [D1]
  refine am_iconst (n := 8) (v := 1) dX8_drawerWith_7 rfl rfl ?_
  refine am_isub (n := 9) dX8_drawerWith_8 rfl ?_
  refine am_istore (n := 11) dX8_drawerWith_9 (Nat.le_of_ble_eq_true rfl) rfl rfl ?_
  have loop : ∀ t, t ≤ ds.length → AW g mmX8_drawerWith Z 11 [(0, some (.ref 40)), (1, some (.long (lN (lc c)))), (3, some (.int (if c ∈ ds.drop t then nI (t + ix c (ds.drop t)) else -6))), (4, some (.int (nI t - 1)))] [] h := by
    intro t
    induction t with
    | zero =>
      intro _
      rw [List.drop_zero, Nat.zero_add]
      refine am_iload (n := 13) dX8_drawerWith_11 rfl rfl ?_
      refine am_if_lt (tgt := 41) (n := 16) dX8_drawerWith_13 (by decide) rfl (fun _ => ?_) (fun q_z => absurd (by decide) q_z)
      rw [← hZ]
      refine am_iload_n (n := 42) (i := 3) dX8_drawerWith_41 rfl rfl rfl ?_
      refine am_iret dX8_drawerWith_42 rfl rfl ?_
      exact ⟨rfl, rfl⟩
    | succ t ih =>
      intro ht
      have K := ih (by omega)
      have hx := gD_at (show t < ds.length by omega)
      have hdr : ds.drop t = ds.getD t 0 :: ds.drop (t + 1) := by
        rw [← List.getElem_cons_drop (show t < ds.length by omega)]
        congr 1
        have := hx
        rw [List.getElem?_eq_getElem (by omega)] at this
        exact Option.some.inj this
      rw [hdr] at K
      have hC := D2 t _ hx
      have hxx := hd _ (List.mem_of_getElem? hx)
      generalize ds.getD t 0 = x at *
      have hin : vp_in (nI t) 96 := vp_in_nI (by omega) (by decide)
      rw [nI_pred]
      refine am_iload (n := 13) dX8_drawerWith_11 rfl rfl ?_
      refine am_if_lt (tgt := 41) (n := 16) dX8_drawerWith_13 (by decide) rfl (fun q_z => absurd q_z (nI_pos (by omega))) (fun _ => ?_)
      refine am_aload_n (n := 17) (i := 0) dX8_drawerWith_16 rfl rfl rfl ?_
      refine gfX8_drawerWith_42 (n := 20) dX8_drawerWith_17 (by first | assumption | exact isC_of (by decide +kernel)) rfl ?_
      refine am_iload (n := 22) dX8_drawerWith_20 rfl rfl ?_
      refine am_lald (n := 23) dX8_drawerWith_22 (by first | assumption | exact isC_of (by decide +kernel)) (by first | assumption | exact vp_in_nI (by omega) (by omega) | exact vp_in_iff.mpr (by decide)) rfl ?_
      rw [nI_clamp (by omega), hC]
      refine am_lload_n (n := 24) (i := 1) dX8_drawerWith_23 rfl rfl rfl ?_
      refine am_lcmp (n := 25) dX8_drawerWith_24 rfl ?_
      by_cases q : x = c
      · rw [if_pos (by rw [q]; exact List.mem_cons_self), show ix c (x :: ds.drop (t + 1)) = 0 by unfold ix; rw [if_pos q], Nat.add_zero] at K
        refine am_if_ne (tgt := 33) (n := 28) dX8_drawerWith_25 (by decide) rfl (fun q_z => absurd ((cmp_lc hxx hc).mpr q) q_z) (fun _ => ?_)
        refine am_iload (n := 30) dX8_drawerWith_28 rfl rfl ?_
        refine am_goto (tgt := 34) dX8_drawerWith_30 (by decide) ?_
        refine am_istore_n (n := 35) (i := 3) dX8_drawerWith_34 rfl (Nat.le_of_ble_eq_true rfl) rfl rfl ?_
        refine am_iinc (n := 38) (v := _ + (-1)) dX8_drawerWith_35 rfl rfl rfl rfl ?_
        rw [show nI t + -1 = nI t - 1 from (Int32.sub_eq_add_neg _ _).symm]
        refine am_goto (tgt := 11) dX8_drawerWith_38 (by decide) ?_
        exact am_loc _ rfl K
      · have e1 : (c ∈ x :: ds.drop (t + 1)) ↔ c ∈ ds.drop (t + 1) := by
          rw [List.mem_cons]
          exact ⟨fun z => z.elim (fun w => absurd w.symm q) id, Or.inr⟩
        have e2 : (if c ∈ x :: ds.drop (t + 1) then nI (t + ix c (x :: ds.drop (t + 1))) else -6) = (if c ∈ ds.drop (t + 1) then nI (t + 1 + ix c (ds.drop (t + 1))) else -6) := by
          by_cases z : c ∈ ds.drop (t + 1)
          · rw [if_pos z, if_pos (e1.mpr z), show ix c (x :: ds.drop (t + 1)) = ix c (ds.drop (t + 1)) + 1 by rw [ix, if_neg q], show t + (ix c (ds.drop (t + 1)) + 1) = t + 1 + ix c (ds.drop (t + 1)) by omega]
          · rw [if_neg z, if_neg (fun w => z (e1.mp w))]
        rw [e2] at K
        generalize (if c ∈ ds.drop (t + 1) then nI (t + 1 + ix c (ds.drop (t + 1))) else -6) = y at *
        refine am_if_ne (tgt := 33) (n := 28) dX8_drawerWith_25 (by decide) rfl (fun _ => ?_) (fun q_z => absurd q_z (fun z => q ((cmp_lc hxx hc).mp z)))
        refine am_iload_n (n := 34) (i := 3) dX8_drawerWith_33 rfl rfl rfl ?_
        refine am_istore_n (n := 35) (i := 3) dX8_drawerWith_34 rfl (Nat.le_of_ble_eq_true rfl) rfl rfl ?_
        refine am_iinc (n := 38) (v := _ + (-1)) dX8_drawerWith_35 rfl rfl rfl rfl ?_
        rw [show nI t + -1 = nI t - 1 from (Int32.sub_eq_add_neg _ _).symm]
        refine am_goto (tgt := 11) dX8_drawerWith_38 (by decide) ?_
        exact am_loc _ rfl K
  have := loop ds.length (Nat.le_refl _)
  rw [List.drop_length, if_neg (List.not_mem_nil)] at this
  exact am_loc _ rfl this
