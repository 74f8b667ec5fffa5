/-! State -/
theorem Fr.sI {lo hi k : Nat} {h h1 : Hp} (a : Fr lo hi h h1) (r : Nat → Int32) (h1k : lo ≤ k) (h2k : k ≤ hi) : Fr lo hi h (setI h1 k r) := ⟨fun c hc => ⟨(setI_n _ _ (show c ≠ k by omega)).trans (a.1 c hc).1, (a.1 c hc).2⟩, a.2⟩
theorem setJ_1 (h : Hp) (k : Nat) (r : Nat → Int64) : (setJ h k r).1 = h.1 := rfl
theorem setJ_s (h : Hp) (k : Nat) (r : Nat → Int64) : (setJ h k r).2.1 k = r := va_up_self _ _ _
theorem setJ_n (h : Hp) {k c : Nat} (r : Nat → Int64) (hc : c ≠ k) : (setJ h k r).2.1 c = h.2.1 c := va_up_ne _ _ hc
theorem setI_J (h : Hp) (k : Nat) (r : Nat → Int32) : (setI h k r).2.1 = h.2.1 := rfl
theorem Fr.sJ {lo hi k : Nat} {h h1 : Hp} (a : Fr lo hi h h1) (r : Nat → Int64) (h1k : lo ≤ k) (h2k : k ≤ hi) : Fr lo hi h (setJ h1 k r) := ⟨fun c hc => ⟨(a.1 c hc).1, (setJ_n _ _ (show c ≠ k by omega)).trans (a.1 c hc).2⟩, a.2⟩
def inN (x : Int32) (n : Nat) : Bool := decide (0 ≤ x) && decide (x < nI n)
theorem inN_t {x : Int32} {n : Nat} (hn : n < 2 ^ 31) (h : inN x n = true) : ∃ i, i < n ∧ x = nI i := by
  unfold inN at h
  rw [Bool.and_eq_true] at h
  have h0 := of_decide_eq_true h.1
  have h1 := of_decide_eq_true h.2
  obtain ⟨j, hj, rfl⟩ := nI_of (Int32.not_lt.mpr h0)
  exact ⟨j, (nI_ltI hj hn).mp h1, rfl⟩
theorem inN_i {i n : Nat} (hi : i < n) (hn : n < 2 ^ 31) : inN (nI i) n = true := by
  unfold inN
  rw [decide_eq_true (nI_pos' (by omega)), decide_eq_true (nI_lt hi hn)]
  rfl
theorem inN_f {x : Int32} {n : Nat} (h : inN x n = false) : x < 0 ∨ nI n ≤ x := by
  unfold inN at h
  rcases Bool.and_eq_false_iff.mp h with q | q
  · exact Or.inl (Int32.not_le.mp (of_decide_eq_false q))
  · exact Or.inr (Int32.not_lt.mp (of_decide_eq_false q))
set_option maxRecDepth 100000 in
set_option maxHeartbeats 400000 in
theorem ac_X5_hasName (g : Gx) (b : Nat) (x : Int32) (S : SV) (h : Hp) (hb : isSt b) (hS : RS b S h) (hV : VS S) : AD g yX5_hasName wsX5_hasName rmX5_hasName [.ref b, .int x] h (some (.int (bI (inN x S.2.2.1.length)))) h := by
  obtain ⟨b0, b1, b2, -⟩ := hb
  have hn := hV.2.2.1
  have h3 := hS.2.2.1
  generalize S.2.2.1.length = n at *
  refine AC.of (cc := cX5_hasName) (maxL := 2) (ret := (some .boolean)) (by decide +kernel) rfl (Nat.le_of_ble_eq_true rfl) ?_
  show AW g mmX5_hasName _ 0 [(0, some (.ref b)), (1, some (.int x))] [] _
  refine am_iload_n (n := 1) (i := 1) dX5_hasName_0 rfl rfl rfl ?_
  cases hx : inN x n with
  | true =>
    obtain ⟨i, hi, rfl⟩ := inN_t (by omega) hx
    refine am_if_lt (tgt := 22) (n := 4) dX5_hasName_1 (by decide) rfl (fun q_z => absurd q_z (nI_pos (by omega))) (fun _ => ?_)
    refine am_iload_n (n := 5) (i := 1) dX5_hasName_4 rfl rfl rfl ?_
    refine am_aload_n (n := 6) (i := 0) dX5_hasName_5 rfl rfl rfl ?_
    refine gfX5_hasName_18 (n := 9) dX5_hasName_6 (by first | assumption | exact isC_of (by decide +kernel)) rfl ?_
    rw [h3]
    refine am_icmp_ge (tgt := 22) (n := 12) dX5_hasName_9 (by decide) rfl (fun q_z => absurd q_z (nI_ge hi (by omega))) (fun _ => ?_)
    refine am_iload_n (n := 13) (i := 1) dX5_hasName_12 rfl rfl rfl ?_
    refine am_bipush (n := 15) (v := 24) dX5_hasName_13 rfl rfl ?_
    refine am_icmp_ge (tgt := 22) (n := 18) dX5_hasName_15 (by decide) rfl (fun q_z => absurd q_z (nI_ge (show i < 24 by omega) (by decide))) (fun _ => ?_)
    refine am_iconst (n := 19) (v := 1) dX5_hasName_18 rfl rfl ?_
    refine am_goto (tgt := 23) dX5_hasName_19 (by decide) ?_
    refine am_iret dX5_hasName_23 rfl rfl ?_
    exact ⟨rfl, rfl⟩
  | false =>
    rcases inN_f hx with q | q
    · refine am_if_lt (tgt := 22) (n := 4) dX5_hasName_1 (by decide) rfl (fun _ => ?_) (fun q_z => absurd q q_z)
      refine am_iconst (n := 23) (v := 0) dX5_hasName_22 rfl rfl ?_
      refine am_iret dX5_hasName_23 rfl rfl ?_
      exact ⟨rfl, rfl⟩
    · refine am_if_lt (tgt := 22) (n := 4) dX5_hasName_1 (by decide) rfl (fun q_z => absurd q_z (fun z => absurd (Int32.le_trans (nI_pos' (show n < 2 ^ 31 by omega)) q) (Int32.not_le.mpr z))) (fun _ => ?_)
      refine am_iload_n (n := 5) (i := 1) dX5_hasName_4 rfl rfl rfl ?_
      refine am_aload_n (n := 6) (i := 0) dX5_hasName_5 rfl rfl rfl ?_
      refine gfX5_hasName_18 (n := 9) dX5_hasName_6 (by first | assumption | exact isC_of (by decide +kernel)) rfl ?_
      rw [h3]
      refine am_icmp_ge (tgt := 22) (n := 12) dX5_hasName_9 (by decide) rfl (fun _ => ?_) (fun q_z => absurd q q_z)
      refine am_iconst (n := 23) (v := 0) dX5_hasName_22 rfl rfl ?_
      refine am_iret dX5_hasName_23 rfl rfl ?_
      exact ⟨rfl, rfl⟩
set_option maxRecDepth 100000 in
set_option maxHeartbeats 400000 in
theorem ac_X5_earAt (g : Gx) (b : Nat) (x : Int32) (S : SV) (h : Hp) (hb : isSt b) (hS : RS b S h) (hV : VS S) : AC g yX5_earAt wsX5_earAt rmX5_earAt [.ref b, .int x] h (fun v h' => h' = h ∧ ((∃ e, e < S.2.2.2.length ∧ x = nI e ∧ v = some (.ref (b + 10 * (e + 1)))) ∨ (inN x S.2.2.2.length = false ∧ v = some .null))) := by
  obtain ⟨b0, b1, b2, -⟩ := hb
  have hn := hV.2.2.2.2.1
  have h3 := hS.2.2.2.1
  generalize S.2.2.2.length = n at *
  refine AC.of (cc := cX5_earAt) (maxL := 2) (ret := (some (.object "ConsonantIndex$Ear"))) (by decide +kernel) rfl (Nat.le_of_ble_eq_true rfl) ?_
  show AW g mmX5_earAt _ 0 [(0, some (.ref b)), (1, some (.int x))] [] _
  refine am_iload_n (n := 1) (i := 1) dX5_earAt_0 rfl rfl rfl ?_
  cases hx : inN x n with
  | true =>
    obtain ⟨i, hi, rfl⟩ := inN_t (by omega) hx
    refine am_if_lt (tgt := 21) (n := 4) dX5_earAt_1 (by decide) rfl (fun q_z => absurd q_z (nI_pos (by omega))) (fun _ => ?_)
    refine am_iload_n (n := 5) (i := 1) dX5_earAt_4 rfl rfl rfl ?_
    refine am_aload_n (n := 6) (i := 0) dX5_earAt_5 rfl rfl rfl ?_
    refine gfX5_earAt_25 (n := 9) dX5_earAt_6 (by first | assumption | exact isC_of (by decide +kernel)) rfl ?_
    rw [h3]
    refine am_icmp_ge (tgt := 21) (n := 12) dX5_earAt_9 (by decide) rfl (fun q_z => absurd q_z (nI_ge hi (by omega))) (fun _ => ?_)
    refine am_iload_n (n := 13) (i := 1) dX5_earAt_12 rfl rfl rfl ?_
    refine am_aload_n (n := 14) (i := 0) dX5_earAt_13 rfl rfl rfl ?_
    refine gfX5_earAt_30 (n := 17) dX5_earAt_14 (by first | assumption | exact isC_of (by decide +kernel)) rfl ?_
    refine am_alen (n := 18) dX5_earAt_17 (by first | assumption | exact isC_of (by decide +kernel)) (by decide) rfl rfl ?_
    refine am_icmp_lt (tgt := 23) (n := 21) dX5_earAt_18 (by decide) rfl (fun _ => ?_) (fun q_z => absurd (nI_lt (show i < 4 by omega) (by decide)) q_z)
    refine am_aload_n (n := 24) (i := 0) dX5_earAt_23 rfl rfl rfl ?_
    refine gfX5_earAt_30 (n := 27) dX5_earAt_24 (by first | assumption | exact isC_of (by decide +kernel)) rfl ?_
    refine am_iload_n (n := 28) (i := 1) dX5_earAt_27 rfl rfl rfl ?_
    refine am_aldE (n := 29) dX5_earAt_28 (by first | assumption | exact isC_of (by decide +kernel)) (by first | assumption | exact vp_in_nI (by omega) (by omega) | exact vp_in_iff.mpr (by decide)) rfl ?_
    refine am_aret dX5_earAt_29 rfl ⟨rfl, Or.inl ⟨i, hi, rfl, ?_⟩⟩
    rw [nI_clamp (by omega), show b + 2 + 8 + 10 * i = b + 10 * (i + 1) by omega]
  | false =>
    have fin : AW g mmX5_earAt (ZP g (fun v h' => h' = h ∧ ((∃ e, e < n ∧ x = nI e ∧ v = some (.ref (b + 10 * (e + 1)))) ∨ (false = false ∧ v = some .null)))) 21 [(0, some (.ref b)), (1, some (.int x))] [] h := by
      refine am_null (n := 22) dX5_earAt_21 rfl ?_
      exact am_aretN dX5_earAt_22 rfl ⟨rfl, Or.inr ⟨rfl, rfl⟩⟩
    rcases inN_f hx with q | q
    · refine am_if_lt (tgt := 21) (n := 4) dX5_earAt_1 (by decide) rfl (fun _ => ?_) (fun q_z => absurd q q_z)
      exact fin
    · refine am_if_lt (tgt := 21) (n := 4) dX5_earAt_1 (by decide) rfl (fun q_z => absurd q_z (fun z => absurd (Int32.le_trans (nI_pos' (show n < 2 ^ 31 by omega)) q) (Int32.not_le.mpr z))) (fun _ => ?_)
      refine am_iload_n (n := 5) (i := 1) dX5_earAt_4 rfl rfl rfl ?_
      refine am_aload_n (n := 6) (i := 0) dX5_earAt_5 rfl rfl rfl ?_
      refine gfX5_earAt_25 (n := 9) dX5_earAt_6 (by first | assumption | exact isC_of (by decide +kernel)) rfl ?_
      rw [h3]
      refine am_icmp_ge (tgt := 21) (n := 12) dX5_earAt_9 (by decide) rfl (fun _ => ?_) (fun q_z => absurd q q_z)
      exact fin
set_option maxRecDepth 100000 in
set_option maxHeartbeats 400000 in
theorem ac_X5_holds (g : Gx) (b w : Nat) (S : SV) (h : Hp) (hb : isSt b) (hS : RS b S h) (hV : VS S) (hw : w < 2 ^ 50) : AD g yX5_holds wsX5_holds rmX5_holds [.ref b, .long (lN w)] h (some (.int (bI (S.2.2.1.contains w)))) h := by
  obtain ⟨b0, b1, b2, -⟩ := hb
  have hn := hV.2.2.1
  have h3 := hS.2.2.1
  have h5 := hS.2.2.2.2.1
  have hW : ∀ x ∈ S.2.2.1, x < 2 ^ 50 := fun x hx => (hV.2.2.2.1 x hx).1
  generalize S.2.2.1 = ws at *
  refine AC.of (cc := cX5_holds) (maxL := 4) (ret := (some .boolean)) (by decide +kernel) rfl (Nat.le_of_ble_eq_true rfl) ?_
  show AW g mmX5_holds _ 0 [(0, some (.ref b)), (1, some (.long (lN w)))] [] _
  refine am_iconst (n := 1) (v := 0) dX5_holds_0 rfl rfl ?_
  refine am_istore_n (n := 2) (i := 3) dX5_holds_1 rfl (Nat.le_of_ble_eq_true rfl) rfl rfl ?_
  have hix := ix_le w ws
  generalize hi0 : ix w ws = i0 at hix
  refine am_loc [(0, some (.ref b)), (1, some (.long (lN w))), (3, some (.int (nI 0)))] rfl ?_
  have step : ∀ i, i < ws.length → (ws.getD i 0 = w → AW g mmX5_holds (ZP g (fun r h2 => r = some (.int (bI (ws.contains w))) ∧ h2 = h)) 21 [(0, some (.ref b)), (1, some (.long (lN w))), (3, some (.int (nI i)))] [] h) → (¬ ws.getD i 0 = w → AW g mmX5_holds (ZP g (fun r h2 => r = some (.int (bI (ws.contains w))) ∧ h2 = h)) 23 [(0, some (.ref b)), (1, some (.long (lN w))), (3, some (.int (nI i)))] [] h) → AW g mmX5_holds (ZP g (fun r h2 => r = some (.int (bI (ws.contains w))) ∧ h2 = h)) 2 [(0, some (.ref b)), (1, some (.long (lN w))), (3, some (.int (nI i)))] [] h := by
    intro i hi Ky Kn
    have hx := hW _ (List.mem_of_getElem? (gD_at hi))
    refine am_iload_n (n := 3) (i := 3) dX5_holds_2 rfl rfl rfl ?_
    refine am_aload_n (n := 4) (i := 0) dX5_holds_3 rfl rfl rfl ?_
    refine gfX5_holds_18 (n := 7) dX5_holds_4 (by first | assumption | exact isC_of (by decide +kernel)) rfl ?_
    rw [h3]
    refine am_icmp_ge (tgt := 29) (n := 10) dX5_holds_7 (by decide) rfl (fun q_z => absurd q_z (nI_ge hi (by omega))) (fun _ => ?_)
    refine am_aload_n (n := 11) (i := 0) dX5_holds_10 rfl rfl rfl ?_
    refine gfX5_holds_21 (n := 14) dX5_holds_11 (by first | assumption | exact isC_of (by decide +kernel)) rfl ?_
    refine am_iload_n (n := 15) (i := 3) dX5_holds_14 rfl rfl rfl ?_
    refine am_lald (n := 16) dX5_holds_15 (by first | assumption | exact isC_of (by decide +kernel)) (by first | assumption | exact vp_in_nI (by omega) (by omega) | exact vp_in_iff.mpr (by decide)) rfl ?_
    refine am_lload_n (n := 17) (i := 1) dX5_holds_16 rfl rfl rfl ?_
    refine am_lcmp (n := 18) dX5_holds_17 rfl ?_
    rw [nI_clamp (by omega), h5 i _ (gD_at hi)]
    by_cases z : ws.getD i 0 = w
    · refine am_if_ne (tgt := 23) (n := 21) dX5_holds_18 (by decide) rfl (fun q_z => absurd (by rw [z]; exact (lg_cmp_eq _ _).mpr rfl) q_z) (fun _ => ?_)
      exact Ky z
    · refine am_if_ne (tgt := 23) (n := 21) dX5_holds_18 (by decide) rfl (fun _ => ?_) (fun q_z => absurd q_z (fun q => z ((pk_lEQ (by omega) (by omega)).mp ((lg_cmp_eq _ _).mp q))))
      exact Kn z
  refine loop_up (Wp := fun i => AW g mmX5_holds _ 2 [(0, some (.ref b)), (1, some (.long (lN w))), (3, some (.int (nI i)))] [] h) i0 ?_ ?_ 0 (Nat.zero_le _)
  · by_cases hm : w ∈ ws
    · have hlt := ix_lt hm
      have hin := ix_in hm
      rw [hi0] at hlt hin
      refine step i0 hlt (fun _ => ?_) (fun q => absurd (gD_of hin) q)
      refine am_iconst (n := 22) (v := 1) dX5_holds_21 rfl rfl ?_
      refine am_iret dX5_holds_22 rfl rfl ?_
      rw [bI_t (List.contains_iff_mem.mpr hm)]
      exact ⟨rfl, rfl⟩
    · have he : i0 = ws.length := by rw [← hi0]; exact ix_not hm
      subst he
      refine am_iload_n (n := 3) (i := 3) dX5_holds_2 rfl rfl rfl ?_
      refine am_aload_n (n := 4) (i := 0) dX5_holds_3 rfl rfl rfl ?_
      refine gfX5_holds_18 (n := 7) dX5_holds_4 (by first | assumption | exact isC_of (by decide +kernel)) rfl ?_
      rw [h3]
      refine am_icmp_ge (tgt := 29) (n := 10) dX5_holds_7 (by decide) rfl (fun _ => ?_) (fun q_z => absurd (nI_le (Nat.le_refl _) (by omega)) q_z)
      refine am_iconst (n := 30) (v := 0) dX5_holds_29 rfl rfl ?_
      refine am_iret dX5_holds_30 rfl rfl ?_
      rw [bI_f (by cases hx : ws.contains w; rfl; exact absurd (List.contains_iff_mem.mp hx) hm)]
      exact ⟨rfl, rfl⟩
  · intro i hi K
    have hne := ix_before (c := w) (l := ws) (by rw [hi0]; exact hi)
    refine step i (by omega) (fun q => absurd (by rw [gD_at (show i < ws.length by omega), q]) hne) (fun _ => ?_)
    first | refine am_iincN (n := 26) dX5_holds_23 rfl rfl rfl ?_ | refine am_iinc1 (n := 26) dX5_holds_23 rfl rfl rfl ?_
    refine am_goto (tgt := 2) dX5_holds_26 (by decide) ?_
    exact am_loc _ rfl K
def lin (ws : List Nat) : Int32 := orF (fun i => wset (ws.getD i 0)) ws.length
set_option maxRecDepth 100000 in
set_option maxHeartbeats 400000 in
theorem ac_X5_lettersInNames (g : Gx) (b : Nat) (S : SV) (h : Hp) (hb : isSt b) (hS : RS b S h) (hV : VS S) : AD g yX5_lettersInNames wsX5_lettersInNames rmX5_lettersInNames [.ref b] h (some (.int (lin S.2.2.1))) h := by
  obtain ⟨b0, b1, b2, -⟩ := hb
  have hn := hV.2.2.1
  have h3 := hS.2.2.1
  have h5 := hS.2.2.2.2.1
  have hW := hV.2.2.2.1
  generalize S.2.2.1 = ws at *
  unfold lin
  refine AC.of (cc := cX5_lettersInNames) (maxL := 3) (ret := (some .int)) (by decide +kernel) rfl (Nat.le_of_ble_eq_true rfl) ?_
  show AW g mmX5_lettersInNames _ 0 [(0, some (.ref b))] [] _
  refine am_iconst (n := 1) (v := 0) dX5_lettersInNames_0 rfl rfl ?_
  refine am_istore_n (n := 2) (i := 1) dX5_lettersInNames_1 rfl (Nat.le_of_ble_eq_true rfl) rfl rfl ?_
  refine am_iconst (n := 3) (v := 0) dX5_lettersInNames_2 rfl rfl ?_
  refine am_istore_n (n := 4) (i := 2) dX5_lettersInNames_3 rfl (Nat.le_of_ble_eq_true rfl) rfl rfl ?_
  refine am_loc [(0, some (.ref b)), (1, some (.int (orF (fun i => wset (ws.getD i 0)) 0))), (2, some (.int (nI 0)))] rfl ?_
  refine loop_up (Wp := fun i => AW g mmX5_lettersInNames _ 4 [(0, some (.ref b)), (1, some (.int (orF (fun i => wset (ws.getD i 0)) i))), (2, some (.int (nI i)))] [] h) ws.length ?_ ?_ 0 (Nat.zero_le _)
  · refine am_iload_n (n := 5) (i := 2) dX5_lettersInNames_4 rfl rfl rfl ?_
    refine am_aload_n (n := 6) (i := 0) dX5_lettersInNames_5 rfl rfl rfl ?_
    refine gfX5_lettersInNames_18 (n := 9) dX5_lettersInNames_6 (by first | assumption | exact isC_of (by decide +kernel)) rfl ?_
    rw [h3]
    refine am_icmp_ge (tgt := 30) (n := 12) dX5_lettersInNames_9 (by decide) rfl (fun _ => ?_) (fun q_z => absurd (Int32.le_refl _) q_z)
    refine am_iload_n (n := 31) (i := 1) dX5_lettersInNames_30 rfl rfl rfl ?_
    refine am_iret dX5_lettersInNames_31 rfl rfl ?_
    exact ⟨rfl, rfl⟩
  · intro i hi K
    refine am_iload_n (n := 5) (i := 2) dX5_lettersInNames_4 rfl rfl rfl ?_
    refine am_aload_n (n := 6) (i := 0) dX5_lettersInNames_5 rfl rfl rfl ?_
    refine gfX5_lettersInNames_18 (n := 9) dX5_lettersInNames_6 (by first | assumption | exact isC_of (by decide +kernel)) rfl ?_
    rw [h3]
    refine am_icmp_ge (tgt := 30) (n := 12) dX5_lettersInNames_9 (by decide) rfl (fun q_z => absurd q_z (nI_ge hi (by omega))) (fun _ => ?_)
    refine am_iload_n (n := 13) (i := 1) dX5_lettersInNames_12 rfl rfl rfl ?_
    refine am_aload_n (n := 14) (i := 0) dX5_lettersInNames_13 rfl rfl rfl ?_
    refine gfX5_lettersInNames_21 (n := 17) dX5_lettersInNames_14 (by first | assumption | exact isC_of (by decide +kernel)) rfl ?_
    refine am_iload_n (n := 18) (i := 2) dX5_lettersInNames_17 rfl rfl rfl ?_
    refine am_lald (n := 19) dX5_lettersInNames_18 (by first | assumption | exact isC_of (by decide +kernel)) (by first | assumption | exact vp_in_nI (by omega) (by omega) | exact vp_in_iff.mpr (by decide)) rfl ?_
    rw [nI_clamp (by omega), h5 i _ (gD_at hi)]
    refine cdX5_lettersInNames_45 (n := 22) dX5_lettersInNames_19 (by first | exact ⟨rfl, rfl⟩ | assumption) (ac_X6_letterSet g (ws.getD i 0) h (hW _ (List.mem_of_getElem? (gD_at hi))).1) rfl rfl (Nat.le_of_ble_eq_true rfl) rfl ?_
    refine am_ior (n := 23) dX5_lettersInNames_22 rfl ?_
    refine am_istore_n (n := 24) (i := 1) dX5_lettersInNames_23 rfl (Nat.le_of_ble_eq_true rfl) rfl rfl ?_
    first | refine am_iincN (n := 27) dX5_lettersInNames_24 rfl rfl rfl ?_ | refine am_iinc1 (n := 27) dX5_lettersInNames_24 rfl rfl rfl ?_
    refine am_goto (tgt := 4) dX5_lettersInNames_27 (by decide) ?_
    exact am_loc _ rfl K
