/-! The class's calls: put, wipe, fault, undo, save, restore -/
set_option maxRecDepth 100000 in
set_option maxHeartbeats 400000 in
theorem cx_put (g : Gx) (n : Nat) (G : GS) (h : Hp) (hX : XI G h) (hn : n < 2 ^ 64) : CX g yX7_put wsX7_put rmX7_put [.ref 0, .long (lN n)] h (sp_put n G) := by
  have c0 := isC_0
  have c4 := isPd_4.1
  have hP := hX.2.2.2.2.1
  have hPV := hX.2.2.2.2.2
  have h80 := hPV.1
  have hc8 := cin_le n
  have hvp := fun a b => VP_put (n := n) hPV a b
  unfold CX sp_put
  refine AC.of (cc := cX7_put) (maxL := 4) (ret := (some .int)) (by decide +kernel) rfl (Nat.le_of_ble_eq_true rfl) ?_
  show AW g mmX7_put _ 0 [(0, some (.ref 0)), (1, some (.long (lN n)))] [] _
  refine am_lload_n (n := 1) (i := 1) dX7_put_0 rfl rfl rfl ?_
  refine cdX7_put_241 (n := 4) dX7_put_1 (by first | exact ⟨rfl, rfl⟩ | assumption) (ac_X4_charactersIn g n h hn) rfl rfl (Nat.le_of_ble_eq_true rfl) rfl ?_
  generalize cin n = c at *
  refine am_istore_n (n := 5) (i := 3) dX7_put_4 rfl (Nat.le_of_ble_eq_true rfl) rfl rfl ?_
  refine am_iload_n (n := 6) (i := 3) dX7_put_5 rfl rfl rfl ?_
  by_cases q0 : c = 0
  · rw [if_pos q0]
    refine am_if_ne (tgt := 12) (n := 9) dX7_put_6 (by decide) rfl (fun q_z => absurd (by rw [q0]; rfl) q_z) (fun _ => ?_)
    refine am_bipush (n := 11) (v := (-2)) dX7_put_9 rfl rfl ?_
    refine am_iret dX7_put_11 rfl rfl ?_
    exact ⟨rfl, hX, FM.rf⟩
  · rw [if_neg q0]
    refine am_if_ne (tgt := 12) (n := 9) dX7_put_6 (by decide) rfl (fun _ => ?_) (fun q_z => absurd q_z (fun q => q0 ((nI_eq (b := 0) (by omega) (by omega)).mp q)))
    refine am_aload_n (n := 13) (i := 0) dX7_put_12 rfl rfl rfl ?_
    refine gfX7_put_34 (n := 16) dX7_put_13 (by first | assumption | exact isC_of (by decide +kernel)) rfl ?_
    refine gfX7_put_94 (n := 19) dX7_put_16 (by first | assumption | exact isC_of (by decide +kernel)) rfl ?_
    refine am_iload_n (n := 20) (i := 3) dX7_put_19 rfl rfl rfl ?_
    refine am_iadd (n := 21) dX7_put_20 rfl ?_
    rw [hP.1, nI_add]
    refine am_bipush (n := 23) (v := 80) dX7_put_21 rfl rfl ?_
    by_cases q1 : 80 < G.2.2.2.length + c
    · rw [if_pos q1]
      refine am_icmp_le (tgt := 29) (n := 26) dX7_put_23 (by decide) rfl (fun q_z => absurd q_z (fun q => absurd ((nI_leI (b := 80) (by omega) (by omega)).mp q) (by omega))) (fun _ => ?_)
      refine am_bipush (n := 28) (v := (-4)) dX7_put_26 rfl rfl ?_
      refine am_iret dX7_put_28 rfl rfl ?_
      exact ⟨rfl, hX, FM.rf⟩
    · rw [if_neg q1]
      refine am_icmp_le (tgt := 29) (n := 26) dX7_put_23 (by decide) rfl (fun _ => ?_) (fun q_z => absurd ((nI_leI (b := 80) (by omega) (by omega)).mpr (by omega)) q_z)
      refine am_aload_n (n := 30) (i := 0) dX7_put_29 rfl rfl rfl ?_
      refine gfX7_put_34 (n := 33) dX7_put_30 (by first | assumption | exact isC_of (by decide +kernel)) rfl ?_
      refine am_lload_n (n := 34) (i := 1) dX7_put_33 rfl rfl rfl ?_
      refine am_iload_n (n := 35) (i := 3) dX7_put_34 rfl rfl rfl ?_
      refine caX7_put_244 (n := 38) dX7_put_35 (by first | exact ⟨rfl, rfl⟩ | assumption) (ac_X4_append g 4 n c G.2.2.2 h isPd_4 hP hn hc8 (by omega)) rfl rfl (Nat.le_of_ble_eq_true rfl) (by first | assumption | exact isC_of (by decide +kernel)) rfl ?_
      rintro v h1 ⟨rfl, F1, R1⟩
      refine am_aload_n (n := 39) (i := 0) dX7_put_38 rfl rfl rfl ?_
      refine gfX7_put_34 (n := 42) dX7_put_39 (by first | assumption | exact isC_of (by decide +kernel)) rfl ?_
      refine gfX7_put_94 (n := 45) dX7_put_42 (by first | assumption | exact isC_of (by decide +kernel)) rfl ?_
      rw [R1.1, List.length_append, bD_len]
      refine am_iret dX7_put_45 rfl rfl ?_
      exact ⟨rfl, hX.pad R1 (hvp q0 (by omega)) F1, FM.fi F1 (by omega)⟩
set_option maxRecDepth 100000 in
set_option maxHeartbeats 400000 in
theorem cx_wipe (g : Gx) (G : GS) (h : Hp) (hX : XI G h) : CX g yX7_wipe wsX7_wipe rmX7_wipe [.ref 0] h (sp_wipe G) := by
  have c0 := isC_0
  have c4 := isPd_4.1
  unfold CX sp_wipe
  refine AC.of (cc := cX7_wipe) (maxL := 2) (ret := (some .int)) (by decide +kernel) rfl (Nat.le_of_ble_eq_true rfl) ?_
  show AW g mmX7_wipe _ 0 [(0, some (.ref 0))] [] _
  refine am_aload_n (n := 1) (i := 0) dX7_wipe_0 rfl rfl rfl ?_
  refine gfX7_wipe_34 (n := 4) dX7_wipe_1 (by first | assumption | exact isC_of (by decide +kernel)) rfl ?_
  refine gfX7_wipe_94 (n := 7) dX7_wipe_4 (by first | assumption | exact isC_of (by decide +kernel)) rfl ?_
  rw [hX.2.2.2.2.1.1]
  refine am_istore_n (n := 8) (i := 1) dX7_wipe_7 rfl (Nat.le_of_ble_eq_true rfl) rfl rfl ?_
  refine am_aload_n (n := 9) (i := 0) dX7_wipe_8 rfl rfl rfl ?_
  refine gfX7_wipe_34 (n := 12) dX7_wipe_9 (by first | assumption | exact isC_of (by decide +kernel)) rfl ?_
  refine am_iconst (n := 13) (v := 0) dX7_wipe_12 rfl rfl ?_
  refine pfX7_wipe_94 (n := 16) dX7_wipe_13 (by first | assumption | exact isC_of (by decide +kernel)) rfl ?_
  refine am_iload_n (n := 17) (i := 1) dX7_wipe_16 rfl rfl rfl ?_
  refine am_iret dX7_wipe_17 rfl rfl ?_
  exact ⟨rfl, hX.pad (p := []) ⟨by rw [setI_s, pk_us]; rfl, fun i c hi => by cases hi⟩ ⟨by decide, fun c hc => by cases hc⟩ (FrI.rf.set _ (by omega) (by omega)), fun c w1 w2 => ⟨setI_n _ _ (by omega), rfl⟩⟩
set_option maxRecDepth 100000 in
set_option maxHeartbeats 400000 in
theorem cx_fault (g : Gx) (G : GS) (h : Hp) (hX : XI G h) : CX g yX7_fault wsX7_fault rmX7_fault [.ref 0] h (sp_fault G) := by
  have c0 := isC_0
  unfold CX sp_fault
  refine AC.of (cc := cX7_fault) (maxL := 1) (ret := (some .int)) (by decide +kernel) rfl (Nat.le_of_ble_eq_true rfl) ?_
  show AW g mmX7_fault _ 0 [(0, some (.ref 0))] [] _
  refine am_aload_n (n := 1) (i := 0) dX7_fault_0 rfl rfl rfl ?_
  refine gfX7_fault_34 (n := 4) dX7_fault_1 (by first | assumption | exact isC_of (by decide +kernel)) rfl ?_
  refine cdX7_fault_75 (n := 7) dX7_fault_4 (by first | exact ⟨rfl, rfl⟩ | assumption) (ac_X4_firstFault g 4 G.2.2.2 h isPd_4 hX.2.2.2.2.1 hX.2.2.2.2.2) rfl rfl (Nat.le_of_ble_eq_true rfl) (by first | assumption | exact isC_of (by decide +kernel)) rfl ?_
  generalize flt G.2.2.2 = v
  exact am_iret dX7_fault_7 rfl rfl ⟨rfl, hX, FM.rf⟩
set_option maxRecDepth 100000 in
set_option maxHeartbeats 400000 in
theorem cx_undo (g : Gx) (G : GS) (h : Hp) (hX : XI G h) : CX g yX7_undo wsX7_undo rmX7_undo [.ref 0] h (sp_undo G) := by
  have c0 := isC_0
  have c1 := isC_1
  have c100 := isSt_now.1
  obtain ⟨x1, x2, q, x3, x4, x5⟩ := hX.2.2.1
  unfold CX
  refine AC.of (cc := cX7_undo) (maxL := 1) (ret := (some .int)) (by decide +kernel) rfl (Nat.le_of_ble_eq_true rfl) ?_
  show AW g mmX7_undo _ 0 [(0, some (.ref 0))] [] _
  refine am_aload_n (n := 1) (i := 0) dX7_undo_0 rfl rfl rfl ?_
  refine gfX7_undo_20 (n := 4) dX7_undo_1 (by first | assumption | exact isC_of (by decide +kernel)) rfl ?_
  rw [x1]
  rcases List.eq_nil_or_concat G.2.1 with hm | ⟨ps, S, hm⟩
  · have hs : sp_undo G = (-5, G) := by unfold sp_undo; rw [hm]; rfl
    rw [hs, hm]
    refine am_if_le (tgt := 19) (n := 7) dX7_undo_4 (by decide) rfl (fun _ => ?_) (fun q_z => absurd (by decide) q_z)
    refine am_bipush (n := 21) (v := (-5)) dX7_undo_19 rfl rfl ?_
    refine am_iret dX7_undo_21 rfl rfl ?_
    exact ⟨rfl, hX, FM.rf⟩
  · rw [List.concat_eq_append] at hm
    have hlen : G.2.1.length = ps.length + 1 := by rw [hm, List.length_append]; rfl
    have hs : sp_undo G = (nI ps.length, (S, ps, G.2.2)) := by
      unfold sp_undo
      rw [show G.2.1.getLast? = some S by rw [hm]; simp, show G.2.1.dropLast = ps by rw [hm]; simp, hlen]
      rfl
    rw [hs, hlen]
    refine am_if_le (tgt := 19) (n := 7) dX7_undo_4 (by decide) rfl (fun q_z => absurd q_z (fun q => absurd ((nI_leI (b := 0) (by omega) (by omega)).mp q) (by omega))) (fun _ => ?_)
    refine am_aload_n (n := 8) (i := 0) dX7_undo_7 rfl rfl rfl ?_
    refine gfX7_undo_20 (n := 11) dX7_undo_8 (by first | assumption | exact isC_of (by decide +kernel)) rfl ?_
    refine am_aload_n (n := 12) (i := 0) dX7_undo_11 rfl rfl rfl ?_
    refine gfX7_undo_16 (n := 15) dX7_undo_12 (by first | assumption | exact isC_of (by decide +kernel)) rfl ?_
    refine am_alen (n := 16) dX7_undo_15 (by first | assumption | exact isC_of (by decide +kernel)) (by decide) rfl rfl ?_
    rw [x1, hlen]
    refine am_icmp_le (tgt := 22) (n := 19) dX7_undo_16 (by decide) rfl (fun _ => ?_) (fun q_z => absurd ((nI_leI (b := 6) (by omega) (by omega)).mpr (by omega)) q_z)
    refine am_aload_n (n := 23) (i := 0) dX7_undo_22 rfl rfl rfl ?_
    refine am_dup (n := 24) dX7_undo_23 rfl rfl ?_
    refine gfX7_undo_20 (n := 27) dX7_undo_24 (by first | assumption | exact isC_of (by decide +kernel)) rfl ?_
    rw [x1, hlen]
    refine am_iconst (n := 28) (v := 1) dX7_undo_27 rfl rfl ?_
    refine am_isub (n := 29) dX7_undo_28 rfl ?_
    rw [nI_pred]
    refine pfX7_undo_20 (n := 32) dX7_undo_29 (by first | assumption | exact isC_of (by decide +kernel)) rfl ?_
    refine am_aload_n (n := 33) (i := 0) dX7_undo_32 rfl rfl rfl ?_
    refine gfX7_undo_10 (n := 36) dX7_undo_33 (by first | assumption | exact isC_of (by decide +kernel)) rfl ?_
    refine am_aload_n (n := 37) (i := 0) dX7_undo_36 rfl rfl rfl ?_
    refine gfX7_undo_16 (n := 40) dX7_undo_37 (by first | assumption | exact isC_of (by decide +kernel)) rfl ?_
    refine am_aload_n (n := 41) (i := 0) dX7_undo_40 rfl rfl rfl ?_
    refine gfX7_undo_20 (n := 44) dX7_undo_41 (by first | assumption | exact isC_of (by decide +kernel)) rfl ?_
    simp (disch := omega) only [setI_s, pk_us]
    have hin : vp_in (nI ps.length) 6 := vp_in_nI (by omega) (by decide)
    refine am_aldS (n := 45) dX7_undo_44 (by first | assumption | exact isC_of (by decide +kernel)) (by first | assumption | exact vp_in_nI (by omega) (by omega) | exact vp_in_iff.mpr (by decide)) rfl ?_
    rw [nI_clamp (by omega)]
    have hS : G.2.1[ps.length]? = some S := by rw [hm]; simp
    obtain ⟨q1, q2⟩ := x3 ps.length (by omega)
    obtain ⟨y1, y2⟩ := x5 ps.length S hS
    rw [show (setI h 0 (upd (h.1 0) 2 (nI ps.length))).2.2 1 ps.length = 200 + 100 * q ps.length from q2]
    have hst := isSt_p q1
    have fB : ∀ c, c ≠ 0 → (setI h 0 (upd (h.1 0) 2 (nI ps.length))).1 c = h.1 c := fun c hc => setI_n _ _ hc
    have hst0 := hst.1
    refine caX7_undo_248 (n := 48) dX7_undo_45 (by first | exact ⟨rfl, rfl⟩ | assumption) (ac_X5_beAs g 100 (200 + 100 * q ps.length) S _ isSt_now hst (y1.kept y2 (fun c w1 w2 => ⟨fB c (by omega), rfl⟩)) y2 (by omega)) rfl rfl (Nat.le_of_ble_eq_true rfl) (by first | assumption | exact isC_of (by decide +kernel)) rfl ?_
    rintro v h2 ⟨rfl, R2, F2⟩
    refine am_aload_n (n := 49) (i := 0) dX7_undo_48 rfl rfl rfl ?_
    refine gfX7_undo_20 (n := 52) dX7_undo_49 (by first | assumption | exact isC_of (by decide +kernel)) rfl ?_
    have e0 : h2.1 0 2 = nI ps.length := by rw [(F2.1 0 (by omega)).1, setI_s, pk_us]
    rw [e0]
    refine am_iret dX7_undo_52 rfl rfl ?_
    have FF : ∀ c, c ≠ 0 → (c < 100 ∨ 146 < c) → h2.1 c = h.1 c ∧ h2.2.1 c = h.2.1 c := fun c w0 w1 => ⟨(F2.1 c (by omega)).1.trans (fB c w0), (F2.1 c (by omega)).2⟩
    have FP : h2.2.2 = h.2.2 := F2.2
    refine ⟨rfl, ⟨R2, y2, ⟨e0, by show ps.length ≤ 6; omega, q, fun j hj => ⟨(x3 j hj).1, by rw [FP]; exact (x3 j hj).2⟩, x4, fun j T hT => ?_⟩, hX.2.2.2.1.kept (FF 3 (by omega) (by omega)).1 FP (fun c w1 => FF c (by omega) (by omega)), hX.2.2.2.2.1.kept (FF 4 (by omega) (by omega)).1 (FF 5 (by omega) (by omega)).1, hX.2.2.2.2.2⟩, fun c w1 w2 => FF c (by omega) (by omega)⟩
    have hj := (List.getElem?_eq_some_iff.mp hT).1
    have hT2 : G.2.1[j]? = some T := by rw [hm, List.getElem?_append_left hj]; exact hT
    obtain ⟨z1, z2⟩ := x5 j T hT2
    exact ⟨z1.kept z2 (fun c w1 w2 => FF c (by omega) (by omega)), z2⟩
set_option maxRecDepth 100000 in
set_option maxHeartbeats 400000 in
theorem cx_save (g : Gx) (s : Int32) (G : GS) (h : Hp) (hX : XI G h) : CX g yX7_save wsX7_save rmX7_save [.ref 0, .int s] h (sp_save s G) := by
  have c0 := isC_0
  have c2 := isC_2
  have c3 := isC_3
  have c100 := isSt_now.1
  have c800 := isSt_s0.1
  have c900 := isSt_s1.1
  obtain ⟨s1, s2, s3, s4, s5, s6⟩ := hX.2.2.2.1
  unfold CX sp_save
  refine AC.of (cc := cX7_save) (maxL := 2) (ret := (some .int)) (by decide +kernel) rfl (Nat.le_of_ble_eq_true rfl) ?_
  show AW g mmX7_save _ 0 [(0, some (.ref 0)), (1, some (.int s))] [] _
  refine am_iload_n (n := 1) (i := 1) dX7_save_0 rfl rfl rfl ?_
  refine am_iconst (n := 2) (v := 0) dX7_save_1 rfl rfl ?_
  refine am_iconst (n := 3) (v := 1) dX7_save_2 rfl rfl ?_
  refine cdX7_save_62 (n := 6) dX7_save_3 (by first | exact ⟨rfl, rfl⟩ | assumption) (ac_X7_isWithin g s 0 1 h) rfl rfl (Nat.le_of_ble_eq_true rfl) rfl ?_
  by_cases w0 : s = 0
  · subst w0
    rw [if_pos rfl]
    refine am_if_ne (tgt := 12) (n := 9) dX7_save_6 (by decide) rfl (fun _ => ?_) (fun q_z => absurd q_z (by decide))
    refine am_aload_n (n := 13) (i := 0) dX7_save_12 rfl rfl rfl ?_
    refine gfX7_save_24 (n := 16) dX7_save_13 (by first | assumption | exact isC_of (by decide +kernel)) rfl ?_
    refine am_iload_n (n := 17) (i := 1) dX7_save_16 rfl rfl rfl ?_
    refine am_aldS (n := 18) dX7_save_17 (by first | assumption | exact isC_of (by decide +kernel)) (by first | assumption | exact vp_in_nI (by omega) (by omega) | exact vp_in_iff.mpr (by decide)) rfl ?_
    rw [show (0 : Int32).toNatClampNeg = 0 from rfl, s1]
    refine am_aload_n (n := 19) (i := 0) dX7_save_18 rfl rfl rfl ?_
    refine gfX7_save_10 (n := 22) dX7_save_19 (by first | assumption | exact isC_of (by decide +kernel)) rfl ?_
    refine caX7_save_248 (n := 25) dX7_save_22 (by first | exact ⟨rfl, rfl⟩ | assumption) (ac_X5_beAs g 800 100 G.1 h isSt_s0 isSt_now hX.1 hX.2.1 (by omega)) rfl rfl (Nat.le_of_ble_eq_true rfl) (by first | assumption | exact isC_of (by decide +kernel)) rfl ?_
    rintro v h1 ⟨rfl, R1, F1⟩
    refine am_aload_n (n := 26) (i := 0) dX7_save_25 rfl rfl rfl ?_
    refine gfX7_save_27 (n := 29) dX7_save_26 (by first | assumption | exact isC_of (by decide +kernel)) rfl ?_
    refine am_iload_n (n := 30) (i := 1) dX7_save_29 rfl rfl rfl ?_
    refine am_iconst (n := 31) (v := 1) dX7_save_30 rfl rfl ?_
    refine am_zast (n := 32) dX7_save_31 (by first | assumption | exact isC_of (by decide +kernel)) (by first | assumption | exact vp_in_nI (by omega) (by omega) | exact vp_in_iff.mpr (by decide)) rfl ?_
    refine am_aload_n (n := 33) (i := 0) dX7_save_32 rfl rfl rfl ?_
    refine gfX7_save_10 (n := 36) dX7_save_33 (by first | assumption | exact isC_of (by decide +kernel)) rfl ?_
    refine gfX7_save_87 (n := 39) dX7_save_36 (by first | assumption | exact isC_of (by decide +kernel)) rfl ?_
    have fB : ∀ c, c ≠ 3 → (setI h1 3 (upd (h1.1 3) (0 : Int32).toNatClampNeg (vp_nar .boolean 1))).1 c = h1.1 c := fun c hc => setI_n _ _ hc
    rw [show (setI h1 3 (upd (h1.1 3) (0 : Int32).toNatClampNeg (vp_nar .boolean 1))).1 100 2 = nI G.1.2.2.1.length by rw [fB 100 (by omega), (F1.1 100 (by omega)).1]; exact hX.1.2.2.1]
    refine am_iret dX7_save_39 rfl rfl ?_
    have FF : ∀ c, c ≠ 3 → (c < 800 ∨ 846 < c) → (setI h1 3 (upd (h1.1 3) (0 : Int32).toNatClampNeg (vp_nar .boolean 1))).1 c = h.1 c ∧ (setI h1 3 (upd (h1.1 3) (0 : Int32).toNatClampNeg (vp_nar .boolean 1))).2.1 c = h.2.1 c := fun c w0 w1 => ⟨(fB c w0).trans (F1.1 c (by omega)).1, (F1.1 c (by omega)).2⟩
    have FP : (setI h1 3 (upd (h1.1 3) (0 : Int32).toNatClampNeg (vp_nar .boolean 1))).2.2 = h.2.2 := F1.2
    refine ⟨rfl, ⟨hX.1.kept hX.2.1 (fun c w1 w2 => FF c (by omega) (by omega)), hX.2.1, hX.2.2.1.kept (FF 0 (by omega) (by omega)).1 FP (fun c w1 w2 => FF c (by omega) (by omega)), ⟨?_, ?_, ?_, ?_, fun S hS => ?_, fun S hS => ?_⟩, hX.2.2.2.2.1.kept (FF 4 (by omega) (by omega)).1 (FF 5 (by omega) (by omega)).1, hX.2.2.2.2.2⟩, fun c w1 w2 => FF c (by omega) (by omega)⟩
    · rw [FP]; exact s1
    · rw [FP]; exact s2
    · rw [setI_s]
      exact pk_us
    · rw [setI_s]
      refine (pk_un (by decide)).trans ?_
      rw [(F1.1 3 (by omega)).1]
      exact s4
    · rw [← Option.some.inj hS]
      exact ⟨R1.kept hX.2.1 (fun c w1 w2 => ⟨fB c (by omega), rfl⟩), hX.2.1⟩
    · obtain ⟨z1, z2⟩ := s6 S hS
      exact ⟨z1.kept z2 (fun c w1 w2 => FF c (by omega) (by omega)), z2⟩
  · rw [if_neg w0]
    by_cases w1 : s = 1
    · subst w1
      rw [if_pos rfl]
      refine am_if_ne (tgt := 12) (n := 9) dX7_save_6 (by decide) rfl (fun _ => ?_) (fun q_z => absurd q_z (by decide))
      refine am_aload_n (n := 13) (i := 0) dX7_save_12 rfl rfl rfl ?_
      refine gfX7_save_24 (n := 16) dX7_save_13 (by first | assumption | exact isC_of (by decide +kernel)) rfl ?_
      refine am_iload_n (n := 17) (i := 1) dX7_save_16 rfl rfl rfl ?_
      refine am_aldS (n := 18) dX7_save_17 (by first | assumption | exact isC_of (by decide +kernel)) (by first | assumption | exact vp_in_nI (by omega) (by omega) | exact vp_in_iff.mpr (by decide)) rfl ?_
      rw [show (1 : Int32).toNatClampNeg = 1 from rfl, s2]
      refine am_aload_n (n := 19) (i := 0) dX7_save_18 rfl rfl rfl ?_
      refine gfX7_save_10 (n := 22) dX7_save_19 (by first | assumption | exact isC_of (by decide +kernel)) rfl ?_
      refine caX7_save_248 (n := 25) dX7_save_22 (by first | exact ⟨rfl, rfl⟩ | assumption) (ac_X5_beAs g 900 100 G.1 h isSt_s1 isSt_now hX.1 hX.2.1 (by omega)) rfl rfl (Nat.le_of_ble_eq_true rfl) (by first | assumption | exact isC_of (by decide +kernel)) rfl ?_
      rintro v h1 ⟨rfl, R1, F1⟩
      refine am_aload_n (n := 26) (i := 0) dX7_save_25 rfl rfl rfl ?_
      refine gfX7_save_27 (n := 29) dX7_save_26 (by first | assumption | exact isC_of (by decide +kernel)) rfl ?_
      refine am_iload_n (n := 30) (i := 1) dX7_save_29 rfl rfl rfl ?_
      refine am_iconst (n := 31) (v := 1) dX7_save_30 rfl rfl ?_
      refine am_zast (n := 32) dX7_save_31 (by first | assumption | exact isC_of (by decide +kernel)) (by first | assumption | exact vp_in_nI (by omega) (by omega) | exact vp_in_iff.mpr (by decide)) rfl ?_
      refine am_aload_n (n := 33) (i := 0) dX7_save_32 rfl rfl rfl ?_
      refine gfX7_save_10 (n := 36) dX7_save_33 (by first | assumption | exact isC_of (by decide +kernel)) rfl ?_
      refine gfX7_save_87 (n := 39) dX7_save_36 (by first | assumption | exact isC_of (by decide +kernel)) rfl ?_
      have fB : ∀ c, c ≠ 3 → (setI h1 3 (upd (h1.1 3) (1 : Int32).toNatClampNeg (vp_nar .boolean 1))).1 c = h1.1 c := fun c hc => setI_n _ _ hc
      rw [show (setI h1 3 (upd (h1.1 3) (1 : Int32).toNatClampNeg (vp_nar .boolean 1))).1 100 2 = nI G.1.2.2.1.length by rw [fB 100 (by omega), (F1.1 100 (by omega)).1]; exact hX.1.2.2.1]
      refine am_iret dX7_save_39 rfl rfl ?_
      have FF : ∀ c, c ≠ 3 → (c < 900 ∨ 946 < c) → (setI h1 3 (upd (h1.1 3) (1 : Int32).toNatClampNeg (vp_nar .boolean 1))).1 c = h.1 c ∧ (setI h1 3 (upd (h1.1 3) (1 : Int32).toNatClampNeg (vp_nar .boolean 1))).2.1 c = h.2.1 c := fun c w0 w1 => ⟨(fB c w0).trans (F1.1 c (by omega)).1, (F1.1 c (by omega)).2⟩
      have FP : (setI h1 3 (upd (h1.1 3) (1 : Int32).toNatClampNeg (vp_nar .boolean 1))).2.2 = h.2.2 := F1.2
      refine ⟨rfl, ⟨hX.1.kept hX.2.1 (fun c w1 w2 => FF c (by omega) (by omega)), hX.2.1, hX.2.2.1.kept (FF 0 (by omega) (by omega)).1 FP (fun c w1 w2 => FF c (by omega) (by omega)), ⟨?_, ?_, ?_, ?_, fun S hS => ?_, fun S hS => ?_⟩, hX.2.2.2.2.1.kept (FF 4 (by omega) (by omega)).1 (FF 5 (by omega) (by omega)).1, hX.2.2.2.2.2⟩, fun c w1 w2 => FF c (by omega) (by omega)⟩
      · rw [FP]; exact s1
      · rw [FP]; exact s2
      · rw [setI_s]
        refine (pk_un (by decide)).trans ?_
        rw [(F1.1 3 (by omega)).1]
        exact s3
      · rw [setI_s]
        exact pk_us
      · obtain ⟨z1, z2⟩ := s5 S hS
        exact ⟨z1.kept z2 (fun c w1 w2 => FF c (by omega) (by omega)), z2⟩
      · rw [← Option.some.inj hS]
        exact ⟨R1.kept hX.2.1 (fun c w1 w2 => ⟨fB c (by omega), rfl⟩), hX.2.1⟩
    · rw [if_neg w1, show (decide (0 ≤ s) && decide (s ≤ 1)) = false from sw_f (n := 1) (by decide) (fun i hi => by rcases i with _ | _ | i; exact w0; exact w1; omega)]
      refine am_if_ne (tgt := 12) (n := 9) dX7_save_6 (by decide) rfl (fun q_z => absurd rfl q_z) (fun _ => ?_)
      refine am_bipush (n := 11) (v := (-2)) dX7_save_9 rfl rfl ?_
      refine am_iret dX7_save_11 rfl rfl ?_
      exact ⟨rfl, hX, FM.rf⟩
set_option maxRecDepth 100000 in
set_option maxHeartbeats 400000 in
theorem cx_restore (g : Gx) (s : Int32) (G : GS) (h : Hp) (hX : XI G h) : CX g yX7_restore wsX7_restore rmX7_restore [.ref 0, .int s] h (sp_restore s G) := by
  have c0 := isC_0
  have c2 := isC_2
  have c3 := isC_3
  have c100 := isSt_now.1
  have c800 := isSt_s0.1
  have c900 := isSt_s1.1
  obtain ⟨s1, s2, s3, s4, s5, s6⟩ := hX.2.2.2.1
  unfold CX sp_restore
  refine AC.of (cc := cX7_restore) (maxL := 2) (ret := (some .int)) (by decide +kernel) rfl (Nat.le_of_ble_eq_true rfl) ?_
  show AW g mmX7_restore _ 0 [(0, some (.ref 0)), (1, some (.int s))] [] _
  refine am_iload_n (n := 1) (i := 1) dX7_restore_0 rfl rfl rfl ?_
  refine am_iconst (n := 2) (v := 0) dX7_restore_1 rfl rfl ?_
  refine am_iconst (n := 3) (v := 1) dX7_restore_2 rfl rfl ?_
  refine cdX7_restore_62 (n := 6) dX7_restore_3 (by first | exact ⟨rfl, rfl⟩ | assumption) (ac_X7_isWithin g s 0 1 h) rfl rfl (Nat.le_of_ble_eq_true rfl) rfl ?_
  by_cases w0 : s = 0
  · subst w0
    rw [if_pos rfl]
    refine am_if_ne (tgt := 12) (n := 9) dX7_restore_6 (by decide) rfl (fun _ => ?_) (fun q_z => absurd q_z (by decide))
    refine am_aload_n (n := 13) (i := 0) dX7_restore_12 rfl rfl rfl ?_
    refine gfX7_restore_27 (n := 16) dX7_restore_13 (by first | assumption | exact isC_of (by decide +kernel)) rfl ?_
    refine am_iload_n (n := 17) (i := 1) dX7_restore_16 rfl rfl rfl ?_
    refine am_zald (n := 18) dX7_restore_17 (by first | assumption | exact isC_of (by decide +kernel)) (by first | assumption | exact vp_in_nI (by omega) (by omega) | exact vp_in_iff.mpr (by decide)) rfl ?_
    rw [show (0 : Int32).toNatClampNeg = 0 from rfl, s3]
    unfold rsS
    cases hS : G.2.2.1.1 with
    | none =>
      refine am_if_ne (tgt := 24) (n := 21) dX7_restore_18 (by decide) rfl (fun q_z => absurd rfl q_z) (fun _ => ?_)
      refine am_bipush (n := 23) (v := (-5)) dX7_restore_21 rfl rfl ?_
      refine am_iret dX7_restore_23 rfl rfl ?_
      exact ⟨rfl, hX, FM.rf⟩
    | some S =>
      dsimp only
      refine am_if_ne (tgt := 24) (n := 21) dX7_restore_18 (by decide) rfl (fun _ => ?_) (fun q_z => absurd q_z (show ¬ (1 : Int32) = 0 by decide))
      refine am_aload_n (n := 25) (i := 0) dX7_restore_24 rfl rfl rfl ?_
      refine caX7_restore_69 (n := 28) dX7_restore_25 (by first | exact ⟨rfl, rfl⟩ | assumption) (ac_X7_recordChange g G h hX) rfl rfl (Nat.le_of_ble_eq_true rfl) (by first | assumption | exact isC_of (by decide +kernel)) rfl ?_
      rintro r h1 ⟨rfl, X1, F1, -⟩
      obtain ⟨t1, t2, t3, t4, t5, t6⟩ := X1.2.2.2.1
      obtain ⟨z1, z2⟩ := t5 S hS
      refine am_aload_n (n := 29) (i := 0) dX7_restore_28 rfl rfl rfl ?_
      refine gfX7_restore_10 (n := 32) dX7_restore_29 (by first | assumption | exact isC_of (by decide +kernel)) rfl ?_
      refine am_aload_n (n := 33) (i := 0) dX7_restore_32 rfl rfl rfl ?_
      refine gfX7_restore_24 (n := 36) dX7_restore_33 (by first | assumption | exact isC_of (by decide +kernel)) rfl ?_
      refine am_iload_n (n := 37) (i := 1) dX7_restore_36 rfl rfl rfl ?_
      refine am_aldS (n := 38) dX7_restore_37 (by first | assumption | exact isC_of (by decide +kernel)) (by first | assumption | exact vp_in_nI (by omega) (by omega) | exact vp_in_iff.mpr (by decide)) rfl ?_
      rw [show (0 : Int32).toNatClampNeg = 0 from rfl, t1]
      refine caX7_restore_248 (n := 41) dX7_restore_38 (by first | exact ⟨rfl, rfl⟩ | assumption) (ac_X5_beAs g 100 800 S h1 isSt_now isSt_s0 z1 z2 (by omega)) rfl rfl (Nat.le_of_ble_eq_true rfl) (by first | assumption | exact isC_of (by decide +kernel)) rfl ?_
      rintro r h2 ⟨rfl, R2, F2⟩
      refine am_aload_n (n := 42) (i := 0) dX7_restore_41 rfl rfl rfl ?_
      refine gfX7_restore_10 (n := 45) dX7_restore_42 (by first | assumption | exact isC_of (by decide +kernel)) rfl ?_
      refine gfX7_restore_87 (n := 48) dX7_restore_45 (by first | assumption | exact isC_of (by decide +kernel)) rfl ?_
      rw [R2.2.2.1]
      refine am_iret dX7_restore_48 rfl rfl ?_
      exact ⟨rfl, X1.now R2 z2 F2, F1.tr (FM.fr F2 (by omega))⟩
  · rw [if_neg w0]
    by_cases w1 : s = 1
    · subst w1
      rw [if_pos rfl]
      refine am_if_ne (tgt := 12) (n := 9) dX7_restore_6 (by decide) rfl (fun _ => ?_) (fun q_z => absurd q_z (by decide))
      refine am_aload_n (n := 13) (i := 0) dX7_restore_12 rfl rfl rfl ?_
      refine gfX7_restore_27 (n := 16) dX7_restore_13 (by first | assumption | exact isC_of (by decide +kernel)) rfl ?_
      refine am_iload_n (n := 17) (i := 1) dX7_restore_16 rfl rfl rfl ?_
      refine am_zald (n := 18) dX7_restore_17 (by first | assumption | exact isC_of (by decide +kernel)) (by first | assumption | exact vp_in_nI (by omega) (by omega) | exact vp_in_iff.mpr (by decide)) rfl ?_
      rw [show (1 : Int32).toNatClampNeg = 1 from rfl, s4]
      unfold rsS
      cases hS : G.2.2.1.2 with
      | none =>
        refine am_if_ne (tgt := 24) (n := 21) dX7_restore_18 (by decide) rfl (fun q_z => absurd rfl q_z) (fun _ => ?_)
        refine am_bipush (n := 23) (v := (-5)) dX7_restore_21 rfl rfl ?_
        refine am_iret dX7_restore_23 rfl rfl ?_
        exact ⟨rfl, hX, FM.rf⟩
      | some S =>
        dsimp only
        refine am_if_ne (tgt := 24) (n := 21) dX7_restore_18 (by decide) rfl (fun _ => ?_) (fun q_z => absurd q_z (show ¬ (1 : Int32) = 0 by decide))
        refine am_aload_n (n := 25) (i := 0) dX7_restore_24 rfl rfl rfl ?_
        refine caX7_restore_69 (n := 28) dX7_restore_25 (by first | exact ⟨rfl, rfl⟩ | assumption) (ac_X7_recordChange g G h hX) rfl rfl (Nat.le_of_ble_eq_true rfl) (by first | assumption | exact isC_of (by decide +kernel)) rfl ?_
        rintro r h1 ⟨rfl, X1, F1, -⟩
        obtain ⟨t1, t2, t3, t4, t5, t6⟩ := X1.2.2.2.1
        obtain ⟨z1, z2⟩ := t6 S hS
        refine am_aload_n (n := 29) (i := 0) dX7_restore_28 rfl rfl rfl ?_
        refine gfX7_restore_10 (n := 32) dX7_restore_29 (by first | assumption | exact isC_of (by decide +kernel)) rfl ?_
        refine am_aload_n (n := 33) (i := 0) dX7_restore_32 rfl rfl rfl ?_
        refine gfX7_restore_24 (n := 36) dX7_restore_33 (by first | assumption | exact isC_of (by decide +kernel)) rfl ?_
        refine am_iload_n (n := 37) (i := 1) dX7_restore_36 rfl rfl rfl ?_
        refine am_aldS (n := 38) dX7_restore_37 (by first | assumption | exact isC_of (by decide +kernel)) (by first | assumption | exact vp_in_nI (by omega) (by omega) | exact vp_in_iff.mpr (by decide)) rfl ?_
        rw [show (1 : Int32).toNatClampNeg = 1 from rfl, t2]
        refine caX7_restore_248 (n := 41) dX7_restore_38 (by first | exact ⟨rfl, rfl⟩ | assumption) (ac_X5_beAs g 100 900 S h1 isSt_now isSt_s1 z1 z2 (by omega)) rfl rfl (Nat.le_of_ble_eq_true rfl) (by first | assumption | exact isC_of (by decide +kernel)) rfl ?_
        rintro r h2 ⟨rfl, R2, F2⟩
        refine am_aload_n (n := 42) (i := 0) dX7_restore_41 rfl rfl rfl ?_
        refine gfX7_restore_10 (n := 45) dX7_restore_42 (by first | assumption | exact isC_of (by decide +kernel)) rfl ?_
        refine gfX7_restore_87 (n := 48) dX7_restore_45 (by first | assumption | exact isC_of (by decide +kernel)) rfl ?_
        rw [R2.2.2.1]
        refine am_iret dX7_restore_48 rfl rfl ?_
        exact ⟨rfl, X1.now R2 z2 F2, F1.tr (FM.fr F2 (by omega))⟩
    · rw [if_neg w1, show (decide (0 ≤ s) && decide (s ≤ 1)) = false from sw_f (n := 1) (by decide) (fun i hi => by rcases i with _ | _ | i; exact w0; exact w1; omega)]
      refine am_if_ne (tgt := 12) (n := 9) dX7_restore_6 (by decide) rfl (fun q_z => absurd rfl q_z) (fun _ => ?_)
      refine am_bipush (n := 11) (v := (-2)) dX7_restore_9 rfl rfl ?_
      refine am_iret dX7_restore_11 rfl rfl ?_
      exact ⟨rfl, hX, FM.rf⟩
