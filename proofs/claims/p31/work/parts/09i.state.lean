/-! State: writes -/
set_option maxRecDepth 100000 in
set_option maxHeartbeats 800000 in
theorem ac_X5_removeName (g : Gx) (b i : Nat) (S : SV) (h : Hp) (hb : isSt b) (hS : RS b S h) (hV : VS S) (hi : i < S.2.2.1.length) : AC g yX5_removeName wsX5_removeName rmX5_removeName [.ref b, .int (nI i)] h (fun v h' => v = none ∧ RS b (S.1, S.2.1, S.2.2.1.eraseIdx i, S.2.2.2) h' ∧ Fr b (b + 46) h h') := by
  obtain ⟨b0, b1, b2, -⟩ := hb
  obtain ⟨s1, s2, s3, s4, s5, s6⟩ := hS
  have hn := hV.2.2.1
  have he4 := hV.2.2.2.2.1
  obtain ⟨L, nl, ws, es⟩ := S
  simp only at *
  refine AC.of (cc := cX5_removeName) (maxL := 3) (ret := none) (by decide +kernel) rfl (Nat.le_of_ble_eq_true rfl) ?_
  show AW g mmX5_removeName _ 0 [(0, some (.ref b)), (1, some (.int (nI i)))] [] _
  refine am_iload_n (n := 1) (i := 1) dX5_removeName_0 rfl rfl rfl ?_
  refine am_iconst (n := 2) (v := 1) dX5_removeName_1 rfl rfl ?_
  refine am_iadd (n := 3) dX5_removeName_2 rfl ?_
  rw [nI_1]
  refine am_istore_n (n := 4) (i := 2) dX5_removeName_3 rfl (Nat.le_of_ble_eq_true rfl) rfl rfl ?_
  generalize hZ : ZP g (fun v h' => v = none ∧ RS b (L, nl, ws.eraseIdx i, es) h' ∧ Fr b (b + 46) h h') = Z
  have z0 : Z.1 = 0 ∧ Z.2.1 = 0 := by rw [← hZ]; exact ⟨rfl, rfl⟩
  refine am_loc [(0, some (.ref b)), (2, some (.int (nI (i + 1))))] rfl ?_
  have loop : ∀ t, t ≤ ws.length → i < t → ∀ h1 : Hp, (∀ c, h1.1 c = h.1 c) → h1.2.2 = h.2.2 → (∀ c, c ≠ b + 1 → h1.2.1 c = h.2.1 c) → (∀ j, j < ws.length → h1.2.1 (b + 1) j = lN (if i ≤ j ∧ j + 1 < t then ws.getD (j + 1) 0 else ws.getD j 0)) → AW g mmX5_removeName Z 4 [(0, some (.ref b)), (2, some (.int (nI t)))] [] h1 := by
    refine loop_up (Wp := fun t => i < t → ∀ h1 : Hp, (∀ c, h1.1 c = h.1 c) → h1.2.2 = h.2.2 → (∀ c, c ≠ b + 1 → h1.2.1 c = h.2.1 c) → (∀ j, j < ws.length → h1.2.1 (b + 1) j = lN (if i ≤ j ∧ j + 1 < t then ws.getD (j + 1) 0 else ws.getD j 0)) → AW g mmX5_removeName Z 4 [(0, some (.ref b)), (2, some (.int (nI t)))] [] h1) ws.length ?_ ?_
    · intro _ h1 f1 f2 f3 H
      refine am_iload_n (n := 5) (i := 2) dX5_removeName_4 rfl rfl rfl ?_
      refine am_aload_n (n := 6) (i := 0) dX5_removeName_5 rfl rfl rfl ?_
      refine gfX5_removeName_18 (n := 9) dX5_removeName_6 (by first | assumption | exact isC_of (by decide +kernel)) rfl ?_
      rw [f1 b, s3]
      refine am_icmp_ge (tgt := 32) (n := 12) dX5_removeName_9 (by decide) rfl (fun _ => ?_) (fun q_z => absurd (Int32.le_refl _) q_z)
      refine am_aload_n (n := 33) (i := 0) dX5_removeName_32 rfl rfl rfl ?_
      refine am_dup (n := 34) dX5_removeName_33 rfl rfl ?_
      refine gfX5_removeName_18 (n := 37) dX5_removeName_34 (by first | assumption | exact isC_of (by decide +kernel)) rfl ?_
      rw [f1 b, s3]
      refine am_iconst (n := 38) (v := 1) dX5_removeName_37 rfl rfl ?_
      refine am_isub (n := 39) dX5_removeName_38 rfl ?_
      obtain ⟨m, hm⟩ : ∃ m, ws.length = m + 1 := ⟨ws.length - 1, by omega⟩
      rw [hm, nI_pred, ← hZ]
      refine pfX5_removeName_18 (n := 42) dX5_removeName_39 (by first | assumption | exact isC_of (by decide +kernel)) rfl ?_
      refine am_vret dX5_removeName_42 rfl ?_
      have hl : (ws.eraseIdx i).length = m := by rw [List.length_eraseIdx_of_lt hi, hm]; rfl
      refine ⟨rfl, ⟨?_, ?_, ?_, ?_, fun j w hj => ?_, fun e E he => ?_⟩, ⟨fun c hc => ⟨?_, f3 c (by omega)⟩, f2⟩⟩
      · simp (disch := omega) only [setI_s, pk_un]
        rw [f1]
        exact s1
      · simp (disch := omega) only [setI_s, pk_un]
        rw [f1]
        exact s2
      · simp (disch := omega) only [setI_s, pk_us]
        exact congrArg nI hl.symm
      · simp (disch := omega) only [setI_s, pk_un]
        rw [f1]
        exact s4
      · have hj : (ws.eraseIdx i)[j]? = some w := hj
        have hjl := (List.getElem?_eq_some_iff.mp hj).1
        show h1.2.1 (b + 1) j = _
        rw [H j (by omega)]
        rw [List.getElem?_eraseIdx] at hj
        by_cases z : j < i
        · rw [if_pos z] at hj
          rw [if_neg (by omega), gD_of hj]
        · rw [if_neg z] at hj
          rw [if_pos ⟨by omega, by omega⟩, gD_of hj]
      · have hel := (List.getElem?_eq_some_iff.mp he).1
        exact (s6 e E he).kept (fun c c1 c2 => (setI_n _ _ (show c ≠ b by omega)).trans (f1 c))
      · rw [setI_n _ _ (show c ≠ b by omega)]
        exact f1 c
    · intro t ht K hit h1 f1 f2 f3 H
      obtain ⟨m, hm⟩ : ∃ m, t = m + 1 := ⟨t - 1, by omega⟩
      subst hm
      refine am_iload_n (n := 5) (i := 2) dX5_removeName_4 rfl rfl rfl ?_
      refine am_aload_n (n := 6) (i := 0) dX5_removeName_5 rfl rfl rfl ?_
      refine gfX5_removeName_18 (n := 9) dX5_removeName_6 (by first | assumption | exact isC_of (by decide +kernel)) rfl ?_
      rw [f1 b, s3]
      refine am_icmp_ge (tgt := 32) (n := 12) dX5_removeName_9 (by decide) rfl (fun q_z => absurd q_z (nI_ge ht (by omega))) (fun _ => ?_)
      refine am_aload_n (n := 13) (i := 0) dX5_removeName_12 rfl rfl rfl ?_
      refine gfX5_removeName_21 (n := 16) dX5_removeName_13 (by first | assumption | exact isC_of (by decide +kernel)) rfl ?_
      refine am_iload_n (n := 17) (i := 2) dX5_removeName_16 rfl rfl rfl ?_
      refine am_iconst (n := 18) (v := 1) dX5_removeName_17 rfl rfl ?_
      refine am_isub (n := 19) dX5_removeName_18 rfl ?_
      rw [nI_pred]
      refine am_aload_n (n := 20) (i := 0) dX5_removeName_19 rfl rfl rfl ?_
      refine gfX5_removeName_21 (n := 23) dX5_removeName_20 (by first | assumption | exact isC_of (by decide +kernel)) rfl ?_
      refine am_iload_n (n := 24) (i := 2) dX5_removeName_23 rfl rfl rfl ?_
      refine am_lald (n := 25) dX5_removeName_24 (by first | assumption | exact isC_of (by decide +kernel)) (by first | assumption | exact vp_in_nI (by omega) (by omega) | exact vp_in_iff.mpr (by decide)) rfl ?_
      rw [nI_clamp (show m + 1 < 2 ^ 31 by omega), H (m + 1) ht, if_neg (by omega)]
      refine am_last (n := 26) dX5_removeName_25 (by first | assumption | exact isC_of (by decide +kernel)) (by first | assumption | exact vp_in_nI (by omega) (by omega) | exact vp_in_iff.mpr (by decide)) rfl ?_
      first | refine am_iincN (n := 29) dX5_removeName_26 rfl rfl rfl ?_ | refine am_iinc1 (n := 29) dX5_removeName_26 rfl rfl rfl ?_
      refine am_goto (tgt := 4) dX5_removeName_29 (by decide) ?_
      rw [nI_clamp (show m < 2 ^ 31 by omega)]
      refine am_loc _ rfl (K (by omega) _ (fun c => f1 c) f2 (fun c hc => (setJ_n _ _ hc).trans (f3 c hc)) (fun j hj => ?_))
      rw [setJ_s]
      by_cases z : j = m
      · subst z
        rw [pk_uLs, if_pos ⟨by omega, by omega⟩]
      · rw [pk_uLn z, H j hj]
        by_cases q : i ≤ j ∧ j + 1 < m + 1
        · rw [if_pos q, if_pos ⟨q.1, by omega⟩]
        · rw [if_neg q, if_neg (by omega)]
  exact loop (i + 1) (by omega) (by omega) h (fun _ => rfl) rfl (fun _ _ => rfl) (fun j hj => by rw [if_neg (by omega)]; exact s5 j _ (gD_at hj))
theorem VE_at {S : SV} (hV : VS S) {e : Nat} {E : EV} (h : S.2.2.2[e]? = some E) : VE E := hV.2.2.2.2.2 E (List.mem_of_getElem? h)
set_option maxRecDepth 100000 in
set_option maxHeartbeats 1600000 in
theorem ac_X5_beAs (g : Gx) (b b2 : Nat) (S : SV) (h : Hp) (hb : isSt b) (hb2 : isSt b2) (hS : RS b2 S h) (hV : VS S) (hd : b + 46 < b2 ∨ b2 + 46 < b) : AC g yX5_beAs wsX5_beAs rmX5_beAs [.ref b, .ref b2] h (fun v h' => v = none ∧ RS b S h' ∧ Fr b (b + 46) h h') := by
  obtain ⟨b0, b1, bE, be⟩ := hb
  obtain ⟨c0, c1, cE, ce⟩ := hb2
  obtain ⟨s1, s2, s3, s4, s5, s6⟩ := hS
  have hn := hV.2.2.1
  have he4 := hV.2.2.2.2.1
  refine AC.of (cc := cX5_beAs) (maxL := 3) (ret := none) (by decide +kernel) rfl (Nat.le_of_ble_eq_true rfl) ?_
  show AW g mmX5_beAs _ 0 [(0, some (.ref b)), (1, some (.ref b2))] [] _
  refine am_aload_n (n := 1) (i := 0) dX5_beAs_0 rfl rfl rfl ?_
  refine am_aload_n (n := 2) (i := 1) dX5_beAs_1 rfl rfl rfl ?_
  refine gfX5_beAs_9 (n := 5) dX5_beAs_2 (by first | assumption | exact isC_of (by decide +kernel)) rfl ?_
  refine pfX5_beAs_9 (n := 8) dX5_beAs_5 (by first | assumption | exact isC_of (by decide +kernel)) rfl ?_
  refine am_aload_n (n := 9) (i := 0) dX5_beAs_8 rfl rfl rfl ?_
  refine am_aload_n (n := 10) (i := 1) dX5_beAs_9 rfl rfl rfl ?_
  refine gfX5_beAs_15 (n := 13) dX5_beAs_10 (by first | assumption | exact isC_of (by decide +kernel)) rfl ?_
  refine pfX5_beAs_15 (n := 16) dX5_beAs_13 (by first | assumption | exact isC_of (by decide +kernel)) rfl ?_
  refine am_aload_n (n := 17) (i := 0) dX5_beAs_16 rfl rfl rfl ?_
  refine am_aload_n (n := 18) (i := 1) dX5_beAs_17 rfl rfl rfl ?_
  refine gfX5_beAs_18 (n := 21) dX5_beAs_18 (by first | assumption | exact isC_of (by decide +kernel)) rfl ?_
  refine pfX5_beAs_18 (n := 24) dX5_beAs_21 (by first | assumption | exact isC_of (by decide +kernel)) rfl ?_
  refine am_aload_n (n := 25) (i := 1) dX5_beAs_24 rfl rfl rfl ?_
  refine gfX5_beAs_21 (n := 28) dX5_beAs_25 (by first | assumption | exact isC_of (by decide +kernel)) rfl ?_
  refine am_iconst (n := 29) (v := 0) dX5_beAs_28 rfl rfl ?_
  refine am_aload_n (n := 30) (i := 0) dX5_beAs_29 rfl rfl rfl ?_
  refine gfX5_beAs_21 (n := 33) dX5_beAs_30 (by first | assumption | exact isC_of (by decide +kernel)) rfl ?_
  refine am_iconst (n := 34) (v := 0) dX5_beAs_33 rfl rfl ?_
  refine am_bipush (n := 36) (v := 24) dX5_beAs_34 rfl rfl ?_
  refine am_copyl (n := 39) dX5_beAs_36 (by decide +kernel) (by decide +kernel) (by decide +kernel) (by decide +kernel) (Nat.le_of_ble_eq_true rfl) (Nat.le_of_ble_eq_true rfl) (by first | assumption | exact isC_of (by decide +kernel)) (by first | assumption | exact isC_of (by decide +kernel)) (by decide) (by decide) (by decide) (by decide) (by decide) rfl ?_
  refine am_aload_n (n := 40) (i := 0) dX5_beAs_39 rfl rfl rfl ?_
  refine am_aload_n (n := 41) (i := 1) dX5_beAs_40 rfl rfl rfl ?_
  refine gfX5_beAs_25 (n := 44) dX5_beAs_41 (by first | assumption | exact isC_of (by decide +kernel)) rfl ?_
  refine pfX5_beAs_25 (n := 47) dX5_beAs_44 (by first | assumption | exact isC_of (by decide +kernel)) rfl ?_
  refine am_iconst (n := 48) (v := 0) dX5_beAs_47 rfl rfl ?_
  refine am_istore_n (n := 49) (i := 2) dX5_beAs_48 rfl (Nat.le_of_ble_eq_true rfl) rfl rfl ?_
  simp (disch := omega) only [setI_n, setI_J, setJ_1, setI_s, pk_un, s1, s2, s3, s4]
  generalize hZ : ZP g (fun v h' => v = none ∧ RS b S h' ∧ Fr b (b + 46) h h') = Z
  have z0 : Z.1 = 0 ∧ Z.2.1 = 0 := by rw [← hZ]; exact ⟨rfl, rfl⟩
  refine am_loc [(0, some (.ref b)), (1, some (.ref b2)), (2, some (.int (nI 0)))] rfl ?_
  refine loop_up (Wp := fun e => ∀ h1 : Hp, Fr b (b + 46) h h1 → h1.1 b 0 = nI S.1 → h1.1 b 1 = nI S.2.1 → h1.1 b 2 = nI S.2.2.1.length → h1.1 b 4 = nI S.2.2.2.length → (∀ i w, S.2.2.1[i]? = some w → h1.2.1 (b + 1) i = lN w) → (∀ e' E, e' < e → S.2.2.2[e']? = some E → RE (b + 10 * (e' + 1)) E h1) → AW g mmX5_beAs Z 49 [(0, some (.ref b)), (1, some (.ref b2)), (2, some (.int (nI e)))] [] h1) S.2.2.2.length ?_ ?_ 0 (Nat.zero_le _) _ ?_ ?_ ?_ ?_ ?_ ?_ (fun e' E he' => by omega)
  · intro h1 F g1 g2 g3 g4 g5 g6
    refine am_iload_n (n := 50) (i := 2) dX5_beAs_49 rfl rfl rfl ?_
    refine am_aload_n (n := 51) (i := 0) dX5_beAs_50 rfl rfl rfl ?_
    refine gfX5_beAs_25 (n := 54) dX5_beAs_51 (by first | assumption | exact isC_of (by decide +kernel)) rfl ?_
    rw [g4]
    refine am_icmp_ge (tgt := 87) (n := 57) dX5_beAs_54 (by decide) rfl (fun _ => ?_) (fun q_z => absurd (Int32.le_refl _) q_z)
    rw [← hZ]
    refine am_vret dX5_beAs_87 rfl ?_
    exact ⟨rfl, ⟨g1, g2, g3, g4, g5, fun e E he => g6 e E (List.getElem?_eq_some_iff.mp he).1 he⟩, F⟩
  · intro e hel K h1 F g1 g2 g3 g4 g5 g6
    have hE := List.getElem?_eq_getElem hel
    have hVE := VE_at hV hE
    have hE1 := (s6 e _ hE).kept (h' := h1) (fun c q1 q2 => (F.1 c (by omega)).1)
    generalize S.2.2.2[e] = E at *
    have q1 : b + 2 + 8 + 10 * e = b + 10 * (e + 1) := by omega
    have q2 : b2 + 2 + 8 + 10 * e = b2 + 10 * (e + 1) := by omega
    refine am_iload_n (n := 50) (i := 2) dX5_beAs_49 rfl rfl rfl ?_
    refine am_aload_n (n := 51) (i := 0) dX5_beAs_50 rfl rfl rfl ?_
    refine gfX5_beAs_25 (n := 54) dX5_beAs_51 (by first | assumption | exact isC_of (by decide +kernel)) rfl ?_
    rw [g4]
    refine am_icmp_ge (tgt := 87) (n := 57) dX5_beAs_54 (by decide) rfl (fun q_z => absurd q_z (nI_ge hel (by omega))) (fun _ => ?_)
    refine am_iload_n (n := 58) (i := 2) dX5_beAs_57 rfl rfl rfl ?_
    refine am_aload_n (n := 59) (i := 0) dX5_beAs_58 rfl rfl rfl ?_
    refine gfX5_beAs_30 (n := 62) dX5_beAs_59 (by first | assumption | exact isC_of (by decide +kernel)) rfl ?_
    refine am_alen (n := 63) dX5_beAs_62 (by first | assumption | exact isC_of (by decide +kernel)) (by decide) rfl rfl ?_
    refine am_icmp_ge (tgt := 87) (n := 66) dX5_beAs_63 (by decide) rfl (fun q_z => absurd q_z (nI_ge (show e < 4 by omega) (by decide))) (fun _ => ?_)
    have hin : vp_in (nI e) 4 := vp_in_nI (by omega) (by decide)
    refine am_aload_n (n := 67) (i := 0) dX5_beAs_66 rfl rfl rfl ?_
    refine gfX5_beAs_30 (n := 70) dX5_beAs_67 (by first | assumption | exact isC_of (by decide +kernel)) rfl ?_
    refine am_iload_n (n := 71) (i := 2) dX5_beAs_70 rfl rfl rfl ?_
    refine am_aldE (n := 72) dX5_beAs_71 (by first | assumption | exact isC_of (by decide +kernel)) (by first | assumption | exact vp_in_nI (by omega) (by omega) | exact vp_in_iff.mpr (by decide)) rfl ?_
    refine am_aload_n (n := 73) (i := 1) dX5_beAs_72 rfl rfl rfl ?_
    refine gfX5_beAs_30 (n := 76) dX5_beAs_73 (by first | assumption | exact isC_of (by decide +kernel)) rfl ?_
    refine am_iload_n (n := 77) (i := 2) dX5_beAs_76 rfl rfl rfl ?_
    refine am_aldE (n := 78) dX5_beAs_77 (by first | assumption | exact isC_of (by decide +kernel)) (by first | assumption | exact vp_in_nI (by omega) (by omega) | exact vp_in_iff.mpr (by decide)) rfl ?_
    rw [nI_clamp (by omega), q1, q2]
    have i0 := be e (by omega)
    have i1 := ce e (by omega)
    have i00 := i0.1
    refine caX5_beAs_41 (n := 81) dX5_beAs_78 (by first | exact ⟨rfl, rfl⟩ | assumption) (ac_X2_beAs g (b + 10 * (e + 1)) (b2 + 10 * (e + 1)) E h1 i0 i1 hE1 hVE (by omega)) rfl rfl (Nat.le_of_ble_eq_true rfl) (by first | assumption | exact isC_of (by decide +kernel)) rfl ?_
    rintro r h2 ⟨rfl, R2, F2⟩
    have f0 := F2.1 b (by omega)
    first | refine am_iincN (n := 84) dX5_beAs_81 rfl rfl rfl ?_ | refine am_iinc1 (n := 84) dX5_beAs_81 rfl rfl rfl ?_
    refine am_goto (tgt := 49) dX5_beAs_84 (by decide) ?_
    refine am_loc _ rfl (K h2 (F.tr (F2.toFr.wide (by omega) (by omega))) (by rw [f0]; exact g1) (by rw [f0]; exact g2) (by rw [f0]; exact g3) (by rw [f0]; exact g4) (fun i w hw => by rw [F2.2]; exact g5 i w hw) (fun e' E' he' hE' => ?_))
    by_cases z : e' = e
    · subst z
      rw [hE] at hE'
      rw [← Option.some.inj hE']
      exact R2
    · exact (g6 e' E' (by omega) hE').kept (fun c w1 w2 => F2.1 c (by omega))
  · exact ((((Fr.rf.sI _ (by omega) (by omega)).sI _ (by omega) (by omega)).sI _ (by omega) (by omega)).sJ _ (by omega) (by omega)).sI _ (by omega) (by omega)
  · simp (disch := omega) only [setI_n, setI_J, setJ_1, setI_s, pk_un, pk_us]
  · simp (disch := omega) only [setI_n, setI_J, setJ_1, setI_s, pk_un, pk_us]
  · simp (disch := omega) only [setI_n, setI_J, setJ_1, setI_s, pk_un, pk_us]
  · simp (disch := omega) only [setI_n, setI_J, setJ_1, setI_s, pk_un, pk_us]
  · intro i w hw
    have hi := (List.getElem?_eq_some_iff.mp hw).1
    simp (disch := omega) only [setI_J, setJ_s]
    exact (pk_cpy_in (Nat.zero_le _) (show i < 0 + 24 by omega)).trans ((congrArg _ (show 0 + (i - 0) = i by omega)).trans (s5 i w hw))
