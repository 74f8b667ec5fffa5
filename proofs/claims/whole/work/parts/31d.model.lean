/-! The reference: save, restore, wipe, fault, put -/
set_option maxRecDepth 100000 in
set_option maxHeartbeats 400000 in
theorem cm_save (g : Gx) (s : Int32) (G : GS) (h : Hp) (hX : MG G h) : CM g yX8_save wsX8_save rmX8_save [.ref 40, .int s] h (sp_save s G) := by
  have c40 := isC_40
  have c41 := isC_41
  have c44 := isC_44
  have c45 := isC_45
  obtain ⟨xR, xV, xPp, ⟨l1, l2, l3, l4⟩, xD, xP⟩ := hX
  unfold CM sp_save
  refine AC.of (cc := cX8_save) (maxL := 2) (ret := (some .int)) (by decide +kernel) rfl (Nat.le_of_ble_eq_true rfl) ?_
  show AW g mmX8_save _ 0 [(0, some (.ref 40)), (1, some (.int s))] [] _
  refine am_iload_n (n := 1) (i := 1) dX8_save_0 rfl rfl rfl ?_
  refine am_iconst (n := 2) (v := 0) dX8_save_1 rfl rfl ?_
  refine am_iconst (n := 3) (v := 1) dX8_save_2 rfl rfl ?_
  refine cdX8_save_51 (n := 6) dX8_save_3 (by first | exact ⟨rfl, rfl⟩ | assumption) (m_in g s 0 1 h) rfl rfl (Nat.le_of_ble_eq_true rfl) rfl ?_
  by_cases w0 : s = 0
  · subst w0
    rw [if_pos rfl]
    refine am_if_ne (tgt := 12) (n := 9) dX8_save_6 (by decide) rfl (fun _ => ?_) (fun q_z => absurd q_z (by decide))
    refine am_aload_n (n := 13) (i := 0) dX8_save_12 rfl rfl rfl ?_
    refine gfX8_save_7 (n := 16) dX8_save_13 (by first | assumption | exact isC_of (by decide +kernel)) rfl ?_
    refine am_iconst (n := 17) (v := 0) dX8_save_16 rfl rfl ?_
    refine am_aload_n (n := 18) (i := 0) dX8_save_17 rfl rfl rfl ?_
    refine gfX8_save_19 (n := 21) dX8_save_18 (by first | assumption | exact isC_of (by decide +kernel)) rfl ?_
    refine am_sipush (n := 24) (v := 580) dX8_save_21 rfl rfl ?_
    refine am_iload_n (n := 25) (i := 1) dX8_save_24 rfl rfl rfl ?_
    refine am_imul (n := 26) dX8_save_25 rfl ?_
    rw [show (580 : Int32) * 0 = nI 0 from rfl]
    refine cdX8_save_59 (n := 29) dX8_save_26 (by first | exact ⟨rfl, rfl⟩ | assumption) (m_copyState g 41 44 0 0 580 1160 h c41 c44 (by decide) (by omega) (by omega) (by omega) (by omega)) rfl rfl (Nat.le_of_ble_eq_true rfl) rfl ?_
    refine am_aload_n (n := 30) (i := 0) dX8_save_29 rfl rfl rfl ?_
    refine gfX8_save_22 (n := 33) dX8_save_30 (by first | assumption | exact isC_of (by decide +kernel)) rfl ?_
    refine am_iload_n (n := 34) (i := 1) dX8_save_33 rfl rfl rfl ?_
    refine am_iconst (n := 35) (v := 1) dX8_save_34 rfl rfl ?_
    refine am_zast (n := 36) dX8_save_35 (by first | assumption | exact isC_of (by decide +kernel)) (by first | assumption | exact vp_in_nI (by omega) (by omega) | exact vp_in_iff.mpr (by decide)) rfl ?_
    refine am_aload_n (n := 37) (i := 0) dX8_save_36 rfl rfl rfl ?_
    refine gfX8_save_7 (n := 40) dX8_save_37 (by first | assumption | exact isC_of (by decide +kernel)) rfl ?_
    refine am_iconst (n := 41) (v := 2) dX8_save_40 rfl rfl ?_
    refine am_iald (n := 42) dX8_save_41 (by first | assumption | exact isC_of (by decide +kernel)) (by first | assumption | exact vp_in_nI (by omega) (by omega) | exact vp_in_iff.mpr (by decide)) rfl ?_
    rw [setI_n _ _ (show (41 : Nat) ≠ 45 by decide), setI_n _ _ (show (41 : Nat) ≠ 44 by decide), show (2 : Int32).toNatClampNeg = 2 from rfl, show h.1 41 2 = nI G.1.2.2.1.length from xR.2.2.1]
    refine am_iret dX8_save_42 rfl rfl ?_
    refine ⟨rfl, ⟨?_, xV, ?_, ⟨?_, ?_, fun S hS => ?_, fun S hS => ?_⟩, ?_, xP⟩, (Fr.rf.sI _ (by omega) (by omega)).sI _ (by omega) (by omega)⟩
    · rw [setI_n _ _ (by omega), setI_n _ _ (by omega)]
      exact xR
    · unfold PZ
      rw [setI_n _ _ (by omega), setI_n _ _ (by omega), setI_n _ _ (by omega), setI_n _ _ (by omega)]
      exact xPp
    · rw [setI_s]
      exact pk_us
    · rw [setI_s]
      refine (pk_un (by decide)).trans ?_
      rw [setI_n _ _ (by omega)]
      exact l2
    · rw [setI_n _ _ (by omega), setI_s, ← Option.some.inj hS]
      refine ⟨xR.to xV (fun i hi => ?_), xV⟩
      unfold cpy
      rw [if_pos (by omega), show 0 + (0 + i - 0) = 0 + i by omega]
    · rw [setI_n _ _ (by omega), setI_s]
      obtain ⟨y1, y2⟩ := l4 S hS
      refine ⟨y1.to y2 (fun i hi => ?_), y2⟩
      unfold cpy
      rw [if_neg (by omega)]
    · refine ⟨?_, fun i c hc => ?_⟩
      · rw [setI_n _ _ (by omega), setI_n _ _ (by omega)]
        exact xD.1
      · rw [setI_n _ _ (by omega), setI_n _ _ (by omega)]
        exact xD.2 i c hc
  · rw [if_neg w0]
    by_cases w1 : s = 1
    · subst w1
      rw [if_pos rfl]
      refine am_if_ne (tgt := 12) (n := 9) dX8_save_6 (by decide) rfl (fun _ => ?_) (fun q_z => absurd q_z (by decide))
      refine am_aload_n (n := 13) (i := 0) dX8_save_12 rfl rfl rfl ?_
      refine gfX8_save_7 (n := 16) dX8_save_13 (by first | assumption | exact isC_of (by decide +kernel)) rfl ?_
      refine am_iconst (n := 17) (v := 0) dX8_save_16 rfl rfl ?_
      refine am_aload_n (n := 18) (i := 0) dX8_save_17 rfl rfl rfl ?_
      refine gfX8_save_19 (n := 21) dX8_save_18 (by first | assumption | exact isC_of (by decide +kernel)) rfl ?_
      refine am_sipush (n := 24) (v := 580) dX8_save_21 rfl rfl ?_
      refine am_iload_n (n := 25) (i := 1) dX8_save_24 rfl rfl rfl ?_
      refine am_imul (n := 26) dX8_save_25 rfl ?_
      rw [show (580 : Int32) * 1 = nI 580 from rfl]
      refine cdX8_save_59 (n := 29) dX8_save_26 (by first | exact ⟨rfl, rfl⟩ | assumption) (m_copyState g 41 44 0 580 580 1160 h c41 c44 (by decide) (by omega) (by omega) (by omega) (by omega)) rfl rfl (Nat.le_of_ble_eq_true rfl) rfl ?_
      refine am_aload_n (n := 30) (i := 0) dX8_save_29 rfl rfl rfl ?_
      refine gfX8_save_22 (n := 33) dX8_save_30 (by first | assumption | exact isC_of (by decide +kernel)) rfl ?_
      refine am_iload_n (n := 34) (i := 1) dX8_save_33 rfl rfl rfl ?_
      refine am_iconst (n := 35) (v := 1) dX8_save_34 rfl rfl ?_
      refine am_zast (n := 36) dX8_save_35 (by first | assumption | exact isC_of (by decide +kernel)) (by first | assumption | exact vp_in_nI (by omega) (by omega) | exact vp_in_iff.mpr (by decide)) rfl ?_
      refine am_aload_n (n := 37) (i := 0) dX8_save_36 rfl rfl rfl ?_
      refine gfX8_save_7 (n := 40) dX8_save_37 (by first | assumption | exact isC_of (by decide +kernel)) rfl ?_
      refine am_iconst (n := 41) (v := 2) dX8_save_40 rfl rfl ?_
      refine am_iald (n := 42) dX8_save_41 (by first | assumption | exact isC_of (by decide +kernel)) (by first | assumption | exact vp_in_nI (by omega) (by omega) | exact vp_in_iff.mpr (by decide)) rfl ?_
      rw [setI_n _ _ (show (41 : Nat) ≠ 45 by decide), setI_n _ _ (show (41 : Nat) ≠ 44 by decide), show (2 : Int32).toNatClampNeg = 2 from rfl, show h.1 41 2 = nI G.1.2.2.1.length from xR.2.2.1]
      refine am_iret dX8_save_42 rfl rfl ?_
      refine ⟨rfl, ⟨?_, xV, ?_, ⟨?_, ?_, fun S hS => ?_, fun S hS => ?_⟩, ?_, xP⟩, (Fr.rf.sI _ (by omega) (by omega)).sI _ (by omega) (by omega)⟩
      · rw [setI_n _ _ (by omega), setI_n _ _ (by omega)]
        exact xR
      · unfold PZ
        rw [setI_n _ _ (by omega), setI_n _ _ (by omega), setI_n _ _ (by omega), setI_n _ _ (by omega)]
        exact xPp
      · rw [setI_s]
        refine (pk_un (by decide)).trans ?_
        rw [setI_n _ _ (by omega)]
        exact l1
      · rw [setI_s]
        exact pk_us
      · rw [setI_n _ _ (by omega), setI_s]
        obtain ⟨y1, y2⟩ := l3 S hS
        refine ⟨y1.to y2 (fun i hi => ?_), y2⟩
        unfold cpy
        rw [if_neg (by omega)]
      · rw [setI_n _ _ (by omega), setI_s, ← Option.some.inj hS]
        refine ⟨xR.to xV (fun i hi => ?_), xV⟩
        unfold cpy
        rw [if_pos (by omega), show 0 + (580 + i - 580) = 0 + i by omega]
      · refine ⟨?_, fun i c hc => ?_⟩
        · rw [setI_n _ _ (by omega), setI_n _ _ (by omega)]
          exact xD.1
        · rw [setI_n _ _ (by omega), setI_n _ _ (by omega)]
          exact xD.2 i c hc
    · rw [if_neg w1, show (decide (0 ≤ s) && decide (s ≤ 1)) = false from sw_f (n := 1) (by decide) (fun i hi => by rcases i with _ | _ | i; exact w0; exact w1; omega)]
      refine am_if_ne (tgt := 12) (n := 9) dX8_save_6 (by decide) rfl (fun q_z => absurd rfl q_z) (fun _ => ?_)
      refine am_bipush (n := 11) (v := (-2)) dX8_save_9 rfl rfl ?_
      refine am_iret dX8_save_11 rfl rfl ?_
      exact ⟨rfl, ⟨xR, xV, xPp, ⟨l1, l2, l3, l4⟩, xD, xP⟩, Fr.rf⟩
set_option maxRecDepth 100000 in
set_option maxHeartbeats 400000 in
theorem cm_restore (g : Gx) (s : Int32) (G : GS) (h : Hp) (hX : MG G h) : CM g yX8_restore wsX8_restore rmX8_restore [.ref 40, .int s] h (sp_restore s G) := by
  have c40 := isC_40
  have c41 := isC_41
  have c44 := isC_44
  have c45 := isC_45
  obtain ⟨l1, l2, l3, l4⟩ := hX.2.2.2.1
  unfold CM sp_restore
  refine AC.of (cc := cX8_restore) (maxL := 2) (ret := (some .int)) (by decide +kernel) rfl (Nat.le_of_ble_eq_true rfl) ?_
  show AW g mmX8_restore _ 0 [(0, some (.ref 40)), (1, some (.int s))] [] _
  refine am_iload_n (n := 1) (i := 1) dX8_restore_0 rfl rfl rfl ?_
  refine am_iconst (n := 2) (v := 0) dX8_restore_1 rfl rfl ?_
  refine am_iconst (n := 3) (v := 1) dX8_restore_2 rfl rfl ?_
  refine cdX8_restore_51 (n := 6) dX8_restore_3 (by first | exact ⟨rfl, rfl⟩ | assumption) (m_in g s 0 1 h) rfl rfl (Nat.le_of_ble_eq_true rfl) rfl ?_
  by_cases w0 : s = 0
  · subst w0
    rw [if_pos rfl]
    refine am_if_ne (tgt := 12) (n := 9) dX8_restore_6 (by decide) rfl (fun _ => ?_) (fun q_z => absurd q_z (by decide))
    refine am_aload_n (n := 13) (i := 0) dX8_restore_12 rfl rfl rfl ?_
    refine gfX8_restore_22 (n := 16) dX8_restore_13 (by first | assumption | exact isC_of (by decide +kernel)) rfl ?_
    refine am_iload_n (n := 17) (i := 1) dX8_restore_16 rfl rfl rfl ?_
    refine am_zald (n := 18) dX8_restore_17 (by first | assumption | exact isC_of (by decide +kernel)) (by first | assumption | exact vp_in_nI (by omega) (by omega) | exact vp_in_iff.mpr (by decide)) rfl ?_
    rw [show (0 : Int32).toNatClampNeg = 0 from rfl, l1]
    unfold rsS
    cases hS : G.2.2.1.1 with
    | none =>
      refine am_if_ne (tgt := 24) (n := 21) dX8_restore_18 (by decide) rfl (fun q_z => absurd rfl q_z) (fun _ => ?_)
      refine am_bipush (n := 23) (v := (-5)) dX8_restore_21 rfl rfl ?_
      refine am_iret dX8_restore_23 rfl rfl ?_
      exact ⟨rfl, hX, Fr.rf⟩
    | some S =>
      dsimp only
      refine am_if_ne (tgt := 24) (n := 21) dX8_restore_18 (by decide) rfl (fun _ => ?_) (fun q_z => absurd q_z (show ¬ (1 : Int32) = 0 by decide))
      refine am_aload_n (n := 25) (i := 0) dX8_restore_24 rfl rfl rfl ?_
      refine caX8_restore_63 (n := 28) dX8_restore_25 (by first | exact ⟨rfl, rfl⟩ | assumption) (m_record g G h hX) rfl rfl (Nat.le_of_ble_eq_true rfl) (by first | assumption | exact isC_of (by decide +kernel)) rfl ?_
      rintro r h1 ⟨rfl, X1, F1, -⟩
      obtain ⟨y1, y2⟩ := X1.2.2.2.1.2.2.1 S hS
      refine am_aload_n (n := 29) (i := 0) dX8_restore_28 rfl rfl rfl ?_
      refine gfX8_restore_19 (n := 32) dX8_restore_29 (by first | assumption | exact isC_of (by decide +kernel)) rfl ?_
      refine am_sipush (n := 35) (v := 580) dX8_restore_32 rfl rfl ?_
      refine am_iload_n (n := 36) (i := 1) dX8_restore_35 rfl rfl rfl ?_
      refine am_imul (n := 37) dX8_restore_36 rfl ?_
      refine am_aload_n (n := 38) (i := 0) dX8_restore_37 rfl rfl rfl ?_
      refine gfX8_restore_7 (n := 41) dX8_restore_38 (by first | assumption | exact isC_of (by decide +kernel)) rfl ?_
      refine am_iconst (n := 42) (v := 0) dX8_restore_41 rfl rfl ?_
      rw [show (580 : Int32) * 0 = nI 0 from rfl]
      refine cdX8_restore_59 (n := 45) dX8_restore_42 (by first | exact ⟨rfl, rfl⟩ | assumption) (m_copyState g 44 41 0 0 1160 580 h1 c44 c41 (by decide) (by omega) (by omega) (by omega) (by omega)) rfl rfl (Nat.le_of_ble_eq_true rfl) rfl ?_
      have R2 : RZ 0 S (cpy (h1.1 44) 0 (h1.1 41) 0 580) := y1.to y2 (fun i hi => by
        unfold cpy
        rw [if_pos (by omega), show 0 + (0 + i - 0) = 0 + i by omega])
      refine am_aload_n (n := 46) (i := 0) dX8_restore_45 rfl rfl rfl ?_
      refine gfX8_restore_7 (n := 49) dX8_restore_46 (by first | assumption | exact isC_of (by decide +kernel)) rfl ?_
      refine am_iconst (n := 50) (v := 2) dX8_restore_49 rfl rfl ?_
      refine am_iald (n := 51) dX8_restore_50 (by first | assumption | exact isC_of (by decide +kernel)) (by first | assumption | exact vp_in_nI (by omega) (by omega) | exact vp_in_iff.mpr (by decide)) rfl ?_
      rw [setI_s, show (2 : Int32).toNatClampNeg = 2 from rfl, show cpy (h1.1 44) 0 (h1.1 41) 0 580 2 = nI S.2.2.1.length from R2.2.2.1]
      refine am_iret dX8_restore_51 rfl rfl ?_
      exact ⟨rfl, X1.now (by rw [setI_s]; exact R2) y2 (by rw [setI_n _ _ (by omega)]) (by rw [setI_n _ _ (by omega)]) (fun c w1 w2 => setI_n _ _ (by omega)), F1.sI _ (by omega) (by omega)⟩
  · rw [if_neg w0]
    by_cases w1 : s = 1
    · subst w1
      rw [if_pos rfl]
      refine am_if_ne (tgt := 12) (n := 9) dX8_restore_6 (by decide) rfl (fun _ => ?_) (fun q_z => absurd q_z (by decide))
      refine am_aload_n (n := 13) (i := 0) dX8_restore_12 rfl rfl rfl ?_
      refine gfX8_restore_22 (n := 16) dX8_restore_13 (by first | assumption | exact isC_of (by decide +kernel)) rfl ?_
      refine am_iload_n (n := 17) (i := 1) dX8_restore_16 rfl rfl rfl ?_
      refine am_zald (n := 18) dX8_restore_17 (by first | assumption | exact isC_of (by decide +kernel)) (by first | assumption | exact vp_in_nI (by omega) (by omega) | exact vp_in_iff.mpr (by decide)) rfl ?_
      rw [show (1 : Int32).toNatClampNeg = 1 from rfl, l2]
      unfold rsS
      cases hS : G.2.2.1.2 with
      | none =>
        refine am_if_ne (tgt := 24) (n := 21) dX8_restore_18 (by decide) rfl (fun q_z => absurd rfl q_z) (fun _ => ?_)
        refine am_bipush (n := 23) (v := (-5)) dX8_restore_21 rfl rfl ?_
        refine am_iret dX8_restore_23 rfl rfl ?_
        exact ⟨rfl, hX, Fr.rf⟩
      | some S =>
        dsimp only
        refine am_if_ne (tgt := 24) (n := 21) dX8_restore_18 (by decide) rfl (fun _ => ?_) (fun q_z => absurd q_z (show ¬ (1 : Int32) = 0 by decide))
        refine am_aload_n (n := 25) (i := 0) dX8_restore_24 rfl rfl rfl ?_
        refine caX8_restore_63 (n := 28) dX8_restore_25 (by first | exact ⟨rfl, rfl⟩ | assumption) (m_record g G h hX) rfl rfl (Nat.le_of_ble_eq_true rfl) (by first | assumption | exact isC_of (by decide +kernel)) rfl ?_
        rintro r h1 ⟨rfl, X1, F1, -⟩
        obtain ⟨y1, y2⟩ := X1.2.2.2.1.2.2.2 S hS
        refine am_aload_n (n := 29) (i := 0) dX8_restore_28 rfl rfl rfl ?_
        refine gfX8_restore_19 (n := 32) dX8_restore_29 (by first | assumption | exact isC_of (by decide +kernel)) rfl ?_
        refine am_sipush (n := 35) (v := 580) dX8_restore_32 rfl rfl ?_
        refine am_iload_n (n := 36) (i := 1) dX8_restore_35 rfl rfl rfl ?_
        refine am_imul (n := 37) dX8_restore_36 rfl ?_
        refine am_aload_n (n := 38) (i := 0) dX8_restore_37 rfl rfl rfl ?_
        refine gfX8_restore_7 (n := 41) dX8_restore_38 (by first | assumption | exact isC_of (by decide +kernel)) rfl ?_
        refine am_iconst (n := 42) (v := 0) dX8_restore_41 rfl rfl ?_
        rw [show (580 : Int32) * 1 = nI 580 from rfl]
        refine cdX8_restore_59 (n := 45) dX8_restore_42 (by first | exact ⟨rfl, rfl⟩ | assumption) (m_copyState g 44 41 580 0 1160 580 h1 c44 c41 (by decide) (by omega) (by omega) (by omega) (by omega)) rfl rfl (Nat.le_of_ble_eq_true rfl) rfl ?_
        have R2 : RZ 0 S (cpy (h1.1 44) 580 (h1.1 41) 0 580) := y1.to y2 (fun i hi => by
          unfold cpy
          rw [if_pos (by omega), show 580 + (0 + i - 0) = 580 + i by omega])
        refine am_aload_n (n := 46) (i := 0) dX8_restore_45 rfl rfl rfl ?_
        refine gfX8_restore_7 (n := 49) dX8_restore_46 (by first | assumption | exact isC_of (by decide +kernel)) rfl ?_
        refine am_iconst (n := 50) (v := 2) dX8_restore_49 rfl rfl ?_
        refine am_iald (n := 51) dX8_restore_50 (by first | assumption | exact isC_of (by decide +kernel)) (by first | assumption | exact vp_in_nI (by omega) (by omega) | exact vp_in_iff.mpr (by decide)) rfl ?_
        rw [setI_s, show (2 : Int32).toNatClampNeg = 2 from rfl, show cpy (h1.1 44) 580 (h1.1 41) 0 580 2 = nI S.2.2.1.length from R2.2.2.1]
        refine am_iret dX8_restore_51 rfl rfl ?_
        exact ⟨rfl, X1.now (by rw [setI_s]; exact R2) y2 (by rw [setI_n _ _ (by omega)]) (by rw [setI_n _ _ (by omega)]) (fun c w1 w2 => setI_n _ _ (by omega)), F1.sI _ (by omega) (by omega)⟩
    · rw [if_neg w1, show (decide (0 ≤ s) && decide (s ≤ 1)) = false from sw_f (n := 1) (by decide) (fun i hi => by rcases i with _ | _ | i; exact w0; exact w1; omega)]
      refine am_if_ne (tgt := 12) (n := 9) dX8_restore_6 (by decide) rfl (fun q_z => absurd rfl q_z) (fun _ => ?_)
      refine am_bipush (n := 11) (v := (-2)) dX8_restore_9 rfl rfl ?_
      refine am_iret dX8_restore_11 rfl rfl ?_
      exact ⟨rfl, hX, Fr.rf⟩
/-- the text changes -/
theorem MG.pad {G : GS} {p : List Nat} {h h' : Hp} (x : MG G h) (r : DZ p h') (v : VP p) (f3 : h'.1 40 3 = h.1 40 3) (f : ∀ c, 41 ≤ c → c ≤ 45 → h'.1 c = h.1 c) : MG (G.1, G.2.1, G.2.2.1, p) h' := by
  obtain ⟨x1, x2, x3, x4, x5, x6⟩ := x
  refine ⟨by rw [f 41 (by omega) (by omega)]; exact x1, x2, ⟨by rw [f3]; exact x3.1, x3.2.1, fun j S hS => by rw [f 43 (by omega) (by omega)]; exact x3.2.2 j S hS⟩, ⟨by rw [f 45 (by omega) (by omega)]; exact x4.1, by rw [f 45 (by omega) (by omega)]; exact x4.2.1, fun S hS => by rw [f 44 (by omega) (by omega)]; exact x4.2.2.1 S hS, fun S hS => by rw [f 44 (by omega) (by omega)]; exact x4.2.2.2 S hS⟩, r, v⟩
set_option maxRecDepth 100000 in
set_option maxHeartbeats 400000 in
theorem cm_wipe (g : Gx) (G : GS) (h : Hp) (hX : MG G h) : CM g yX8_wipe wsX8_wipe rmX8_wipe [.ref 40] h (sp_wipe G) := by
  have c40 := isC_40
  unfold CM sp_wipe
  refine AC.of (cc := cX8_wipe) (maxL := 2) (ret := (some .int)) (by decide +kernel) rfl (Nat.le_of_ble_eq_true rfl) ?_
  show AW g mmX8_wipe _ 0 [(0, some (.ref 40))] [] _
  refine am_aload_n (n := 1) (i := 0) dX8_wipe_0 rfl rfl rfl ?_
  refine gfX8_wipe_68 (n := 4) dX8_wipe_1 (by first | assumption | exact isC_of (by decide +kernel)) rfl ?_
  rw [hX.2.2.2.2.1.1]
  refine am_istore_n (n := 5) (i := 1) dX8_wipe_4 rfl (Nat.le_of_ble_eq_true rfl) rfl rfl ?_
  refine am_aload_n (n := 6) (i := 0) dX8_wipe_5 rfl rfl rfl ?_
  refine am_iconst (n := 7) (v := 0) dX8_wipe_6 rfl rfl ?_
  refine pfX8_wipe_68 (n := 10) dX8_wipe_7 (by first | assumption | exact isC_of (by decide +kernel)) rfl ?_
  refine am_iload_n (n := 11) (i := 1) dX8_wipe_10 rfl rfl rfl ?_
  refine am_iret dX8_wipe_11 rfl rfl ?_
  exact ⟨rfl, hX.pad (p := []) ⟨by rw [setI_s, pk_us]; rfl, fun i c hi => by cases hi⟩ ⟨by decide, fun c hc => by cases hc⟩ (by rw [setI_s, pk_un (by omega)]) (fun c w1 w2 => setI_n _ _ (by omega)), Fr.rf.sI _ (by omega) (by omega)⟩
set_option maxRecDepth 100000 in
set_option maxHeartbeats 400000 in
theorem m_faultOf (g : Gx) (p : List Nat) (h : Hp) (hD : DZ p h) (hV : VP p) : AD g yX8_faultOf wsX8_faultOf rmX8_faultOf [.ref 40] h (some (.int (flt p))) h := by
  have c40 := isC_40
  have c46 := isC_46
  obtain ⟨d1, d2⟩ := hD
  have h80 := hV.1
  refine AC.of (cc := cX8_faultOf) (maxL := 2) (ret := (some .int)) (by decide +kernel) rfl (Nat.le_of_ble_eq_true rfl) ?_
  show AW g mmX8_faultOf _ 0 [(0, some (.ref 40))] [] _
  refine am_iconst (n := 1) (v := 0) dX8_faultOf_0 rfl rfl ?_
  refine am_istore_n (n := 2) (i := 1) dX8_faultOf_1 rfl (Nat.le_of_ble_eq_true rfl) rfl rfl ?_
  unfold flt
  have hle := fa_first_le (fbad p) p.length
  have hno := fa_first_no (fbad p) p.length
  have hyes := fa_first_yes (fbad p) p.length
  generalize fa_first (fbad p) p.length = i0 at hle hno hyes ⊢
  have h10 : i0 ≤ 10 := by
    rcases Nat.lt_or_ge 10 i0 with q | q
    · have := hno 10 q
      unfold fbad at this
      cases this
    · exact q
  refine am_loc [(0, some (.ref 40)), (1, some (.int (nI 0)))] rfl ?_
  have t38 : AW g mmX8_faultOf (ZP g (fun r h2 => r = some (.int (if p.length = 0 then 0 else if i0 < p.length then nI i0 else -6)) ∧ h2 = h)) 38 [(0, some (.ref 40)), (1, some (.int (nI i0)))] [] h := by
    refine am_iload_n (n := 39) (i := 1) dX8_faultOf_38 rfl rfl rfl ?_
    refine am_aload_n (n := 40) (i := 0) dX8_faultOf_39 rfl rfl rfl ?_
    refine gfX8_faultOf_68 (n := 43) dX8_faultOf_40 (by first | assumption | exact isC_of (by decide +kernel)) rfl ?_
    rw [d1]
    by_cases q : i0 = p.length
    · refine am_icmp_ne (tgt := 58) (n := 46) dX8_faultOf_43 (by decide) rfl (fun q_z => absurd (by rw [q]) q_z) (fun _ => ?_)
      refine am_aload_n (n := 47) (i := 0) dX8_faultOf_46 rfl rfl rfl ?_
      refine gfX8_faultOf_68 (n := 50) dX8_faultOf_47 (by first | assumption | exact isC_of (by decide +kernel)) rfl ?_
      rw [d1]
      by_cases q0 : p.length = 0
      · rw [if_pos q0]
        refine am_if_le (tgt := 58) (n := 53) dX8_faultOf_50 (by decide) rfl (fun _ => ?_) (fun q_z => absurd (by rw [q0]; decide) q_z)
        refine am_iload_n (n := 59) (i := 1) dX8_faultOf_58 rfl rfl rfl ?_
        refine am_iret dX8_faultOf_59 rfl rfl ?_
        rw [show i0 = 0 by omega]
        exact ⟨rfl, rfl⟩
      · rw [if_neg q0, if_neg (by omega)]
        refine am_if_le (tgt := 58) (n := 53) dX8_faultOf_50 (by decide) rfl (fun q_z => absurd q_z (fun z => absurd ((nI_leI (b := 0) (by omega) (by omega)).mp z) (by omega))) (fun _ => ?_)
        refine am_bipush (n := 55) (v := (-6)) dX8_faultOf_53 rfl rfl ?_
        refine am_goto (tgt := 59) dX8_faultOf_55 (by decide) ?_
        refine am_iret dX8_faultOf_59 rfl rfl ?_
        exact ⟨rfl, rfl⟩
    · rw [if_neg (by omega), if_pos (by omega)]
      refine am_icmp_ne (tgt := 58) (n := 46) dX8_faultOf_43 (by decide) rfl (fun _ => ?_) (fun q_z => absurd q_z (fun z => q ((nI_eq (by omega) (by omega)).mp z)))
      refine am_iload_n (n := 59) (i := 1) dX8_faultOf_58 rfl rfl rfl ?_
      refine am_iret dX8_faultOf_59 rfl rfl ?_
      exact ⟨rfl, rfl⟩
  refine loop_up (Wp := fun k => AW g mmX8_faultOf (ZP g (fun r h2 => r = some (.int (if p.length = 0 then 0 else if i0 < p.length then nI i0 else -6)) ∧ h2 = h)) 2 [(0, some (.ref 40)), (1, some (.int (nI k)))] [] h) i0 ?_ ?_ 0 (Nat.zero_le _)
  · refine am_iload_n (n := 3) (i := 1) dX8_faultOf_2 rfl rfl rfl ?_
    refine am_aload_n (n := 4) (i := 0) dX8_faultOf_3 rfl rfl rfl ?_
    refine gfX8_faultOf_68 (n := 7) dX8_faultOf_4 (by first | assumption | exact isC_of (by decide +kernel)) rfl ?_
    rw [d1]
    by_cases q : i0 < p.length
    · refine am_icmp_ge (tgt := 38) (n := 10) dX8_faultOf_7 (by decide) rfl (fun q_z => absurd q_z (nI_ge q (by omega))) (fun _ => ?_)
      have hy := hyes q
      have hx := d2 i0 _ (gD_at q)
      have hcc := hV.2 _ (List.mem_of_getElem? (gD_at q))
      unfold fbad at hy
      refine am_iload_n (n := 11) (i := 1) dX8_faultOf_10 rfl rfl rfl ?_
      refine am_bipush (n := 13) (v := 10) dX8_faultOf_11 rfl rfl ?_
      by_cases q10 : i0 = 10
      · refine am_icmp_ge (tgt := 38) (n := 16) dX8_faultOf_13 (by decide) rfl (fun _ => ?_) (fun q_z => absurd (by rw [q10]; decide) q_z)
        exact t38
      · refine am_icmp_ge (tgt := 38) (n := 16) dX8_faultOf_13 (by decide) rfl (fun q_z => absurd q_z (nI_ge (show i0 < 10 by omega) (by decide))) (fun _ => ?_)
        have hin : vp_in (nI i0) 80 := vp_in_nI (by omega) (by decide)
        refine am_aload_n (n := 17) (i := 0) dX8_faultOf_16 rfl rfl rfl ?_
        refine gfX8_faultOf_26 (n := 20) dX8_faultOf_17 (by first | assumption | exact isC_of (by decide +kernel)) rfl ?_
        refine am_iload_n (n := 21) (i := 1) dX8_faultOf_20 rfl rfl rfl ?_
        refine am_iald (n := 22) dX8_faultOf_21 (by first | assumption | exact isC_of (by decide +kernel)) (by first | assumption | exact vp_in_nI (by omega) (by omega) | exact vp_in_iff.mpr (by decide)) rfl ?_
        rw [nI_clamp (by omega), hx]
        refine am_bipush (n := 24) (v := 97) dX8_faultOf_22 rfl rfl ?_
        refine am_bipush (n := 26) (v := 122) dX8_faultOf_24 rfl rfl ?_
        refine cdX8_faultOf_51 (n := 29) dX8_faultOf_26 (by first | exact ⟨rfl, rfl⟩ | assumption) (m_in g (nI (p.getD i0 0)) 97 122 h) rfl rfl (Nat.le_of_ble_eq_true rfl) rfl ?_
        have e1 : Nat.beq i0 10 = false := by
          cases hb : Nat.beq i0 10 with
          | false => rfl
          | true => exact absurd (Nat.eq_of_beq_eq_true hb) q10
        rw [e1, Bool.false_or] at hy
        have e2 : (decide (97 ≤ nI (p.getD i0 0)) && decide (nI (p.getD i0 0) ≤ 122)) = (decide (97 ≤ p.getD i0 0) && decide (p.getD i0 0 ≤ 122)) := by
          rw [Bool.eq_iff_iff, Bool.and_eq_true, Bool.and_eq_true, decide_eq_true_eq, decide_eq_true_eq, decide_eq_true_eq, decide_eq_true_eq, show (97 : Int32) = nI 97 from rfl, show (122 : Int32) = nI 122 from rfl, nI_leI (by omega) (by omega), nI_leI (by omega) (by omega)]
        rw [e2]
        cases hd : (decide (97 ≤ p.getD i0 0) && decide (p.getD i0 0 ≤ 122)) with
        | true =>
          rw [hd] at hy
          cases hy
        | false =>
          refine am_if_eq (tgt := 38) (n := 32) dX8_faultOf_29 (by decide) rfl (fun _ => ?_) (fun q_z => absurd rfl q_z)
          exact t38
    · refine am_icmp_ge (tgt := 38) (n := 10) dX8_faultOf_7 (by decide) rfl (fun _ => ?_) (fun q_z => absurd (nI_le (Nat.not_lt.mp q) (by omega)) q_z)
      exact t38
  · intro k hk K
    have hb := hno k hk
    unfold fbad at hb
    rw [Bool.or_eq_false_iff, Bool.not_eq_false'] at hb
    have hx := d2 k _ (gD_at (show k < p.length by omega))
    have hcc := hV.2 _ (List.mem_of_getElem? (gD_at (show k < p.length by omega)))
    refine am_iload_n (n := 3) (i := 1) dX8_faultOf_2 rfl rfl rfl ?_
    refine am_aload_n (n := 4) (i := 0) dX8_faultOf_3 rfl rfl rfl ?_
    refine gfX8_faultOf_68 (n := 7) dX8_faultOf_4 (by first | assumption | exact isC_of (by decide +kernel)) rfl ?_
    rw [d1]
    refine am_icmp_ge (tgt := 38) (n := 10) dX8_faultOf_7 (by decide) rfl (fun q_z => absurd q_z (nI_ge (show k < p.length by omega) (by omega))) (fun _ => ?_)
    refine am_iload_n (n := 11) (i := 1) dX8_faultOf_10 rfl rfl rfl ?_
    refine am_bipush (n := 13) (v := 10) dX8_faultOf_11 rfl rfl ?_
    refine am_icmp_ge (tgt := 38) (n := 16) dX8_faultOf_13 (by decide) rfl (fun q_z => absurd q_z (nI_ge (show k < 10 by omega) (by decide))) (fun _ => ?_)
    have hin : vp_in (nI k) 80 := vp_in_nI (by omega) (by decide)
    refine am_aload_n (n := 17) (i := 0) dX8_faultOf_16 rfl rfl rfl ?_
    refine gfX8_faultOf_26 (n := 20) dX8_faultOf_17 (by first | assumption | exact isC_of (by decide +kernel)) rfl ?_
    refine am_iload_n (n := 21) (i := 1) dX8_faultOf_20 rfl rfl rfl ?_
    refine am_iald (n := 22) dX8_faultOf_21 (by first | assumption | exact isC_of (by decide +kernel)) (by first | assumption | exact vp_in_nI (by omega) (by omega) | exact vp_in_iff.mpr (by decide)) rfl ?_
    rw [nI_clamp (by omega), hx]
    refine am_bipush (n := 24) (v := 97) dX8_faultOf_22 rfl rfl ?_
    refine am_bipush (n := 26) (v := 122) dX8_faultOf_24 rfl rfl ?_
    refine cdX8_faultOf_51 (n := 29) dX8_faultOf_26 (by first | exact ⟨rfl, rfl⟩ | assumption) (m_in g (nI (p.getD k 0)) 97 122 h) rfl rfl (Nat.le_of_ble_eq_true rfl) rfl ?_
    have e2 : (decide (97 ≤ nI (p.getD k 0)) && decide (nI (p.getD k 0) ≤ 122)) = (decide (97 ≤ p.getD k 0) && decide (p.getD k 0 ≤ 122)) := by
      rw [Bool.eq_iff_iff, Bool.and_eq_true, Bool.and_eq_true, decide_eq_true_eq, decide_eq_true_eq, decide_eq_true_eq, decide_eq_true_eq, show (97 : Int32) = nI 97 from rfl, show (122 : Int32) = nI 122 from rfl, nI_leI (by omega) (by omega), nI_leI (by omega) (by omega)]
    rw [e2, hb.2]
    refine am_if_eq (tgt := 38) (n := 32) dX8_faultOf_29 (by decide) rfl (fun q_z => absurd q_z (by decide)) (fun _ => ?_)
    first | refine am_iincN (n := 35) dX8_faultOf_32 rfl rfl rfl ?_ | refine am_iinc1 (n := 35) dX8_faultOf_32 rfl rfl rfl ?_
    refine am_goto (tgt := 2) dX8_faultOf_35 (by decide) ?_
    exact am_loc _ rfl K
set_option maxRecDepth 100000 in
set_option maxHeartbeats 400000 in
theorem cm_fault (g : Gx) (G : GS) (h : Hp) (hX : MG G h) : CM g yX8_fault wsX8_fault rmX8_fault [.ref 40] h (sp_fault G) := by
  have c40 := isC_40
  unfold CM sp_fault
  refine AC.of (cc := cX8_fault) (maxL := 1) (ret := (some .int)) (by decide +kernel) rfl (Nat.le_of_ble_eq_true rfl) ?_
  show AW g mmX8_fault _ 0 [(0, some (.ref 40))] [] _
  refine am_aload_n (n := 1) (i := 0) dX8_fault_0 rfl rfl rfl ?_
  refine cdX8_fault_71 (n := 4) dX8_fault_1 (by first | exact ⟨rfl, rfl⟩ | assumption) (m_faultOf g G.2.2.2 h hX.2.2.2.2.1 hX.2.2.2.2.2) rfl rfl (Nat.le_of_ble_eq_true rfl) (by first | assumption | exact isC_of (by decide +kernel)) rfl ?_
  generalize flt G.2.2.2 = v
  exact am_iret dX8_fault_4 rfl rfl ⟨rfl, hX, Fr.rf⟩
