/-! THE LAW'S CALLS THAT FAIL: ALL OF THEM -/
set_option maxRecDepth 100000 in
set_option maxHeartbeats 2000000 in
theorem ac_L_refusesAny (g : Gx) (X : Nat) (G : GS) (h : Hp) (hX : XI G h) (hx : X < 2 ^ 31) (hE : 0 < G.1.2.2.2.length) : AC g yL_refusesAny wsL_refusesAny rmL_refusesAny [.ref 0, .int (nI X)] h (fun v h' => v = some (.int 1) ∧ XI G h' ∧ FM h h') := by
  have hes := hX.2.1.2.2.2.2.1
  have hnl := hX.2.1.2.2.1
  obtain ⟨E, hE0⟩ : ∃ E, G.1.2.2.2[0]? = some E := ⟨G.1.2.2.2[0], List.getElem?_eq_getElem hE⟩
  have hV : VE E := hX.2.1.2.2.2.2.2 E (List.mem_of_getElem? hE0)
  have hE1 : eN G.1.2.2.2 0 = some E := by
    rw [show (0 : Int32) = nI 0 from rfl, eN_i hes hE]
    exact hE0
  have m99 : X % 99 < 99 := Nat.mod_lt _ (by decide)
  have m5 : X % 5 < 5 := Nat.mod_lt _ (by decide)
  refine AC.of (cc := cL_refusesAny) (maxL := 9) (ret := (some .boolean)) (by decide +kernel) rfl (Nat.le_of_ble_eq_true rfl) ?_
  show AW g mmL_refusesAny _ 0 [(0, some (.ref 0)), (1, some (.int (nI X)))] [] _
  generalize hP : (fun (v : Option Value) (h' : Hp) => v = some (.int 1) ∧ XI G h' ∧ FM h h') = P
  refine am_aload_n (n := 1) (i := 0) dL_refusesAny_0 rfl rfl rfl ?_
  refine am_iconst (n := 2) (v := 0) dL_refusesAny_1 rfl rfl ?_
  have k1 := cx_count g 0 G h hX
  rw [ct_0] at k1
  refine caL_refusesAny_33 (n := 5) dL_refusesAny_2 (by first | exact ⟨rfl, rfl⟩ | assumption) k1 rfl rfl (Nat.le_of_ble_eq_true rfl) (by first | assumption | exact isC_of (by decide +kernel)) rfl ?_
  rintro r h1 ⟨rfl, X1, f1⟩
  refine am_istore_n (n := 6) (i := 2) dL_refusesAny_5 rfl (Nat.le_of_ble_eq_true rfl) rfl rfl ?_
  refine am_aload_n (n := 7) (i := 0) dL_refusesAny_6 rfl rfl rfl ?_
  refine am_iconst (n := 8) (v := 1) dL_refusesAny_7 rfl rfl ?_
  have k2 := cx_count g 1 G h1 X1
  rw [ct_1] at k2
  refine caL_refusesAny_33 (n := 11) dL_refusesAny_8 (by first | exact ⟨rfl, rfl⟩ | assumption) k2 rfl rfl (Nat.le_of_ble_eq_true rfl) (by first | assumption | exact isC_of (by decide +kernel)) rfl ?_
  rintro r h2 ⟨rfl, X2, f2⟩
  refine am_istore_n (n := 12) (i := 3) dL_refusesAny_11 rfl (Nat.le_of_ble_eq_true rfl) rfl rfl ?_
  refine am_iload_n (n := 13) (i := 1) dL_refusesAny_12 rfl rfl rfl ?_
  refine am_iconst (n := 14) (v := 2) dL_refusesAny_13 rfl rfl ?_
  refine am_irem (n := 15) dL_refusesAny_14 (by decide) rfl ?_
  rw [i_rem (x := 2) 2 hx (by decide) (by decide) rfl]
  rcases Nat.mod_two_eq_zero_or_one X with par | par
  · rw [par]
    refine am_if_ne (tgt := 27) (n := 18) dL_refusesAny_15 (by decide) rfl (fun q_z => absurd (by decide) q_z) (fun _ => ?_)
    refine am_iconst (n := 19) (v := (-1)) dL_refusesAny_18 rfl rfl ?_
    refine am_iload_n (n := 20) (i := 1) dL_refusesAny_19 rfl rfl rfl ?_
    refine am_bipush (n := 22) (v := 99) dL_refusesAny_20 rfl rfl ?_
    refine am_irem (n := 23) dL_refusesAny_22 (by decide) rfl ?_
    rw [i_rem (x := 99) 99 hx (by decide) (by decide) rfl]
    refine am_isub (n := 24) dL_refusesAny_23 rfl ?_
    refine am_goto (tgt := 33) dL_refusesAny_24 (by decide) ?_
    refine am_istore (n := 35) dL_refusesAny_33 (Nat.le_of_ble_eq_true rfl) rfl rfl ?_
    refine am_iload_n (n := 36) (i := 1) dL_refusesAny_35 rfl rfl rfl ?_
    refine am_iconst (n := 37) (v := 2) dL_refusesAny_36 rfl rfl ?_
    refine am_irem (n := 38) dL_refusesAny_37 (by decide) rfl ?_
    rw [i_rem (x := 2) 2 hx (by decide) (by decide) rfl, par]
    refine am_if_ne (tgt := 49) (n := 41) dL_refusesAny_38 (by decide) rfl (fun q_z => absurd (by decide) q_z) (fun _ => ?_)
    refine am_iconst (n := 42) (v := (-1)) dL_refusesAny_41 rfl rfl ?_
    refine am_iload_n (n := 43) (i := 1) dL_refusesAny_42 rfl rfl rfl ?_
    refine am_iconst (n := 44) (v := 5) dL_refusesAny_43 rfl rfl ?_
    refine am_irem (n := 45) dL_refusesAny_44 (by decide) rfl ?_
    rw [i_rem (x := 5) 5 hx (by decide) (by decide) rfl]
    refine am_isub (n := 46) dL_refusesAny_45 rfl ?_
    refine am_goto (tgt := 56) dL_refusesAny_46 (by decide) ?_
    refine am_istore (n := 58) dL_refusesAny_56 (Nat.le_of_ble_eq_true rfl) rfl rfl ?_
    refine am_iload_n (n := 59) (i := 1) dL_refusesAny_58 rfl rfl rfl ?_
    refine am_iconst (n := 60) (v := 2) dL_refusesAny_59 rfl rfl ?_
    refine am_irem (n := 61) dL_refusesAny_60 (by decide) rfl ?_
    rw [i_rem (x := 2) 2 hx (by decide) (by decide) rfl, par]
    refine am_if_ne (tgt := 73) (n := 64) dL_refusesAny_61 (by decide) rfl (fun q_z => absurd (by decide) q_z) (fun _ => ?_)
    refine am_iconst (n := 65) (v := (-1)) dL_refusesAny_64 rfl rfl ?_
    refine am_iload_n (n := 66) (i := 1) dL_refusesAny_65 rfl rfl rfl ?_
    refine am_bipush (n := 68) (v := 99) dL_refusesAny_66 rfl rfl ?_
    refine am_irem (n := 69) dL_refusesAny_68 (by decide) rfl ?_
    rw [i_rem (x := 99) 99 hx (by decide) (by decide) rfl]
    refine am_isub (n := 70) dL_refusesAny_69 rfl ?_
    refine am_goto (tgt := 80) dL_refusesAny_70 (by decide) ?_
    refine am_istore (n := 82) dL_refusesAny_80 (Nat.le_of_ble_eq_true rfl) rfl rfl ?_
    refine am_iload_n (n := 83) (i := 1) dL_refusesAny_82 rfl rfl rfl ?_
    refine am_iconst (n := 84) (v := 2) dL_refusesAny_83 rfl rfl ?_
    refine am_irem (n := 85) dL_refusesAny_84 (by decide) rfl ?_
    rw [i_rem (x := 2) 2 hx (by decide) (by decide) rfl, par]
    refine am_if_ne (tgt := 97) (n := 88) dL_refusesAny_85 (by decide) rfl (fun q_z => absurd (by decide) q_z) (fun _ => ?_)
    refine am_iconst (n := 89) (v := (-1)) dL_refusesAny_88 rfl rfl ?_
    refine am_iload_n (n := 90) (i := 1) dL_refusesAny_89 rfl rfl rfl ?_
    refine am_bipush (n := 92) (v := 99) dL_refusesAny_90 rfl rfl ?_
    refine am_irem (n := 93) dL_refusesAny_92 (by decide) rfl ?_
    rw [i_rem (x := 99) 99 hx (by decide) (by decide) rfl]
    refine am_isub (n := 94) dL_refusesAny_93 rfl ?_
    refine am_goto (tgt := 103) dL_refusesAny_94 (by decide) ?_
    refine am_istore (n := 105) dL_refusesAny_103 (Nat.le_of_ble_eq_true rfl) rfl rfl ?_
    have n1 := im1_neg (X % 99) (by omega)
    have n2 := im1_neg (X % 5) (by omega)
    have n6 := ne_m6 (X % 5) m5
    refine am_loc [(0, some (.ref 0)), (1, some (.int (nI X))), (2, some (.int (nI G.1.2.2.1.length))), (3, some (.int (nI G.1.2.2.2.length))), (4, some (.int (-1 - nI (X % 99)))), (5, some (.int (-1 - nI (X % 5)))), (6, some (.int (-1 - nI (X % 99)))), (7, some (.int (-1 - nI (X % 99))))] rfl ?_
    generalize (-1 : Int32) - nI (X % 99) = no at n1 ⊢
    generalize (-1 : Int32) - nI (X % 5) = kd at n2 n6 ⊢
    exact rfA1 hx (inN_neg (Int32.not_le.mpr n1)) (inR_neg n2) n6 (isLtr_neg n1) (inN_neg (Int32.not_le.mpr n1)) hE1 hV (rfB0 hx (inN_neg (Int32.not_le.mpr n1)) (inR_neg n2) n6 (isLtr_neg n1) (inN_neg (Int32.not_le.mpr n1)) hE1 hV par (rfC0 hx (inN_neg (Int32.not_le.mpr n1)) (inR_neg n2) n6 (isLtr_neg n1) (inN_neg (Int32.not_le.mpr n1)) hE1 hV par (rfD (E := E) hP.symm))) h2 X2 (f1.tr f2)
  · rw [par]
    refine am_if_ne (tgt := 27) (n := 18) dL_refusesAny_15 (by decide) rfl (fun _ => ?_) (fun q_z => absurd q_z (by decide))
    refine am_iload_n (n := 28) (i := 3) dL_refusesAny_27 rfl rfl rfl ?_
    refine am_iload_n (n := 29) (i := 1) dL_refusesAny_28 rfl rfl rfl ?_
    refine am_bipush (n := 31) (v := 99) dL_refusesAny_29 rfl rfl ?_
    refine am_irem (n := 32) dL_refusesAny_31 (by decide) rfl ?_
    rw [i_rem (x := 99) 99 hx (by decide) (by decide) rfl]
    refine am_iadd (n := 33) dL_refusesAny_32 rfl ?_
    rw [nI_add]
    refine am_istore (n := 35) dL_refusesAny_33 (Nat.le_of_ble_eq_true rfl) rfl rfl ?_
    refine am_iload_n (n := 36) (i := 1) dL_refusesAny_35 rfl rfl rfl ?_
    refine am_iconst (n := 37) (v := 2) dL_refusesAny_36 rfl rfl ?_
    refine am_irem (n := 38) dL_refusesAny_37 (by decide) rfl ?_
    rw [i_rem (x := 2) 2 hx (by decide) (by decide) rfl, par]
    refine am_if_ne (tgt := 49) (n := 41) dL_refusesAny_38 (by decide) rfl (fun _ => ?_) (fun q_z => absurd q_z (by decide))
    refine am_bipush (n := 51) (v := 10) dL_refusesAny_49 rfl rfl ?_
    refine am_iload_n (n := 52) (i := 1) dL_refusesAny_51 rfl rfl rfl ?_
    refine am_bipush (n := 54) (v := 99) dL_refusesAny_52 rfl rfl ?_
    refine am_irem (n := 55) dL_refusesAny_54 (by decide) rfl ?_
    rw [i_rem (x := 99) 99 hx (by decide) (by decide) rfl, show (10 : Int32) = nI 10 from rfl]
    refine am_iadd (n := 56) dL_refusesAny_55 rfl ?_
    rw [nI_add]
    refine am_istore (n := 58) dL_refusesAny_56 (Nat.le_of_ble_eq_true rfl) rfl rfl ?_
    refine am_iload_n (n := 59) (i := 1) dL_refusesAny_58 rfl rfl rfl ?_
    refine am_iconst (n := 60) (v := 2) dL_refusesAny_59 rfl rfl ?_
    refine am_irem (n := 61) dL_refusesAny_60 (by decide) rfl ?_
    rw [i_rem (x := 2) 2 hx (by decide) (by decide) rfl, par]
    refine am_if_ne (tgt := 73) (n := 64) dL_refusesAny_61 (by decide) rfl (fun _ => ?_) (fun q_z => absurd q_z (by decide))
    refine am_bipush (n := 75) (v := 26) dL_refusesAny_73 rfl rfl ?_
    refine am_iload_n (n := 76) (i := 1) dL_refusesAny_75 rfl rfl rfl ?_
    refine am_bipush (n := 78) (v := 99) dL_refusesAny_76 rfl rfl ?_
    refine am_irem (n := 79) dL_refusesAny_78 (by decide) rfl ?_
    rw [i_rem (x := 99) 99 hx (by decide) (by decide) rfl, show (26 : Int32) = nI 26 from rfl]
    refine am_iadd (n := 80) dL_refusesAny_79 rfl ?_
    rw [nI_add]
    refine am_istore (n := 82) dL_refusesAny_80 (Nat.le_of_ble_eq_true rfl) rfl rfl ?_
    refine am_iload_n (n := 83) (i := 1) dL_refusesAny_82 rfl rfl rfl ?_
    refine am_iconst (n := 84) (v := 2) dL_refusesAny_83 rfl rfl ?_
    refine am_irem (n := 85) dL_refusesAny_84 (by decide) rfl ?_
    rw [i_rem (x := 2) 2 hx (by decide) (by decide) rfl, par]
    refine am_if_ne (tgt := 97) (n := 88) dL_refusesAny_85 (by decide) rfl (fun _ => ?_) (fun q_z => absurd q_z (by decide))
    refine am_iload_n (n := 98) (i := 2) dL_refusesAny_97 rfl rfl rfl ?_
    refine am_iload_n (n := 99) (i := 1) dL_refusesAny_98 rfl rfl rfl ?_
    refine am_bipush (n := 101) (v := 99) dL_refusesAny_99 rfl rfl ?_
    refine am_irem (n := 102) dL_refusesAny_101 (by decide) rfl ?_
    rw [i_rem (x := 99) 99 hx (by decide) (by decide) rfl]
    refine am_iadd (n := 103) dL_refusesAny_102 rfl ?_
    rw [nI_add]
    refine am_istore (n := 105) dL_refusesAny_103 (Nat.le_of_ble_eq_true rfl) rfl rfl ?_
    have a1 : inN (nI (G.1.2.2.2.length + X % 99)) G.1.2.2.2.length = false := inN_big (by omega) (by omega)
    have a2 : inR (nI (10 + X % 99)) 0 9 = false := inR_big (by omega) (by omega)
    have a3 : ¬ nI (10 + X % 99) = -6 := fun e => by
      have := congrArg Int32.toInt e
      rw [nI_toInt (by omega)] at this
      have e2 : (-6 : Int32).toInt = -6 := by decide
      omega
    have a4 : isLtr (nI (26 + X % 99)) = false := isLtr_big (by omega) (by omega)
    have a5 : inN (nI (G.1.2.2.1.length + X % 99)) G.1.2.2.1.length = false := inN_big (by omega) (by omega)
    refine am_loc [(0, some (.ref 0)), (1, some (.int (nI X))), (2, some (.int (nI G.1.2.2.1.length))), (3, some (.int (nI G.1.2.2.2.length))), (4, some (.int (nI (G.1.2.2.2.length + X % 99)))), (5, some (.int (nI (10 + X % 99)))), (6, some (.int (nI (26 + X % 99)))), (7, some (.int (nI (G.1.2.2.1.length + X % 99))))] rfl ?_
    exact rfA1 hx a1 a2 a3 a4 a5 hE1 hV (rfB1 hx a1 a2 a3 a4 a5 hE1 hV par (rfC1 hx a1 a2 a3 a4 a5 hE1 hV par (rfD (E := E) hP.symm))) h2 X2 (f1.tr f2)
set_option maxRecDepth 100000 in
set_option maxHeartbeats 1000000 in
theorem ac_L_refuses (g : Gx) (X : Nat) (G : GS) (h : Hp) (hX : XI G h) (hx : X < 2 ^ 31) (hE : 0 < G.1.2.2.2.length) : AC g yL_refuses wsL_refuses rmL_refuses [.ref 0, .int (nI X)] h (fun v h' => v = some (.int 1) ∧ XI G h' ∧ FM h h') := by
  refine AC.of (cc := cL_refuses) (maxL := 6) (ret := (some .boolean)) (by decide +kernel) rfl (Nat.le_of_ble_eq_true rfl) ?_
  show AW g mmL_refuses _ 0 [(0, some (.ref 0)), (1, some (.int (nI X)))] [] _
  refine am_aload_n (n := 1) (i := 0) dL_refuses_0 rfl rfl rfl ?_
  refine caL_refuses_116 (n := 4) dL_refuses_1 (by first | exact ⟨rfl, rfl⟩ | assumption) (ac_L_seen g G h hX) rfl rfl (Nat.le_of_ble_eq_true rfl) rfl ?_
  rintro r h1 ⟨rfl, X1, f1⟩
  refine am_lstore_n (n := 5) (i := 2) dL_refuses_4 rfl (Nat.le_of_ble_eq_true rfl) rfl rfl ?_
  refine am_aload_n (n := 6) (i := 0) dL_refuses_5 rfl rfl rfl ?_
  refine am_iconst (n := 7) (v := 5) dL_refuses_6 rfl rfl ?_
  have k1 := cx_count g 5 G h1 X1
  rw [ct_5] at k1
  refine caL_refuses_33 (n := 10) dL_refuses_7 (by first | exact ⟨rfl, rfl⟩ | assumption) k1 rfl rfl (Nat.le_of_ble_eq_true rfl) (by first | assumption | exact isC_of (by decide +kernel)) rfl ?_
  rintro r h2 ⟨rfl, X2, f2⟩
  refine am_istore (n := 12) dL_refuses_10 (Nat.le_of_ble_eq_true rfl) rfl rfl ?_
  refine am_aload_n (n := 13) (i := 0) dL_refuses_12 rfl rfl rfl ?_
  refine am_iconst (n := 14) (v := 4) dL_refuses_13 rfl rfl ?_
  have k2 := cx_count g 4 G h2 X2
  rw [ct_4] at k2
  refine caL_refuses_33 (n := 17) dL_refuses_14 (by first | exact ⟨rfl, rfl⟩ | assumption) k2 rfl rfl (Nat.le_of_ble_eq_true rfl) (by first | assumption | exact isC_of (by decide +kernel)) rfl ?_
  rintro r h3 ⟨rfl, X3, f3⟩
  refine am_istore (n := 19) dL_refuses_17 (Nat.le_of_ble_eq_true rfl) rfl rfl ?_
  refine am_aload_n (n := 20) (i := 0) dL_refuses_19 rfl rfl rfl ?_
  refine am_iload_n (n := 21) (i := 1) dL_refuses_20 rfl rfl rfl ?_
  refine caL_refuses_120 (n := 24) dL_refuses_21 (by first | exact ⟨rfl, rfl⟩ | assumption) (ac_L_refusesAny g X G h3 X3 hx hE) rfl rfl (Nat.le_of_ble_eq_true rfl) rfl ?_
  rintro r h4 ⟨rfl, X4, f4⟩
  refine am_if_eq (tgt := 60) (n := 27) dL_refuses_24 (by decide) rfl (fun q_z => absurd q_z (by decide)) (fun _ => ?_)
  refine am_aload_n (n := 28) (i := 0) dL_refuses_27 rfl rfl rfl ?_
  refine caL_refuses_116 (n := 31) dL_refuses_28 (by first | exact ⟨rfl, rfl⟩ | assumption) (ac_L_seen g G h4 X4) rfl rfl (Nat.le_of_ble_eq_true rfl) rfl ?_
  rintro r h5 ⟨rfl, X5, f5⟩
  refine am_lload_n (n := 32) (i := 2) dL_refuses_31 rfl rfl rfl ?_
  refine am_lcmp (n := 33) dL_refuses_32 rfl ?_
  refine am_if_ne (tgt := 60) (n := 36) dL_refuses_33 (by decide) rfl (fun q_z => absurd (by rw [lg_cmp_eq]) q_z) (fun _ => ?_)
  refine am_aload_n (n := 37) (i := 0) dL_refuses_36 rfl rfl rfl ?_
  refine am_iconst (n := 38) (v := 5) dL_refuses_37 rfl rfl ?_
  have k3 := cx_count g 5 G h5 X5
  rw [ct_5] at k3
  refine caL_refuses_33 (n := 41) dL_refuses_38 (by first | exact ⟨rfl, rfl⟩ | assumption) k3 rfl rfl (Nat.le_of_ble_eq_true rfl) (by first | assumption | exact isC_of (by decide +kernel)) rfl ?_
  rintro r h6 ⟨rfl, X6, f6⟩
  refine am_iload (n := 43) dL_refuses_41 rfl rfl ?_
  refine am_icmp_ne (tgt := 60) (n := 46) dL_refuses_43 (by decide) rfl (fun q_z => absurd rfl q_z) (fun _ => ?_)
  refine am_aload_n (n := 47) (i := 0) dL_refuses_46 rfl rfl rfl ?_
  refine am_iconst (n := 48) (v := 4) dL_refuses_47 rfl rfl ?_
  have k4 := cx_count g 4 G h6 X6
  rw [ct_4] at k4
  refine caL_refuses_33 (n := 51) dL_refuses_48 (by first | exact ⟨rfl, rfl⟩ | assumption) k4 rfl rfl (Nat.le_of_ble_eq_true rfl) (by first | assumption | exact isC_of (by decide +kernel)) rfl ?_
  rintro r h7 ⟨rfl, X7, f7⟩
  refine am_iload (n := 53) dL_refuses_51 rfl rfl ?_
  refine am_icmp_ne (tgt := 60) (n := 56) dL_refuses_53 (by decide) rfl (fun q_z => absurd rfl q_z) (fun _ => ?_)
  refine am_iconst (n := 57) (v := 1) dL_refuses_56 rfl rfl ?_
  refine am_goto (tgt := 61) dL_refuses_57 (by decide) ?_
  refine am_iret dL_refuses_61 rfl rfl ?_
  exact ⟨rfl, X7, ((((((f1.tr f2).tr f3).tr f4).tr f5).tr f6).tr f7)⟩
