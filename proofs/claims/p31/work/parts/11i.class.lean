/-! The class's calls: quarrel, deafest, put, wipe, fault, undo, save, restore -/
set_option maxRecDepth 100000 in
set_option maxHeartbeats 400000 in
theorem cx_quarrel (g : Gx) (x y : Int32) (G : GS) (h : Hp) (hX : XI G h) : CX g yX7_quarrel wsX7_quarrel rmX7_quarrel [.ref 0, .int x, .int y] h (sp_quarrel x y G) := by
  have c0 := isC_0
  have c100 := isSt_now.1
  have h4 := hX.2.1.2.2.2.2.1
  have h24 := hX.2.1.2.2.1
  unfold CX sp_quarrel
  refine AC.of (cc := cX7_quarrel) (maxL := 7) (ret := (some .int)) (by decide +kernel) rfl (Nat.le_of_ble_eq_true rfl) ?_
  show AW g mmX7_quarrel _ 0 [(0, some (.ref 0)), (1, some (.int x)), (2, some (.int y))] [] _
  refine am_aload_n (n := 1) (i := 0) dX7_quarrel_0 rfl rfl rfl ?_
  refine gfX7_quarrel_10 (n := 4) dX7_quarrel_1 (by first | assumption | exact isC_of (by decide +kernel)) rfl ?_
  refine am_iload_n (n := 5) (i := 1) dX7_quarrel_4 rfl rfl rfl ?_
  refine caX7_quarrel_105 (n := 8) dX7_quarrel_5 (by first | exact ⟨rfl, rfl⟩ | assumption) (ac_X5_earAt g 100 x G.1 h isSt_now hX.1 hX.2.1) rfl rfl (Nat.le_of_ble_eq_true rfl) (by first | assumption | exact isC_of (by decide +kernel)) rfl ?_
  rintro v h' ⟨rfl, ⟨e, he, rfl, rfl⟩ | ⟨hno, rfl⟩⟩
  · have hx := List.getElem?_eq_getElem he
    obtain ⟨e4, -, iE, rE, vE⟩ := nowE hX hx
    rw [sp_E_t _ h4 he hx]
    generalize G.1.2.2.2[e] = E at *
    have i0 := iE.1
    refine am_astore_n (n := 9) (i := 3) dX7_quarrel_8 rfl (Nat.le_of_ble_eq_true rfl) rfl rfl ?_
    refine am_aload_n (n := 10) (i := 0) dX7_quarrel_9 rfl rfl rfl ?_
    refine gfX7_quarrel_10 (n := 13) dX7_quarrel_10 (by first | assumption | exact isC_of (by decide +kernel)) rfl ?_
    refine am_iload_n (n := 14) (i := 2) dX7_quarrel_13 rfl rfl rfl ?_
    refine caX7_quarrel_105 (n := 17) dX7_quarrel_14 (by first | exact ⟨rfl, rfl⟩ | assumption) (ac_X5_earAt g 100 y G.1 h' isSt_now hX.1 hX.2.1) rfl rfl (Nat.le_of_ble_eq_true rfl) (by first | assumption | exact isC_of (by decide +kernel)) rfl ?_
    rintro v h' ⟨rfl, ⟨f, hf, rfl, rfl⟩ | ⟨hno, rfl⟩⟩
    · have hy := List.getElem?_eq_getElem hf
      obtain ⟨f4, -, iF, rF, vF⟩ := nowE hX hy
      rw [sp_E_t _ h4 hf hy]
      generalize G.1.2.2.2[f] = F at *
      have j0 := iF.1
      refine am_astore (n := 19) dX7_quarrel_17 (Nat.le_of_ble_eq_true rfl) rfl rfl ?_
      refine am_aload_n (n := 20) (i := 3) dX7_quarrel_19 rfl rfl rfl ?_
      refine am_ifnull (n := 23) dX7_quarrel_20 rfl ?_
      refine am_aload (n := 25) dX7_quarrel_23 rfl rfl ?_
      refine am_ifnonnull (tgt := 30) dX7_quarrel_25 (by decide) ?_
      refine am_aload_n (n := 31) (i := 0) dX7_quarrel_30 rfl rfl rfl ?_
      refine gfX7_quarrel_41 (n := 34) dX7_quarrel_31 (by first | assumption | exact isC_of (by decide +kernel)) rfl ?_
      refine am_aload_n (n := 35) (i := 0) dX7_quarrel_34 rfl rfl rfl ?_
      refine gfX7_quarrel_10 (n := 38) dX7_quarrel_35 (by first | assumption | exact isC_of (by decide +kernel)) rfl ?_
      refine am_aload_n (n := 39) (i := 3) dX7_quarrel_38 rfl rfl rfl ?_
      refine caX7_quarrel_177 (n := 42) dX7_quarrel_39 (by first | exact ⟨rfl, rfl⟩ | assumption) (ac_X1_fill g 6 100 (100 + 10 * (e + 1)) G.1 E h' isDr_6 isSt_now iE hX.1 hX.2.1 rE vE (by omega) (by omega)) rfl rfl (Nat.le_of_ble_eq_true rfl) (by first | assumption | exact isC_of (by decide +kernel)) rfl ?_
      rintro v h1 ⟨rfl, F1, R1⟩
      have X1 := hX.scr F1 (by omega) (by omega)
      have rF1 := rF.kept (fun c c1 c2 => F1.1 c (by omega))
      refine am_aload_n (n := 43) (i := 0) dX7_quarrel_42 rfl rfl rfl ?_
      refine gfX7_quarrel_45 (n := 46) dX7_quarrel_43 (by first | assumption | exact isC_of (by decide +kernel)) rfl ?_
      refine am_aload_n (n := 47) (i := 0) dX7_quarrel_46 rfl rfl rfl ?_
      refine gfX7_quarrel_10 (n := 50) dX7_quarrel_47 (by first | assumption | exact isC_of (by decide +kernel)) rfl ?_
      refine am_aload (n := 52) dX7_quarrel_50 rfl rfl ?_
      refine caX7_quarrel_177 (n := 55) dX7_quarrel_52 (by first | exact ⟨rfl, rfl⟩ | assumption) (ac_X1_fill g 12 100 (100 + 10 * (f + 1)) G.1 F h1 isDr_12 isSt_now iF X1.1 X1.2.1 rF1 vF (by omega) (by omega)) rfl rfl (Nat.le_of_ble_eq_true rfl) (by first | assumption | exact isC_of (by decide +kernel)) rfl ?_
      rintro v h2 ⟨rfl, F2, R2⟩
      have X2 := X1.scr F2 (by omega) (by omega)
      have FM2 : FM h' h2 := (FM.fi F1 (by omega)).tr (FM.fi F2 (by omega))
      have R1 := R1.kept (fun c c1 c2 => F2.1 c (by omega))
      have hV := VC_of hX.2.1 vE
      have hV2 := VC_of hX.2.1 vF
      have hcl := csOf_len G.1 E
      have hdl := csOf_len G.1 F
      generalize csOf G.1 E = cs at *
      generalize csOf G.1 F = ds at *
      dsimp only
      generalize hZ : ZP g (fun v h'' => v = some (.int (qrF cs ds G.1.2.2.1.length / 2)) ∧ XI G h'' ∧ FM h' h'') = Z
      have z0 : Z.1 = 0 ∧ Z.2.1 = 0 := by rw [← hZ]; exact ⟨rfl, rfl⟩
      refine am_iconst (n := 56) (v := 0) dX7_quarrel_55 rfl rfl ?_
      refine am_istore (n := 58) dX7_quarrel_56 (Nat.le_of_ble_eq_true rfl) rfl rfl ?_
      refine am_iconst (n := 59) (v := 0) dX7_quarrel_58 rfl rfl ?_
      refine am_istore (n := 61) dX7_quarrel_59 (Nat.le_of_ble_eq_true rfl) rfl rfl ?_
      refine am_loc [(0, some (.ref 0)), (5, some (.int (qrF cs ds 0))), (6, some (.int (nI 0)))] rfl ?_
      refine loop_up (Wp := fun k => AW g mmX7_quarrel Z 61 [(0, some (.ref 0)), (5, some (.int (qrF cs ds k))), (6, some (.int (nI k)))] [] h2) G.1.2.2.1.length ?_ ?_ 0 (Nat.zero_le _)
      · refine am_iload (n := 63) dX7_quarrel_61 rfl rfl ?_
        refine am_aload_n (n := 64) (i := 0) dX7_quarrel_63 rfl rfl rfl ?_
        refine gfX7_quarrel_10 (n := 67) dX7_quarrel_64 (by first | assumption | exact isC_of (by decide +kernel)) rfl ?_
        refine gfX7_quarrel_87 (n := 70) dX7_quarrel_67 (by first | assumption | exact isC_of (by decide +kernel)) rfl ?_
        rw [show h2.1 100 2 = nI G.1.2.2.1.length from X2.1.2.2.1]
        refine am_icmp_ge (tgt := 108) (n := 73) dX7_quarrel_70 (by decide) rfl (fun _ => ?_) (fun q_z => absurd (nI_le (Nat.le_refl _) (by omega)) q_z)
        rw [← hZ]
        generalize qrF cs ds G.1.2.2.1.length = q
        refine am_iload (n := 110) dX7_quarrel_108 rfl rfl ?_
        refine am_iconst (n := 111) (v := 2) dX7_quarrel_110 rfl rfl ?_
        refine am_idiv (n := 112) dX7_quarrel_111 (by decide) rfl ?_
        refine am_iret dX7_quarrel_112 rfl rfl ?_
        exact ⟨rfl, X2, FM2⟩
      · intro k hk K
        rw [show qrF cs ds (k + 1) = qrF cs ds k + nI (pc (lkM cs k &&& (lkM ds k ^^^ (-1)))) from rfl] at K
        generalize qrF cs ds k = q at *
        refine am_iload (n := 63) dX7_quarrel_61 rfl rfl ?_
        refine am_aload_n (n := 64) (i := 0) dX7_quarrel_63 rfl rfl rfl ?_
        refine gfX7_quarrel_10 (n := 67) dX7_quarrel_64 (by first | assumption | exact isC_of (by decide +kernel)) rfl ?_
        refine gfX7_quarrel_87 (n := 70) dX7_quarrel_67 (by first | assumption | exact isC_of (by decide +kernel)) rfl ?_
        rw [show h2.1 100 2 = nI G.1.2.2.1.length from X2.1.2.2.1]
        refine am_icmp_ge (tgt := 108) (n := 73) dX7_quarrel_70 (by decide) rfl (fun q_z => absurd q_z (nI_ge hk (by omega))) (fun _ => ?_)
        refine am_iload (n := 75) dX7_quarrel_73 rfl rfl ?_
        refine am_aload_n (n := 76) (i := 0) dX7_quarrel_75 rfl rfl rfl ?_
        refine gfX7_quarrel_41 (n := 79) dX7_quarrel_76 (by first | assumption | exact isC_of (by decide +kernel)) rfl ?_
        refine am_iload (n := 81) dX7_quarrel_79 rfl rfl ?_
        refine cdX7_quarrel_222 (n := 84) dX7_quarrel_81 (by first | exact ⟨rfl, rfl⟩ | assumption) (ac_X1_namesLike g 6 k cs h2 isDr_6 R1 hV (by omega)) rfl rfl (Nat.le_of_ble_eq_true rfl) (by first | assumption | exact isC_of (by decide +kernel)) rfl ?_
        refine am_aload_n (n := 85) (i := 0) dX7_quarrel_84 rfl rfl rfl ?_
        refine gfX7_quarrel_45 (n := 88) dX7_quarrel_85 (by first | assumption | exact isC_of (by decide +kernel)) rfl ?_
        refine am_iload (n := 90) dX7_quarrel_88 rfl rfl ?_
        refine cdX7_quarrel_222 (n := 93) dX7_quarrel_90 (by first | exact ⟨rfl, rfl⟩ | assumption) (ac_X1_namesLike g 12 k ds h2 isDr_12 R2 hV2 (by omega)) rfl rfl (Nat.le_of_ble_eq_true rfl) (by first | assumption | exact isC_of (by decide +kernel)) rfl ?_
        generalize lkM cs k = a1 at *
        generalize lkM ds k = a2 at *
        refine am_iconst (n := 94) (v := (-1)) dX7_quarrel_93 rfl rfl ?_
        refine am_ixor (n := 95) dX7_quarrel_94 rfl ?_
        refine am_iand (n := 96) dX7_quarrel_95 rfl ?_
        refine cdX7_quarrel_156 (n := 99) dX7_quarrel_96 (by first | exact ⟨rfl, rfl⟩ | assumption) (ac_bitCount g (a1 &&& (a2 ^^^ (-1))) h2) rfl rfl (Nat.le_of_ble_eq_true rfl) rfl ?_
        generalize nI (pc (a1 &&& (a2 ^^^ (-1)))) = a3 at *
        refine am_iadd (n := 100) dX7_quarrel_99 rfl ?_
        refine am_istore (n := 102) dX7_quarrel_100 (Nat.le_of_ble_eq_true rfl) rfl rfl ?_
        first | refine am_iincN (n := 105) dX7_quarrel_102 rfl rfl rfl ?_ | refine am_iinc1 (n := 105) dX7_quarrel_102 rfl rfl rfl ?_
        refine am_goto (tgt := 61) dX7_quarrel_105 (by decide) ?_
        exact am_loc _ rfl K
    · rw [sp_E_f _ hno]
      refine am_astoreN (n := 19) dX7_quarrel_17 (Nat.le_of_ble_eq_true rfl) rfl rfl ?_
      refine am_aload_n (n := 20) (i := 3) dX7_quarrel_19 rfl rfl rfl ?_
      refine am_ifnull (n := 23) dX7_quarrel_20 rfl ?_
      refine am_aloadN (n := 25) dX7_quarrel_23 rfl rfl ?_
      refine am_ifnonnullN (n := 28) dX7_quarrel_25 rfl ?_
      refine am_iconst (n := 29) (v := (-1)) dX7_quarrel_28 rfl rfl ?_
      refine am_iret dX7_quarrel_29 rfl rfl ?_
      exact ⟨rfl, hX, FM.rf⟩
  · rw [sp_E_f _ hno]
    refine am_astore_nN (n := 9) (i := 3) dX7_quarrel_8 rfl (Nat.le_of_ble_eq_true rfl) rfl rfl ?_
    refine am_aload_n (n := 10) (i := 0) dX7_quarrel_9 rfl rfl rfl ?_
    refine gfX7_quarrel_10 (n := 13) dX7_quarrel_10 (by first | assumption | exact isC_of (by decide +kernel)) rfl ?_
    refine am_iload_n (n := 14) (i := 2) dX7_quarrel_13 rfl rfl rfl ?_
    refine caX7_quarrel_105 (n := 17) dX7_quarrel_14 (by first | exact ⟨rfl, rfl⟩ | assumption) (ac_X5_earAt g 100 y G.1 h' isSt_now hX.1 hX.2.1) rfl rfl (Nat.le_of_ble_eq_true rfl) (by first | assumption | exact isC_of (by decide +kernel)) rfl ?_
    rintro v h' ⟨rfl, ⟨f, hf, rfl, rfl⟩ | ⟨hno, rfl⟩⟩
    · refine am_astore (n := 19) dX7_quarrel_17 (Nat.le_of_ble_eq_true rfl) rfl rfl ?_
      refine am_aload_nN (n := 20) (i := 3) dX7_quarrel_19 rfl rfl rfl ?_
      refine am_ifnullN (tgt := 28) dX7_quarrel_20 (by decide) ?_
      refine am_iconst (n := 29) (v := (-1)) dX7_quarrel_28 rfl rfl ?_
      refine am_iret dX7_quarrel_29 rfl rfl ?_
      exact ⟨rfl, hX, FM.rf⟩
    · refine am_astoreN (n := 19) dX7_quarrel_17 (Nat.le_of_ble_eq_true rfl) rfl rfl ?_
      refine am_aload_nN (n := 20) (i := 3) dX7_quarrel_19 rfl rfl rfl ?_
      refine am_ifnullN (tgt := 28) dX7_quarrel_20 (by decide) ?_
      refine am_iconst (n := 29) (v := (-1)) dX7_quarrel_28 rfl rfl ?_
      refine am_iret dX7_quarrel_29 rfl rfl ?_
      exact ⟨rfl, hX, FM.rf⟩
set_option maxRecDepth 100000 in
set_option maxHeartbeats 400000 in
theorem cx_deafest (g : Gx) (G : GS) (h : Hp) (hX : XI G h) : CX g yX7_deafest wsX7_deafest rmX7_deafest [.ref 0] h (sp_deafest G) := by
  have c0 := isC_0
  have c100 := isSt_now.1
  have h4 := hX.2.1.2.2.2.2.1
  unfold CX sp_deafest
  dsimp only
  generalize hZ : ZP g (fun v h'' => v = some (.int (dfF G.1 G.1.2.2.2.length).1) ∧ XI G h'' ∧ FM h h'') = Z
  have z0 : Z.1 = 0 ∧ Z.2.1 = 0 := by rw [← hZ]; exact ⟨rfl, rfl⟩
  refine AC.of (cc := cX7_deafest) (maxL := 6) (ret := (some .int)) (by decide +kernel) rfl (Nat.le_of_ble_eq_true rfl) ?_
  show AW g mmX7_deafest _ 0 [(0, some (.ref 0))] [] _
  rw [hZ]
  refine am_bipush (n := 2) (v := (-6)) dX7_deafest_0 rfl rfl ?_
  refine am_istore_n (n := 3) (i := 1) dX7_deafest_2 rfl (Nat.le_of_ble_eq_true rfl) rfl rfl ?_
  refine am_bipush (n := 5) (v := (-6)) dX7_deafest_3 rfl rfl ?_
  refine am_istore_n (n := 6) (i := 2) dX7_deafest_5 rfl (Nat.le_of_ble_eq_true rfl) rfl rfl ?_
  refine am_iconst (n := 7) (v := 0) dX7_deafest_6 rfl rfl ?_
  refine am_istore_n (n := 8) (i := 3) dX7_deafest_7 rfl (Nat.le_of_ble_eq_true rfl) rfl rfl ?_
  refine am_loc [(0, some (.ref 0)), (1, some (.int (dfF G.1 0).1)), (2, some (.int (dfF G.1 0).2)), (3, some (.int (nI 0)))] rfl ?_
  refine loop_up (Wp := fun k => ∀ h1 : Hp, XI G h1 → FM h h1 → AW g mmX7_deafest Z 8 [(0, some (.ref 0)), (1, some (.int (dfF G.1 k).1)), (2, some (.int (dfF G.1 k).2)), (3, some (.int (nI k)))] [] h1) G.1.2.2.2.length ?_ ?_ 0 (Nat.zero_le _) h hX FM.rf
  · intro h1 X1 F1
    refine am_iload_n (n := 9) (i := 3) dX7_deafest_8 rfl rfl rfl ?_
    refine am_aload_n (n := 10) (i := 0) dX7_deafest_9 rfl rfl rfl ?_
    refine gfX7_deafest_10 (n := 13) dX7_deafest_10 (by first | assumption | exact isC_of (by decide +kernel)) rfl ?_
    refine gfX7_deafest_109 (n := 16) dX7_deafest_13 (by first | assumption | exact isC_of (by decide +kernel)) rfl ?_
    rw [X1.1.2.2.2.1]
    refine am_icmp_ge (tgt := 76) (n := 19) dX7_deafest_16 (by decide) rfl (fun _ => ?_) (fun q_z => absurd (nI_le (Nat.le_refl _) (by omega)) q_z)
    rw [← hZ]
    generalize dfF G.1 G.1.2.2.2.length = T
    refine am_iload_n (n := 77) (i := 1) dX7_deafest_76 rfl rfl rfl ?_
    refine am_iret dX7_deafest_77 rfl rfl ?_
    exact ⟨rfl, X1, F1⟩
  · intro k hk K h1 X1 F1
    have hx := List.getElem?_eq_getElem hk
    rw [show dfF G.1 (k + 1) = dfS G.1 k (dfF G.1 k) from rfl] at K
    unfold dfS at K
    rw [show G.1.2.2.2.getD k E0 = G.1.2.2.2[k] by rw [List.getD_eq_getElem?_getD, hx]; rfl] at K
    obtain ⟨e4, -, iE, rE, vE⟩ := nowE X1 hx
    generalize dfF G.1 k = T at *
    generalize G.1.2.2.2[k] = E at *
    have hV := VC_of hX.2.1 vE
    have i0 := iE.1
    refine am_iload_n (n := 9) (i := 3) dX7_deafest_8 rfl rfl rfl ?_
    refine am_aload_n (n := 10) (i := 0) dX7_deafest_9 rfl rfl rfl ?_
    refine gfX7_deafest_10 (n := 13) dX7_deafest_10 (by first | assumption | exact isC_of (by decide +kernel)) rfl ?_
    refine gfX7_deafest_109 (n := 16) dX7_deafest_13 (by first | assumption | exact isC_of (by decide +kernel)) rfl ?_
    rw [X1.1.2.2.2.1]
    refine am_icmp_ge (tgt := 76) (n := 19) dX7_deafest_16 (by decide) rfl (fun q_z => absurd q_z (nI_ge hk (by omega))) (fun _ => ?_)
    refine am_aload_n (n := 20) (i := 0) dX7_deafest_19 rfl rfl rfl ?_
    refine gfX7_deafest_10 (n := 23) dX7_deafest_20 (by first | assumption | exact isC_of (by decide +kernel)) rfl ?_
    refine am_iload_n (n := 24) (i := 3) dX7_deafest_23 rfl rfl rfl ?_
    refine caX7_deafest_105 (n := 27) dX7_deafest_24 (by first | exact ⟨rfl, rfl⟩ | assumption) (ac_X5_earAt g 100 (nI k) G.1 h1 isSt_now X1.1 X1.2.1) rfl rfl (Nat.le_of_ble_eq_true rfl) (by first | assumption | exact isC_of (by decide +kernel)) rfl ?_
    rintro v h1 ⟨rfl, ⟨e, he, ee, rfl⟩ | ⟨hno, rfl⟩⟩
    · have := (nI_eq (by omega) (by omega)).mp ee
      subst this
      refine am_astore (n := 29) dX7_deafest_27 (Nat.le_of_ble_eq_true rfl) rfl rfl ?_
      refine am_aload (n := 31) dX7_deafest_29 rfl rfl ?_
      refine am_ifnonnull (tgt := 37) dX7_deafest_31 (by decide) ?_
      refine am_aload_n (n := 38) (i := 0) dX7_deafest_37 rfl rfl rfl ?_
      refine gfX7_deafest_41 (n := 41) dX7_deafest_38 (by first | assumption | exact isC_of (by decide +kernel)) rfl ?_
      refine am_aload_n (n := 42) (i := 0) dX7_deafest_41 rfl rfl rfl ?_
      refine gfX7_deafest_10 (n := 45) dX7_deafest_42 (by first | assumption | exact isC_of (by decide +kernel)) rfl ?_
      refine am_aload (n := 47) dX7_deafest_45 rfl rfl ?_
      refine caX7_deafest_177 (n := 50) dX7_deafest_47 (by first | exact ⟨rfl, rfl⟩ | assumption) (ac_X1_fill g 6 100 (100 + 10 * (k + 1)) G.1 E h1 isDr_6 isSt_now iE X1.1 X1.2.1 rE vE (by omega) (by omega)) rfl rfl (Nat.le_of_ble_eq_true rfl) (by first | assumption | exact isC_of (by decide +kernel)) rfl ?_
      rintro v h2 ⟨rfl, F2, R2⟩
      have K2 := K h2 (X1.scr F2 (by omega) (by omega)) (F1.tr (FM.fi F2 (by omega)))
      generalize csOf G.1 E = cs at *
      refine am_aload_n (n := 51) (i := 0) dX7_deafest_50 rfl rfl rfl ?_
      refine gfX7_deafest_41 (n := 54) dX7_deafest_51 (by first | assumption | exact isC_of (by decide +kernel)) rfl ?_
      refine cdX7_deafest_190 (n := 57) dX7_deafest_54 (by first | exact ⟨rfl, rfl⟩ | assumption) (ac_X1_alikePairs g 6 cs h2 isDr_6 R2 hV) rfl rfl (Nat.le_of_ble_eq_true rfl) (by first | assumption | exact isC_of (by decide +kernel)) rfl ?_
      generalize prs cs = pp at *
      refine am_istore (n := 59) dX7_deafest_57 (Nat.le_of_ble_eq_true rfl) rfl rfl ?_
      refine am_iload (n := 61) dX7_deafest_59 rfl rfl ?_
      refine am_iload_n (n := 62) (i := 2) dX7_deafest_61 rfl rfl rfl ?_
      by_cases q : T.2 < pp
      · rw [if_pos q] at K2
        refine am_icmp_le (tgt := 70) (n := 65) dX7_deafest_62 (by decide) rfl (fun q_z => absurd q_z (Int32.not_le.mpr q)) (fun _ => ?_)
        refine am_iload_n (n := 66) (i := 3) dX7_deafest_65 rfl rfl rfl ?_
        refine am_istore_n (n := 67) (i := 1) dX7_deafest_66 rfl (Nat.le_of_ble_eq_true rfl) rfl rfl ?_
        refine am_iload (n := 69) dX7_deafest_67 rfl rfl ?_
        refine am_istore_n (n := 70) (i := 2) dX7_deafest_69 rfl (Nat.le_of_ble_eq_true rfl) rfl rfl ?_
        first | refine am_iincN (n := 73) dX7_deafest_70 rfl rfl rfl ?_ | refine am_iinc1 (n := 73) dX7_deafest_70 rfl rfl rfl ?_
        refine am_goto (tgt := 8) dX7_deafest_73 (by decide) ?_
        exact am_loc _ rfl K2
      · rw [if_neg q] at K2
        refine am_icmp_le (tgt := 70) (n := 65) dX7_deafest_62 (by decide) rfl (fun _ => ?_) (fun q_z => absurd (Int32.not_lt.mp q) q_z)
        first | refine am_iincN (n := 73) dX7_deafest_70 rfl rfl rfl ?_ | refine am_iinc1 (n := 73) dX7_deafest_70 rfl rfl rfl ?_
        refine am_goto (tgt := 8) dX7_deafest_73 (by decide) ?_
        exact am_loc _ rfl K2
    · rw [inN_i hk (by omega)] at hno
      cases hno
theorem cinF_spec : ∀ (f left many : Nat), cinF f left many ≤ many + f ∧ (cinF f left many ≠ 0 → many ≤ cinF f left many ∧ ∀ i, i < cinF f left many - many → 33 ≤ left / 256 ^ i % 256 ∧ left / 256 ^ i % 256 ≤ 126)
  | 0, left, many => by
    unfold cinF
    split
    · exact ⟨Nat.le_refl _, fun _ => ⟨Nat.le_refl _, fun i hi => by omega⟩⟩
    · exact ⟨Nat.zero_le _, fun q => absurd rfl q⟩
  | f + 1, left, many => by
    unfold cinF
    split
    · split
      · exact ⟨by omega, fun _ => ⟨Nat.le_refl _, fun i hi => by omega⟩⟩
      · exact ⟨Nat.zero_le _, fun q => absurd rfl q⟩
    · split
      · rename_i hz hr
        obtain ⟨a, b⟩ := cinF_spec f (left / 256) (many + 1)
        refine ⟨by omega, fun q => ?_⟩
        obtain ⟨b1, b2⟩ := b q
        refine ⟨by omega, fun i hi => ?_⟩
        rcases i with _ | i
        · rw [Nat.pow_zero, Nat.div_one]
          exact hr
        · have := b2 i (by omega)
          rw [Nat.div_div_eq_div_mul, ← Nat.pow_succ'] at this
          exact this
      · exact ⟨Nat.zero_le _, fun q => absurd rfl q⟩
theorem cin_le (n : Nat) : cin n ≤ 8 := by
  have := (cinF_spec 8 n 0).1
  unfold cin
  omega
theorem bD_mem {n : Nat} : ∀ {t c : Nat}, c ∈ bD n t → ∃ i, i < t ∧ c = n / 256 ^ i % 256
  | 0, c, h => by cases h
  | t + 1, c, h => by
    rcases List.mem_cons.mp h with z | z
    · exact ⟨t, Nat.lt_succ_self _, z⟩
    · obtain ⟨i, hi, e⟩ := bD_mem z
      exact ⟨i, by omega, e⟩
theorem VP_put {p : List Nat} {n : Nat} (h : VP p) (hc : cin n ≠ 0) (hl : p.length + cin n ≤ 80) : VP (p ++ bD n (cin n)) := by
  refine ⟨by rw [List.length_append, bD_len]; exact hl, fun c q => ?_⟩
  rcases List.mem_append.mp q with z | z
  · exact h.2 c z
  · obtain ⟨i, hi, e⟩ := bD_mem z
    rw [e]
    exact ((cinF_spec 8 n 0).2 hc).2 i (by unfold cin at hi; omega)
