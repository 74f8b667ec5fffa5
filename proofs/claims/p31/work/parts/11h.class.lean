/-! The class's calls: find, ifMerged, bestMerger, quarrel, deafest -/
theorem inN_neg {x : Int32} {n : Nat} (h : ¬ 0 ≤ x) : inN x n = false := by
  unfold inN
  rw [decide_eq_false h]
  rfl
set_option maxRecDepth 100000 in
set_option maxHeartbeats 400000 in
theorem cx_find (g : Gx) (x r w : Int32) (G : GS) (h : Hp) (hX : XI G h) : CX g yX7_find wsX7_find rmX7_find [.ref 0, .int x, .int r, .int w] h (sp_find x r w G) := by
  have c0 := isC_0
  have c100 := isSt_now.1
  have c101 := isSt_now.2.1
  have h4 := hX.2.1.2.2.2.2.1
  have h24 := hX.2.1.2.2.1
  have hP := hX.2.2.2.2.1
  have hPV := hX.2.2.2.2.2
  unfold CX sp_find
  refine AC.of (cc := cX7_find) (maxL := 8) (ret := (some .int)) (by decide +kernel) rfl (Nat.le_of_ble_eq_true rfl) ?_
  show AW g mmX7_find _ 0 [(0, some (.ref 0)), (1, some (.int x)), (2, some (.int r)), (3, some (.int w))] [] _
  refine am_aload_n (n := 1) (i := 0) dX7_find_0 rfl rfl rfl ?_
  refine gfX7_find_34 (n := 4) dX7_find_1 (by first | assumption | exact isC_of (by decide +kernel)) rfl ?_
  refine cdX7_find_75 (n := 7) dX7_find_4 (by first | exact ⟨rfl, rfl⟩ | assumption) (ac_X4_firstFault g 4 G.2.2.2 h isPd_4 hP hPV) rfl rfl (Nat.le_of_ble_eq_true rfl) (by first | assumption | exact isC_of (by decide +kernel)) rfl ?_
  refine am_bipush (n := 9) (v := (-6)) dX7_find_7 rfl rfl ?_
  by_cases hf : flt G.2.2.2 = -6
  · refine am_icmp_eq (tgt := 15) (n := 12) dX7_find_9 (by decide) rfl (fun _ => ?_) (fun q_z => absurd hf q_z)
    rw [if_pos hf]
    obtain ⟨hw, -⟩ := pw_ok hf
    refine am_aload_n (n := 16) (i := 0) dX7_find_15 rfl rfl rfl ?_
    refine gfX7_find_10 (n := 19) dX7_find_16 (by first | assumption | exact isC_of (by decide +kernel)) rfl ?_
    refine am_iload_n (n := 20) (i := 1) dX7_find_19 rfl rfl rfl ?_
    refine caX7_find_105 (n := 23) dX7_find_20 (by first | exact ⟨rfl, rfl⟩ | assumption) (ac_X5_earAt g 100 x G.1 h isSt_now hX.1 hX.2.1) rfl rfl (Nat.le_of_ble_eq_true rfl) (by first | assumption | exact isC_of (by decide +kernel)) rfl ?_
    rintro v h' ⟨rfl, ⟨e, he, rfl, rfl⟩ | ⟨hno, rfl⟩⟩
    · have hx := List.getElem?_eq_getElem he
      obtain ⟨e4, -, iE, rE, vE⟩ := nowE hX hx
      rw [sp_E_t _ h4 he hx]
      generalize G.1.2.2.2[e] = E at *
      have i0 := iE.1
      refine am_astore (n := 25) dX7_find_23 (Nat.le_of_ble_eq_true rfl) rfl rfl ?_
      refine am_aload (n := 27) dX7_find_25 rfl rfl ?_
      refine am_ifnonnull (tgt := 32) dX7_find_27 (by decide) ?_
      refine am_aload_n (n := 33) (i := 0) dX7_find_32 rfl rfl rfl ?_
      refine gfX7_find_34 (n := 36) dX7_find_33 (by first | assumption | exact isC_of (by decide +kernel)) rfl ?_
      refine cdX7_find_79 (n := 39) dX7_find_36 (by first | exact ⟨rfl, rfl⟩ | assumption) (ac_X4_asWord g 4 G.2.2.2 h' isPd_4 hP hPV hf) rfl rfl (Nat.le_of_ble_eq_true rfl) (by first | assumption | exact isC_of (by decide +kernel)) rfl ?_
      generalize pw G.2.2.2 = n at *
      refine am_lstore (n := 41) dX7_find_39 (Nat.le_of_ble_eq_true rfl) rfl rfl ?_
      refine am_aload_n (n := 42) (i := 0) dX7_find_41 rfl rfl rfl ?_
      refine gfX7_find_41 (n := 45) dX7_find_42 (by first | assumption | exact isC_of (by decide +kernel)) rfl ?_
      refine am_aload_n (n := 46) (i := 0) dX7_find_45 rfl rfl rfl ?_
      refine gfX7_find_10 (n := 49) dX7_find_46 (by first | assumption | exact isC_of (by decide +kernel)) rfl ?_
      refine am_aload (n := 51) dX7_find_49 rfl rfl ?_
      refine caX7_find_177 (n := 54) dX7_find_51 (by first | exact ⟨rfl, rfl⟩ | assumption) (ac_X1_fill g 6 100 (100 + 10 * (e + 1)) G.1 E h' isDr_6 isSt_now iE hX.1 hX.2.1 rE vE (by omega) (by omega)) rfl rfl (Nat.le_of_ble_eq_true rfl) (by first | assumption | exact isC_of (by decide +kernel)) rfl ?_
      rintro v h1 ⟨rfl, F1, R1⟩
      have X1 := hX.scr F1 (by omega) (by omega)
      have rE1 := rE.kept (fun c c1 c2 => F1.1 c (by omega))
      have hV := VC_of hX.2.1 vE
      refine am_aload_n (n := 55) (i := 0) dX7_find_54 rfl rfl rfl ?_
      refine gfX7_find_58 (n := 58) dX7_find_55 (by first | assumption | exact isC_of (by decide +kernel)) rfl ?_
      refine am_aload_n (n := 59) (i := 0) dX7_find_58 rfl rfl rfl ?_
      refine gfX7_find_10 (n := 62) dX7_find_59 (by first | assumption | exact isC_of (by decide +kernel)) rfl ?_
      refine am_lload (n := 64) dX7_find_62 rfl rfl ?_
      refine am_aload_n (n := 65) (i := 0) dX7_find_64 rfl rfl rfl ?_
      refine gfX7_find_41 (n := 68) dX7_find_65 (by first | assumption | exact isC_of (by decide +kernel)) rfl ?_
      refine am_lload (n := 70) dX7_find_68 rfl rfl ?_
      refine am_aload_n (n := 71) (i := 0) dX7_find_70 rfl rfl rfl ?_
      refine gfX7_find_10 (n := 74) dX7_find_71 (by first | assumption | exact isC_of (by decide +kernel)) rfl ?_
      refine am_aload (n := 76) dX7_find_74 rfl rfl ?_
      refine caX7_find_229 (n := 79) dX7_find_76 (by first | exact ⟨rfl, rfl⟩ | assumption) (ac_X1_namesHeardLike g 6 n 100 (100 + 10 * (e + 1)) G.1 E (csOf G.1 E) h1 isDr_6 isSt_now iE X1.1 X1.2.1 rE1 vE hw R1 hV (by omega)) rfl rfl (Nat.le_of_ble_eq_true rfl) (by first | assumption | exact isC_of (by decide +kernel)) rfl ?_
      rintro v h2 ⟨rfl, F2⟩
      have X2 := X1.scr F2 (by omega) (by omega)
      refine am_iload_n (n := 80) (i := 2) dX7_find_79 rfl rfl rfl ?_
      have hbt : ∀ i, i < G.1.2.2.1.length → bt (hlM (csOf G.1 E) (codes E G.1.1 n)) i = lkW G.1 E n i := by
        intro i hi
        rw [Bool.eq_iff_iff]
        unfold hlM
        rw [bt_msk (by rw [csOf_len]; omega)]
        exact ⟨fun q => q.2, fun q => ⟨by rw [csOf_len]; exact hi, q⟩⟩
      generalize hlM (csOf G.1 E) (codes E G.1.1 n) = am at *
      have hah : ∀ i, i < G.1.2.2.1.length → ahC (bt am) (fun o => dst n (G.1.2.2.1.getD o 0)) G.1.2.2.1.length i = ahC (lkW G.1 E n) (dsW G.1 n) G.1.2.2.1.length i := by
        intro i hi
        unfold ahC
        refine fb_ct_cong (fun o ho => ?_)
        rw [hbt o ho]
        rfl
      refine caX7_find_233 (n := 83) dX7_find_80 (by first | exact ⟨rfl, rfl⟩ | assumption) (ac_X3_ranked g 18 100 n am r G.1 h2 isMt_18 isSt_now X2.1 X2.2.1 hw (by omega)) rfl rfl (Nat.le_of_ble_eq_true rfl) (by first | assumption | exact isC_of (by decide +kernel)) rfl ?_
      rintro v h3 ⟨F3, ⟨i, hi, hb, ha, rfl⟩ | ⟨hall, rfl⟩⟩
      · have X3 := X2.scr F3 (by omega) (by omega)
        have FM3 : FM h' h3 := ((FM.fi F1 (by omega)).tr (FM.fi F2 (by omega))).tr (FM.fi F3 (by omega))
        rw [fnd_some h24 hi (by rw [← hbt i hi]; exact hb) (by rw [← hah i hi]; exact ha)]
        obtain ⟨i24, hwi, vi⟩ := nowW X3 hi
        unfold fdS dsW
        dsimp only
        refine am_istore (n := 85) dX7_find_83 (Nat.le_of_ble_eq_true rfl) rfl rfl ?_
        refine am_aload_n (n := 86) (i := 0) dX7_find_85 rfl rfl rfl ?_
        refine gfX7_find_10 (n := 89) dX7_find_86 (by first | assumption | exact isC_of (by decide +kernel)) rfl ?_
        refine am_iload (n := 91) dX7_find_89 rfl rfl ?_
        refine cdX7_find_97 (n := 94) dX7_find_91 (by first | exact ⟨rfl, rfl⟩ | assumption) (ac_X5_hasName g 100 (nI i) G.1 h3 isSt_now X3.1 X3.2.1) rfl rfl (Nat.le_of_ble_eq_true rfl) (by first | assumption | exact isC_of (by decide +kernel)) rfl ?_
        rw [inN_i hi (by omega)]
        refine am_if_ne (tgt := 99) (n := 97) dX7_find_94 (by decide) rfl (fun _ => ?_) (fun q_z => absurd q_z (by decide))
        refine am_iload_n (n := 100) (i := 3) dX7_find_99 rfl rfl rfl ?_
        generalize G.1.2.2.1.getD i 0 = m at *
        by_cases w0 : w = 0
        · subst w0
          rw [if_pos rfl]
          refine am_lookup (tgt := 128) dX7_find_100 (by decide) rfl (by decide) ?_
          refine am_iload (n := 130) dX7_find_128 rfl rfl ?_
          refine am_iret dX7_find_130 rfl rfl ?_
          exact ⟨rfl, X3, FM3⟩
        · rw [if_neg w0]
          by_cases w1 : w = 1
          · subst w1
            rw [if_pos rfl]
            have hin : vp_in (nI i) 24 := vp_in_nI i24 (by decide)
            refine am_lookup (tgt := 131) dX7_find_100 (by decide) rfl (by decide) ?_
            refine am_aload_n (n := 132) (i := 0) dX7_find_131 rfl rfl rfl ?_
            refine gfX7_find_58 (n := 135) dX7_find_132 (by first | assumption | exact isC_of (by decide +kernel)) rfl ?_
            refine am_lload (n := 137) dX7_find_135 rfl rfl ?_
            refine am_aload_n (n := 138) (i := 0) dX7_find_137 rfl rfl rfl ?_
            refine gfX7_find_10 (n := 141) dX7_find_138 (by first | assumption | exact isC_of (by decide +kernel)) rfl ?_
            refine gfX7_find_90 (n := 144) dX7_find_141 (by first | assumption | exact isC_of (by decide +kernel)) rfl ?_
            refine am_iload (n := 146) dX7_find_144 rfl rfl ?_
            refine am_lald (n := 147) dX7_find_146 (by first | assumption | exact isC_of (by decide +kernel)) (by first | assumption | exact vp_in_nI (by omega) (by omega) | exact vp_in_iff.mpr (by decide)) rfl ?_
            rw [nI_clamp (by omega), hwi]
            refine caX7_find_225 (n := 150) dX7_find_147 (by first | exact ⟨rfl, rfl⟩ | assumption) (ac_X3_between g 18 n m h3 isMt_18 hw vi) rfl rfl (Nat.le_of_ble_eq_true rfl) (by first | assumption | exact isC_of (by decide +kernel)) rfl ?_
            rintro v h4 ⟨rfl, F4⟩
            generalize dst n m = d
            exact am_iret dX7_find_150 rfl rfl ⟨rfl, X3.scr F4 (by omega) (by omega), FM3.tr (FM.fi F4 (by omega))⟩
          · rw [if_neg w1]
            refine am_lookup (tgt := 151) dX7_find_100 (by decide) (by show Op.lookupswitch.offset [(0, 28), (1, 31)] 51 w.toInt = 51; rw [lv_osw w0 (by decide), lv_osw w1 (by decide)]; rfl) (by decide) ?_
            refine am_bipush (n := 153) (v := (-2)) dX7_find_151 rfl rfl ?_
            refine am_iret dX7_find_153 rfl rfl ?_
            exact ⟨rfl, X3, FM3⟩
      · have X3 := X2.scr F3 (by omega) (by omega)
        have FM3 : FM h' h3 := ((FM.fi F1 (by omega)).tr (FM.fi F2 (by omega))).tr (FM.fi F3 (by omega))
        rw [fnd_none (fun i hi hl => by rw [← hah i hi]; exact hall i hi (by rw [hbt i hi]; exact hl))]
        refine am_istore (n := 85) dX7_find_83 (Nat.le_of_ble_eq_true rfl) rfl rfl ?_
        refine am_aload_n (n := 86) (i := 0) dX7_find_85 rfl rfl rfl ?_
        refine gfX7_find_10 (n := 89) dX7_find_86 (by first | assumption | exact isC_of (by decide +kernel)) rfl ?_
        refine am_iload (n := 91) dX7_find_89 rfl rfl ?_
        refine cdX7_find_97 (n := 94) dX7_find_91 (by first | exact ⟨rfl, rfl⟩ | assumption) (ac_X5_hasName g 100 (-6) G.1 h3 isSt_now X3.1 X3.2.1) rfl rfl (Nat.le_of_ble_eq_true rfl) (by first | assumption | exact isC_of (by decide +kernel)) rfl ?_
        rw [inN_neg (by decide)]
        refine am_if_ne (tgt := 99) (n := 97) dX7_find_94 (by decide) rfl (fun q_z => absurd rfl q_z) (fun _ => ?_)
        refine am_iconst (n := 98) (v := (-1)) dX7_find_97 rfl rfl ?_
        refine am_iret dX7_find_98 rfl rfl ?_
        exact ⟨rfl, X3, FM3⟩
    · rw [sp_E_f _ hno]
      refine am_astoreN (n := 25) dX7_find_23 (Nat.le_of_ble_eq_true rfl) rfl rfl ?_
      refine am_aloadN (n := 27) dX7_find_25 rfl rfl ?_
      refine am_ifnonnullN (n := 30) dX7_find_27 rfl ?_
      refine am_iconst (n := 31) (v := (-1)) dX7_find_30 rfl rfl ?_
      refine am_iret dX7_find_31 rfl rfl ?_
      exact ⟨rfl, hX, FM.rf⟩
  · refine am_icmp_eq (tgt := 15) (n := 12) dX7_find_9 (by decide) rfl (fun q_z => absurd q_z hf) (fun _ => ?_)
    rw [if_neg hf]
    refine am_bipush (n := 14) (v := (-3)) dX7_find_12 rfl rfl ?_
    refine am_iret dX7_find_14 rfl rfl ?_
    exact ⟨rfl, hX, FM.rf⟩
set_option maxRecDepth 100000 in
set_option maxHeartbeats 400000 in
theorem ac_X7_fillAsIfMerged (g : Gx) (e a b : Nat) (E : EV) (G : GS) (h : Hp) (hX : XI G h) (hx : G.1.2.2.2[e]? = some E) (ha : a ≤ 9) (hb : b ≤ 9) : AC g yX7_fillAsIfMerged wsX7_fillAsIfMerged rmX7_fillAsIfMerged [.ref 0, .ref (100 + 10 * (e + 1)), .int (nI a), .int (nI b)] h (fun v h' => v = none ∧ FrI 6 36 h h' ∧ RD 6 (csOf G.1 (mergeE E a b)) h') := by
  have c0 := isC_0
  obtain ⟨e4, -, iE, rE, vE⟩ := nowE hX hx
  refine AC.of (cc := cX7_fillAsIfMerged) (maxL := 4) (ret := none) (by decide +kernel) rfl (Nat.le_of_ble_eq_true rfl) ?_
  show AW g mmX7_fillAsIfMerged _ 0 [(0, some (.ref 0)), (1, some (.ref (100 + 10 * (e + 1)))), (2, some (.int (nI a))), (3, some (.int (nI b)))] [] _
  refine am_aload_n (n := 1) (i := 0) dX7_fillAsIfMerged_0 rfl rfl rfl ?_
  refine gfX7_fillAsIfMerged_51 (n := 4) dX7_fillAsIfMerged_1 (by first | assumption | exact isC_of (by decide +kernel)) rfl ?_
  refine am_aload_n (n := 5) (i := 1) dX7_fillAsIfMerged_4 rfl rfl rfl ?_
  refine caX7_fillAsIfMerged_119 (n := 8) dX7_fillAsIfMerged_5 (by first | exact ⟨rfl, rfl⟩ | assumption) (ac_X2_beAs g 30 (100 + 10 * (e + 1)) E h isEar_30 iE rE vE (by omega)) rfl rfl (Nat.le_of_ble_eq_true rfl) (by first | assumption | exact isC_of (by decide +kernel)) rfl ?_
  rintro r h1 ⟨rfl, R1, F1⟩
  refine am_aload_n (n := 9) (i := 0) dX7_fillAsIfMerged_8 rfl rfl rfl ?_
  refine gfX7_fillAsIfMerged_51 (n := 12) dX7_fillAsIfMerged_9 (by first | assumption | exact isC_of (by decide +kernel)) rfl ?_
  refine am_iload_n (n := 13) (i := 2) dX7_fillAsIfMerged_12 rfl rfl rfl ?_
  refine am_iload_n (n := 14) (i := 3) dX7_fillAsIfMerged_13 rfl rfl rfl ?_
  refine caX7_fillAsIfMerged_148 (n := 17) dX7_fillAsIfMerged_14 (by first | exact ⟨rfl, rfl⟩ | assumption) (ac_X2_mergeClasses g 30 a b E h1 isEar_30 R1 vE ha hb) rfl rfl (Nat.le_of_ble_eq_true rfl) (by first | assumption | exact isC_of (by decide +kernel)) rfl ?_
  rintro r h2 ⟨rfl, R2, F2⟩
  have F12 : FrI 30 36 h h2 := F1.tr F2
  have X2 := hX.scr F12 (by omega) (by omega)
  refine am_aload_n (n := 18) (i := 0) dX7_fillAsIfMerged_17 rfl rfl rfl ?_
  refine gfX7_fillAsIfMerged_41 (n := 21) dX7_fillAsIfMerged_18 (by first | assumption | exact isC_of (by decide +kernel)) rfl ?_
  refine am_aload_n (n := 22) (i := 0) dX7_fillAsIfMerged_21 rfl rfl rfl ?_
  refine gfX7_fillAsIfMerged_10 (n := 25) dX7_fillAsIfMerged_22 (by first | assumption | exact isC_of (by decide +kernel)) rfl ?_
  refine am_aload_n (n := 26) (i := 0) dX7_fillAsIfMerged_25 rfl rfl rfl ?_
  refine gfX7_fillAsIfMerged_51 (n := 29) dX7_fillAsIfMerged_26 (by first | assumption | exact isC_of (by decide +kernel)) rfl ?_
  refine caX7_fillAsIfMerged_177 (n := 32) dX7_fillAsIfMerged_29 (by first | exact ⟨rfl, rfl⟩ | assumption) (ac_X1_fill g 6 100 30 G.1 (mergeE E a b) h2 isDr_6 isSt_now isEar_30 X2.1 X2.2.1 R2 (VE_merge vE ha hb) (by omega) (by omega)) rfl rfl (Nat.le_of_ble_eq_true rfl) (by first | assumption | exact isC_of (by decide +kernel)) rfl ?_
  rintro r h3 ⟨rfl, F3, R3⟩
  refine am_vret dX7_fillAsIfMerged_32 rfl ?_
  exact ⟨rfl, (F12.wide (by omega) (by omega)).tr (F3.wide (by omega) (by omega)), R3⟩
set_option maxRecDepth 100000 in
set_option maxHeartbeats 400000 in
theorem cx_ifMerged (g : Gx) (x a b w : Int32) (G : GS) (h : Hp) (hX : XI G h) : CX g yX7_ifMerged wsX7_ifMerged rmX7_ifMerged [.ref 0, .int x, .int a, .int b, .int w] h (sp_ifMerged x a b w G) := by
  have c0 := isC_0
  have c100 := isSt_now.1
  have c6 := isDr_6.1
  have h4 := hX.2.1.2.2.2.2.1
  unfold CX sp_ifMerged
  refine AC.of (cc := cX7_ifMerged) (maxL := 6) (ret := (some .int)) (by decide +kernel) rfl (Nat.le_of_ble_eq_true rfl) ?_
  show AW g mmX7_ifMerged _ 0 [(0, some (.ref 0)), (1, some (.int x)), (2, some (.int a)), (3, some (.int b)), (4, some (.int w))] [] _
  refine am_aload_n (n := 1) (i := 0) dX7_ifMerged_0 rfl rfl rfl ?_
  refine gfX7_ifMerged_10 (n := 4) dX7_ifMerged_1 (by first | assumption | exact isC_of (by decide +kernel)) rfl ?_
  refine am_iload_n (n := 5) (i := 1) dX7_ifMerged_4 rfl rfl rfl ?_
  refine caX7_ifMerged_105 (n := 8) dX7_ifMerged_5 (by first | exact ⟨rfl, rfl⟩ | assumption) (ac_X5_earAt g 100 x G.1 h isSt_now hX.1 hX.2.1) rfl rfl (Nat.le_of_ble_eq_true rfl) (by first | assumption | exact isC_of (by decide +kernel)) rfl ?_
  rintro v h' ⟨rfl, ⟨e, he, rfl, rfl⟩ | ⟨hno, rfl⟩⟩
  · have hx := List.getElem?_eq_getElem he
    obtain ⟨e4, -, iE, rE, vE⟩ := nowE hX hx
    rw [sp_E_t _ h4 he hx]
    generalize G.1.2.2.2[e] = E at *
    have i0 := iE.1
    refine am_astore (n := 10) dX7_ifMerged_8 (Nat.le_of_ble_eq_true rfl) rfl rfl ?_
    refine am_aload (n := 12) dX7_ifMerged_10 rfl rfl ?_
    refine am_ifnonnull (tgt := 17) dX7_ifMerged_12 (by decide) ?_
    refine am_iload_n (n := 18) (i := 2) dX7_ifMerged_17 rfl rfl rfl ?_
    refine am_iload_n (n := 19) (i := 3) dX7_ifMerged_18 rfl rfl rfl ?_
    refine cdX7_ifMerged_144 (n := 22) dX7_ifMerged_19 (by first | exact ⟨rfl, rfl⟩ | assumption) (ac_X7_canMerge g a b h') rfl rfl (Nat.le_of_ble_eq_true rfl) rfl ?_
    cases hb : canM a b with
    | false =>
      rw [if_neg (by decide)]
      refine am_if_eq (tgt := 35) (n := 25) dX7_ifMerged_22 (by decide) rfl (fun _ => ?_) (fun q_z => absurd rfl q_z)
      refine am_bipush (n := 37) (v := (-2)) dX7_ifMerged_35 rfl rfl ?_
      refine am_iret dX7_ifMerged_37 rfl rfl ?_
      exact ⟨rfl, hX, FM.rf⟩
    | true =>
      rw [if_pos rfl]
      have hb2 := hb
      unfold canM at hb2
      rw [Bool.and_eq_true, Bool.and_eq_true] at hb2
      obtain ⟨na, -, na9, rfl⟩ := inR_t (by decide) (by decide) hb2.1.1
      obtain ⟨nb, -, nb9, rfl⟩ := inR_t (by decide) (by decide) hb2.1.2
      rw [tn_nI (by omega), tn_nI (by omega)]
      refine am_if_eq (tgt := 35) (n := 25) dX7_ifMerged_22 (by decide) rfl (fun q_z => absurd q_z (by decide)) (fun _ => ?_)
      refine am_iload (n := 27) dX7_ifMerged_25 rfl rfl ?_
      refine am_iconst (n := 28) (v := 0) dX7_ifMerged_27 rfl rfl ?_
      refine am_iconst (n := 29) (v := 1) dX7_ifMerged_28 rfl rfl ?_
      refine cdX7_ifMerged_62 (n := 32) dX7_ifMerged_29 (by first | exact ⟨rfl, rfl⟩ | assumption) (ac_X7_isWithin g w 0 1 h') rfl rfl (Nat.le_of_ble_eq_true rfl) rfl ?_
      cases hw : inR w 0 1 with
      | false =>
        rw [if_neg (by decide), show (decide (0 ≤ w) && decide (w ≤ 1)) = false from hw]
        refine am_if_ne (tgt := 38) (n := 35) dX7_ifMerged_32 (by decide) rfl (fun q_z => absurd rfl q_z) (fun _ => ?_)
        refine am_bipush (n := 37) (v := (-2)) dX7_ifMerged_35 rfl rfl ?_
        refine am_iret dX7_ifMerged_37 rfl rfl ?_
        exact ⟨rfl, hX, FM.rf⟩
      | true =>
        rw [if_pos rfl, show (decide (0 ≤ w) && decide (w ≤ 1)) = true from hw]
        refine am_if_ne (tgt := 38) (n := 35) dX7_ifMerged_32 (by decide) rfl (fun _ => ?_) (fun q_z => absurd q_z (by decide))
        refine am_aload_n (n := 39) (i := 0) dX7_ifMerged_38 rfl rfl rfl ?_
        refine am_aload (n := 41) dX7_ifMerged_39 rfl rfl ?_
        refine am_iload_n (n := 42) (i := 2) dX7_ifMerged_41 rfl rfl rfl ?_
        refine am_iload_n (n := 43) (i := 3) dX7_ifMerged_42 rfl rfl rfl ?_
        refine caX7_ifMerged_237 (n := 46) dX7_ifMerged_43 (by first | exact ⟨rfl, rfl⟩ | assumption) (ac_X7_fillAsIfMerged g e na nb E G h' hX hx na9 nb9) rfl rfl (Nat.le_of_ble_eq_true rfl) (by first | assumption | exact isC_of (by decide +kernel)) rfl ?_
        rintro v h1 ⟨rfl, F1, R1⟩
        have X1 := hX.scr F1 (by omega) (by omega)
        have FM1 : FM h' h1 := FM.fi F1 (by omega)
        have hV := VC_of hX.2.1 (VE_merge vE na9 nb9)
        generalize csOf G.1 (mergeE E na nb) = cs at *
        refine am_iload (n := 48) dX7_ifMerged_46 rfl rfl ?_
        by_cases w0 : w = 0
        · rw [if_pos w0]
          refine am_if_ne (tgt := 61) (n := 51) dX7_ifMerged_48 (by decide) rfl (fun q_z => absurd w0 q_z) (fun _ => ?_)
          refine am_aload_n (n := 52) (i := 0) dX7_ifMerged_51 rfl rfl rfl ?_
          refine gfX7_ifMerged_41 (n := 55) dX7_ifMerged_52 (by first | assumption | exact isC_of (by decide +kernel)) rfl ?_
          refine gfX7_ifMerged_181 (n := 58) dX7_ifMerged_55 (by first | assumption | exact isC_of (by decide +kernel)) rfl ?_
          rw [R1.2.2.1]
          refine am_goto (tgt := 68) dX7_ifMerged_58 (by decide) ?_
          refine am_iret dX7_ifMerged_68 rfl rfl ?_
          exact ⟨rfl, X1, FM1⟩
        · rw [if_neg w0]
          refine am_if_ne (tgt := 61) (n := 51) dX7_ifMerged_48 (by decide) rfl (fun _ => ?_) (fun q_z => absurd q_z w0)
          refine am_aload_n (n := 62) (i := 0) dX7_ifMerged_61 rfl rfl rfl ?_
          refine gfX7_ifMerged_41 (n := 65) dX7_ifMerged_62 (by first | assumption | exact isC_of (by decide +kernel)) rfl ?_
          refine cdX7_ifMerged_190 (n := 68) dX7_ifMerged_65 (by first | exact ⟨rfl, rfl⟩ | assumption) (ac_X1_alikePairs g 6 cs h1 isDr_6 R1 hV) rfl rfl (Nat.le_of_ble_eq_true rfl) (by first | assumption | exact isC_of (by decide +kernel)) rfl ?_
          exact am_iret dX7_ifMerged_68 rfl rfl ⟨rfl, X1, FM1⟩
  · rw [sp_E_f _ hno]
    refine am_astoreN (n := 10) dX7_ifMerged_8 (Nat.le_of_ble_eq_true rfl) rfl rfl ?_
    refine am_aloadN (n := 12) dX7_ifMerged_10 rfl rfl ?_
    refine am_ifnonnullN (n := 15) dX7_ifMerged_12 rfl ?_
    refine am_iconst (n := 16) (v := (-1)) dX7_ifMerged_15 rfl rfl ?_
    refine am_iret dX7_ifMerged_16 rfl rfl ?_
    exact ⟨rfl, hX, FM.rf⟩
set_option maxRecDepth 100000 in
set_option maxHeartbeats 400000 in
theorem cx_bestMerger (g : Gx) (x w : Int32) (G : GS) (h : Hp) (hX : XI G h) : CX g yX7_bestMerger wsX7_bestMerger rmX7_bestMerger [.ref 0, .int x, .int w] h (sp_bestMerger x w G) := by
  have c0 := isC_0
  have c100 := isSt_now.1
  have c6 := isDr_6.1
  have h4 := hX.2.1.2.2.2.2.1
  unfold CX sp_bestMerger
  refine AC.of (cc := cX7_bestMerger) (maxL := 10) (ret := (some .int)) (by decide +kernel) rfl (Nat.le_of_ble_eq_true rfl) ?_
  show AW g mmX7_bestMerger _ 0 [(0, some (.ref 0)), (1, some (.int x)), (2, some (.int w))] [] _
  refine am_aload_n (n := 1) (i := 0) dX7_bestMerger_0 rfl rfl rfl ?_
  refine gfX7_bestMerger_10 (n := 4) dX7_bestMerger_1 (by first | assumption | exact isC_of (by decide +kernel)) rfl ?_
  refine am_iload_n (n := 5) (i := 1) dX7_bestMerger_4 rfl rfl rfl ?_
  refine caX7_bestMerger_105 (n := 8) dX7_bestMerger_5 (by first | exact ⟨rfl, rfl⟩ | assumption) (ac_X5_earAt g 100 x G.1 h isSt_now hX.1 hX.2.1) rfl rfl (Nat.le_of_ble_eq_true rfl) (by first | assumption | exact isC_of (by decide +kernel)) rfl ?_
  rintro v h' ⟨rfl, ⟨e, he, rfl, rfl⟩ | ⟨hno, rfl⟩⟩
  · have hx := List.getElem?_eq_getElem he
    obtain ⟨e4, -, iE, rE, vE⟩ := nowE hX hx
    rw [sp_E_t _ h4 he hx]
    generalize G.1.2.2.2[e] = E at *
    have i0 := iE.1
    refine am_astore_n (n := 9) (i := 3) dX7_bestMerger_8 rfl (Nat.le_of_ble_eq_true rfl) rfl rfl ?_
    refine am_aload_n (n := 10) (i := 3) dX7_bestMerger_9 rfl rfl rfl ?_
    refine am_ifnonnull (tgt := 15) dX7_bestMerger_10 (by decide) ?_
    refine am_iload_n (n := 16) (i := 2) dX7_bestMerger_15 rfl rfl rfl ?_
    refine am_iconst (n := 17) (v := 0) dX7_bestMerger_16 rfl rfl ?_
    refine am_iconst (n := 18) (v := 2) dX7_bestMerger_17 rfl rfl ?_
    refine cdX7_bestMerger_62 (n := 21) dX7_bestMerger_18 (by first | exact ⟨rfl, rfl⟩ | assumption) (ac_X7_isWithin g w 0 2 h') rfl rfl (Nat.le_of_ble_eq_true rfl) rfl ?_
    cases hw : inR w 0 2 with
    | false =>
      rw [if_neg (by decide), show (decide (0 ≤ w) && decide (w ≤ 2)) = false from hw]
      refine am_if_ne (tgt := 27) (n := 24) dX7_bestMerger_21 (by decide) rfl (fun q_z => absurd rfl q_z) (fun _ => ?_)
      refine am_bipush (n := 26) (v := (-2)) dX7_bestMerger_24 rfl rfl ?_
      refine am_iret dX7_bestMerger_26 rfl rfl ?_
      exact ⟨rfl, hX, FM.rf⟩
    | true =>
      rw [if_pos rfl, show (decide (0 ≤ w) && decide (w ≤ 2)) = true from hw]
      refine am_if_ne (tgt := 27) (n := 24) dX7_bestMerger_21 (by decide) rfl (fun _ => ?_) (fun q_z => absurd q_z (by decide))
      refine am_bipush (n := 29) (v := (-6)) dX7_bestMerger_27 rfl rfl ?_
      refine am_istore (n := 31) dX7_bestMerger_29 (Nat.le_of_ble_eq_true rfl) rfl rfl ?_
      refine am_bipush (n := 33) (v := (-6)) dX7_bestMerger_31 rfl rfl ?_
      refine am_istore (n := 35) dX7_bestMerger_33 (Nat.le_of_ble_eq_true rfl) rfl rfl ?_
      refine am_bipush (n := 37) (v := (-6)) dX7_bestMerger_35 rfl rfl ?_
      refine am_istore (n := 39) dX7_bestMerger_37 (Nat.le_of_ble_eq_true rfl) rfl rfl ?_
      refine am_iconst (n := 40) (v := 1) dX7_bestMerger_39 rfl rfl ?_
      refine am_istore (n := 42) dX7_bestMerger_40 (Nat.le_of_ble_eq_true rfl) rfl rfl ?_
      generalize hZ : ZP g (fun v h'' => v = some (.int (bmA (bmO G.1 E 9) w, G).1) ∧ XI (bmA (bmO G.1 E 9) w, G).2 h'' ∧ FM h' h'') = Z
      have z0 : Z.1 = 0 ∧ Z.2.1 = 0 := by rw [← hZ]; exact ⟨rfl, rfl⟩
      refine am_loc [(0, some (.ref 0)), (1, some (.int (nI e))), (2, some (.int w)), (3, some (.ref (100 + 10 * (e + 1)))), (4, some (.int (bmO G.1 E 0).1)), (5, some (.int (bmO G.1 E 0).2.1)), (6, some (.int (bmO G.1 E 0).2.2)), (7, some (.int (nI (0 + 1))))] rfl ?_
      refine loop_up (Wp := fun k => ∀ h1 : Hp, XI G h1 → FM h' h1 → AW g mmX7_bestMerger Z 42 [(0, some (.ref 0)), (1, some (.int (nI e))), (2, some (.int w)), (3, some (.ref (100 + 10 * (e + 1)))), (4, some (.int (bmO G.1 E k).1)), (5, some (.int (bmO G.1 E k).2.1)), (6, some (.int (bmO G.1 E k).2.2)), (7, some (.int (nI (k + 1))))] [] h1) 9 ?_ ?_ 0 (by omega) h' hX FM.rf
      · intro h1 X1 F1
        refine am_iload (n := 44) dX7_bestMerger_42 rfl rfl ?_
        refine am_bipush (n := 46) (v := 10) dX7_bestMerger_44 rfl rfl ?_
        refine am_icmp_ge (tgt := 145) (n := 49) dX7_bestMerger_46 (by decide) rfl (fun _ => ?_) (fun q_z => absurd (by decide) q_z)
        refine am_iload_n (n := 146) (i := 2) dX7_bestMerger_145 rfl rfl rfl ?_
        rw [← hZ]
        generalize bmO G.1 E 9 = T
        unfold bmA
        by_cases w0 : w = 0
        · subst w0
          rw [if_pos rfl]
          refine am_lookup (tgt := 172) dX7_bestMerger_146 (by decide) rfl (by decide) ?_
          refine am_iload (n := 174) dX7_bestMerger_172 rfl rfl ?_
          refine am_iret dX7_bestMerger_174 rfl rfl ?_
          exact ⟨rfl, X1, F1⟩
        · rw [if_neg w0]
          by_cases w1 : w = 1
          · subst w1
            rw [if_pos rfl]
            refine am_lookup (tgt := 175) dX7_bestMerger_146 (by decide) rfl (by decide) ?_
            refine am_iload (n := 177) dX7_bestMerger_175 rfl rfl ?_
            refine am_iret dX7_bestMerger_177 rfl rfl ?_
            exact ⟨rfl, X1, F1⟩
          · rw [if_neg w1]
            refine am_lookup (tgt := 178) dX7_bestMerger_146 (by decide) (by show Op.lookupswitch.offset [(0, 26), (1, 29)] 32 w.toInt = 32; rw [lv_osw w0 (by decide), lv_osw w1 (by decide)]; rfl) (by decide) ?_
            refine am_iload (n := 180) dX7_bestMerger_178 rfl rfl ?_
            refine am_iret dX7_bestMerger_180 rfl rfl ?_
            exact ⟨rfl, X1, F1⟩
      · intro k hk K h1 X1 F1
        rw [show bmO G.1 E (k + 1) = bmI G.1 E (k + 1) (bmO G.1 E k) (8 - k) from rfl] at K
        generalize bmO G.1 E k = t at *
        have rE1 := (nowE X1 hx).2.2.2.1
        refine am_iload (n := 44) dX7_bestMerger_42 rfl rfl ?_
        refine am_bipush (n := 46) (v := 10) dX7_bestMerger_44 rfl rfl ?_
        refine am_icmp_ge (tgt := 145) (n := 49) dX7_bestMerger_46 (by decide) rfl (fun q_z => absurd q_z (nI_ge (show k + 1 < 10 by omega) (by decide))) (fun _ => ?_)
        refine am_aload_n (n := 50) (i := 3) dX7_bestMerger_49 rfl rfl rfl ?_
        refine am_iload (n := 52) dX7_bestMerger_50 rfl rfl ?_
        refine cdX7_bestMerger_152 (n := 55) dX7_bestMerger_52 (by first | exact ⟨rfl, rfl⟩ | assumption) (ac_X2_lettersOf g (100 + 10 * (e + 1)) (k + 1) E h1 iE rE1 vE (by omega)) rfl rfl (Nat.le_of_ble_eq_true rfl) (by first | assumption | exact isC_of (by decide +kernel)) rfl ?_
        by_cases hl : lof E.1 (k + 1) = 0
        · rw [bmI_0 hl] at K
          rw [hl]
          refine am_if_ne (tgt := 61) (n := 58) dX7_bestMerger_55 (by decide) rfl (fun q_z => absurd rfl q_z) (fun _ => ?_)
          refine am_goto (tgt := 139) dX7_bestMerger_58 (by decide) ?_
          first | refine am_iincN (n := 142) dX7_bestMerger_139 rfl rfl rfl ?_ | refine am_iinc1 (n := 142) dX7_bestMerger_139 rfl rfl rfl ?_
          refine am_goto (tgt := 42) dX7_bestMerger_142 (by decide) ?_
          exact am_loc _ rfl (K h1 X1 F1)
        · refine am_if_ne (tgt := 61) (n := 58) dX7_bestMerger_55 (by decide) rfl (fun _ => ?_) (fun q_z => absurd q_z hl)
          refine am_iload (n := 63) dX7_bestMerger_61 rfl rfl ?_
          refine am_iconst (n := 64) (v := 1) dX7_bestMerger_63 rfl rfl ?_
          refine am_iadd (n := 65) dX7_bestMerger_64 rfl ?_
          rw [nI_1]
          refine am_istore (n := 67) dX7_bestMerger_65 (Nat.le_of_ble_eq_true rfl) rfl rfl ?_
          refine am_loc [(0, some (.ref 0)), (1, some (.int (nI e))), (2, some (.int w)), (3, some (.ref (100 + 10 * (e + 1)))), (4, some (.int (bmI G.1 E (k + 1) t 0).1)), (5, some (.int (bmI G.1 E (k + 1) t 0).2.1)), (6, some (.int (bmI G.1 E (k + 1) t 0).2.2)), (7, some (.int (nI (k + 1)))), (8, some (.int (nI (k + 1 + 1 + 0))))] rfl ?_
          refine loop_up (Wp := fun j => ∀ h1 : Hp, XI G h1 → FM h' h1 → AW g mmX7_bestMerger Z 67 [(0, some (.ref 0)), (1, some (.int (nI e))), (2, some (.int w)), (3, some (.ref (100 + 10 * (e + 1)))), (4, some (.int (bmI G.1 E (k + 1) t j).1)), (5, some (.int (bmI G.1 E (k + 1) t j).2.1)), (6, some (.int (bmI G.1 E (k + 1) t j).2.2)), (7, some (.int (nI (k + 1)))), (8, some (.int (nI (k + 1 + 1 + j))))] [] h1) (8 - k) ?_ ?_ 0 (by omega) h1 X1 F1
          · intro h2 X2 F2
            refine am_iload (n := 69) dX7_bestMerger_67 rfl rfl ?_
            refine am_bipush (n := 71) (v := 10) dX7_bestMerger_69 rfl rfl ?_
            refine am_icmp_ge (tgt := 139) (n := 74) dX7_bestMerger_71 (by decide) rfl (fun _ => ?_) (fun q_z => absurd (nI_le (show 10 ≤ k + 1 + 1 + (8 - k) by omega) (by omega)) q_z)
            first | refine am_iincN (n := 142) dX7_bestMerger_139 rfl rfl rfl ?_ | refine am_iinc1 (n := 142) dX7_bestMerger_139 rfl rfl rfl ?_
            refine am_goto (tgt := 42) dX7_bestMerger_142 (by decide) ?_
            exact am_loc _ rfl (K h2 X2 F2)
          · intro j hj KK h2 X2 F2
            rw [show bmI G.1 E (k + 1) t (j + 1) = bmS G.1 E (k + 1) (k + 1 + 1 + j) (bmI G.1 E (k + 1) t j) from rfl, show k + 1 + 1 + (j + 1) = k + 1 + 1 + j + 1 by omega] at KK
            generalize bmI G.1 E (k + 1) t j = T at *
            have hd9 : k + 1 + 1 + j ≤ 9 := by omega
            generalize k + 1 + 1 + j = d at *
            have rE2 := (nowE X2 hx).2.2.2.1
            have t133 : ∀ l h3, XI G h3 → FM h' h3 → lget l 0 = some (.ref 0) → lget l 1 = some (.int (nI e)) → lget l 2 = some (.int w) → lget l 3 = some (.ref (100 + 10 * (e + 1))) → lget l 4 = some (.int (bmS G.1 E (k + 1) d T).1) → lget l 5 = some (.int (bmS G.1 E (k + 1) d T).2.1) → lget l 6 = some (.int (bmS G.1 E (k + 1) d T).2.2) → lget l 7 = some (.int (nI (k + 1))) → lget l 8 = some (.int (nI d)) → AW g mmX7_bestMerger Z 133 l [] h3 := by
              intro l h3 X3 F3 l0 l1 l2 l3 l4 l5 l6 l7 l8
              have K3 := KK h3 X3 F3
              generalize bmS G.1 E (k + 1) d T = U at *
              refine am_loc [(0, some (.ref 0)), (1, some (.int (nI e))), (2, some (.int w)), (3, some (.ref (100 + 10 * (e + 1)))), (4, some (.int U.1)), (5, some (.int U.2.1)), (6, some (.int U.2.2)), (7, some (.int (nI (k + 1)))), (8, some (.int (nI d)))] (by simp only [List.map_cons, List.map_nil, l0, l1, l2, l3, l4, l5, l6, l7, l8]) ?_
              first | refine am_iincN (n := 136) dX7_bestMerger_133 rfl rfl rfl ?_ | refine am_iinc1 (n := 136) dX7_bestMerger_133 rfl rfl rfl ?_
              refine am_goto (tgt := 67) dX7_bestMerger_136 (by decide) ?_
              exact am_loc _ rfl K3
            refine am_iload (n := 69) dX7_bestMerger_67 rfl rfl ?_
            refine am_bipush (n := 71) (v := 10) dX7_bestMerger_69 rfl rfl ?_
            refine am_icmp_ge (tgt := 139) (n := 74) dX7_bestMerger_71 (by decide) rfl (fun q_z => absurd q_z (nI_ge (show d < 10 by omega) (by decide))) (fun _ => ?_)
            refine am_aload_n (n := 75) (i := 3) dX7_bestMerger_74 rfl rfl rfl ?_
            refine am_iload (n := 77) dX7_bestMerger_75 rfl rfl ?_
            refine cdX7_bestMerger_152 (n := 80) dX7_bestMerger_77 (by first | exact ⟨rfl, rfl⟩ | assumption) (ac_X2_lettersOf g (100 + 10 * (e + 1)) d E h2 iE rE2 vE hd9) rfl rfl (Nat.le_of_ble_eq_true rfl) (by first | assumption | exact isC_of (by decide +kernel)) rfl ?_
            by_cases hl2 : lof E.1 d = 0
            · have hS : bmS G.1 E (k + 1) d T = T := by unfold bmS; rw [if_pos (Or.inr hl2)]
              rw [hS] at t133
              rw [hl2]
              refine am_if_ne (tgt := 86) (n := 83) dX7_bestMerger_80 (by decide) rfl (fun q_z => absurd rfl q_z) (fun _ => ?_)
              refine am_goto (tgt := 133) dX7_bestMerger_83 (by decide) ?_
              exact t133 _ h2 X2 F2 rfl rfl rfl rfl rfl rfl rfl rfl rfl
            · refine am_if_ne (tgt := 86) (n := 83) dX7_bestMerger_80 (by decide) rfl (fun _ => ?_) (fun q_z => absurd q_z hl2)
              refine am_aload_n (n := 87) (i := 0) dX7_bestMerger_86 rfl rfl rfl ?_
              refine am_aload_n (n := 88) (i := 3) dX7_bestMerger_87 rfl rfl rfl ?_
              refine am_iload (n := 90) dX7_bestMerger_88 rfl rfl ?_
              refine am_iload (n := 92) dX7_bestMerger_90 rfl rfl ?_
              refine caX7_bestMerger_237 (n := 95) dX7_bestMerger_92 (by first | exact ⟨rfl, rfl⟩ | assumption) (ac_X7_fillAsIfMerged g e (k + 1) d E G h2 X2 hx (by omega) hd9) rfl rfl (Nat.le_of_ble_eq_true rfl) (by first | assumption | exact isC_of (by decide +kernel)) rfl ?_
              rintro v h3 ⟨rfl, F3, R3⟩
              have X3 := X2.scr F3 (by omega) (by omega)
              have FM3 : FM h' h3 := F2.tr (FM.fi F3 (by omega))
              have hV := VC_of hX.2.1 (VE_merge (a := k + 1) (b := d) vE (by omega) hd9)
              have hS : bmS G.1 E (k + 1) d T = if T.2.2 = -6 ∨ prs (csOf G.1 (mergeE E (k + 1) d)) < T.2.2 then (nI (k + 1), nI d, prs (csOf G.1 (mergeE E (k + 1) d))) else T := by
                unfold bmS
                rw [if_neg (fun q => q.elim hl hl2)]
              rw [hS] at t133
              generalize csOf G.1 (mergeE E (k + 1) d) = cs at *
              refine am_aload_n (n := 96) (i := 0) dX7_bestMerger_95 rfl rfl rfl ?_
              refine gfX7_bestMerger_41 (n := 99) dX7_bestMerger_96 (by first | assumption | exact isC_of (by decide +kernel)) rfl ?_
              refine cdX7_bestMerger_190 (n := 102) dX7_bestMerger_99 (by first | exact ⟨rfl, rfl⟩ | assumption) (ac_X1_alikePairs g 6 cs h3 isDr_6 R3 hV) rfl rfl (Nat.le_of_ble_eq_true rfl) (by first | assumption | exact isC_of (by decide +kernel)) rfl ?_
              generalize prs cs = pp at *
              refine am_istore (n := 104) dX7_bestMerger_102 (Nat.le_of_ble_eq_true rfl) rfl rfl ?_
              refine am_iload (n := 106) dX7_bestMerger_104 rfl rfl ?_
              refine am_bipush (n := 108) (v := (-6)) dX7_bestMerger_106 rfl rfl ?_
              by_cases q1 : T.2.2 = -6
              · refine am_icmp_eq (tgt := 121) (n := 111) dX7_bestMerger_108 (by decide) rfl (fun _ => ?_) (fun q_z => absurd q1 q_z)
                rw [if_pos (Or.inl q1)] at t133
                refine am_iload (n := 123) dX7_bestMerger_121 rfl rfl ?_
                refine am_istore (n := 125) dX7_bestMerger_123 (Nat.le_of_ble_eq_true rfl) rfl rfl ?_
                refine am_iload (n := 127) dX7_bestMerger_125 rfl rfl ?_
                refine am_istore (n := 129) dX7_bestMerger_127 (Nat.le_of_ble_eq_true rfl) rfl rfl ?_
                refine am_iload (n := 131) dX7_bestMerger_129 rfl rfl ?_
                refine am_istore (n := 133) dX7_bestMerger_131 (Nat.le_of_ble_eq_true rfl) rfl rfl ?_
                exact t133 _ h3 X3 FM3 rfl rfl rfl rfl rfl rfl rfl rfl rfl
              · refine am_icmp_eq (tgt := 121) (n := 111) dX7_bestMerger_108 (by decide) rfl (fun q_z => absurd q_z q1) (fun _ => ?_)
                refine am_iload (n := 113) dX7_bestMerger_111 rfl rfl ?_
                refine am_iload (n := 115) dX7_bestMerger_113 rfl rfl ?_
                by_cases q2 : pp < T.2.2
                · refine am_icmp_lt (tgt := 121) (n := 118) dX7_bestMerger_115 (by decide) rfl (fun _ => ?_) (fun q_z => absurd q2 q_z)
                  rw [if_pos (Or.inr q2)] at t133
                  refine am_iload (n := 123) dX7_bestMerger_121 rfl rfl ?_
                  refine am_istore (n := 125) dX7_bestMerger_123 (Nat.le_of_ble_eq_true rfl) rfl rfl ?_
                  refine am_iload (n := 127) dX7_bestMerger_125 rfl rfl ?_
                  refine am_istore (n := 129) dX7_bestMerger_127 (Nat.le_of_ble_eq_true rfl) rfl rfl ?_
                  refine am_iload (n := 131) dX7_bestMerger_129 rfl rfl ?_
                  refine am_istore (n := 133) dX7_bestMerger_131 (Nat.le_of_ble_eq_true rfl) rfl rfl ?_
                  exact t133 _ h3 X3 FM3 rfl rfl rfl rfl rfl rfl rfl rfl rfl
                · refine am_icmp_lt (tgt := 121) (n := 118) dX7_bestMerger_115 (by decide) rfl (fun q_z => absurd q_z q2) (fun _ => ?_)
                  rw [if_neg (fun q => q.elim q1 q2)] at t133
                  refine am_goto (tgt := 133) dX7_bestMerger_118 (by decide) ?_
                  exact t133 _ h3 X3 FM3 rfl rfl rfl rfl rfl rfl rfl rfl rfl
  · rw [sp_E_f _ hno]
    refine am_astore_nN (n := 9) (i := 3) dX7_bestMerger_8 rfl (Nat.le_of_ble_eq_true rfl) rfl rfl ?_
    refine am_aload_nN (n := 10) (i := 3) dX7_bestMerger_9 rfl rfl rfl ?_
    refine am_ifnonnullN (n := 13) dX7_bestMerger_10 rfl ?_
    refine am_iconst (n := 14) (v := (-1)) dX7_bestMerger_13 rfl rfl ?_
    refine am_iret dX7_bestMerger_14 rfl rfl ?_
    exact ⟨rfl, hX, FM.rf⟩
