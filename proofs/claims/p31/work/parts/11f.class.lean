/-! The class's calls: name, of, ofEar, code, drawer -/
theorem nowW {G : GS} {h : Hp} (hX : XI G h) {i : Nat} (hi : i < G.1.2.2.1.length) : i < 24 ∧ h.2.1 101 i = lN (G.1.2.2.1.getD i 0) ∧ VW (G.1.2.2.1.getD i 0) := by
  have h1 := gD_at hi
  have h2 := hX.2.1.2.2.1
  exact ⟨by omega, hX.1.2.2.2.2.1 i _ h1, hX.2.1.2.2.2.1 _ (List.mem_of_getElem? h1)⟩
set_option maxRecDepth 100000 in
set_option maxHeartbeats 400000 in
theorem cx_name (g : Gx) (x w : Int32) (G : GS) (h : Hp) (hX : XI G h) : CX g yX7_name wsX7_name rmX7_name [.ref 0, .int x, .int w] h (sp_name x w G) := by
  have c0 := isC_0
  have c100 := isSt_now.1
  have c101 := isSt_now.2.1
  have h24 := hX.2.1.2.2.1
  unfold CX sp_name
  refine AC.of (cc := cX7_name) (maxL := 6) (ret := (some .int)) (by decide +kernel) rfl (Nat.le_of_ble_eq_true rfl) ?_
  show AW g mmX7_name _ 0 [(0, some (.ref 0)), (1, some (.int x)), (2, some (.int w))] [] _
  refine am_aload_n (n := 1) (i := 0) dX7_name_0 rfl rfl rfl ?_
  refine gfX7_name_10 (n := 4) dX7_name_1 (by first | assumption | exact isC_of (by decide +kernel)) rfl ?_
  refine am_iload_n (n := 5) (i := 1) dX7_name_4 rfl rfl rfl ?_
  refine cdX7_name_97 (n := 8) dX7_name_5 (by first | exact ⟨rfl, rfl⟩ | assumption) (ac_X5_hasName g 100 x G.1 h isSt_now hX.1 hX.2.1) rfl rfl (Nat.le_of_ble_eq_true rfl) (by first | assumption | exact isC_of (by decide +kernel)) rfl ?_
  cases hx : inN x G.1.2.2.1.length with
  | false =>
    refine am_if_ne (tgt := 13) (n := 11) dX7_name_8 (by decide) rfl (fun q_z => absurd rfl q_z) (fun _ => ?_)
    refine am_iconst (n := 12) (v := (-1)) dX7_name_11 rfl rfl ?_
    refine am_iret dX7_name_12 rfl rfl ?_
    exact ⟨rfl, hX, FM.rf⟩
  | true =>
    rw [if_pos rfl]
    refine am_if_ne (tgt := 13) (n := 11) dX7_name_8 (by decide) rfl (fun _ => ?_) (fun q_z => absurd q_z (by decide))
    obtain ⟨i, hi, rfl⟩ := inN_t (by omega) hx
    rw [tn_nI (by omega)]
    obtain ⟨i24, hw, vW⟩ := nowW hX hi
    generalize G.1.2.2.1.getD i 0 = m at *
    have hin : vp_in (nI i) 24 := vp_in_nI i24 (by decide)
    refine am_aload_n (n := 14) (i := 0) dX7_name_13 rfl rfl rfl ?_
    refine gfX7_name_10 (n := 17) dX7_name_14 (by first | assumption | exact isC_of (by decide +kernel)) rfl ?_
    refine gfX7_name_90 (n := 20) dX7_name_17 (by first | assumption | exact isC_of (by decide +kernel)) rfl ?_
    refine am_iload_n (n := 21) (i := 1) dX7_name_20 rfl rfl rfl ?_
    refine am_lald (n := 22) dX7_name_21 (by first | assumption | exact isC_of (by decide +kernel)) (by first | assumption | exact vp_in_nI (by omega) (by omega) | exact vp_in_iff.mpr (by decide)) rfl ?_
    rw [nI_clamp (by omega), hw]
    refine am_lstore_n (n := 23) (i := 3) dX7_name_22 rfl (Nat.le_of_ble_eq_true rfl) rfl rfl ?_
    refine am_iload_n (n := 24) (i := 2) dX7_name_23 rfl rfl rfl ?_
    unfold nmS
    by_cases w0 : w = 0
    · rw [if_pos w0]
      refine am_if_ne (tgt := 32) (n := 27) dX7_name_24 (by decide) rfl (fun q_z => absurd w0 q_z) (fun _ => ?_)
      refine am_lload_n (n := 28) (i := 3) dX7_name_27 rfl rfl rfl ?_
      refine cdX7_name_167 (n := 31) dX7_name_28 (by first | exact ⟨rfl, rfl⟩ | assumption) (ac_X6_size g m h vW.1) rfl rfl (Nat.le_of_ble_eq_true rfl) rfl ?_
      exact am_iret dX7_name_31 rfl rfl ⟨rfl, hX, FM.rf⟩
    · rw [if_neg w0]
      refine am_if_ne (tgt := 32) (n := 27) dX7_name_24 (by decide) rfl (fun _ => ?_) (fun q_z => absurd q_z w0)
      refine am_iload_n (n := 33) (i := 2) dX7_name_32 rfl rfl rfl ?_
      refine am_iconst (n := 34) (v := 1) dX7_name_33 rfl rfl ?_
      refine am_bipush (n := 36) (v := 10) dX7_name_34 rfl rfl ?_
      refine cdX7_name_62 (n := 39) dX7_name_36 (by first | exact ⟨rfl, rfl⟩ | assumption) (ac_X7_isWithin g w 1 10 h) rfl rfl (Nat.le_of_ble_eq_true rfl) rfl ?_
      cases hw1 : inR w 1 10 with
      | true =>
        rw [if_pos rfl, show (decide (1 ≤ w) && decide (w ≤ 10)) = true from hw1]
        refine am_if_eq (tgt := 65) (n := 42) dX7_name_39 (by decide) rfl (fun q_z => absurd q_z (by decide)) (fun _ => ?_)
        obtain ⟨v, v1, v10, rfl⟩ := inR_t (by decide) (by decide) hw1
        rw [tn_nI (by omega)]
        refine am_lload_n (n := 43) (i := 3) dX7_name_42 rfl rfl rfl ?_
        refine am_iload_n (n := 44) (i := 2) dX7_name_43 rfl rfl rfl ?_
        refine am_iconst (n := 45) (v := 1) dX7_name_44 rfl rfl ?_
        refine am_isub (n := 46) dX7_name_45 rfl ?_
        rw [nI_m1 v1]
        refine cdX7_name_170 (n := 49) dX7_name_46 (by first | exact ⟨rfl, rfl⟩ | assumption) (ac_X6_letterAt g m (v - 1) h vW.1 (by omega)) rfl rfl (Nat.le_of_ble_eq_true rfl) rfl ?_
        refine am_istore (n := 51) dX7_name_49 (Nat.le_of_ble_eq_true rfl) rfl rfl ?_
        refine am_iload (n := 53) dX7_name_51 rfl rfl ?_
        refine am_iconst (n := 54) (v := (-1)) dX7_name_53 rfl rfl ?_
        have h64 : wl m (v - 1) < 64 := by have := vW.2.1 (v - 1); omega
        by_cases hl : wl m (v - 1) = 0
        · rw [if_pos hl]
          refine am_icmp_ne (tgt := 62) (n := 57) dX7_name_54 (by decide) rfl (fun q_z => absurd ((lt_m1 _ h64).mpr hl) q_z) (fun _ => ?_)
          refine am_bipush (n := 59) (v := (-6)) dX7_name_57 rfl rfl ?_
          refine am_goto (tgt := 64) dX7_name_59 (by decide) ?_
          refine am_iret dX7_name_64 rfl rfl ?_
          exact ⟨rfl, hX, FM.rf⟩
        · rw [if_neg hl]
          refine am_icmp_ne (tgt := 62) (n := 57) dX7_name_54 (by decide) rfl (fun _ => ?_) (fun q_z => absurd q_z (fun q => hl ((lt_m1 _ h64).mp q)))
          refine am_iload (n := 64) dX7_name_62 rfl rfl ?_
          rw [nI_m1 (by omega)]
          refine am_iret dX7_name_64 rfl rfl ?_
          exact ⟨rfl, hX, FM.rf⟩
      | false =>
        rw [if_neg (by decide), show (decide (1 ≤ w) && decide (w ≤ 10)) = false from hw1]
        refine am_if_eq (tgt := 65) (n := 42) dX7_name_39 (by decide) rfl (fun _ => ?_) (fun q_z => absurd rfl q_z)
        refine am_iload_n (n := 66) (i := 2) dX7_name_65 rfl rfl rfl ?_
        refine am_bipush (n := 68) (v := 11) dX7_name_66 rfl rfl ?_
        by_cases h11 : w = 11
        · rw [if_pos h11]
          refine am_icmp_ne (tgt := 76) (n := 71) dX7_name_68 (by decide) rfl (fun q_z => absurd h11 q_z) (fun _ => ?_)
          refine am_lload_n (n := 72) (i := 3) dX7_name_71 rfl rfl rfl ?_
          refine cdX7_name_174 (n := 75) dX7_name_72 (by first | exact ⟨rfl, rfl⟩ | assumption) (ac_X6_letterSet g m h vW.1) rfl rfl (Nat.le_of_ble_eq_true rfl) rfl ?_
          generalize wset m = s
          exact am_iret dX7_name_75 rfl rfl ⟨rfl, hX, FM.rf⟩
        · rw [if_neg h11]
          refine am_icmp_ne (tgt := 76) (n := 71) dX7_name_68 (by decide) rfl (fun _ => ?_) (fun q_z => absurd q_z h11)
          refine am_bipush (n := 78) (v := (-2)) dX7_name_76 rfl rfl ?_
          refine am_iret dX7_name_78 rfl rfl ?_
          exact ⟨rfl, hX, FM.rf⟩
set_option maxRecDepth 100000 in
set_option maxHeartbeats 400000 in
theorem cx_of (g : Gx) (x y w : Int32) (G : GS) (h : Hp) (hX : XI G h) : CX g yX7_of wsX7_of rmX7_of [.ref 0, .int x, .int y, .int w] h (sp_of x y w G) := by
  have c0 := isC_0
  have c100 := isSt_now.1
  have h4 := hX.2.1.2.2.2.2.1
  unfold CX sp_of
  refine AC.of (cc := cX7_of) (maxL := 5) (ret := (some .int)) (by decide +kernel) rfl (Nat.le_of_ble_eq_true rfl) ?_
  show AW g mmX7_of _ 0 [(0, some (.ref 0)), (1, some (.int x)), (2, some (.int y)), (3, some (.int w))] [] _
  refine am_aload_n (n := 1) (i := 0) dX7_of_0 rfl rfl rfl ?_
  refine gfX7_of_10 (n := 4) dX7_of_1 (by first | assumption | exact isC_of (by decide +kernel)) rfl ?_
  refine am_iload_n (n := 5) (i := 1) dX7_of_4 rfl rfl rfl ?_
  refine caX7_of_105 (n := 8) dX7_of_5 (by first | exact ⟨rfl, rfl⟩ | assumption) (ac_X5_earAt g 100 x G.1 h isSt_now hX.1 hX.2.1) rfl rfl (Nat.le_of_ble_eq_true rfl) (by first | assumption | exact isC_of (by decide +kernel)) rfl ?_
  rintro r h' ⟨rfl, ⟨e, he, rfl, rfl⟩ | ⟨hno, rfl⟩⟩
  · have hx := List.getElem?_eq_getElem he
    obtain ⟨e4, -, iE, rE, vE⟩ := nowE hX hx
    rw [sp_E_t _ h4 he hx]
    generalize G.1.2.2.2[e] = E at *
    have i0 := iE.1
    have i1 := iE.2.1
    have i2 := iE.2.2.1
    refine am_astore (n := 10) dX7_of_8 (Nat.le_of_ble_eq_true rfl) rfl rfl ?_
    refine am_aload (n := 12) dX7_of_10 rfl rfl ?_
    refine am_ifnull (n := 15) dX7_of_12 rfl ?_
    refine am_iload_n (n := 16) (i := 2) dX7_of_15 rfl rfl rfl ?_
    refine cdX7_of_123 (n := 19) dX7_of_16 (by first | exact ⟨rfl, rfl⟩ | assumption) (ac_X6_isLetter g y h') rfl rfl (Nat.le_of_ble_eq_true rfl) rfl ?_
    cases hl : isLtr y with
    | false =>
      rw [if_neg (by decide), show (decide (0 ≤ y) && decide (y < 26)) = false from hl]
      refine am_if_ne (tgt := 24) (n := 22) dX7_of_19 (by decide) rfl (fun q_z => absurd rfl q_z) (fun _ => ?_)
      refine am_iconst (n := 23) (v := (-1)) dX7_of_22 rfl rfl ?_
      refine am_iret dX7_of_23 rfl rfl ?_
      exact ⟨rfl, hX, FM.rf⟩
    | true =>
      rw [if_pos rfl, show (decide (0 ≤ y) && decide (y < 26)) = true from hl]
      obtain ⟨l, hl26, rfl⟩ := isLtr_t hl
      rw [tn_nI (by omega)]
      refine am_if_ne (tgt := 24) (n := 22) dX7_of_19 (by decide) rfl (fun _ => ?_) (fun q_z => absurd q_z (by decide))
      refine am_iload_n (n := 25) (i := 3) dX7_of_24 rfl rfl rfl ?_
      have hin : vp_in (nI l) 26 := vp_in_nI hl26 (by decide)
      unfold ofS
      by_cases w0 : w = 0
      · subst w0
        rw [if_pos rfl]
        refine am_tableIn (tgt := 52) dX7_of_25 (by decide) (by decide) rfl (by decide) ?_
        refine am_aload (n := 54) dX7_of_52 rfl rfl ?_
        refine gfX7_of_131 (n := 57) dX7_of_54 (by first | assumption | exact isC_of (by decide +kernel)) rfl ?_
        refine am_iload_n (n := 58) (i := 2) dX7_of_57 rfl rfl rfl ?_
        refine am_iald (n := 59) dX7_of_58 (by first | assumption | exact isC_of (by decide +kernel)) (by first | assumption | exact vp_in_nI (by omega) (by omega) | exact vp_in_iff.mpr (by decide)) rfl ?_
        rw [nI_clamp (by omega), (rE.1 l hl26).1]
        refine am_iret dX7_of_59 rfl rfl ?_
        exact ⟨rfl, hX, FM.rf⟩
      · rw [if_neg w0]
        by_cases w1 : w = 1
        · subst w1
          rw [if_pos rfl]
          refine am_tableIn (tgt := 60) dX7_of_25 (by decide) (by decide) rfl (by decide) ?_
          refine am_aload (n := 62) dX7_of_60 rfl rfl ?_
          refine gfX7_of_138 (n := 65) dX7_of_62 (by first | assumption | exact isC_of (by decide +kernel)) rfl ?_
          refine am_iload_n (n := 66) (i := 2) dX7_of_65 rfl rfl rfl ?_
          refine am_iald (n := 67) dX7_of_66 (by first | assumption | exact isC_of (by decide +kernel)) (by first | assumption | exact vp_in_nI (by omega) (by omega) | exact vp_in_iff.mpr (by decide)) rfl ?_
          rw [nI_clamp (by omega), (rE.1 l hl26).2]
          refine am_iret dX7_of_67 rfl rfl ?_
          exact ⟨rfl, hX, FM.rf⟩
        · rw [if_neg w1]
          by_cases w2 : w = 2
          · subst w2
            rw [if_pos rfl]
            refine am_tableIn (tgt := 68) dX7_of_25 (by decide) (by decide) rfl (by decide) ?_
            refine am_aload (n := 70) dX7_of_68 rfl rfl ?_
            refine am_aload (n := 72) dX7_of_70 rfl rfl ?_
            refine gfX7_of_131 (n := 75) dX7_of_72 (by first | assumption | exact isC_of (by decide +kernel)) rfl ?_
            refine am_iload_n (n := 76) (i := 2) dX7_of_75 rfl rfl rfl ?_
            refine am_iald (n := 77) dX7_of_76 (by first | assumption | exact isC_of (by decide +kernel)) (by first | assumption | exact vp_in_nI (by omega) (by omega) | exact vp_in_iff.mpr (by decide)) rfl ?_
            rw [nI_clamp (by omega), (rE.1 l hl26).1]
            refine cdX7_of_152 (n := 80) dX7_of_77 (by first | exact ⟨rfl, rfl⟩ | assumption) (ac_X2_lettersOf g (100 + 10 * (e + 1)) (E.1 l) E h' iE rE vE (vE.1 l hl26).1) rfl rfl (Nat.le_of_ble_eq_true rfl) (by first | assumption | exact isC_of (by decide +kernel)) rfl ?_
            exact am_iret dX7_of_80 rfl rfl ⟨rfl, hX, FM.rf⟩
          · rw [if_neg w2]
            refine am_tableOut (tgt := 81) dX7_of_25 (sw_far (n := 2) (by decide) (fun i hi => by rcases i with _ | _ | _ | i; exact w0; exact w1; exact w2; omega)) (by decide) ?_
            refine am_bipush (n := 83) (v := (-2)) dX7_of_81 rfl rfl ?_
            refine am_iret dX7_of_83 rfl rfl ?_
            exact ⟨rfl, hX, FM.rf⟩
  · rw [sp_E_f _ hno]
    refine am_astoreN (n := 10) dX7_of_8 (Nat.le_of_ble_eq_true rfl) rfl rfl ?_
    refine am_aloadN (n := 12) dX7_of_10 rfl rfl ?_
    refine am_ifnullN (tgt := 22) dX7_of_12 (by decide) ?_
    refine am_iconst (n := 23) (v := (-1)) dX7_of_22 rfl rfl ?_
    refine am_iret dX7_of_23 rfl rfl ?_
    exact ⟨rfl, hX, FM.rf⟩
set_option maxRecDepth 100000 in
set_option maxHeartbeats 400000 in
theorem cx_ofEar (g : Gx) (x w : Int32) (G : GS) (h : Hp) (hX : XI G h) : CX g yX7_ofEar wsX7_ofEar rmX7_ofEar [.ref 0, .int x, .int w] h (sp_ofEar x w G) := by
  have c0 := isC_0
  have c100 := isSt_now.1
  have c6 := isDr_6.1
  have h4 := hX.2.1.2.2.2.2.1
  unfold CX sp_ofEar
  refine AC.of (cc := cX7_ofEar) (maxL := 4) (ret := (some .int)) (by decide +kernel) rfl (Nat.le_of_ble_eq_true rfl) ?_
  show AW g mmX7_ofEar _ 0 [(0, some (.ref 0)), (1, some (.int x)), (2, some (.int w))] [] _
  refine am_aload_n (n := 1) (i := 0) dX7_ofEar_0 rfl rfl rfl ?_
  refine gfX7_ofEar_10 (n := 4) dX7_ofEar_1 (by first | assumption | exact isC_of (by decide +kernel)) rfl ?_
  refine am_iload_n (n := 5) (i := 1) dX7_ofEar_4 rfl rfl rfl ?_
  refine caX7_ofEar_105 (n := 8) dX7_ofEar_5 (by first | exact ⟨rfl, rfl⟩ | assumption) (ac_X5_earAt g 100 x G.1 h isSt_now hX.1 hX.2.1) rfl rfl (Nat.le_of_ble_eq_true rfl) (by first | assumption | exact isC_of (by decide +kernel)) rfl ?_
  rintro r h' ⟨rfl, ⟨e, he, rfl, rfl⟩ | ⟨hno, rfl⟩⟩
  · have hx := List.getElem?_eq_getElem he
    obtain ⟨e4, -, iE, rE, vE⟩ := nowE hX hx
    rw [sp_E_t _ h4 he hx]
    generalize G.1.2.2.2[e] = E at *
    have i0 := iE.1
    refine am_astore_n (n := 9) (i := 3) dX7_ofEar_8 rfl (Nat.le_of_ble_eq_true rfl) rfl rfl ?_
    refine am_aload_n (n := 10) (i := 3) dX7_ofEar_9 rfl rfl rfl ?_
    refine am_ifnonnull (tgt := 15) dX7_ofEar_10 (by decide) ?_
    refine am_aload_n (n := 16) (i := 0) dX7_ofEar_15 rfl rfl rfl ?_
    refine gfX7_ofEar_41 (n := 19) dX7_ofEar_16 (by first | assumption | exact isC_of (by decide +kernel)) rfl ?_
    refine am_aload_n (n := 20) (i := 0) dX7_ofEar_19 rfl rfl rfl ?_
    refine gfX7_ofEar_10 (n := 23) dX7_ofEar_20 (by first | assumption | exact isC_of (by decide +kernel)) rfl ?_
    refine am_aload_n (n := 24) (i := 3) dX7_ofEar_23 rfl rfl rfl ?_
    refine caX7_ofEar_177 (n := 27) dX7_ofEar_24 (by first | exact ⟨rfl, rfl⟩ | assumption) (ac_X1_fill g 6 100 (100 + 10 * (e + 1)) G.1 E h' isDr_6 isSt_now iE hX.1 hX.2.1 rE vE (by omega) (by omega)) rfl rfl (Nat.le_of_ble_eq_true rfl) (by first | assumption | exact isC_of (by decide +kernel)) rfl ?_
    rintro r h1 ⟨rfl, F1, R1⟩
    have X1 := hX.scr F1 (by omega) (by omega)
    have FM1 : FM h' h1 := FM.fi F1 (by omega)
    have rE1 := rE.kept (fun c c1 c2 => F1.1 c (by omega))
    have hV := VC_of hX.2.1 vE
    generalize csOf G.1 E = cs at *
    refine am_iload_n (n := 28) (i := 2) dX7_ofEar_27 rfl rfl rfl ?_
    unfold oeS
    by_cases w0 : w = 0
    · subst w0
      rw [if_pos rfl]
      refine am_tableIn (tgt := 76) dX7_ofEar_28 (by decide) (by decide) rfl (by decide) ?_
      refine am_aload_n (n := 77) (i := 3) dX7_ofEar_76 rfl rfl rfl ?_
      refine gfX7_ofEar_141 (n := 80) dX7_ofEar_77 (by first | assumption | exact isC_of (by decide +kernel)) rfl ?_
      rw [rE1.2.1]
      refine am_iret dX7_ofEar_80 rfl rfl ?_
      exact ⟨rfl, X1, FM1⟩
    · rw [if_neg w0]
      by_cases w1 : w = 1
      · subst w1
        rw [if_pos rfl]
        refine am_tableIn (tgt := 81) dX7_ofEar_28 (by decide) (by decide) rfl (by decide) ?_
        refine am_aload_n (n := 82) (i := 3) dX7_ofEar_81 rfl rfl rfl ?_
        refine gfX7_ofEar_161 (n := 85) dX7_ofEar_82 (by first | assumption | exact isC_of (by decide +kernel)) rfl ?_
        rw [rE1.2.2.1]
        refine am_iret dX7_ofEar_85 rfl rfl ?_
        exact ⟨rfl, X1, FM1⟩
      · rw [if_neg w1]
        by_cases w2 : w = 2
        · subst w2
          rw [if_pos rfl]
          refine am_tableIn (tgt := 86) dX7_ofEar_28 (by decide) (by decide) rfl (by decide) ?_
          refine am_aload_n (n := 87) (i := 0) dX7_ofEar_86 rfl rfl rfl ?_
          refine gfX7_ofEar_41 (n := 90) dX7_ofEar_87 (by first | assumption | exact isC_of (by decide +kernel)) rfl ?_
          refine gfX7_ofEar_181 (n := 93) dX7_ofEar_90 (by first | assumption | exact isC_of (by decide +kernel)) rfl ?_
          rw [R1.2.2.1]
          refine am_iret dX7_ofEar_93 rfl rfl ?_
          exact ⟨rfl, X1, FM1⟩
        · rw [if_neg w2]
          by_cases w3 : w = 3
          · subst w3
            rw [if_pos rfl]
            refine am_tableIn (tgt := 94) dX7_ofEar_28 (by decide) (by decide) rfl (by decide) ?_
            refine am_aload_n (n := 95) (i := 0) dX7_ofEar_94 rfl rfl rfl ?_
            refine gfX7_ofEar_41 (n := 98) dX7_ofEar_95 (by first | assumption | exact isC_of (by decide +kernel)) rfl ?_
            refine cdX7_ofEar_184 (n := 101) dX7_ofEar_98 (by first | exact ⟨rfl, rfl⟩ | assumption) (ac_X1_namesInFullest g 6 cs h1 isDr_6 R1 hV) rfl rfl (Nat.le_of_ble_eq_true rfl) (by first | assumption | exact isC_of (by decide +kernel)) rfl ?_
            exact am_iret dX7_ofEar_101 rfl rfl ⟨rfl, X1, FM1⟩
          · rw [if_neg w3]
            by_cases w4 : w = 4
            · subst w4
              rw [if_pos rfl]
              refine am_tableIn (tgt := 102) dX7_ofEar_28 (by decide) (by decide) rfl (by decide) ?_
              refine am_aload_n (n := 103) (i := 0) dX7_ofEar_102 rfl rfl rfl ?_
              refine gfX7_ofEar_41 (n := 106) dX7_ofEar_103 (by first | assumption | exact isC_of (by decide +kernel)) rfl ?_
              refine cdX7_ofEar_187 (n := 109) dX7_ofEar_106 (by first | exact ⟨rfl, rfl⟩ | assumption) (ac_X1_namesInSeveral g 6 cs h1 isDr_6 R1 hV) rfl rfl (Nat.le_of_ble_eq_true rfl) (by first | assumption | exact isC_of (by decide +kernel)) rfl ?_
              exact am_iret dX7_ofEar_109 rfl rfl ⟨rfl, X1, FM1⟩
            · rw [if_neg w4]
              by_cases w5 : w = 5
              · subst w5
                rw [if_pos rfl]
                refine am_tableIn (tgt := 110) dX7_ofEar_28 (by decide) (by decide) rfl (by decide) ?_
                refine am_aload_n (n := 111) (i := 0) dX7_ofEar_110 rfl rfl rfl ?_
                refine gfX7_ofEar_41 (n := 114) dX7_ofEar_111 (by first | assumption | exact isC_of (by decide +kernel)) rfl ?_
                refine cdX7_ofEar_190 (n := 117) dX7_ofEar_114 (by first | exact ⟨rfl, rfl⟩ | assumption) (ac_X1_alikePairs g 6 cs h1 isDr_6 R1 hV) rfl rfl (Nat.le_of_ble_eq_true rfl) (by first | assumption | exact isC_of (by decide +kernel)) rfl ?_
                exact am_iret dX7_ofEar_117 rfl rfl ⟨rfl, X1, FM1⟩
              · rw [if_neg w5]
                by_cases w6 : w = 6
                · subst w6
                  rw [if_pos rfl]
                  refine am_tableIn (tgt := 118) dX7_ofEar_28 (by decide) (by decide) rfl (by decide) ?_
                  refine am_aload_n (n := 119) (i := 3) dX7_ofEar_118 rfl rfl rfl ?_
                  refine cdX7_ofEar_193 (n := 122) dX7_ofEar_119 (by first | exact ⟨rfl, rfl⟩ | assumption) (ac_X2_lettersWithSecond g (100 + 10 * (e + 1)) E h1 iE rE1 vE) rfl rfl (Nat.le_of_ble_eq_true rfl) (by first | assumption | exact isC_of (by decide +kernel)) rfl ?_
                  exact am_iret dX7_ofEar_122 rfl rfl ⟨rfl, X1, FM1⟩
                · rw [if_neg w6]
                  by_cases w7 : w = 7
                  · subst w7
                    rw [if_pos rfl]
                    refine am_tableIn (tgt := 123) dX7_ofEar_28 (by decide) (by decide) rfl (by decide) ?_
                    refine am_aload_n (n := 124) (i := 3) dX7_ofEar_123 rfl rfl rfl ?_
                    refine am_iconst (n := 125) (v := 0) dX7_ofEar_124 rfl rfl ?_
                    refine cdX7_ofEar_152 (n := 128) dX7_ofEar_125 (by first | exact ⟨rfl, rfl⟩ | assumption) (ac_X2_lettersOf g (100 + 10 * (e + 1)) 0 E h1 iE rE1 vE (by omega)) rfl rfl (Nat.le_of_ble_eq_true rfl) (by first | assumption | exact isC_of (by decide +kernel)) rfl ?_
                    exact am_iret dX7_ofEar_128 rfl rfl ⟨rfl, X1, FM1⟩
                  · rw [if_neg w7]
                    refine am_tableOut (tgt := 129) dX7_ofEar_28 (sw_far (n := 7) (by decide) (fun i hi => by rcases i with _ | _ | _ | _ | _ | _ | _ | _ | i; exact w0; exact w1; exact w2; exact w3; exact w4; exact w5; exact w6; exact w7; omega)) (by decide) ?_
                    refine am_bipush (n := 131) (v := (-2)) dX7_ofEar_129 rfl rfl ?_
                    refine am_iret dX7_ofEar_131 rfl rfl ?_
                    exact ⟨rfl, X1, FM1⟩
  · rw [sp_E_f _ hno]
    refine am_astore_nN (n := 9) (i := 3) dX7_ofEar_8 rfl (Nat.le_of_ble_eq_true rfl) rfl rfl ?_
    refine am_aload_nN (n := 10) (i := 3) dX7_ofEar_9 rfl rfl rfl ?_
    refine am_ifnonnullN (n := 13) dX7_ofEar_10 rfl ?_
    refine am_iconst (n := 14) (v := (-1)) dX7_ofEar_13 rfl rfl ?_
    refine am_iret dX7_ofEar_14 rfl rfl ?_
    exact ⟨rfl, hX, FM.rf⟩
