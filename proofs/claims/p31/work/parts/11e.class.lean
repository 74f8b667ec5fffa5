/-! The class's calls: hear, second, name, of, ofEar, code -/
set_option maxRecDepth 100000 in
set_option maxHeartbeats 400000 in
theorem cx_hear (g : Gx) (x y z : Int32) (G : GS) (h : Hp) (hX : XI G h) : CX g yX7_hear wsX7_hear rmX7_hear [.ref 0, .int x, .int y, .int z] h (sp_hear x y z G) := by
  have c0 := isC_0
  have c100 := isSt_now.1
  have h4 := hX.2.1.2.2.2.2.1
  unfold CX
  refine AC.of (cc := cX7_hear) (maxL := 6) (ret := (some .int)) (by decide +kernel) rfl (Nat.le_of_ble_eq_true rfl) ?_
  show AW g mmX7_hear _ 0 [(0, some (.ref 0)), (1, some (.int x)), (2, some (.int y)), (3, some (.int z))] [] _
  refine am_aload_n (n := 1) (i := 0) dX7_hear_0 rfl rfl rfl ?_
  refine gfX7_hear_10 (n := 4) dX7_hear_1 (by first | assumption | exact isC_of (by decide +kernel)) rfl ?_
  refine am_iload_n (n := 5) (i := 1) dX7_hear_4 rfl rfl rfl ?_
  refine caX7_hear_105 (n := 8) dX7_hear_5 (by first | exact ⟨rfl, rfl⟩ | assumption) (ac_X5_earAt g 100 x G.1 h isSt_now hX.1 hX.2.1) rfl rfl (Nat.le_of_ble_eq_true rfl) (by first | assumption | exact isC_of (by decide +kernel)) rfl ?_
  rintro r h' ⟨rfl, ⟨e, he, rfl, rfl⟩ | ⟨hno, rfl⟩⟩
  · have hx := List.getElem?_eq_getElem he
    obtain ⟨e4, -, iE, rE, vE⟩ := nowE hX hx
    generalize G.1.2.2.2[e] = E at *
    have hsp : sp_hear (nI e) y z G = if isLtr y = false then (-1, G) else if inR z 0 9 = false then (-2, G) else (nI (E.1 (tn y)), recG G (withE G.1 (G.1.2.2.2.set e (hearE E (tn y) (tn z))))) := by
      unfold sp_hear
      rw [eN_i h4 he, tn_nI (by omega), hx]
    rw [hsp]
    have i0 := iE.1
    have i1 := iE.2.1
    refine am_astore (n := 10) dX7_hear_8 (Nat.le_of_ble_eq_true rfl) rfl rfl ?_
    refine am_aload (n := 12) dX7_hear_10 rfl rfl ?_
    refine am_ifnull (n := 15) dX7_hear_12 rfl ?_
    refine am_iload_n (n := 16) (i := 2) dX7_hear_15 rfl rfl rfl ?_
    refine cdX7_hear_123 (n := 19) dX7_hear_16 (by first | exact ⟨rfl, rfl⟩ | assumption) (ac_X6_isLetter g y h') rfl rfl (Nat.le_of_ble_eq_true rfl) rfl ?_
    cases hl : isLtr y with
    | false =>
      rw [if_pos rfl, show (decide (0 ≤ y) && decide (y < 26)) = false from hl]
      refine am_if_ne (tgt := 24) (n := 22) dX7_hear_19 (by decide) rfl (fun q_z => absurd rfl q_z) (fun _ => ?_)
      refine am_iconst (n := 23) (v := (-1)) dX7_hear_22 rfl rfl ?_
      refine am_iret dX7_hear_23 rfl rfl ?_
      exact ⟨rfl, hX, FM.rf⟩
    | true =>
      rw [if_neg (by decide), show (decide (0 ≤ y) && decide (y < 26)) = true from hl]
      obtain ⟨l, hl26, rfl⟩ := isLtr_t hl
      rw [tn_nI (by omega)]
      refine am_if_ne (tgt := 24) (n := 22) dX7_hear_19 (by decide) rfl (fun _ => ?_) (fun q_z => absurd q_z (by decide))
      refine am_iload_n (n := 25) (i := 3) dX7_hear_24 rfl rfl rfl ?_
      refine cdX7_hear_128 (n := 28) dX7_hear_25 (by first | exact ⟨rfl, rfl⟩ | assumption) (ac_X7_isClass g z h') rfl rfl (Nat.le_of_ble_eq_true rfl) rfl ?_
      cases hz : inR z 0 9 with
      | false =>
        rw [if_pos rfl]
        refine am_if_ne (tgt := 34) (n := 31) dX7_hear_28 (by decide) rfl (fun q_z => absurd rfl q_z) (fun _ => ?_)
        refine am_bipush (n := 33) (v := (-2)) dX7_hear_31 rfl rfl ?_
        refine am_iret dX7_hear_33 rfl rfl ?_
        exact ⟨rfl, hX, FM.rf⟩
      | true =>
        rw [if_neg (by decide)]
        obtain ⟨k, -, k9, rfl⟩ := inR_t (by decide) (by decide) hz
        rw [tn_nI (by omega)]
        refine am_if_ne (tgt := 34) (n := 31) dX7_hear_28 (by decide) rfl (fun _ => ?_) (fun q_z => absurd q_z (by decide))
        refine am_aload_n (n := 35) (i := 0) dX7_hear_34 rfl rfl rfl ?_
        refine caX7_hear_69 (n := 38) dX7_hear_35 (by first | exact ⟨rfl, rfl⟩ | assumption) (ac_X7_recordChange g G h' hX) rfl rfl (Nat.le_of_ble_eq_true rfl) (by first | assumption | exact isC_of (by decide +kernel)) rfl ?_
        rintro r h1 ⟨rfl, X1, F1, -⟩
        have rE1 : RE (100 + 10 * (e + 1)) E h1 := X1.1.2.2.2.2.2 e _ hx
        have hin : vp_in (nI l) 26 := vp_in_nI hl26 (by decide)
        refine am_aload (n := 40) dX7_hear_38 rfl rfl ?_
        refine gfX7_hear_131 (n := 43) dX7_hear_40 (by first | assumption | exact isC_of (by decide +kernel)) rfl ?_
        refine am_iload_n (n := 44) (i := 2) dX7_hear_43 rfl rfl rfl ?_
        refine am_iald (n := 45) dX7_hear_44 (by first | assumption | exact isC_of (by decide +kernel)) (by first | assumption | exact vp_in_nI (by omega) (by omega) | exact vp_in_iff.mpr (by decide)) rfl ?_
        rw [nI_clamp (by omega), (rE1.1 l hl26).1]
        refine am_istore (n := 47) dX7_hear_45 (Nat.le_of_ble_eq_true rfl) rfl rfl ?_
        refine am_aload (n := 49) dX7_hear_47 rfl rfl ?_
        refine gfX7_hear_131 (n := 52) dX7_hear_49 (by first | assumption | exact isC_of (by decide +kernel)) rfl ?_
        refine am_iload_n (n := 53) (i := 2) dX7_hear_52 rfl rfl rfl ?_
        refine am_iload_n (n := 54) (i := 3) dX7_hear_53 rfl rfl rfl ?_
        refine am_iast (n := 55) dX7_hear_54 (by first | assumption | exact isC_of (by decide +kernel)) (by first | assumption | exact vp_in_nI (by omega) (by omega) | exact vp_in_iff.mpr (by decide)) rfl ?_
        rw [nI_clamp (by omega)]
        refine am_aload (n := 57) dX7_hear_55 rfl rfl ?_
        refine am_iload_n (n := 58) (i := 2) dX7_hear_57 rfl rfl rfl ?_
        refine cdX7_hear_135 (n := 61) dX7_hear_58 (by first | exact ⟨rfl, rfl⟩ | assumption) (ac_X2_loseSameSecond g (100 + 10 * (e + 1)) l _ iE hl26) rfl rfl (Nat.le_of_ble_eq_true rfl) (by first | assumption | exact isC_of (by decide +kernel)) rfl ?_
        refine am_iload (n := 63) dX7_hear_61 rfl rfl ?_
        have M1 := (MidE.of rE1).F (i := l) (a := k)
        have hc := sec_eq (s := E.2.1 l) (a := k) (vE.1 l hl26).2.1 k9
        have hM : MidE (100 + 10 * (e + 1)) h1 (if (setI h1 (100 + 10 * (e + 1) + 1) (upd (h1.1 (100 + 10 * (e + 1) + 1)) l (nI k))).1 (100 + 10 * (e + 1) + 2) l = (setI h1 (100 + 10 * (e + 1) + 1) (upd (h1.1 (100 + 10 * (e + 1) + 1)) l (nI k))).1 (100 + 10 * (e + 1) + 1) l then setI (setI h1 (100 + 10 * (e + 1) + 1) (upd (h1.1 (100 + 10 * (e + 1) + 1)) l (nI k))) (100 + 10 * (e + 1) + 2) (upd ((setI h1 (100 + 10 * (e + 1) + 1) (upd (h1.1 (100 + 10 * (e + 1) + 1)) l (nI k))).1 (100 + 10 * (e + 1) + 2)) l (-6)) else setI h1 (100 + 10 * (e + 1) + 1) (upd (h1.1 (100 + 10 * (e + 1) + 1)) l (nI k))) (hearE E l k).1 (hearE E l k).2.1 := by
          have a1 := (M1.2.2 l hl26).1
          have a2 := (M1.2.2 l hl26).2
          rw [upN_s] at a1
          rw [a1, a2]
          unfold hearE
          by_cases q : E.2.1 l = k + 1
          · rw [if_pos (hc.mpr q), if_pos q]
            exact M1.S (i := l) (v := 0)
          · rw [if_neg (fun p => q (hc.mp p)), if_neg q]
            exact M1
        have R2 : RE (100 + 10 * (e + 1)) (hearE E l k) _ := hM.re rE1
        have F2 := hM.fr
        exact am_iret dX7_hear_63 rfl rfl ⟨rfl, X1.now (X1.1.ear X1.2.1 F2 R2) (VS_setE X1.2.1 (VE_hear vE k9)) (F2.toFr.wide (by omega) (by omega)), F1.tr (FM.fi F2 (by omega))⟩
  · have hs2 : sp_hear x y z G = (-1, G) := by unfold sp_hear; rw [eN_f hno]
    rw [hs2]
    refine am_astoreN (n := 10) dX7_hear_8 (Nat.le_of_ble_eq_true rfl) rfl rfl ?_
    refine am_aloadN (n := 12) dX7_hear_10 rfl rfl ?_
    refine am_ifnullN (tgt := 22) dX7_hear_12 (by decide) ?_
    refine am_iconst (n := 23) (v := (-1)) dX7_hear_22 rfl rfl ?_
    refine am_iret dX7_hear_23 rfl rfl ?_
    exact ⟨rfl, hX, FM.rf⟩
set_option maxRecDepth 100000 in
set_option maxHeartbeats 400000 in
theorem cx_second (g : Gx) (x y z : Int32) (G : GS) (h : Hp) (hX : XI G h) : CX g yX7_second wsX7_second rmX7_second [.ref 0, .int x, .int y, .int z] h (sp_second x y z G) := by
  have c0 := isC_0
  have c100 := isSt_now.1
  have h4 := hX.2.1.2.2.2.2.1
  unfold CX
  refine AC.of (cc := cX7_second) (maxL := 6) (ret := (some .int)) (by decide +kernel) rfl (Nat.le_of_ble_eq_true rfl) ?_
  show AW g mmX7_second _ 0 [(0, some (.ref 0)), (1, some (.int x)), (2, some (.int y)), (3, some (.int z))] [] _
  refine am_aload_n (n := 1) (i := 0) dX7_second_0 rfl rfl rfl ?_
  refine gfX7_second_10 (n := 4) dX7_second_1 (by first | assumption | exact isC_of (by decide +kernel)) rfl ?_
  refine am_iload_n (n := 5) (i := 1) dX7_second_4 rfl rfl rfl ?_
  refine caX7_second_105 (n := 8) dX7_second_5 (by first | exact ⟨rfl, rfl⟩ | assumption) (ac_X5_earAt g 100 x G.1 h isSt_now hX.1 hX.2.1) rfl rfl (Nat.le_of_ble_eq_true rfl) (by first | assumption | exact isC_of (by decide +kernel)) rfl ?_
  rintro r h' ⟨rfl, ⟨e, he, rfl, rfl⟩ | ⟨hno, rfl⟩⟩
  · have hx := List.getElem?_eq_getElem he
    obtain ⟨e4, -, iE, rE, vE⟩ := nowE hX hx
    generalize G.1.2.2.2[e] = E at *
    have hsp : sp_second (nI e) y z G = if isLtr y = false then (-1, G) else if inR z 0 9 = false ∧ ¬ z = -6 then (-2, G) else if z = nI (E.1 (tn y)) then (-5, G) else (sec (E.2.1 (tn y)), recG G (withE G.1 (G.1.2.2.2.set e (E.1, upN E.2.1 (tn y) (if z = -6 then 0 else tn z + 1), E.2.2)))) := by
      unfold sp_second
      rw [eN_i h4 he, tn_nI (by omega), hx]
    rw [hsp]
    have i0 := iE.1
    have i1 := iE.2.1
    have i2 := iE.2.2.1
    refine am_astore (n := 10) dX7_second_8 (Nat.le_of_ble_eq_true rfl) rfl rfl ?_
    refine am_aload (n := 12) dX7_second_10 rfl rfl ?_
    refine am_ifnull (n := 15) dX7_second_12 rfl ?_
    refine am_iload_n (n := 16) (i := 2) dX7_second_15 rfl rfl rfl ?_
    refine cdX7_second_123 (n := 19) dX7_second_16 (by first | exact ⟨rfl, rfl⟩ | assumption) (ac_X6_isLetter g y h') rfl rfl (Nat.le_of_ble_eq_true rfl) rfl ?_
    cases hl : isLtr y with
    | false =>
      rw [if_pos rfl, show (decide (0 ≤ y) && decide (y < 26)) = false from hl]
      refine am_if_ne (tgt := 24) (n := 22) dX7_second_19 (by decide) rfl (fun q_z => absurd rfl q_z) (fun _ => ?_)
      refine am_iconst (n := 23) (v := (-1)) dX7_second_22 rfl rfl ?_
      refine am_iret dX7_second_23 rfl rfl ?_
      exact ⟨rfl, hX, FM.rf⟩
    | true =>
      rw [if_neg (by decide), show (decide (0 ≤ y) && decide (y < 26)) = true from hl]
      obtain ⟨l, hl26, rfl⟩ := isLtr_t hl
      rw [tn_nI (by omega)]
      generalize hZ : ZP g (fun v h'' => v = some (.int (if inR z 0 9 = false ∧ ¬ z = -6 then (-2, G) else if z = nI (E.1 l) then (-5, G) else (sec (E.2.1 l), recG G (withE G.1 (G.1.2.2.2.set e (E.1, upN E.2.1 l (if z = -6 then 0 else tn z + 1), E.2.2))))).1) ∧ XI (if inR z 0 9 = false ∧ ¬ z = -6 then (-2, G) else if z = nI (E.1 l) then (-5, G) else (sec (E.2.1 l), recG G (withE G.1 (G.1.2.2.2.set e (E.1, upN E.2.1 l (if z = -6 then 0 else tn z + 1), E.2.2))))).2 h'' ∧ FM h' h'') = Z
      have z0 : Z.1 = 0 ∧ Z.2.1 = 0 := by rw [← hZ]; exact ⟨rfl, rfl⟩
      have t40 : ¬ (inR z 0 9 = false ∧ ¬ z = -6) → (∃ s, s ≤ 10 ∧ (if z = -6 then 0 else tn z + 1) = s ∧ z = sec s ∧ (∀ m, m ≤ 9 → (¬ z = nI m) → s ≠ m + 1)) → AW g mmX7_second Z 40 [(0, some (.ref 0)), (1, some (.int (nI e))), (2, some (.int (nI l))), (3, some (.int z)), (4, some (.ref (100 + 10 * (e + 1))))] [] h' := by
        rintro hok ⟨s, s10, hs, hzs, hsn⟩
        have hin : vp_in (nI l) 26 := vp_in_nI hl26 (by decide)
        refine am_iload_n (n := 41) (i := 3) dX7_second_40 rfl rfl rfl ?_
        refine am_aload (n := 43) dX7_second_41 rfl rfl ?_
        refine gfX7_second_131 (n := 46) dX7_second_43 (by first | assumption | exact isC_of (by decide +kernel)) rfl ?_
        refine am_iload_n (n := 47) (i := 2) dX7_second_46 rfl rfl rfl ?_
        refine am_iald (n := 48) dX7_second_47 (by first | assumption | exact isC_of (by decide +kernel)) (by first | assumption | exact vp_in_nI (by omega) (by omega) | exact vp_in_iff.mpr (by decide)) rfl ?_
        rw [nI_clamp (by omega), (rE.1 l hl26).1]
        by_cases q : z = nI (E.1 l)
        · refine am_icmp_ne (tgt := 54) (n := 51) dX7_second_48 (by decide) rfl (fun q_z => absurd q q_z) (fun _ => ?_)
          rw [← hZ, if_neg hok, if_pos q]
          refine am_bipush (n := 53) (v := (-5)) dX7_second_51 rfl rfl ?_
          refine am_iret dX7_second_53 rfl rfl ?_
          exact ⟨rfl, hX, FM.rf⟩
        · refine am_icmp_ne (tgt := 54) (n := 51) dX7_second_48 (by decide) rfl (fun _ => ?_) (fun q_z => absurd q_z q)
          refine am_aload_n (n := 55) (i := 0) dX7_second_54 rfl rfl rfl ?_
          refine caX7_second_69 (n := 58) dX7_second_55 (by first | exact ⟨rfl, rfl⟩ | assumption) (ac_X7_recordChange g G h' hX) rfl rfl (Nat.le_of_ble_eq_true rfl) (by first | assumption | exact isC_of (by decide +kernel)) rfl ?_
          rintro r h1 ⟨rfl, X1, F1, -⟩
          have rE1 : RE (100 + 10 * (e + 1)) E h1 := X1.1.2.2.2.2.2 e _ hx
          refine am_aload (n := 60) dX7_second_58 rfl rfl ?_
          refine gfX7_second_138 (n := 63) dX7_second_60 (by first | assumption | exact isC_of (by decide +kernel)) rfl ?_
          refine am_iload_n (n := 64) (i := 2) dX7_second_63 rfl rfl rfl ?_
          refine am_iald (n := 65) dX7_second_64 (by first | assumption | exact isC_of (by decide +kernel)) (by first | assumption | exact vp_in_nI (by omega) (by omega) | exact vp_in_iff.mpr (by decide)) rfl ?_
          rw [nI_clamp (by omega), (rE1.1 l hl26).2]
          refine am_istore (n := 67) dX7_second_65 (Nat.le_of_ble_eq_true rfl) rfl rfl ?_
          refine am_aload (n := 69) dX7_second_67 rfl rfl ?_
          refine gfX7_second_138 (n := 72) dX7_second_69 (by first | assumption | exact isC_of (by decide +kernel)) rfl ?_
          refine am_iload_n (n := 73) (i := 2) dX7_second_72 rfl rfl rfl ?_
          refine am_iload_n (n := 74) (i := 3) dX7_second_73 rfl rfl rfl ?_
          refine am_iast (n := 75) dX7_second_74 (by first | assumption | exact isC_of (by decide +kernel)) (by first | assumption | exact vp_in_nI (by omega) (by omega) | exact vp_in_iff.mpr (by decide)) rfl ?_
          rw [nI_clamp (by omega), ← hZ, if_neg hok, if_neg q, hs]
          refine am_iload (n := 77) dX7_second_75 rfl rfl ?_
          rw [hzs]
          have M1 := (MidE.of rE1).S (i := l) (v := s)
          have R2 : RE (100 + 10 * (e + 1)) (E.1, upN E.2.1 l s, E.2.2) _ := M1.re rE1
          have F2 := M1.fr
          exact am_iret dX7_second_77 rfl rfl ⟨rfl, X1.now (X1.1.ear X1.2.1 F2 R2) (VS_setE X1.2.1 (VE_second vE s10 (hsn _ (vE.1 l hl26).1 q))) (F2.toFr.wide (by omega) (by omega)), F1.tr (FM.fi F2 (by omega))⟩
      refine am_if_ne (tgt := 24) (n := 22) dX7_second_19 (by decide) rfl (fun _ => ?_) (fun q_z => absurd q_z (by decide))
      refine am_iload_n (n := 25) (i := 3) dX7_second_24 rfl rfl rfl ?_
      refine cdX7_second_128 (n := 28) dX7_second_25 (by first | exact ⟨rfl, rfl⟩ | assumption) (ac_X7_isClass g z h') rfl rfl (Nat.le_of_ble_eq_true rfl) rfl ?_
      cases hz : inR z 0 9 with
      | true =>
        refine am_if_ne (tgt := 40) (n := 31) dX7_second_28 (by decide) rfl (fun _ => ?_) (fun q_z => absurd q_z (by decide))
        obtain ⟨k, -, k9, rfl⟩ := inR_t (by decide) (by decide) hz
        refine am_loc _ rfl (t40 (fun q => by rw [hz] at q; cases q.1) ⟨k + 1, by omega, ?_, ?_, fun m hm hzm e => hzm (by rw [show k = m by omega])⟩)
        · rw [tn_nI (by omega), if_neg]
          intro q
          have := nI_pos' (n := k) (by omega)
          rw [q] at this
          exact absurd this (by decide)
        · rw [sec_nI (by omega), Nat.add_sub_cancel]
      | false =>
        refine am_if_ne (tgt := 40) (n := 31) dX7_second_28 (by decide) rfl (fun q_z => absurd rfl q_z) (fun _ => ?_)
        refine am_iload_n (n := 32) (i := 3) dX7_second_31 rfl rfl rfl ?_
        refine am_bipush (n := 34) (v := (-6)) dX7_second_32 rfl rfl ?_
        by_cases h6 : z = -6
        · refine am_icmp_eq (tgt := 40) (n := 37) dX7_second_34 (by decide) rfl (fun _ => ?_) (fun q_z => absurd h6 q_z)
          exact am_loc _ rfl (t40 (fun q => q.2 h6) ⟨0, by omega, if_pos h6, h6, fun m _ _ => by omega⟩)
        · refine am_icmp_eq (tgt := 40) (n := 37) dX7_second_34 (by decide) rfl (fun q_z => absurd q_z h6) (fun _ => ?_)
          rw [← hZ, hz, if_pos ⟨rfl, h6⟩]
          refine am_bipush (n := 39) (v := (-2)) dX7_second_37 rfl rfl ?_
          refine am_iret dX7_second_39 rfl rfl ?_
          exact ⟨rfl, hX, FM.rf⟩
  · have hs2 : sp_second x y z G = (-1, G) := by unfold sp_second; rw [eN_f hno]
    rw [hs2]
    refine am_astoreN (n := 10) dX7_second_8 (Nat.le_of_ble_eq_true rfl) rfl rfl ?_
    refine am_aloadN (n := 12) dX7_second_10 rfl rfl ?_
    refine am_ifnullN (tgt := 22) dX7_second_12 (by decide) ?_
    refine am_iconst (n := 23) (v := (-1)) dX7_second_22 rfl rfl ?_
    refine am_iret dX7_second_23 rfl rfl ?_
    exact ⟨rfl, hX, FM.rf⟩
