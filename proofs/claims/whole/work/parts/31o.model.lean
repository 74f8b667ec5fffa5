/-! The reference: drawer, find -/
set_option maxRecDepth 100000 in
set_option maxHeartbeats 400000 in
theorem m_codeAt (g : Gx) (r : Nat) (ds : List Nat) (h : Hp) (D : DRZ ds h) (hN : ND ds) (h30 : ∀ c ∈ ds, c < 2 ^ 30) (hl : ds.length ≤ 96) (hr : r < ds.length) : AD g yX8_codeAt wsX8_codeAt rmX8_codeAt [.ref 40, .int (nI r)] h (some (.long (lN (lc (byR ds r))))) h := by
  have c40 := isC_40
  have c51 := isC_51
  obtain ⟨D1, D2⟩ := D
  obtain ⟨d0, hd0, hd0r⟩ := rkD_onto hN hr
  rw [byR_eq hN hd0 hd0r]
  have huniq : ∀ k, k < ds.length → (rkD ds k = r ↔ k = d0) := fun k hk => ⟨fun q => rkD_inj hN hk hd0 (by rw [q, hd0r]), fun q => by rw [q]; exact hd0r⟩
  generalize hZ : ZP g (fun q h2 => q = some (.long (lN (lc (ds.getD d0 0)))) ∧ h2 = h) = Z
  have z0 : Z.1 = 0 ∧ Z.2.1 = 0 := by rw [← hZ]; exact ⟨rfl, rfl⟩
  refine AC.of (cc := cX8_codeAt) (maxL := 7) (ret := (some .long)) (by decide +kernel) rfl (Nat.le_of_ble_eq_true rfl) ?_
  show AW g mmX8_codeAt _ 0 [(0, some (.ref 40)), (1, some (.int (nI r)))] [] _
  rw [hZ]
  refine am_lconst (n := 1) (v := 0) dX8_codeAt_0 rfl rfl ?_
  refine am_lstore_n (n := 2) (i := 2) dX8_codeAt_1 rfl (Nat.le_of_ble_eq_true rfl) rfl rfl ?_
  refine am_iconst (n := 3) (v := 0) dX8_codeAt_2 rfl rfl ?_
  refine am_istore (n := 5) dX8_codeAt_3 (Nat.le_of_ble_eq_true rfl) rfl rfl ?_
  refine am_loc [(0, some (.ref 40)), (1, some (.int (nI r))), (2, some (.long (if d0 < 0 then lN (lc (ds.getD d0 0)) else 0))), (4, some (.int (nI 0)))] (by rw [if_neg (Nat.not_lt_zero _)]; rfl) ?_
  refine loop_up (Wp := fun k => AW g mmX8_codeAt Z 5 [(0, some (.ref 40)), (1, some (.int (nI r))), (2, some (.long (if d0 < k then lN (lc (ds.getD d0 0)) else 0))), (4, some (.int (nI k)))] [] h) ds.length ?_ ?_ 0 (Nat.zero_le _)
  · rw [if_pos hd0]
    refine am_iload (n := 7) dX8_codeAt_5 rfl rfl ?_
    refine am_aload_n (n := 8) (i := 0) dX8_codeAt_7 rfl rfl rfl ?_
    refine gfX8_codeAt_130 (n := 11) dX8_codeAt_8 (by first | assumption | exact isC_of (by decide +kernel)) rfl ?_
    rw [D1]
    refine am_icmp_ge (tgt := 87) (n := 14) dX8_codeAt_11 (by decide) rfl (fun _ => ?_) (fun q_z => absurd (nI_le (Nat.le_refl _) (by omega)) q_z)
    rw [← hZ]
    refine am_lload_n (n := 88) (i := 2) dX8_codeAt_87 rfl rfl rfl ?_
    refine am_lret dX8_codeAt_88 rfl ?_
    exact ⟨rfl, rfl⟩
  · intro k hk K
    have hx := gD_at hk
    have hC := D2 k _ hx
    have hxx := h30 _ (List.mem_of_getElem? hx)
    have hin : vp_in (nI k) 96 := vp_in_nI (by omega) (by decide)
    refine am_iload (n := 7) dX8_codeAt_5 rfl rfl ?_
    refine am_aload_n (n := 8) (i := 0) dX8_codeAt_7 rfl rfl rfl ?_
    refine gfX8_codeAt_130 (n := 11) dX8_codeAt_8 (by first | assumption | exact isC_of (by decide +kernel)) rfl ?_
    rw [D1]
    refine am_icmp_ge (tgt := 87) (n := 14) dX8_codeAt_11 (by decide) rfl (fun q_z => absurd q_z (nI_ge hk (by omega))) (fun _ => ?_)
    refine am_iconst (n := 15) (v := 0) dX8_codeAt_14 rfl rfl ?_
    refine am_istore (n := 17) dX8_codeAt_15 (Nat.le_of_ble_eq_true rfl) rfl rfl ?_
    refine am_iconst (n := 18) (v := 0) dX8_codeAt_17 rfl rfl ?_
    refine am_istore (n := 20) dX8_codeAt_18 (Nat.le_of_ble_eq_true rfl) rfl rfl ?_
    generalize hY : (if d0 < k then lN (lc (ds.getD d0 0)) else (0 : Int64)) = Y at *
    refine am_loc [(0, some (.ref 40)), (1, some (.int (nI r))), (2, some (.long Y)), (4, some (.int (nI k))), (5, some (.int (nI (fb_ct (fun o => decide (ds.getD o 0 < ds.getD k 0)) 0)))), (6, some (.int (nI 0)))] rfl ?_
    refine loop_up (Wp := fun j => AW g mmX8_codeAt Z 20 [(0, some (.ref 40)), (1, some (.int (nI r))), (2, some (.long Y)), (4, some (.int (nI k))), (5, some (.int (nI (fb_ct (fun o => decide (ds.getD o 0 < ds.getD k 0)) j)))), (6, some (.int (nI j)))] [] h) ds.length ?_ ?_ 0 (Nat.zero_le _)
    · have hrk : fb_ct (fun o => decide (ds.getD o 0 < ds.getD k 0)) ds.length = rkD ds k := rfl
      have hbd := rkD_bd hk
      have hu := huniq k hk
      rw [hrk]
      generalize rkD ds k = R at *
      refine am_iload (n := 22) dX8_codeAt_20 rfl rfl ?_
      refine am_aload_n (n := 23) (i := 0) dX8_codeAt_22 rfl rfl rfl ?_
      refine gfX8_codeAt_130 (n := 26) dX8_codeAt_23 (by first | assumption | exact isC_of (by decide +kernel)) rfl ?_
      rw [D1]
      refine am_icmp_ge (tgt := 63) (n := 29) dX8_codeAt_26 (by decide) rfl (fun _ => ?_) (fun q_z => absurd (nI_le (Nat.le_refl _) (by omega)) q_z)
      refine am_iload (n := 65) dX8_codeAt_63 rfl rfl ?_
      refine am_iload_n (n := 66) (i := 1) dX8_codeAt_65 rfl rfl rfl ?_
      by_cases q : R = r
      · have hkd := hu.mp q
        refine am_icmp_ne (tgt := 79) (n := 69) dX8_codeAt_66 (by decide) rfl (fun q_z => absurd (by rw [q]) q_z) (fun _ => ?_)
        refine am_aload_n (n := 70) (i := 0) dX8_codeAt_69 rfl rfl rfl ?_
        refine gfX8_codeAt_42 (n := 73) dX8_codeAt_70 (by first | assumption | exact isC_of (by decide +kernel)) rfl ?_
        refine am_iload (n := 75) dX8_codeAt_73 rfl rfl ?_
        refine am_lald (n := 76) dX8_codeAt_75 (by first | assumption | exact isC_of (by decide +kernel)) (by first | assumption | exact vp_in_nI (by omega) (by omega) | exact vp_in_iff.mpr (by decide)) rfl ?_
        rw [nI_clamp (by omega), hC]
        refine am_goto (tgt := 80) dX8_codeAt_76 (by decide) ?_
        refine am_lstore_n (n := 81) (i := 2) dX8_codeAt_80 rfl (Nat.le_of_ble_eq_true rfl) rfl rfl ?_
        first | refine am_iincN (n := 84) dX8_codeAt_81 rfl rfl rfl ?_ | refine am_iinc1 (n := 84) dX8_codeAt_81 rfl rfl rfl ?_
        refine am_goto (tgt := 5) dX8_codeAt_84 (by decide) ?_
        rw [hkd] at K ⊢
        rw [if_pos (Nat.lt_succ_self _)] at K
        exact am_loc _ rfl K
      · have hkd : k ≠ d0 := fun z => q (hu.mpr z)
        refine am_icmp_ne (tgt := 79) (n := 69) dX8_codeAt_66 (by decide) rfl (fun _ => ?_) (fun q_z => absurd q_z (fun z => q ((nI_eq (by omega) (by omega)).mp z)))
        refine am_lload_n (n := 80) (i := 2) dX8_codeAt_79 rfl rfl rfl ?_
        refine am_lstore_n (n := 81) (i := 2) dX8_codeAt_80 rfl (Nat.le_of_ble_eq_true rfl) rfl rfl ?_
        first | refine am_iincN (n := 84) dX8_codeAt_81 rfl rfl rfl ?_ | refine am_iinc1 (n := 84) dX8_codeAt_81 rfl rfl rfl ?_
        refine am_goto (tgt := 5) dX8_codeAt_84 (by decide) ?_
        have e2 : (if d0 < k + 1 then lN (lc (ds.getD d0 0)) else (0 : Int64)) = Y := by
          rw [← hY]
          by_cases z : d0 < k
          · rw [if_pos z, if_pos (by omega)]
          · rw [if_neg z, if_neg (by omega)]
        rw [e2] at K
        exact am_loc _ rfl K
    · intro j hj K2
      have hxj := gD_at hj
      have hCj := D2 j _ hxj
      have hxxj := h30 _ (List.mem_of_getElem? hxj)
      have hinj : vp_in (nI j) 96 := vp_in_nI (by omega) (by decide)
      have hlt := lcN_lt hxxj hxx
      rw [fb_ct_succ, ← nI_add] at K2
      generalize nI (fb_ct (fun o => decide (ds.getD o 0 < ds.getD k 0)) j) = y at *
      refine am_iload (n := 22) dX8_codeAt_20 rfl rfl ?_
      refine am_aload_n (n := 23) (i := 0) dX8_codeAt_22 rfl rfl rfl ?_
      refine gfX8_codeAt_130 (n := 26) dX8_codeAt_23 (by first | assumption | exact isC_of (by decide +kernel)) rfl ?_
      rw [D1]
      refine am_icmp_ge (tgt := 63) (n := 29) dX8_codeAt_26 (by decide) rfl (fun q_z => absurd q_z (nI_ge hj (by omega))) (fun _ => ?_)
      refine am_iload (n := 31) dX8_codeAt_29 rfl rfl ?_
      refine am_aload_n (n := 32) (i := 0) dX8_codeAt_31 rfl rfl rfl ?_
      refine gfX8_codeAt_42 (n := 35) dX8_codeAt_32 (by first | assumption | exact isC_of (by decide +kernel)) rfl ?_
      refine am_iload (n := 37) dX8_codeAt_35 rfl rfl ?_
      refine am_lald (n := 38) dX8_codeAt_37 (by first | assumption | exact isC_of (by decide +kernel)) (by first | assumption | exact vp_in_nI (by omega) (by omega) | exact vp_in_iff.mpr (by decide)) rfl ?_
      rw [nI_clamp (by omega), hCj]
      refine am_aload_n (n := 39) (i := 0) dX8_codeAt_38 rfl rfl rfl ?_
      refine gfX8_codeAt_42 (n := 42) dX8_codeAt_39 (by first | assumption | exact isC_of (by decide +kernel)) rfl ?_
      refine am_iload (n := 44) dX8_codeAt_42 rfl rfl ?_
      refine am_lald (n := 45) dX8_codeAt_44 (by first | assumption | exact isC_of (by decide +kernel)) (by first | assumption | exact vp_in_nI (by omega) (by omega) | exact vp_in_iff.mpr (by decide)) rfl ?_
      rw [nI_clamp (by omega), hC]
      refine am_lcmp (n := 46) dX8_codeAt_45 rfl ?_
      by_cases q : ds.getD j 0 < ds.getD k 0
      · rw [decide_eq_true q, if_pos rfl] at K2
        refine am_if_ge (tgt := 53) (n := 49) dX8_codeAt_46 (by decide) rfl (fun q_z => absurd q_z (fun z => absurd ((lg_cmp_lt _ _).mpr (hlt.mpr q)) (Int32.not_lt.mpr z))) (fun _ => ?_)
        refine am_iconst (n := 50) (v := 1) dX8_codeAt_49 rfl rfl ?_
        refine am_goto (tgt := 54) dX8_codeAt_50 (by decide) ?_
        refine am_iadd (n := 55) dX8_codeAt_54 rfl ?_
        refine am_istore (n := 57) dX8_codeAt_55 (Nat.le_of_ble_eq_true rfl) rfl rfl ?_
        first | refine am_iincN (n := 60) dX8_codeAt_57 rfl rfl rfl ?_ | refine am_iinc1 (n := 60) dX8_codeAt_57 rfl rfl rfl ?_
        refine am_goto (tgt := 20) dX8_codeAt_60 (by decide) ?_
        exact am_loc _ rfl K2
      · rw [decide_eq_false q, if_neg (by decide)] at K2
        refine am_if_ge (tgt := 53) (n := 49) dX8_codeAt_46 (by decide) rfl (fun _ => ?_) (fun q_z => absurd (Int32.not_lt.mp (fun z => q (hlt.mp ((lg_cmp_lt _ _).mp z)))) q_z)
        refine am_iconst (n := 54) (v := 0) dX8_codeAt_53 rfl rfl ?_
        refine am_iadd (n := 55) dX8_codeAt_54 rfl ?_
        refine am_istore (n := 57) dX8_codeAt_55 (Nat.le_of_ble_eq_true rfl) rfl rfl ?_
        first | refine am_iincN (n := 60) dX8_codeAt_57 rfl rfl rfl ?_ | refine am_iinc1 (n := 60) dX8_codeAt_57 rfl rfl rfl ?_
        refine am_goto (tgt := 20) dX8_codeAt_60 (by decide) ?_
        exact am_loc _ rfl K2
set_option maxRecDepth 100000 in
set_option maxHeartbeats 400000 in
theorem cm_drawer (g : Gx) (x d o : Int32) (G : GS) (h : Hp) (hX : MG G h) : CM g yX8_drawer wsX8_drawer rmX8_drawer [.ref 40, .int x, .int d, .int o] h (sp_drawer x d o G) := by
  have c40 := isC_40
  have c51 := isC_51
  have h4 := hX.2.1.2.2.2.2.1
  unfold CM sp_drawer
  refine AC.of (cc := cX8_drawer) (maxL := 4) (ret := (some .int)) (by decide +kernel) rfl (Nat.le_of_ble_eq_true rfl) ?_
  show AW g mmX8_drawer _ 0 [(0, some (.ref 40)), (1, some (.int x)), (2, some (.int d)), (3, some (.int o))] [] _
  refine am_aload_n (n := 1) (i := 0) dX8_drawer_0 rfl rfl rfl ?_
  refine am_iload_n (n := 2) (i := 1) dX8_drawer_1 rfl rfl rfl ?_
  refine cdX8_drawer_156 (n := 5) dX8_drawer_2 (by first | exact ⟨rfl, rfl⟩ | assumption) (m_isEar g x G.1.2.2.2.length h (by omega) hX.1.2.2.2.1) rfl rfl (Nat.le_of_ble_eq_true rfl) (by first | assumption | exact isC_of (by decide +kernel)) rfl ?_
  cases hxx : inN x G.1.2.2.2.length with
  | false =>
    rw [sp_E_f _ hxx]
    refine am_if_ne (tgt := 10) (n := 8) dX8_drawer_5 (by decide) rfl (fun q_z => absurd rfl q_z) (fun _ => ?_)
    refine am_iconst (n := 9) (v := (-1)) dX8_drawer_8 rfl rfl ?_
    refine am_iret dX8_drawer_9 rfl rfl ?_
    exact ⟨rfl, hX, Fr.rf⟩
  | true =>
    obtain ⟨e, he, rfl⟩ := inN_t (by omega) hxx
    have hx := List.getElem?_eq_getElem he
    obtain ⟨e4, R, vE⟩ := mE hX.1 hX.2.1 hx
    rw [sp_E_t _ h4 he hx]
    generalize G.1.2.2.2[e] = E at *
    refine am_if_ne (tgt := 10) (n := 8) dX8_drawer_5 (by decide) rfl (fun _ => ?_) (fun q_z => absurd q_z (show ¬ (1 : Int32) = 0 by decide))
    refine am_aload_n (n := 11) (i := 0) dX8_drawer_10 rfl rfl rfl ?_
    refine am_iload_n (n := 12) (i := 1) dX8_drawer_11 rfl rfl rfl ?_
    refine caX8_drawer_147 (n := 15) dX8_drawer_12 (by first | exact ⟨rfl, rfl⟩ | assumption) (m_hearAll g e G.1 E h hX.1 hX.2.1 hx) rfl rfl (Nat.le_of_ble_eq_true rfl) (by first | assumption | exact isC_of (by decide +kernel)) rfl ?_
    rintro r h1 ⟨rfl, H1, F1⟩
    have X1 := hX.s F1
    have hV := VC_of hX.2.1 vE
    have hz1 : h1.1 41 2 = nI (csOf G.1 E).length := by rw [csOf_len]; exact X1.1.2.2.1
    generalize csOf G.1 E = cs at *
    have h30 := dl_30 hV
    have hdl := dl_len hV
    have hND : ND (dl cs) := ND_dls _
    have D1 := H1.1
    unfold drS
    refine am_iload_n (n := 16) (i := 2) dX8_drawer_15 rfl rfl rfl ?_
    refine am_iconst (n := 17) (v := 0) dX8_drawer_16 rfl rfl ?_
    refine am_aload_n (n := 18) (i := 0) dX8_drawer_17 rfl rfl rfl ?_
    refine gfX8_drawer_130 (n := 21) dX8_drawer_18 (by first | assumption | exact isC_of (by decide +kernel)) rfl ?_
    rw [D1.1]
    refine am_iconst (n := 22) (v := 1) dX8_drawer_21 rfl rfl ?_
    refine am_isub (n := 23) dX8_drawer_22 rfl ?_
    refine cdX8_drawer_51 (n := 26) dX8_drawer_23 (by first | exact ⟨rfl, rfl⟩ | assumption) (m_in g d 0 (nI (dl cs).length - 1) h1) rfl rfl (Nat.le_of_ble_eq_true rfl) rfl ?_
    rw [inN_pred d (show (dl cs).length < 2 ^ 31 by omega)]
    cases hd : inN d (dl cs).length with
    | false =>
      rw [if_neg (by decide)]
      refine am_if_ne (tgt := 31) (n := 29) dX8_drawer_26 (by decide) rfl (fun q_z => absurd rfl q_z) (fun _ => ?_)
      refine am_iconst (n := 30) (v := (-1)) dX8_drawer_29 rfl rfl ?_
      refine am_iret dX8_drawer_30 rfl rfl ?_
      exact ⟨rfl, X1, F1.1⟩
    | true =>
      rw [if_pos rfl]
      obtain ⟨i, hi, rfl⟩ := inN_t (by omega) hd
      rw [tn_nI (by omega)]
      have hx1 := gD_at hi
      have hC := D1.2 i _ hx1
      have hin : vp_in (nI i) 96 := vp_in_nI (by omega) (by decide)
      refine am_if_ne (tgt := 31) (n := 29) dX8_drawer_26 (by decide) rfl (fun _ => ?_) (fun q_z => absurd q_z (show ¬ (1 : Int32) = 0 by decide))
      refine am_iload_n (n := 32) (i := 3) dX8_drawer_31 rfl rfl rfl ?_
      refine am_iconst (n := 33) (v := 0) dX8_drawer_32 rfl rfl ?_
      refine am_iconst (n := 34) (v := 1) dX8_drawer_33 rfl rfl ?_
      refine cdX8_drawer_51 (n := 37) dX8_drawer_34 (by first | exact ⟨rfl, rfl⟩ | assumption) (m_in g o 0 1 h1) rfl rfl (Nat.le_of_ble_eq_true rfl) rfl ?_
      by_cases o0 : o = 0
      · subst o0
        rw [if_pos rfl]
        refine am_if_ne (tgt := 43) (n := 40) dX8_drawer_37 (by decide) rfl (fun _ => ?_) (fun q_z => absurd q_z (by decide))
        refine am_aload_n (n := 44) (i := 0) dX8_drawer_43 rfl rfl rfl ?_
        refine am_iload_n (n := 45) (i := 3) dX8_drawer_44 rfl rfl rfl ?_
        refine am_if_ne (tgt := 57) (n := 48) dX8_drawer_45 (by decide) rfl (fun q_z => absurd rfl q_z) (fun _ => ?_)
        refine am_aload_n (n := 49) (i := 0) dX8_drawer_48 rfl rfl rfl ?_
        refine gfX8_drawer_42 (n := 52) dX8_drawer_49 (by first | assumption | exact isC_of (by decide +kernel)) rfl ?_
        refine am_iload_n (n := 53) (i := 2) dX8_drawer_52 rfl rfl rfl ?_
        refine am_lald (n := 54) dX8_drawer_53 (by first | assumption | exact isC_of (by decide +kernel)) (by first | assumption | exact vp_in_nI (by omega) (by omega) | exact vp_in_iff.mpr (by decide)) rfl ?_
        rw [nI_clamp (by omega), hC]
        refine am_goto (tgt := 62) dX8_drawer_54 (by decide) ?_
        refine cdX8_drawer_193 (n := 65) dX8_drawer_62 (by first | exact ⟨rfl, rfl⟩ | assumption) (m_namesWith g _ cs h1 H1 hV (h30 _ (List.mem_of_getElem? hx1)) hz1) rfl rfl (Nat.le_of_ble_eq_true rfl) (by first | assumption | exact isC_of (by decide +kernel)) rfl ?_
        generalize mkC cs ((dl cs).getD i 0) cs.length = v
        exact am_iret dX8_drawer_65 rfl rfl ⟨rfl, X1, F1.1⟩
      · rw [if_neg o0]
        by_cases o1 : o = 1
        · subst o1
          rw [if_pos rfl]
          refine am_if_ne (tgt := 43) (n := 40) dX8_drawer_37 (by decide) rfl (fun _ => ?_) (fun q_z => absurd q_z (by decide))
          refine am_aload_n (n := 44) (i := 0) dX8_drawer_43 rfl rfl rfl ?_
          refine am_iload_n (n := 45) (i := 3) dX8_drawer_44 rfl rfl rfl ?_
          refine am_if_ne (tgt := 57) (n := 48) dX8_drawer_45 (by decide) rfl (fun _ => ?_) (fun q_z => absurd q_z (by decide))
          refine am_aload_n (n := 58) (i := 0) dX8_drawer_57 rfl rfl rfl ?_
          refine am_iload_n (n := 59) (i := 2) dX8_drawer_58 rfl rfl rfl ?_
          have hb30 : byR (dl cs) i < 2 ^ 30 := by
            obtain ⟨d0, hd0, hd0r⟩ := rkD_onto hND hi
            rw [byR_eq hND hd0 hd0r]
            exact h30 _ (List.mem_of_getElem? (gD_at hd0))
          refine cdX8_drawer_217 (n := 62) dX8_drawer_59 (by first | exact ⟨rfl, rfl⟩ | assumption) (m_codeAt g i (dl cs) h1 D1 hND h30 hdl hi) rfl rfl (Nat.le_of_ble_eq_true rfl) (by first | assumption | exact isC_of (by decide +kernel)) rfl ?_
          generalize byR (dl cs) i = c at *
          refine cdX8_drawer_193 (n := 65) dX8_drawer_62 (by first | exact ⟨rfl, rfl⟩ | assumption) (m_namesWith g c cs h1 H1 hV hb30 hz1) rfl rfl (Nat.le_of_ble_eq_true rfl) (by first | assumption | exact isC_of (by decide +kernel)) rfl ?_
          generalize mkC cs c cs.length = v
          exact am_iret dX8_drawer_65 rfl rfl ⟨rfl, X1, F1.1⟩
        · rw [if_neg o1, show (decide (0 ≤ o) && decide (o ≤ 1)) = false from sw_f (n := 1) (by decide) (fun i hi => by rcases i with _ | _ | i; exact o0; exact o1; omega)]
          refine am_if_ne (tgt := 43) (n := 40) dX8_drawer_37 (by decide) rfl (fun q_z => absurd rfl q_z) (fun _ => ?_)
          refine am_bipush (n := 42) (v := (-2)) dX8_drawer_40 rfl rfl ?_
          refine am_iret dX8_drawer_42 rfl rfl ?_
          exact ⟨rfl, X1, F1.1⟩
set_option maxRecDepth 100000 in
set_option maxHeartbeats 400000 in
theorem m_isLikeWord (g : Gx) (i : Nat) (cs : List (List Nat)) (xs : List Nat) (h : Hp) (H : HA cs h) (V : VC cs) (C : CDM xs h) (hxl : xs.length ≤ 4) (h30 : ∀ x ∈ xs, x < 2 ^ 30) (hi : i < cs.length) : AD g yX8_isLikeWord wsX8_isLikeWord rmX8_isLikeWord [.ref 40, .int (nI i)] h (some (.int (bI (xs.any (fun c => decide (c ∈ cN cs i)))))) h := by
  have c40 := isC_40
  have c48 := isC_48
  obtain ⟨C1, C2⟩ := C
  have hcall := fun c hc => m_hasCode g i c cs h H V hi hc
  generalize cN cs i = lo at *
  generalize hZ : ZP g (fun r h2 => r = some (.int (bI (xs.any (fun c => decide (c ∈ lo))))) ∧ h2 = h) = Z
  have z0 : Z.1 = 0 ∧ Z.2.1 = 0 := by rw [← hZ]; exact ⟨rfl, rfl⟩
  refine AC.of (cc := cX8_isLikeWord) (maxL := 4) (ret := (some .boolean)) (by decide +kernel) rfl (Nat.le_of_ble_eq_true rfl) ?_
  show AW g mmX8_isLikeWord _ 0 [(0, some (.ref 40)), (1, some (.int (nI i)))] [] _
  rw [hZ]
  refine am_iconst (n := 1) (v := 0) dX8_isLikeWord_0 rfl rfl ?_
  refine am_istore_n (n := 2) (i := 2) dX8_isLikeWord_1 rfl (Nat.le_of_ble_eq_true rfl) rfl rfl ?_
  refine am_iconst (n := 3) (v := 0) dX8_isLikeWord_2 rfl rfl ?_
  refine am_istore_n (n := 4) (i := 3) dX8_isLikeWord_3 rfl (Nat.le_of_ble_eq_true rfl) rfl rfl ?_
  refine am_loc [(0, some (.ref 40)), (1, some (.int (nI i))), (2, some (.int (bI ((xs.take 0).any (fun c => decide (c ∈ lo)))))), (3, some (.int (nI 0)))] rfl ?_
  refine loop_up (Wp := fun k => AW g mmX8_isLikeWord Z 4 [(0, some (.ref 40)), (1, some (.int (nI i))), (2, some (.int (bI ((xs.take k).any (fun c => decide (c ∈ lo)))))), (3, some (.int (nI k)))] [] h) xs.length ?_ ?_ 0 (Nat.zero_le _)
  · rw [List.take_length]
    refine am_iload_n (n := 5) (i := 3) dX8_isLikeWord_4 rfl rfl rfl ?_
    refine am_aload_n (n := 6) (i := 0) dX8_isLikeWord_5 rfl rfl rfl ?_
    refine gfX8_isLikeWord_123 (n := 9) dX8_isLikeWord_6 (by first | assumption | exact isC_of (by decide +kernel)) rfl ?_
    rw [C1]
    refine am_icmp_ge (tgt := 42) (n := 12) dX8_isLikeWord_9 (by decide) rfl (fun _ => ?_) (fun q_z => absurd (nI_le (Nat.le_refl _) (by omega)) q_z)
    rw [← hZ]
    refine am_iload_n (n := 43) (i := 2) dX8_isLikeWord_42 rfl rfl rfl ?_
    exact am_iret dX8_isLikeWord_43 rfl (nar_bI _) ⟨rfl, rfl⟩
  · intro k hk K
    have hx := gD_at hk
    have hC := C2 k _ hx
    have hxx := h30 _ (List.mem_of_getElem? hx)
    rw [any_take_s hx] at K
    have hin : vp_in (nI k) 4 := vp_in_nI (by omega) (by decide)
    generalize (xs.take k).any (fun c => decide (c ∈ lo)) = y at *
    refine am_iload_n (n := 5) (i := 3) dX8_isLikeWord_4 rfl rfl rfl ?_
    refine am_aload_n (n := 6) (i := 0) dX8_isLikeWord_5 rfl rfl rfl ?_
    refine gfX8_isLikeWord_123 (n := 9) dX8_isLikeWord_6 (by first | assumption | exact isC_of (by decide +kernel)) rfl ?_
    rw [C1]
    refine am_icmp_ge (tgt := 42) (n := 12) dX8_isLikeWord_9 (by decide) rfl (fun q_z => absurd q_z (nI_ge hk (by omega))) (fun _ => ?_)
    refine am_iload_n (n := 13) (i := 2) dX8_isLikeWord_12 rfl rfl rfl ?_
    cases y with
    | true =>
      refine am_if_ne (tgt := 30) (n := 16) dX8_isLikeWord_13 (by decide) rfl (fun _ => ?_) (fun q_z => absurd q_z (show ¬ (1 : Int32) = 0 by decide))
      refine am_iconst (n := 31) (v := 1) dX8_isLikeWord_30 rfl rfl ?_
      refine am_goto (tgt := 35) dX8_isLikeWord_31 (by decide) ?_
      refine am_istore_n (n := 36) (i := 2) dX8_isLikeWord_35 rfl (Nat.le_of_ble_eq_true rfl) rfl rfl ?_
      first | refine am_iincN (n := 39) dX8_isLikeWord_36 rfl rfl rfl ?_ | refine am_iinc1 (n := 39) dX8_isLikeWord_36 rfl rfl rfl ?_
      refine am_goto (tgt := 4) dX8_isLikeWord_39 (by decide) ?_
      exact am_loc _ rfl K
    | false =>
      refine am_if_ne (tgt := 30) (n := 16) dX8_isLikeWord_13 (by decide) rfl (fun q_z => absurd rfl q_z) (fun _ => ?_)
      refine am_aload_n (n := 17) (i := 0) dX8_isLikeWord_16 rfl rfl rfl ?_
      refine am_iload_n (n := 18) (i := 1) dX8_isLikeWord_17 rfl rfl rfl ?_
      refine am_aload_n (n := 19) (i := 0) dX8_isLikeWord_18 rfl rfl rfl ?_
      refine gfX8_isLikeWord_32 (n := 22) dX8_isLikeWord_19 (by first | assumption | exact isC_of (by decide +kernel)) rfl ?_
      refine am_iload_n (n := 23) (i := 3) dX8_isLikeWord_22 rfl rfl rfl ?_
      refine am_lald (n := 24) dX8_isLikeWord_23 (by first | assumption | exact isC_of (by decide +kernel)) (by first | assumption | exact vp_in_nI (by omega) (by omega) | exact vp_in_iff.mpr (by decide)) rfl ?_
      rw [nI_clamp (by omega), hC]
      refine cdX8_isLikeWord_140 (n := 27) dX8_isLikeWord_24 (by first | exact ⟨rfl, rfl⟩ | assumption) (hcall _ hxx) rfl rfl (Nat.le_of_ble_eq_true rfl) (by first | assumption | exact isC_of (by decide +kernel)) rfl ?_
      rw [Bool.false_or] at K
      cases q : decide (xs.getD k 0 ∈ lo) with
      | true =>
        rw [q] at K
        refine am_if_eq (tgt := 34) (n := 30) dX8_isLikeWord_27 (by decide) rfl (fun q_z => absurd q_z (show ¬ (1 : Int32) = 0 by decide)) (fun _ => ?_)
        refine am_iconst (n := 31) (v := 1) dX8_isLikeWord_30 rfl rfl ?_
        refine am_goto (tgt := 35) dX8_isLikeWord_31 (by decide) ?_
        refine am_istore_n (n := 36) (i := 2) dX8_isLikeWord_35 rfl (Nat.le_of_ble_eq_true rfl) rfl rfl ?_
        first | refine am_iincN (n := 39) dX8_isLikeWord_36 rfl rfl rfl ?_ | refine am_iinc1 (n := 39) dX8_isLikeWord_36 rfl rfl rfl ?_
        refine am_goto (tgt := 4) dX8_isLikeWord_39 (by decide) ?_
        exact am_loc _ rfl K
      | false =>
        rw [q] at K
        refine am_if_eq (tgt := 34) (n := 30) dX8_isLikeWord_27 (by decide) rfl (fun _ => ?_) (fun q_z => absurd rfl q_z)
        refine am_iconst (n := 35) (v := 0) dX8_isLikeWord_34 rfl rfl ?_
        refine am_istore_n (n := 36) (i := 2) dX8_isLikeWord_35 rfl (Nat.le_of_ble_eq_true rfl) rfl rfl ?_
        first | refine am_iincN (n := 39) dX8_isLikeWord_36 rfl rfl rfl ?_ | refine am_iinc1 (n := 39) dX8_isLikeWord_36 rfl rfl rfl ?_
        refine am_goto (tgt := 4) dX8_isLikeWord_39 (by decide) ?_
        exact am_loc _ rfl K
theorem HA.fi {cs : List (List Nat)} {h h' : Hp} (H : HA cs h) (F : FrI 52 52 h h') : HA cs h' :=
  ⟨⟨by rw [F.1 40 (by omega)]; exact H.1.1, fun d c hd => by rw [F.2]; exact H.1.2 d c hd⟩, fun i l hl => ⟨by rw [F.1 50 (by omega)]; exact (H.2 i l hl).1, fun j c hj => by rw [F.2]; exact (H.2 i l hl).2 j c hj⟩⟩
theorem CDM.fi {xs : List Nat} {h h' : Hp} (C : CDM xs h) (F : FrI 52 52 h h') : CDM xs h' := ⟨by rw [F.1 40 (by omega)]; exact C.1, fun j c hj => by rw [F.2]; exact C.2 j c hj⟩
theorem MWd.fi {n : Nat} {h h' : Hp} (W : MWd n h) (F : FrI 52 52 h h') : MWd n h' := ⟨by rw [F.1 40 (by omega)]; exact W.1, fun p hp => by rw [F.1 47 (by omega)]; exact W.2 p hp⟩
set_option maxRecDepth 100000 in
set_option maxHeartbeats 400000 in
theorem m_aheadOf (g : Gx) (i n : Nat) (S : SV) (E : EV) (h : Hp) (R : RZ 0 S (h.1 41)) (V : VS S) (hE : VE E) (hi : i < S.2.2.1.length) (hW : MWd n h) (hn : VW n) (H : HA (csOf S E) h) (C : CDM (codes E S.1 n) h) : AC g yX8_aheadOf wsX8_aheadOf rmX8_aheadOf [.ref 40, .int (nI i)] h (fun v h' => v = some (.int (nI (ahC (lkW S E n) (dsW S n) S.2.2.1.length i))) ∧ FrI 52 52 h h') := by
  have c40 := isC_40
  have c41 := isC_41
  have h24 := V.2.2.1
  have hVC := VC_of V hE
  have hlen := csOf_len S E
  have hr2 : h.1 41 2 = nI S.2.2.1.length := R.2.2.1
  have hcl : (codes E S.1 n).length ≤ 4 := dd_le _ _
  have hc30 : ∀ x ∈ codes E S.1 n, x < 2 ^ 30 := fun x hx => by
    obtain ⟨v, -, q⟩ := dd_mem.mp hx
    rw [← q]
    exact cw_30 hE hn V.1.2
  have hlk : ∀ o, o < S.2.2.1.length → ∀ h1, FrI 52 52 h h1 → AD g yX8_isLikeWord wsX8_isLikeWord rmX8_isLikeWord [.ref 40, .int (nI o)] h1 (some (.int (bI (lkW S E n o)))) h1 := fun o ho h1 F => m_isLikeWord g o _ _ h1 (H.fi F) hVC (C.fi F) hcl hc30 (by omega)
  have hdi : ∀ o, o < S.2.2.1.length → ∀ h1, FrI 52 52 h h1 → AC g yX8_distanceTo wsX8_distanceTo rmX8_distanceTo [.ref 40, .int (nI o)] h1 (fun v h' => v = some (.int (nI (dsW S n o))) ∧ FrI 52 52 h1 h') := fun o ho h1 F => m_distanceTo g o n S h1 (by rw [F.1 41 (by omega)]; exact R) V ho (hW.fi F) hn
  have hdl : ∀ o, dsW S n o ≤ 20 := fun o => dst_le _ _
  generalize lkW S E n = lk at *
  generalize dsW S n = ds at *
  generalize S.2.2.1.length = len at *
  clear H C hW hVC hlen hc30 hcl
  unfold ahC
  generalize hZ : ZP g (fun v h' => v = some (.int (nI (fb_ct (fun o => lk o && (decide (ds o < ds i) || (decide (ds o = ds i) && decide (o < i)))) len))) ∧ FrI 52 52 h h') = Z
  have z0 : Z.1 = 0 ∧ Z.2.1 = 0 := by rw [← hZ]; exact ⟨rfl, rfl⟩
  refine AC.of (cc := cX8_aheadOf) (maxL := 6) (ret := (some .int)) (by decide +kernel) rfl (Nat.le_of_ble_eq_true rfl) ?_
  show AW g mmX8_aheadOf _ 0 [(0, some (.ref 40)), (1, some (.int (nI i)))] [] _
  rw [hZ]
  refine am_aload_n (n := 1) (i := 0) dX8_aheadOf_0 rfl rfl rfl ?_
  refine am_iload_n (n := 2) (i := 1) dX8_aheadOf_1 rfl rfl rfl ?_
  refine caX8_aheadOf_103 (n := 5) dX8_aheadOf_2 (by first | exact ⟨rfl, rfl⟩ | assumption) (hdi i hi h FrI.rf) rfl rfl (Nat.le_of_ble_eq_true rfl) (by first | assumption | exact isC_of (by decide +kernel)) rfl ?_
  rintro v h1 ⟨rfl, F1⟩
  have hdi1 := hdl i
  refine am_istore_n (n := 6) (i := 2) dX8_aheadOf_5 rfl (Nat.le_of_ble_eq_true rfl) rfl rfl ?_
  refine am_iconst (n := 7) (v := 0) dX8_aheadOf_6 rfl rfl ?_
  refine am_istore_n (n := 8) (i := 3) dX8_aheadOf_7 rfl (Nat.le_of_ble_eq_true rfl) rfl rfl ?_
  refine am_iconst (n := 9) (v := 0) dX8_aheadOf_8 rfl rfl ?_
  refine am_istore (n := 11) dX8_aheadOf_9 (Nat.le_of_ble_eq_true rfl) rfl rfl ?_
  refine am_loc [(0, some (.ref 40)), (1, some (.int (nI i))), (2, some (.int (nI (ds i)))), (3, some (.int (nI (fb_ct (fun o => lk o && (decide (ds o < ds i) || (decide (ds o = ds i) && decide (o < i)))) 0)))), (4, some (.int (nI 0)))] rfl ?_
  refine loop_up (Wp := fun k => ∀ h1 : Hp, FrI 52 52 h h1 → AW g mmX8_aheadOf Z 11 [(0, some (.ref 40)), (1, some (.int (nI i))), (2, some (.int (nI (ds i)))), (3, some (.int (nI (fb_ct (fun o => lk o && (decide (ds o < ds i) || (decide (ds o = ds i) && decide (o < i)))) k)))), (4, some (.int (nI k)))] [] h1) len ?_ ?_ 0 (Nat.zero_le _) h1 F1
  · intro h2 F2
    refine am_iload (n := 13) dX8_aheadOf_11 rfl rfl ?_
    refine am_aload_n (n := 14) (i := 0) dX8_aheadOf_13 rfl rfl rfl ?_
    refine gfX8_aheadOf_7 (n := 17) dX8_aheadOf_14 (by first | assumption | exact isC_of (by decide +kernel)) rfl ?_
    refine am_iconst (n := 18) (v := 2) dX8_aheadOf_17 rfl rfl ?_
    refine am_iald (n := 19) dX8_aheadOf_18 (by first | assumption | exact isC_of (by decide +kernel)) (by first | assumption | exact vp_in_nI (by omega) (by omega) | exact vp_in_iff.mpr (by decide)) rfl ?_
    rw [show (2 : Int32).toNatClampNeg = 2 from rfl, F2.1 41 (by omega), hr2]
    refine am_icmp_ge (tgt := 71) (n := 22) dX8_aheadOf_19 (by decide) rfl (fun _ => ?_) (fun q_z => absurd (nI_le (Nat.le_refl _) (by omega)) q_z)
    rw [← hZ]
    generalize nI (fb_ct (fun o => lk o && (decide (ds o < ds i) || (decide (ds o = ds i) && decide (o < i)))) len) = y
    refine am_iload_n (n := 72) (i := 3) dX8_aheadOf_71 rfl rfl rfl ?_
    refine am_iret dX8_aheadOf_72 rfl rfl ?_
    exact ⟨rfl, F2⟩
  · intro k hk K h2 F2
    rw [fb_ct_succ, ← nI_add] at K
    generalize nI (fb_ct (fun o => lk o && (decide (ds o < ds i) || (decide (ds o = ds i) && decide (o < i)))) k) = y at *
    have hdk := hdl k
    refine am_iload (n := 13) dX8_aheadOf_11 rfl rfl ?_
    refine am_aload_n (n := 14) (i := 0) dX8_aheadOf_13 rfl rfl rfl ?_
    refine gfX8_aheadOf_7 (n := 17) dX8_aheadOf_14 (by first | assumption | exact isC_of (by decide +kernel)) rfl ?_
    refine am_iconst (n := 18) (v := 2) dX8_aheadOf_17 rfl rfl ?_
    refine am_iald (n := 19) dX8_aheadOf_18 (by first | assumption | exact isC_of (by decide +kernel)) (by first | assumption | exact vp_in_nI (by omega) (by omega) | exact vp_in_iff.mpr (by decide)) rfl ?_
    rw [show (2 : Int32).toNatClampNeg = 2 from rfl, F2.1 41 (by omega), hr2]
    refine am_icmp_ge (tgt := 71) (n := 22) dX8_aheadOf_19 (by decide) rfl (fun q_z => absurd q_z (nI_ge hk (by omega))) (fun _ => ?_)
    refine am_aload_n (n := 23) (i := 0) dX8_aheadOf_22 rfl rfl rfl ?_
    refine am_iload (n := 25) dX8_aheadOf_23 rfl rfl ?_
    refine caX8_aheadOf_103 (n := 28) dX8_aheadOf_25 (by first | exact ⟨rfl, rfl⟩ | assumption) (hdi k hk h2 F2) rfl rfl (Nat.le_of_ble_eq_true rfl) (by first | assumption | exact isC_of (by decide +kernel)) rfl ?_
    rintro v h3 ⟨rfl, F3⟩
    have K3 := K h3 (F2.tr F3)
    have F23 := F2.tr F3
    generalize ds k = dk at *
    generalize ds i = di at *
    refine am_istore (n := 30) dX8_aheadOf_28 (Nat.le_of_ble_eq_true rfl) rfl rfl ?_
    refine am_iload_n (n := 31) (i := 3) dX8_aheadOf_30 rfl rfl rfl ?_
    refine am_aload_n (n := 32) (i := 0) dX8_aheadOf_31 rfl rfl rfl ?_
    refine am_iload (n := 34) dX8_aheadOf_32 rfl rfl ?_
    refine cdX8_aheadOf_221 (n := 37) dX8_aheadOf_34 (by first | exact ⟨rfl, rfl⟩ | assumption) (hlk k hk h3 F23) rfl rfl (Nat.le_of_ble_eq_true rfl) (by first | assumption | exact isC_of (by decide +kernel)) rfl ?_
    cases hlkk : lk k with
    | false =>
      rw [hlkk, Bool.false_and, if_neg (by decide)] at K3
      refine am_if_eq (tgt := 62) (n := 40) dX8_aheadOf_37 (by decide) rfl (fun _ => ?_) (fun q_z => absurd rfl q_z)
      refine am_iconst (n := 63) (v := 0) dX8_aheadOf_62 rfl rfl ?_
      refine am_iadd (n := 64) dX8_aheadOf_63 rfl ?_
      refine am_istore_n (n := 65) (i := 3) dX8_aheadOf_64 rfl (Nat.le_of_ble_eq_true rfl) rfl rfl ?_
      first | refine am_iincN (n := 68) dX8_aheadOf_65 rfl rfl rfl ?_ | refine am_iinc1 (n := 68) dX8_aheadOf_65 rfl rfl rfl ?_
      refine am_goto (tgt := 11) dX8_aheadOf_68 (by decide) ?_
      exact am_loc _ rfl K3
    | true =>
      rw [hlkk, Bool.true_and] at K3
      refine am_if_eq (tgt := 62) (n := 40) dX8_aheadOf_37 (by decide) rfl (fun q_z => absurd q_z (show ¬ (1 : Int32) = 0 by decide)) (fun _ => ?_)
      refine am_iload (n := 42) dX8_aheadOf_40 rfl rfl ?_
      refine am_iload_n (n := 43) (i := 2) dX8_aheadOf_42 rfl rfl rfl ?_
      by_cases q1 : dk < di
      · rw [decide_eq_true q1, Bool.true_or, if_pos rfl] at K3
        refine am_icmp_lt (tgt := 58) (n := 46) dX8_aheadOf_43 (by decide) rfl (fun _ => ?_) (fun q_z => absurd (nI_lt q1 (by omega)) q_z)
        refine am_iconst (n := 59) (v := 1) dX8_aheadOf_58 rfl rfl ?_
        refine am_goto (tgt := 63) dX8_aheadOf_59 (by decide) ?_
        refine am_iadd (n := 64) dX8_aheadOf_63 rfl ?_
        refine am_istore_n (n := 65) (i := 3) dX8_aheadOf_64 rfl (Nat.le_of_ble_eq_true rfl) rfl rfl ?_
        first | refine am_iincN (n := 68) dX8_aheadOf_65 rfl rfl rfl ?_ | refine am_iinc1 (n := 68) dX8_aheadOf_65 rfl rfl rfl ?_
        refine am_goto (tgt := 11) dX8_aheadOf_68 (by decide) ?_
        exact am_loc _ rfl K3
      · rw [decide_eq_false q1, Bool.false_or] at K3
        refine am_icmp_lt (tgt := 58) (n := 46) dX8_aheadOf_43 (by decide) rfl (fun q_z => absurd q_z (nI_nlt (Nat.not_lt.mp q1) (by omega))) (fun _ => ?_)
        refine am_iload (n := 48) dX8_aheadOf_46 rfl rfl ?_
        refine am_iload_n (n := 49) (i := 2) dX8_aheadOf_48 rfl rfl rfl ?_
        by_cases q2 : dk = di
        · rw [decide_eq_true q2, Bool.true_and] at K3
          refine am_icmp_ne (tgt := 62) (n := 52) dX8_aheadOf_49 (by decide) rfl (fun q_z => absurd (by rw [q2]) q_z) (fun _ => ?_)
          refine am_iload (n := 54) dX8_aheadOf_52 rfl rfl ?_
          refine am_iload_n (n := 55) (i := 1) dX8_aheadOf_54 rfl rfl rfl ?_
          by_cases q3 : k < i
          · rw [decide_eq_true q3, if_pos rfl] at K3
            refine am_icmp_ge (tgt := 62) (n := 58) dX8_aheadOf_55 (by decide) rfl (fun q_z => absurd q_z (nI_ge q3 (by omega))) (fun _ => ?_)
            refine am_iconst (n := 59) (v := 1) dX8_aheadOf_58 rfl rfl ?_
            refine am_goto (tgt := 63) dX8_aheadOf_59 (by decide) ?_
            refine am_iadd (n := 64) dX8_aheadOf_63 rfl ?_
            refine am_istore_n (n := 65) (i := 3) dX8_aheadOf_64 rfl (Nat.le_of_ble_eq_true rfl) rfl rfl ?_
            first | refine am_iincN (n := 68) dX8_aheadOf_65 rfl rfl rfl ?_ | refine am_iinc1 (n := 68) dX8_aheadOf_65 rfl rfl rfl ?_
            refine am_goto (tgt := 11) dX8_aheadOf_68 (by decide) ?_
            exact am_loc _ rfl K3
          · rw [decide_eq_false q3, if_neg (by decide)] at K3
            refine am_icmp_ge (tgt := 62) (n := 58) dX8_aheadOf_55 (by decide) rfl (fun _ => ?_) (fun q_z => absurd (nI_le (Nat.not_lt.mp q3) (by omega)) q_z)
            refine am_iconst (n := 63) (v := 0) dX8_aheadOf_62 rfl rfl ?_
            refine am_iadd (n := 64) dX8_aheadOf_63 rfl ?_
            refine am_istore_n (n := 65) (i := 3) dX8_aheadOf_64 rfl (Nat.le_of_ble_eq_true rfl) rfl rfl ?_
            first | refine am_iincN (n := 68) dX8_aheadOf_65 rfl rfl rfl ?_ | refine am_iinc1 (n := 68) dX8_aheadOf_65 rfl rfl rfl ?_
            refine am_goto (tgt := 11) dX8_aheadOf_68 (by decide) ?_
            exact am_loc _ rfl K3
        · rw [decide_eq_false q2, Bool.false_and, if_neg (by decide)] at K3
          refine am_icmp_ne (tgt := 62) (n := 52) dX8_aheadOf_49 (by decide) rfl (fun _ => ?_) (fun q_z => absurd q_z (fun z => q2 ((nI_eq (by omega) (by omega)).mp z)))
          refine am_iconst (n := 63) (v := 0) dX8_aheadOf_62 rfl rfl ?_
          refine am_iadd (n := 64) dX8_aheadOf_63 rfl ?_
          refine am_istore_n (n := 65) (i := 3) dX8_aheadOf_64 rfl (Nat.le_of_ble_eq_true rfl) rfl rfl ?_
          first | refine am_iincN (n := 68) dX8_aheadOf_65 rfl rfl rfl ?_ | refine am_iinc1 (n := 68) dX8_aheadOf_65 rfl rfl rfl ?_
          refine am_goto (tgt := 11) dX8_aheadOf_68 (by decide) ?_
          exact am_loc _ rfl K3
theorem HA.fw {cs : List (List Nat)} {h h' : Hp} (H : HA cs h) (F : FW h h') : HA cs h' :=
  ⟨⟨by rw [F.2.1 15 (by omega)]; exact H.1.1, fun d c hd => by rw [F.2.2]; exact H.1.2 d c hd⟩, fun i l hl => ⟨by rw [F.1 50 (by omega) (by omega)]; exact (H.2 i l hl).1, fun j c hj => by rw [F.2.2]; exact (H.2 i l hl).2 j c hj⟩⟩
theorem HA.fh {cs : List (List Nat)} {h h' : Hp} (H : HA cs h) (F : FH h h') : HA cs h' :=
  ⟨⟨by rw [F.2.1 15 (by omega)]; exact H.1.1, fun d c hd => by rw [F.2.2.1 51 (by omega)]; exact H.1.2 d c hd⟩, fun i l hl => ⟨by rw [F.1 50 (by omega)]; exact (H.2 i l hl).1, fun j c hj => by rw [F.2.2.1 49 (by omega)]; exact (H.2 i l hl).2 j c hj⟩⟩
theorem MWd.fh {n : Nat} {h h' : Hp} (W : MWd n h) (F : FH h h') : MWd n h' := ⟨by rw [F.2.1 9 (by omega)]; exact W.1, fun p hp => by rw [F.1 47 (by omega)]; exact W.2 p hp⟩
def fdK (o : Option Nat) (k : Nat) : Int32 := match o with
  | none => -1
  | some i => if i < k then nI i else -1
set_option maxRecDepth 100000 in
set_option maxHeartbeats 400000 in
theorem cm_find (g : Gx) (x r w : Int32) (G : GS) (h : Hp) (hX : MG G h) : CM g yX8_find wsX8_find rmX8_find [.ref 40, .int x, .int r, .int w] h (sp_find x r w G) := by
  have c40 := isC_40
  have c41 := isC_41
  have h4 := hX.2.1.2.2.2.2.1
  have h24 := hX.2.1.2.2.1
  have hD := hX.2.2.2.2.1
  have hPV := hX.2.2.2.2.2
  unfold CM sp_find
  refine AC.of (cc := cX8_find) (maxL := 6) (ret := (some .int)) (by decide +kernel) rfl (Nat.le_of_ble_eq_true rfl) ?_
  show AW g mmX8_find _ 0 [(0, some (.ref 40)), (1, some (.int x)), (2, some (.int r)), (3, some (.int w))] [] _
  refine am_aload_n (n := 1) (i := 0) dX8_find_0 rfl rfl rfl ?_
  refine cdX8_find_71 (n := 4) dX8_find_1 (by first | exact ⟨rfl, rfl⟩ | assumption) (m_faultOf g G.2.2.2 h hD hPV) rfl rfl (Nat.le_of_ble_eq_true rfl) (by first | assumption | exact isC_of (by decide +kernel)) rfl ?_
  refine am_bipush (n := 6) (v := (-6)) dX8_find_4 rfl rfl ?_
  by_cases hf : flt G.2.2.2 = -6
  · refine am_icmp_eq (tgt := 12) (n := 9) dX8_find_6 (by decide) rfl (fun _ => ?_) (fun q_z => absurd hf q_z)
    rw [if_pos hf]
    obtain ⟨hw, -⟩ := pw_ok hf
    refine am_aload_n (n := 13) (i := 0) dX8_find_12 rfl rfl rfl ?_
    refine am_iload_n (n := 14) (i := 1) dX8_find_13 rfl rfl rfl ?_
    refine cdX8_find_156 (n := 17) dX8_find_14 (by first | exact ⟨rfl, rfl⟩ | assumption) (m_isEar g x G.1.2.2.2.length h (by omega) hX.1.2.2.2.1) rfl rfl (Nat.le_of_ble_eq_true rfl) (by first | assumption | exact isC_of (by decide +kernel)) rfl ?_
    cases hxx : inN x G.1.2.2.2.length with
    | false =>
      rw [sp_E_f _ hxx]
      refine am_if_ne (tgt := 22) (n := 20) dX8_find_17 (by decide) rfl (fun q_z => absurd rfl q_z) (fun _ => ?_)
      refine am_iconst (n := 21) (v := (-1)) dX8_find_20 rfl rfl ?_
      refine am_iret dX8_find_21 rfl rfl ?_
      exact ⟨rfl, hX, Fr.rf⟩
    | true =>
      obtain ⟨e, he, rfl⟩ := inN_t (by omega) hxx
      have hx := List.getElem?_eq_getElem he
      obtain ⟨e4, R, vE⟩ := mE hX.1 hX.2.1 hx
      rw [sp_E_t _ h4 he hx]
      generalize G.1.2.2.2[e] = E at *
      refine am_if_ne (tgt := 22) (n := 20) dX8_find_17 (by decide) rfl (fun _ => ?_) (fun q_z => absurd q_z (show ¬ (1 : Int32) = 0 by decide))
      refine am_aload_n (n := 23) (i := 0) dX8_find_22 rfl rfl rfl ?_
      refine am_iload_n (n := 24) (i := 1) dX8_find_23 rfl rfl rfl ?_
      refine caX8_find_147 (n := 27) dX8_find_24 (by first | exact ⟨rfl, rfl⟩ | assumption) (m_hearAll g e G.1 E h hX.1 hX.2.1 hx) rfl rfl (Nat.le_of_ble_eq_true rfl) (by first | assumption | exact isC_of (by decide +kernel)) rfl ?_
      rintro v h1 ⟨rfl, H1, F1⟩
      have X1 := hX.s F1
      refine am_aload_n (n := 28) (i := 0) dX8_find_27 rfl rfl rfl ?_
      refine caX8_find_86 (n := 31) dX8_find_28 (by first | exact ⟨rfl, rfl⟩ | assumption) (m_takePad g G.2.2.2 h1 X1.2.2.2.2.1 hPV hf) rfl rfl (Nat.le_of_ble_eq_true rfl) (by first | assumption | exact isC_of (by decide +kernel)) rfl ?_
      rintro v h2 ⟨rfl, W2, F2⟩
      have X2 := X1.s F2.s
      have H2 := H1.fw F2
      generalize pw G.2.2.2 = n at *
      refine am_aload_n (n := 32) (i := 0) dX8_find_31 rfl rfl rfl ?_
      refine am_iload_n (n := 33) (i := 1) dX8_find_32 rfl rfl rfl ?_
      refine caX8_find_133 (n := 36) dX8_find_33 (by first | exact ⟨rfl, rfl⟩ | assumption) (m_hearWord g e n G.1.1 E h2 e4 (mE X2.1 X2.2.1 hx).2.1 vE W2 hw X2.2.1.1.2 X2.1.1) rfl rfl (Nat.le_of_ble_eq_true rfl) (by first | assumption | exact isC_of (by decide +kernel)) rfl ?_
      rintro v h3 ⟨rfl, C3, F3⟩
      have X3 := X2.s F3.s
      have H3 := H2.fh F3
      have W3 := W2.fh F3
      have FS := (F1.tr F2.s).tr F3.s
      have hr2 : h3.1 41 2 = nI G.1.2.2.1.length := X3.1.2.2.1
      have hVC := VC_of hX.2.1 vE
      have hlen := csOf_len G.1 E
      have hcl : (codes E G.1.1 n).length ≤ 4 := dd_le _ _
      have hc30 : ∀ x ∈ codes E G.1.1 n, x < 2 ^ 30 := fun x hx => by
        obtain ⟨v, -, q⟩ := dd_mem.mp hx
        rw [← q]
        exact cw_30 vE hw hX.2.1.1.2
      have hlk : ∀ o, o < G.1.2.2.1.length → ∀ hh, FrI 52 52 h3 hh → AD g yX8_isLikeWord wsX8_isLikeWord rmX8_isLikeWord [.ref 40, .int (nI o)] hh (some (.int (bI (lkW G.1 E n o)))) hh := fun o ho hh F => m_isLikeWord g o _ _ hh (H3.fi F) hVC (C3.fi F) hcl hc30 (by omega)
      have hdi : ∀ o, o < G.1.2.2.1.length → ∀ hh, FrI 52 52 h3 hh → AC g yX8_distanceTo wsX8_distanceTo rmX8_distanceTo [.ref 40, .int (nI o)] hh (fun v h' => v = some (.int (nI (dsW G.1 n o))) ∧ FrI 52 52 hh h') := fun o ho hh F => m_distanceTo g o n G.1 hh (by rw [F.1 41 (by omega)]; exact X3.1) X3.2.1 ho (W3.fi F) hw
      have hah : ∀ o, o < G.1.2.2.1.length → ∀ hh, FrI 52 52 h3 hh → AC g yX8_aheadOf wsX8_aheadOf rmX8_aheadOf [.ref 40, .int (nI o)] hh (fun v h' => v = some (.int (nI (ahC (lkW G.1 E n) (dsW G.1 n) G.1.2.2.1.length o))) ∧ FrI 52 52 hh h') := fun o ho hh F => m_aheadOf g o n G.1 E hh (by rw [F.1 41 (by omega)]; exact X3.1) X3.2.1 vE ho (W3.fi F) hw (H3.fi F) (C3.fi F)
      have hf1 : ∀ k, k < G.1.2.2.1.length → lkW G.1 E n k = true → nI (ahC (lkW G.1 E n) (dsW G.1 n) G.1.2.2.1.length k) = r → fnd G.1 E n r = some k := fun k hk h1 h2 => fnd_some h24 hk h1 h2
      have hf2 : ∀ k, fnd G.1 E n r = some k → k < G.1.2.2.1.length ∧ lkW G.1 E n k = true ∧ nI (ahC (lkW G.1 E n) (dsW G.1 n) G.1.2.2.1.length k) = r := fun k hk => by
        unfold fnd at hk
        have h3 := List.find?_some hk
        have h4 := List.mem_range.mp (List.mem_of_find?_eq_some hk)
        rw [Bool.and_eq_true] at h3
        exact ⟨h4, h3.1, of_decide_eq_true h3.2⟩
      generalize fnd G.1 E n r = o at *
      generalize hlkd : lkW G.1 E n = lk at *
      generalize hahd : (fun k => ahC lk (dsW G.1 n) G.1.2.2.1.length k) = ah at *
      have hahd' : ∀ k, ahC lk (dsW G.1 n) G.1.2.2.1.length k = ah k := fun k => congrFun hahd k
      simp only [hahd'] at hah hf1 hf2
      have dbound : ∀ k, ah k ≤ 24 := fun k => by rw [← hahd' k]; exact Nat.le_trans (ahC_le _ _ _ _) h24
      dsimp only
      generalize hZ : ZP g (fun v h' => v = some (.int (fdS G.1 n w o)) ∧ MG G h' ∧ Fr 40 59 h h') = Z
      have z0 : Z.1 = 0 ∧ Z.2.1 = 0 := by rw [← hZ]; exact ⟨rfl, rfl⟩
      refine am_iconst (n := 37) (v := (-1)) dX8_find_36 rfl rfl ?_
      refine am_istore (n := 39) dX8_find_37 (Nat.le_of_ble_eq_true rfl) rfl rfl ?_
      refine am_iconst (n := 40) (v := 0) dX8_find_39 rfl rfl ?_
      refine am_istore (n := 42) dX8_find_40 (Nat.le_of_ble_eq_true rfl) rfl rfl ?_
      refine am_loc [(0, some (.ref 40)), (1, some (.int (nI e))), (2, some (.int r)), (3, some (.int w)), (4, some (.int (fdK o 0))), (5, some (.int (nI 0)))] (by cases o <;> rfl) ?_
      refine loop_up (Wp := fun k => ∀ hh : Hp, FrI 52 52 h3 hh → AW g mmX8_find Z 42 [(0, some (.ref 40)), (1, some (.int (nI e))), (2, some (.int r)), (3, some (.int w)), (4, some (.int (fdK o k))), (5, some (.int (nI k)))] [] hh) G.1.2.2.1.length ?_ ?_ 0 (Nat.zero_le _) h3 FrI.rf
      · intro hh F
        have FF := FrS.ofI F (by omega) (by omega)
        refine am_iload (n := 44) dX8_find_42 rfl rfl ?_
        refine am_aload_n (n := 45) (i := 0) dX8_find_44 rfl rfl rfl ?_
        refine gfX8_find_7 (n := 48) dX8_find_45 (by first | assumption | exact isC_of (by decide +kernel)) rfl ?_
        refine am_iconst (n := 49) (v := 2) dX8_find_48 rfl rfl ?_
        refine am_iald (n := 50) dX8_find_49 (by first | assumption | exact isC_of (by decide +kernel)) (by first | assumption | exact vp_in_nI (by omega) (by omega) | exact vp_in_iff.mpr (by decide)) rfl ?_
        rw [show (2 : Int32).toNatClampNeg = 2 from rfl, F.1 41 (by omega), hr2]
        refine am_icmp_ge (tgt := 87) (n := 53) dX8_find_50 (by decide) rfl (fun _ => ?_) (fun q_z => absurd (nI_le (Nat.le_refl _) (by omega)) q_z)
        refine am_iload (n := 89) dX8_find_87 rfl rfl ?_
        refine am_iconst (n := 90) (v := (-1)) dX8_find_89 rfl rfl ?_
        cases o with
        | none =>
          refine am_icmp_ne (tgt := 95) (n := 93) dX8_find_90 (by decide) rfl (fun q_z => absurd rfl q_z) (fun _ => ?_)
          rw [← hZ]
          refine am_iconst (n := 94) (v := (-1)) dX8_find_93 rfl rfl ?_
          refine am_iret dX8_find_94 rfl rfl ?_
          exact ⟨rfl, X3.s FF, (FS.tr FF).1⟩
        | some i =>
          obtain ⟨hi, -, -⟩ := hf2 i rfl
          have hk : fdK (some i) G.1.2.2.1.length = nI i := by
            unfold fdK
            exact if_pos hi
          rw [hk]
          refine am_icmp_ne (tgt := 95) (n := 93) dX8_find_90 (by decide) rfl (fun _ => ?_) (fun q_z => absurd q_z (fun q => by have := nI_pos' (n := i) (by omega); rw [q] at this; exact absurd this (by decide)))
          refine am_iload_n (n := 96) (i := 3) dX8_find_95 rfl rfl rfl ?_
          unfold fdS at hZ
          dsimp only at hZ
          generalize dsW G.1 n = ds at *
          by_cases w0 : w = 0
          · refine am_if_ne (tgt := 104) (n := 99) dX8_find_96 (by decide) rfl (fun q_z => absurd w0 q_z) (fun _ => ?_)
            rw [← hZ, if_pos w0]
            refine am_iload (n := 101) dX8_find_99 rfl rfl ?_
            refine am_goto (tgt := 120) dX8_find_101 (by decide) ?_
            refine am_iret dX8_find_120 rfl rfl ?_
            exact ⟨rfl, X3.s FF, (FS.tr FF).1⟩
          · refine am_if_ne (tgt := 104) (n := 99) dX8_find_96 (by decide) rfl (fun _ => ?_) (fun q_z => absurd q_z w0)
            rw [if_neg w0] at hZ
            refine am_iload_n (n := 105) (i := 3) dX8_find_104 rfl rfl rfl ?_
            refine am_iconst (n := 106) (v := 1) dX8_find_105 rfl rfl ?_
            by_cases w1 : w = 1
            · refine am_icmp_ne (tgt := 118) (n := 109) dX8_find_106 (by decide) rfl (fun q_z => absurd w1 q_z) (fun _ => ?_)
              rw [if_pos w1] at hZ
              refine am_aload_n (n := 110) (i := 0) dX8_find_109 rfl rfl rfl ?_
              refine am_iload (n := 112) dX8_find_110 rfl rfl ?_
              refine caX8_find_103 (n := 115) dX8_find_112 (by first | exact ⟨rfl, rfl⟩ | assumption) (hdi i hi hh F) rfl rfl (Nat.le_of_ble_eq_true rfl) (by first | assumption | exact isC_of (by decide +kernel)) rfl ?_
              rintro v h5 ⟨rfl, F5⟩
              have FF5 := FrS.ofI (F.tr F5) (by omega) (by omega)
              rw [← hZ]
              refine am_goto (tgt := 120) dX8_find_115 (by decide) ?_
              refine am_iret dX8_find_120 rfl rfl ?_
              exact ⟨rfl, X3.s FF5, (FS.tr FF5).1⟩
            · refine am_icmp_ne (tgt := 118) (n := 109) dX8_find_106 (by decide) rfl (fun _ => ?_) (fun q_z => absurd q_z w1)
              rw [← hZ, if_neg w1]
              refine am_bipush (n := 120) (v := (-2)) dX8_find_118 rfl rfl ?_
              refine am_iret dX8_find_120 rfl rfl ?_
              exact ⟨rfl, X3.s FF, (FS.tr FF).1⟩
      · intro k hk K hh F
        have t77 : ∀ h5, FrI 52 52 h3 h5 → o ≠ some k → AW g mmX8_find Z 77 [(0, some (.ref 40)), (1, some (.int (nI e))), (2, some (.int r)), (3, some (.int w)), (4, some (.int (fdK o k))), (5, some (.int (nI k)))] [] h5 := by
          intro h5 F5 hne
          have e2 : fdK o (k + 1) = fdK o k := by
            cases o with
            | none => rfl
            | some i =>
              unfold fdK
              dsimp only
              by_cases q : i < k
              · rw [if_pos q, if_pos (by omega)]
              · rw [if_neg q, if_neg (fun z => hne (by rw [show i = k by omega]))]
          rw [e2] at K
          refine am_iload (n := 79) dX8_find_77 rfl rfl ?_
          refine am_istore (n := 81) dX8_find_79 (Nat.le_of_ble_eq_true rfl) rfl rfl ?_
          first | refine am_iincN (n := 84) dX8_find_81 rfl rfl rfl ?_ | refine am_iinc1 (n := 84) dX8_find_81 rfl rfl rfl ?_
          refine am_goto (tgt := 42) dX8_find_84 (by decide) ?_
          exact am_loc _ rfl (K h5 F5)
        refine am_iload (n := 44) dX8_find_42 rfl rfl ?_
        refine am_aload_n (n := 45) (i := 0) dX8_find_44 rfl rfl rfl ?_
        refine gfX8_find_7 (n := 48) dX8_find_45 (by first | assumption | exact isC_of (by decide +kernel)) rfl ?_
        refine am_iconst (n := 49) (v := 2) dX8_find_48 rfl rfl ?_
        refine am_iald (n := 50) dX8_find_49 (by first | assumption | exact isC_of (by decide +kernel)) (by first | assumption | exact vp_in_nI (by omega) (by omega) | exact vp_in_iff.mpr (by decide)) rfl ?_
        rw [show (2 : Int32).toNatClampNeg = 2 from rfl, F.1 41 (by omega), hr2]
        refine am_icmp_ge (tgt := 87) (n := 53) dX8_find_50 (by decide) rfl (fun q_z => absurd q_z (nI_ge hk (by omega))) (fun _ => ?_)
        refine am_aload_n (n := 54) (i := 0) dX8_find_53 rfl rfl rfl ?_
        refine am_iload (n := 56) dX8_find_54 rfl rfl ?_
        refine cdX8_find_221 (n := 59) dX8_find_56 (by first | exact ⟨rfl, rfl⟩ | assumption) (hlk k hk hh F) rfl rfl (Nat.le_of_ble_eq_true rfl) (by first | assumption | exact isC_of (by decide +kernel)) rfl ?_
        cases hlkk : lk k with
        | false =>
          refine am_if_eq (tgt := 77) (n := 62) dX8_find_59 (by decide) rfl (fun _ => ?_) (fun q_z => absurd rfl q_z)
          exact t77 hh F (fun q => by rw [(hf2 k q).2.1] at hlkk; cases hlkk)
        | true =>
          refine am_if_eq (tgt := 77) (n := 62) dX8_find_59 (by decide) rfl (fun q_z => absurd q_z (show ¬ (1 : Int32) = 0 by decide)) (fun _ => ?_)
          refine am_aload_n (n := 63) (i := 0) dX8_find_62 rfl rfl rfl ?_
          refine am_iload (n := 65) dX8_find_63 rfl rfl ?_
          refine caX8_find_224 (n := 68) dX8_find_65 (by first | exact ⟨rfl, rfl⟩ | assumption) (hah k hk hh F) rfl rfl (Nat.le_of_ble_eq_true rfl) (by first | assumption | exact isC_of (by decide +kernel)) rfl ?_
          rintro v h5 ⟨rfl, F5⟩
          have F25 := F.tr F5
          refine am_iload_n (n := 69) (i := 2) dX8_find_68 rfl rfl rfl ?_
          by_cases q : nI (ah k) = r
          · refine am_icmp_ne (tgt := 77) (n := 72) dX8_find_69 (by decide) rfl (fun q_z => absurd q q_z) (fun _ => ?_)
            have ho := hf1 k hk hlkk q
            have e2 : fdK o (k + 1) = nI k := by
              rw [ho]
              exact if_pos (Nat.lt_succ_self k)
            rw [e2] at K
            refine am_iload (n := 74) dX8_find_72 rfl rfl ?_
            refine am_goto (tgt := 79) dX8_find_74 (by decide) ?_
            refine am_istore (n := 81) dX8_find_79 (Nat.le_of_ble_eq_true rfl) rfl rfl ?_
            first | refine am_iincN (n := 84) dX8_find_81 rfl rfl rfl ?_ | refine am_iinc1 (n := 84) dX8_find_81 rfl rfl rfl ?_
            refine am_goto (tgt := 42) dX8_find_84 (by decide) ?_
            exact am_loc _ rfl (K h5 F25)
          · refine am_icmp_ne (tgt := 77) (n := 72) dX8_find_69 (by decide) rfl (fun _ => ?_) (fun q_z => absurd q_z q)
            exact t77 h5 F25 (fun z => q (hf2 k z).2.2)
  · refine am_icmp_eq (tgt := 12) (n := 9) dX8_find_6 (by decide) rfl (fun q_z => absurd q_z hf) (fun _ => ?_)
    rw [if_neg hf]
    refine am_bipush (n := 11) (v := (-3)) dX8_find_9 rfl rfl ?_
    refine am_iret dX8_find_11 rfl rfl ?_
    exact ⟨rfl, hX, Fr.rf⟩
