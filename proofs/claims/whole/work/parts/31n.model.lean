/-! The reference: ofEar, code, drawer, find -/
theorem mkC_26 {cs : List (List Nat)} (V0 : cs.length ≤ 24) (c : Nat) : ∀ j, 26 ≤ j → j < 32 → bt (mkC cs c cs.length) j = false := by
  intro j h1 h2
  rw [mkC_msk]
  cases q : bt (msk (fun m => decide (c ∈ cN cs m)) cs.length) j with
  | false => rfl
  | true =>
    have := ((bt_msk (by omega)).mp q).1
    omega
theorem dl_30 {cs : List (List Nat)} (V : VC cs) : ∀ c ∈ dl cs, c < 2 ^ 30 := fun c hc => by
  obtain ⟨i, l, h1, h2⟩ := mem_dl.mp hc
  exact (V.2 l (List.mem_of_getElem? h1)).2.2.1 c h2
set_option maxRecDepth 100000 in
set_option maxHeartbeats 400000 in
theorem m_fullest (g : Gx) (cs : List (List Nat)) (h : Hp) (H : HA cs h) (V : VC cs) (hz : h.1 41 2 = nI cs.length) : AD g yX8_fullest wsX8_fullest rmX8_fullest [.ref 40] h (some (.int (nI (fuM cs)))) h := by
  have c40 := isC_40
  have c51 := isC_51
  have V0 := V.1
  have hdl := dl_len V
  have h30 := dl_30 V
  obtain ⟨D1, D2⟩ := H.1
  unfold fuM
  have hbd := mxF_le (f := fun d => pc (mkC cs ((dl cs).getD d 0) cs.length)) (b := 32) (fun i => pc_le _)
  generalize hZ : ZP g (fun r h2 => r = some (.int (nI (mxF (fun d => pc (mkC cs ((dl cs).getD d 0) cs.length)) (dl cs).length))) ∧ h2 = h) = Z
  have z0 : Z.1 = 0 ∧ Z.2.1 = 0 := by rw [← hZ]; exact ⟨rfl, rfl⟩
  refine AC.of (cc := cX8_fullest) (maxL := 4) (ret := (some .int)) (by decide +kernel) rfl (Nat.le_of_ble_eq_true rfl) ?_
  show AW g mmX8_fullest _ 0 [(0, some (.ref 40))] [] _
  rw [hZ]
  refine am_iconst (n := 1) (v := 0) dX8_fullest_0 rfl rfl ?_
  refine am_istore_n (n := 2) (i := 1) dX8_fullest_1 rfl (Nat.le_of_ble_eq_true rfl) rfl rfl ?_
  refine am_iconst (n := 3) (v := 0) dX8_fullest_2 rfl rfl ?_
  refine am_istore_n (n := 4) (i := 2) dX8_fullest_3 rfl (Nat.le_of_ble_eq_true rfl) rfl rfl ?_
  refine am_loc [(0, some (.ref 40)), (1, some (.int (nI (mxF (fun d => pc (mkC cs ((dl cs).getD d 0) cs.length)) 0)))), (2, some (.int (nI 0)))] rfl ?_
  refine loop_up (Wp := fun k => AW g mmX8_fullest Z 4 [(0, some (.ref 40)), (1, some (.int (nI (mxF (fun d => pc (mkC cs ((dl cs).getD d 0) cs.length)) k)))), (2, some (.int (nI k)))] [] h) (dl cs).length ?_ ?_ 0 (Nat.zero_le _)
  · refine am_iload_n (n := 5) (i := 2) dX8_fullest_4 rfl rfl rfl ?_
    refine am_aload_n (n := 6) (i := 0) dX8_fullest_5 rfl rfl rfl ?_
    refine gfX8_fullest_130 (n := 9) dX8_fullest_6 (by first | assumption | exact isC_of (by decide +kernel)) rfl ?_
    rw [D1]
    refine am_icmp_ge (tgt := 43) (n := 12) dX8_fullest_9 (by decide) rfl (fun _ => ?_) (fun q_z => absurd (nI_le (Nat.le_refl _) (by omega)) q_z)
    rw [← hZ]
    generalize mxF (fun d => pc (mkC cs ((dl cs).getD d 0) cs.length)) (dl cs).length = y
    refine am_iload_n (n := 44) (i := 1) dX8_fullest_43 rfl rfl rfl ?_
    refine am_iret dX8_fullest_44 rfl rfl ?_
    exact ⟨rfl, rfl⟩
  · intro k hk K
    have hx := gD_at hk
    have hb := hbd k
    rw [show mxF (fun d => pc (mkC cs ((dl cs).getD d 0) cs.length)) (k + 1) = if mxF (fun d => pc (mkC cs ((dl cs).getD d 0) cs.length)) k < pc (mkC cs ((dl cs).getD k 0) cs.length) then pc (mkC cs ((dl cs).getD k 0) cs.length) else mxF (fun d => pc (mkC cs ((dl cs).getD d 0) cs.length)) k from rfl] at K
    have hC := D2 k _ hx
    have hxx := h30 _ (List.mem_of_getElem? hx)
    have hin : vp_in (nI k) 96 := vp_in_nI (by omega) (by decide)
    generalize mxF (fun d => pc (mkC cs ((dl cs).getD d 0) cs.length)) k = y at *
    generalize (dl cs).getD k 0 = c at *
    have h26 := mkC_26 V0 c
    have hp := pc_le (mkC cs c cs.length)
    refine am_iload_n (n := 5) (i := 2) dX8_fullest_4 rfl rfl rfl ?_
    refine am_aload_n (n := 6) (i := 0) dX8_fullest_5 rfl rfl rfl ?_
    refine gfX8_fullest_130 (n := 9) dX8_fullest_6 (by first | assumption | exact isC_of (by decide +kernel)) rfl ?_
    rw [D1]
    refine am_icmp_ge (tgt := 43) (n := 12) dX8_fullest_9 (by decide) rfl (fun q_z => absurd q_z (nI_ge hk (by omega))) (fun _ => ?_)
    refine am_aload_n (n := 13) (i := 0) dX8_fullest_12 rfl rfl rfl ?_
    refine am_aload_n (n := 14) (i := 0) dX8_fullest_13 rfl rfl rfl ?_
    refine gfX8_fullest_42 (n := 17) dX8_fullest_14 (by first | assumption | exact isC_of (by decide +kernel)) rfl ?_
    refine am_iload_n (n := 18) (i := 2) dX8_fullest_17 rfl rfl rfl ?_
    refine am_lald (n := 19) dX8_fullest_18 (by first | assumption | exact isC_of (by decide +kernel)) (by first | assumption | exact vp_in_nI (by omega) (by omega) | exact vp_in_iff.mpr (by decide)) rfl ?_
    rw [nI_clamp (by omega), hC]
    refine cdX8_fullest_193 (n := 22) dX8_fullest_19 (by first | exact ⟨rfl, rfl⟩ | assumption) (m_namesWith g c cs h H V hxx hz) rfl rfl (Nat.le_of_ble_eq_true rfl) (by first | assumption | exact isC_of (by decide +kernel)) rfl ?_
    generalize mkC cs c cs.length = x at *
    refine cdX8_fullest_153 (n := 25) dX8_fullest_22 (by first | exact ⟨rfl, rfl⟩ | assumption) (m_bits g x h h26) rfl rfl (Nat.le_of_ble_eq_true rfl) rfl ?_
    generalize pc x = p at *
    refine am_istore_n (n := 26) (i := 3) dX8_fullest_25 rfl (Nat.le_of_ble_eq_true rfl) rfl rfl ?_
    refine am_iload_n (n := 27) (i := 3) dX8_fullest_26 rfl rfl rfl ?_
    refine am_iload_n (n := 28) (i := 1) dX8_fullest_27 rfl rfl rfl ?_
    by_cases q : y < p
    · rw [if_pos q] at K
      refine am_icmp_le (tgt := 35) (n := 31) dX8_fullest_28 (by decide) rfl (fun q_z => absurd q_z (fun z => absurd ((nI_leI (by omega) (by omega)).mp z) (by omega))) (fun _ => ?_)
      refine am_iload_n (n := 32) (i := 3) dX8_fullest_31 rfl rfl rfl ?_
      refine am_goto (tgt := 36) dX8_fullest_32 (by decide) ?_
      refine am_istore_n (n := 37) (i := 1) dX8_fullest_36 rfl (Nat.le_of_ble_eq_true rfl) rfl rfl ?_
      first | refine am_iincN (n := 40) dX8_fullest_37 rfl rfl rfl ?_ | refine am_iinc1 (n := 40) dX8_fullest_37 rfl rfl rfl ?_
      refine am_goto (tgt := 4) dX8_fullest_40 (by decide) ?_
      exact am_loc _ rfl K
    · rw [if_neg q] at K
      refine am_icmp_le (tgt := 35) (n := 31) dX8_fullest_28 (by decide) rfl (fun _ => ?_) (fun q_z => absurd ((nI_leI (by omega) (by omega)).mpr (by omega)) q_z)
      refine am_iload_n (n := 36) (i := 1) dX8_fullest_35 rfl rfl rfl ?_
      refine am_istore_n (n := 37) (i := 1) dX8_fullest_36 rfl (Nat.le_of_ble_eq_true rfl) rfl rfl ?_
      first | refine am_iincN (n := 40) dX8_fullest_37 rfl rfl rfl ?_ | refine am_iinc1 (n := 40) dX8_fullest_37 rfl rfl rfl ?_
      refine am_goto (tgt := 4) dX8_fullest_40 (by decide) ?_
      exact am_loc _ rfl K
set_option maxRecDepth 100000 in
set_option maxHeartbeats 400000 in
theorem m_namesInTwo (g : Gx) (cs : List (List Nat)) (h : Hp) (H : HA cs h) (V : VC cs) (hz : h.1 41 2 = nI cs.length) : AD g yX8_namesInTwo wsX8_namesInTwo rmX8_namesInTwo [.ref 40] h (some (.int (svM cs))) h := by
  have c40 := isC_40
  have c41 := isC_41
  have c50 := isC_50
  have V0 := V.1
  unfold svM
  generalize hZ : ZP g (fun r h2 => r = some (.int (orF (fun i => if 1 < (cN cs i).length then sh1 i else 0) cs.length)) ∧ h2 = h) = Z
  have z0 : Z.1 = 0 ∧ Z.2.1 = 0 := by rw [← hZ]; exact ⟨rfl, rfl⟩
  refine AC.of (cc := cX8_namesInTwo) (maxL := 3) (ret := (some .int)) (by decide +kernel) rfl (Nat.le_of_ble_eq_true rfl) ?_
  show AW g mmX8_namesInTwo _ 0 [(0, some (.ref 40))] [] _
  rw [hZ]
  refine am_iconst (n := 1) (v := 0) dX8_namesInTwo_0 rfl rfl ?_
  refine am_istore_n (n := 2) (i := 1) dX8_namesInTwo_1 rfl (Nat.le_of_ble_eq_true rfl) rfl rfl ?_
  refine am_iconst (n := 3) (v := 0) dX8_namesInTwo_2 rfl rfl ?_
  refine am_istore_n (n := 4) (i := 2) dX8_namesInTwo_3 rfl (Nat.le_of_ble_eq_true rfl) rfl rfl ?_
  refine am_loc [(0, some (.ref 40)), (1, some (.int (orF (fun i => if 1 < (cN cs i).length then sh1 i else 0) 0))), (2, some (.int (nI 0)))] rfl ?_
  refine loop_up (Wp := fun k => AW g mmX8_namesInTwo Z 4 [(0, some (.ref 40)), (1, some (.int (orF (fun i => if 1 < (cN cs i).length then sh1 i else 0) k))), (2, some (.int (nI k)))] [] h) cs.length ?_ ?_ 0 (Nat.zero_le _)
  · refine am_iload_n (n := 5) (i := 2) dX8_namesInTwo_4 rfl rfl rfl ?_
    refine am_aload_n (n := 6) (i := 0) dX8_namesInTwo_5 rfl rfl rfl ?_
    refine gfX8_namesInTwo_7 (n := 9) dX8_namesInTwo_6 (by first | assumption | exact isC_of (by decide +kernel)) rfl ?_
    refine am_iconst (n := 10) (v := 2) dX8_namesInTwo_9 rfl rfl ?_
    refine am_iald (n := 11) dX8_namesInTwo_10 (by first | assumption | exact isC_of (by decide +kernel)) (by first | assumption | exact vp_in_nI (by omega) (by omega) | exact vp_in_iff.mpr (by decide)) rfl ?_
    rw [show (2 : Int32).toNatClampNeg = 2 from rfl, hz]
    refine am_icmp_ge (tgt := 40) (n := 14) dX8_namesInTwo_11 (by decide) rfl (fun _ => ?_) (fun q_z => absurd (nI_le (Nat.le_refl _) (by omega)) q_z)
    rw [← hZ]
    generalize orF (fun i => if 1 < (cN cs i).length then sh1 i else 0) cs.length = y
    refine am_iload_n (n := 41) (i := 1) dX8_namesInTwo_40 rfl rfl rfl ?_
    refine am_iret dX8_namesInTwo_41 rfl rfl ?_
    exact ⟨rfl, rfl⟩
  · intro k hk K
    rw [show orF (fun i => if 1 < (cN cs i).length then sh1 i else 0) (k + 1) = orF (fun i => if 1 < (cN cs i).length then sh1 i else 0) k ||| (if 1 < (cN cs k).length then sh1 k else 0) from rfl] at K
    have hl := (H.at hk).1
    have hl4 := (V.at hk).1
    have hin : vp_in (nI k) 24 := vp_in_nI (by omega) (by decide)
    generalize orF (fun i => if 1 < (cN cs i).length then sh1 i else 0) k = y at *
    generalize (cN cs k).length = n at *
    refine am_iload_n (n := 5) (i := 2) dX8_namesInTwo_4 rfl rfl rfl ?_
    refine am_aload_n (n := 6) (i := 0) dX8_namesInTwo_5 rfl rfl rfl ?_
    refine gfX8_namesInTwo_7 (n := 9) dX8_namesInTwo_6 (by first | assumption | exact isC_of (by decide +kernel)) rfl ?_
    refine am_iconst (n := 10) (v := 2) dX8_namesInTwo_9 rfl rfl ?_
    refine am_iald (n := 11) dX8_namesInTwo_10 (by first | assumption | exact isC_of (by decide +kernel)) (by first | assumption | exact vp_in_nI (by omega) (by omega) | exact vp_in_iff.mpr (by decide)) rfl ?_
    rw [show (2 : Int32).toNatClampNeg = 2 from rfl, hz]
    refine am_icmp_ge (tgt := 40) (n := 14) dX8_namesInTwo_11 (by decide) rfl (fun q_z => absurd q_z (nI_ge hk (by omega))) (fun _ => ?_)
    refine am_iload_n (n := 15) (i := 1) dX8_namesInTwo_14 rfl rfl rfl ?_
    refine am_aload_n (n := 16) (i := 0) dX8_namesInTwo_15 rfl rfl rfl ?_
    refine gfX8_namesInTwo_39 (n := 19) dX8_namesInTwo_16 (by first | assumption | exact isC_of (by decide +kernel)) rfl ?_
    refine am_iload_n (n := 20) (i := 2) dX8_namesInTwo_19 rfl rfl rfl ?_
    refine am_iald (n := 21) dX8_namesInTwo_20 (by first | assumption | exact isC_of (by decide +kernel)) (by first | assumption | exact vp_in_nI (by omega) (by omega) | exact vp_in_iff.mpr (by decide)) rfl ?_
    refine am_iconst (n := 22) (v := 1) dX8_namesInTwo_21 rfl rfl ?_
    rw [nI_clamp (by omega), hl]
    by_cases q : 1 < n
    · rw [if_pos q] at K
      refine am_icmp_le (tgt := 31) (n := 25) dX8_namesInTwo_22 (by decide) rfl (fun q_z => absurd q_z (fun z => absurd ((nI_leI (b := 1) (by omega) (by omega)).mp z) (by omega))) (fun _ => ?_)
      refine am_iconst (n := 26) (v := 1) dX8_namesInTwo_25 rfl rfl ?_
      refine am_iload_n (n := 27) (i := 2) dX8_namesInTwo_26 rfl rfl rfl ?_
      refine am_ishl (n := 28) dX8_namesInTwo_27 rfl ?_
      refine am_goto (tgt := 32) dX8_namesInTwo_28 (by decide) ?_
      refine am_ior (n := 33) dX8_namesInTwo_32 rfl ?_
      refine am_istore_n (n := 34) (i := 1) dX8_namesInTwo_33 rfl (Nat.le_of_ble_eq_true rfl) rfl rfl ?_
      first | refine am_iincN (n := 37) dX8_namesInTwo_34 rfl rfl rfl ?_ | refine am_iinc1 (n := 37) dX8_namesInTwo_34 rfl rfl rfl ?_
      refine am_goto (tgt := 4) dX8_namesInTwo_37 (by decide) ?_
      exact am_loc _ rfl K
    · rw [if_neg q] at K
      refine am_icmp_le (tgt := 31) (n := 25) dX8_namesInTwo_22 (by decide) rfl (fun _ => ?_) (fun q_z => absurd ((nI_leI (b := 1) (by omega) (by omega)).mpr (by omega)) q_z)
      refine am_iconst (n := 32) (v := 0) dX8_namesInTwo_31 rfl rfl ?_
      refine am_ior (n := 33) dX8_namesInTwo_32 rfl ?_
      refine am_istore_n (n := 34) (i := 1) dX8_namesInTwo_33 rfl (Nat.le_of_ble_eq_true rfl) rfl rfl ?_
      first | refine am_iincN (n := 37) dX8_namesInTwo_34 rfl rfl rfl ?_ | refine am_iinc1 (n := 37) dX8_namesInTwo_34 rfl rfl rfl ?_
      refine am_goto (tgt := 4) dX8_namesInTwo_37 (by decide) ?_
      exact am_loc _ rfl K
set_option maxRecDepth 100000 in
set_option maxHeartbeats 400000 in
theorem cm_ofEar (g : Gx) (x w : Int32) (G : GS) (h : Hp) (hX : MG G h) : CM g yX8_ofEar wsX8_ofEar rmX8_ofEar [.ref 40, .int x, .int w] h (sp_ofEar x w G) := by
  have c40 := isC_40
  have h4 := hX.2.1.2.2.2.2.1
  unfold CM sp_ofEar
  refine AC.of (cc := cX8_ofEar) (maxL := 3) (ret := (some .int)) (by decide +kernel) rfl (Nat.le_of_ble_eq_true rfl) ?_
  show AW g mmX8_ofEar _ 0 [(0, some (.ref 40)), (1, some (.int x)), (2, some (.int w))] [] _
  refine am_aload_n (n := 1) (i := 0) dX8_ofEar_0 rfl rfl rfl ?_
  refine am_iload_n (n := 2) (i := 1) dX8_ofEar_1 rfl rfl rfl ?_
  refine cdX8_ofEar_156 (n := 5) dX8_ofEar_2 (by first | exact ⟨rfl, rfl⟩ | assumption) (m_isEar g x G.1.2.2.2.length h (by omega) hX.1.2.2.2.1) rfl rfl (Nat.le_of_ble_eq_true rfl) (by first | assumption | exact isC_of (by decide +kernel)) rfl ?_
  cases hxx : inN x G.1.2.2.2.length with
  | false =>
    rw [sp_E_f _ hxx]
    refine am_if_ne (tgt := 10) (n := 8) dX8_ofEar_5 (by decide) rfl (fun q_z => absurd rfl q_z) (fun _ => ?_)
    refine am_iconst (n := 9) (v := (-1)) dX8_ofEar_8 rfl rfl ?_
    refine am_iret dX8_ofEar_9 rfl rfl ?_
    exact ⟨rfl, hX, Fr.rf⟩
  | true =>
    obtain ⟨e, he, rfl⟩ := inN_t (by omega) hxx
    have hx := List.getElem?_eq_getElem he
    obtain ⟨e4, R, vE⟩ := mE hX.1 hX.2.1 hx
    rw [sp_E_t _ h4 he hx]
    generalize G.1.2.2.2[e] = E at *
    refine am_if_ne (tgt := 10) (n := 8) dX8_ofEar_5 (by decide) rfl (fun _ => ?_) (fun q_z => absurd q_z (show ¬ (1 : Int32) = 0 by decide))
    refine am_aload_n (n := 11) (i := 0) dX8_ofEar_10 rfl rfl rfl ?_
    refine am_iload_n (n := 12) (i := 1) dX8_ofEar_11 rfl rfl rfl ?_
    refine caX8_ofEar_147 (n := 15) dX8_ofEar_12 (by first | exact ⟨rfl, rfl⟩ | assumption) (m_hearAll g e G.1 E h hX.1 hX.2.1 hx) rfl rfl (Nat.le_of_ble_eq_true rfl) (by first | assumption | exact isC_of (by decide +kernel)) rfl ?_
    rintro r h1 ⟨rfl, H1, F1⟩
    have X1 := hX.s F1
    have R1 := R
    rw [← F1.2.1] at R1
    have hV := VC_of hX.2.1 vE
    have hz1 : h1.1 41 2 = nI (csOf G.1 E).length := by rw [csOf_len]; exact X1.1.2.2.1
    have hpairs := m_pairs g e G.1 E h1 X1.1 X1.2.1 hx
    generalize csOf G.1 E = cs at *
    refine am_iload_n (n := 16) (i := 2) dX8_ofEar_15 rfl rfl rfl ?_
    unfold oeS
    by_cases w0 : w = 0
    · subst w0
      rw [if_pos rfl]
      refine am_tableIn (tgt := 64) dX8_ofEar_16 (by decide) (by decide) rfl (by decide) ?_
      refine am_aload_n (n := 65) (i := 0) dX8_ofEar_64 rfl rfl rfl ?_
      refine am_iload_n (n := 66) (i := 1) dX8_ofEar_65 rfl rfl rfl ?_
      refine am_bipush (n := 68) (v := 52) dX8_ofEar_66 rfl rfl ?_
      refine cdX8_ofEar_106 (n := 71) dX8_ofEar_68 (by first | exact ⟨rfl, rfl⟩ | assumption) (m_at g e 52 h1 e4 (by omega)) rfl rfl (Nat.le_of_ble_eq_true rfl) (by first | assumption | exact isC_of (by decide +kernel)) rfl ?_
      rw [R1.2.1]
      refine am_iret dX8_ofEar_71 rfl rfl ?_
      exact ⟨rfl, X1, F1.1⟩
    · rw [if_neg w0]
      by_cases w1 : w = 1
      · subst w1
        rw [if_pos rfl]
        refine am_tableIn (tgt := 72) dX8_ofEar_16 (by decide) (by decide) rfl (by decide) ?_
        refine am_aload_n (n := 73) (i := 0) dX8_ofEar_72 rfl rfl rfl ?_
        refine am_iload_n (n := 74) (i := 1) dX8_ofEar_73 rfl rfl rfl ?_
        refine am_bipush (n := 76) (v := 53) dX8_ofEar_74 rfl rfl ?_
        refine cdX8_ofEar_106 (n := 79) dX8_ofEar_76 (by first | exact ⟨rfl, rfl⟩ | assumption) (m_at g e 53 h1 e4 (by omega)) rfl rfl (Nat.le_of_ble_eq_true rfl) (by first | assumption | exact isC_of (by decide +kernel)) rfl ?_
        rw [R1.2.2.1]
        refine am_iret dX8_ofEar_79 rfl rfl ?_
        exact ⟨rfl, X1, F1.1⟩
      · rw [if_neg w1]
        by_cases w2 : w = 2
        · subst w2
          rw [if_pos rfl]
          refine am_tableIn (tgt := 80) dX8_ofEar_16 (by decide) (by decide) rfl (by decide) ?_
          refine am_aload_n (n := 81) (i := 0) dX8_ofEar_80 rfl rfl rfl ?_
          refine gfX8_ofEar_130 (n := 84) dX8_ofEar_81 (by first | assumption | exact isC_of (by decide +kernel)) rfl ?_
          rw [H1.1.1]
          refine am_iret dX8_ofEar_84 rfl rfl ?_
          exact ⟨rfl, X1, F1.1⟩
        · rw [if_neg w2]
          by_cases w3 : w = 3
          · subst w3
            rw [if_pos rfl]
            refine am_tableIn (tgt := 85) dX8_ofEar_16 (by decide) (by decide) rfl (by decide) ?_
            refine am_aload_n (n := 86) (i := 0) dX8_ofEar_85 rfl rfl rfl ?_
            refine cdX8_ofEar_196 (n := 89) dX8_ofEar_86 (by first | exact ⟨rfl, rfl⟩ | assumption) (m_fullest g cs h1 H1 hV hz1) rfl rfl (Nat.le_of_ble_eq_true rfl) (by first | assumption | exact isC_of (by decide +kernel)) rfl ?_
            generalize fuM cs = v
            exact am_iret dX8_ofEar_89 rfl rfl ⟨rfl, X1, F1.1⟩
          · rw [if_neg w3]
            by_cases w4 : w = 4
            · subst w4
              rw [if_pos rfl]
              refine am_tableIn (tgt := 90) dX8_ofEar_16 (by decide) (by decide) rfl (by decide) ?_
              refine am_aload_n (n := 91) (i := 0) dX8_ofEar_90 rfl rfl rfl ?_
              refine cdX8_ofEar_199 (n := 94) dX8_ofEar_91 (by first | exact ⟨rfl, rfl⟩ | assumption) (m_namesInTwo g cs h1 H1 hV hz1) rfl rfl (Nat.le_of_ble_eq_true rfl) (by first | assumption | exact isC_of (by decide +kernel)) rfl ?_
              generalize svM cs = v
              exact am_iret dX8_ofEar_94 rfl rfl ⟨rfl, X1, F1.1⟩
            · rw [if_neg w4]
              by_cases w5 : w = 5
              · subst w5
                rw [if_pos rfl]
                refine am_tableIn (tgt := 95) dX8_ofEar_16 (by decide) (by decide) rfl (by decide) ?_
                refine am_aload_n (n := 96) (i := 0) dX8_ofEar_95 rfl rfl rfl ?_
                refine am_iload_n (n := 97) (i := 1) dX8_ofEar_96 rfl rfl rfl ?_
                refine caX8_ofEar_202 (n := 100) dX8_ofEar_97 (by first | exact ⟨rfl, rfl⟩ | assumption) hpairs rfl rfl (Nat.le_of_ble_eq_true rfl) (by first | assumption | exact isC_of (by decide +kernel)) rfl ?_
                rintro v h2 ⟨rfl, H2, F2⟩
                generalize prs cs = v
                exact am_iret dX8_ofEar_100 rfl rfl ⟨rfl, X1.s F2, F1.1.tr F2.1⟩
              · rw [if_neg w5]
                by_cases w6 : w = 6
                · subst w6
                  rw [if_pos rfl]
                  refine am_tableIn (tgt := 101) dX8_ofEar_16 (by decide) (by decide) rfl (by decide) ?_
                  refine am_aload_n (n := 102) (i := 0) dX8_ofEar_101 rfl rfl rfl ?_
                  refine am_iload_n (n := 103) (i := 1) dX8_ofEar_102 rfl rfl rfl ?_
                  refine cdX8_ofEar_205 (n := 106) dX8_ofEar_103 (by first | exact ⟨rfl, rfl⟩ | assumption) (m_lettersWithSecond g e E h1 e4 R1 vE) rfl rfl (Nat.le_of_ble_eq_true rfl) (by first | assumption | exact isC_of (by decide +kernel)) rfl ?_
                  generalize lws E.2.1 = v
                  exact am_iret dX8_ofEar_106 rfl rfl ⟨rfl, X1, F1.1⟩
                · rw [if_neg w6]
                  by_cases w7 : w = 7
                  · subst w7
                    rw [if_pos rfl]
                    refine am_tableIn (tgt := 107) dX8_ofEar_16 (by decide) (by decide) rfl (by decide) ?_
                    refine am_aload_n (n := 108) (i := 0) dX8_ofEar_107 rfl rfl rfl ?_
                    refine am_iload_n (n := 109) (i := 1) dX8_ofEar_108 rfl rfl rfl ?_
                    refine am_iconst (n := 110) (v := 0) dX8_ofEar_109 rfl rfl ?_
                    refine cdX8_ofEar_178 (n := 113) dX8_ofEar_110 (by first | exact ⟨rfl, rfl⟩ | assumption) (m_lettersOf g e 0 E h1 e4 R1 vE (by omega)) rfl rfl (Nat.le_of_ble_eq_true rfl) (by first | assumption | exact isC_of (by decide +kernel)) rfl ?_
                    generalize lof E.1 0 = v
                    exact am_iret dX8_ofEar_113 rfl rfl ⟨rfl, X1, F1.1⟩
                  · rw [if_neg w7]
                    refine am_tableOut (tgt := 114) dX8_ofEar_16 (sw_far (n := 7) (by decide) (fun i hi => by rcases i with _ | _ | _ | _ | _ | _ | _ | _ | i; exact w0; exact w1; exact w2; exact w3; exact w4; exact w5; exact w6; exact w7; omega)) (by decide) ?_
                    refine am_bipush (n := 116) (v := (-2)) dX8_ofEar_114 rfl rfl ?_
                    refine am_iret dX8_ofEar_116 rfl rfl ?_
                    exact ⟨rfl, X1, F1.1⟩
theorem lc_div {c : Nat} (hc : c < 2 ^ 30) : lc c / 1073741824 = csz c := by
  have := lc_facts hc
  omega
theorem lc_dig {c p : Nat} (hc : c < 2 ^ 30) (hp : p < csz c) : lc c / 2 ^ (6 * (4 - p)) % 64 = cdg c p := by
  have h := lc_facts hc
  unfold cdg
  rcases h with ⟨h1, h2, h3⟩ | ⟨h1, h2, h4, h3⟩ | ⟨h1, h2, h4, h3⟩ | ⟨h1, h2, h4, h3⟩ | ⟨h1, h2, h4, h3⟩ | ⟨h1, h2, h4, h3⟩ <;> rw [h1] at hp <;> rw [h1, h3]
  · omega
  · have q : p = 0 := by omega
    subst q
    simp only [Nat.reduceSub, Nat.reduceMul, Nat.reducePow]
    omega
  · have q : p = 0 ∨ p = 1 := by omega
    rcases q with q | q <;> subst q <;> simp only [Nat.reduceSub, Nat.reduceMul, Nat.reducePow] <;> omega
  · have q : p = 0 ∨ p = 1 ∨ p = 2 := by omega
    rcases q with q | q | q <;> subst q <;> simp only [Nat.reduceSub, Nat.reduceMul, Nat.reducePow] <;> omega
  · have q : p = 0 ∨ p = 1 ∨ p = 2 ∨ p = 3 := by omega
    rcases q with q | q | q | q <;> subst q <;> simp only [Nat.reduceSub, Nat.reduceMul, Nat.reducePow] <;> omega
  · have q : p = 0 ∨ p = 1 ∨ p = 2 ∨ p = 3 ∨ p = 4 := by omega
    rcases q with q | q | q | q | q <;> subst q <;> simp only [Nat.reduceSub, Nat.reduceMul, Nat.reducePow] <;> omega
theorem sh64 : ∀ p, p < 5 → (((6 : Int32) * (4 - nI p)).toInt64 &&& 63).toBitVec.smod 64 = BitVec.ofNat 64 (6 * (4 - p)) := by decide +kernel
set_option maxRecDepth 100000 in
set_option maxHeartbeats 400000 in
theorem m_lengthOfCode (g : Gx) (c : Nat) (h : Hp) (hc : c < 2 ^ 30) : AD g yX8_lengthOfCode wsX8_lengthOfCode rmX8_lengthOfCode [.long (lN (lc c))] h (some (.int (nI (csz c)))) h := by
  have h63 := lc_lt63 hc
  have hd := lc_div hc
  generalize lc c = x at *
  refine AC.of (cc := cX8_lengthOfCode) (maxL := 2) (ret := (some .int)) (by decide +kernel) rfl (Nat.le_of_ble_eq_true rfl) ?_
  show AW g mmX8_lengthOfCode _ 0 [(0, some (.long (lN x)))] [] _
  refine am_lload_n (n := 1) (i := 0) dX8_lengthOfCode_0 rfl rfl rfl ?_
  refine am_ldc2 (n := 4) (v := 1073741824) dX8_lengthOfCode_1 (by decide +kernel) rfl ?_
  refine am_ldiv (n := 5) dX8_lengthOfCode_4 (by decide) rfl ?_
  rw [show lN x / (1073741824 : Int64) = lN (x / 1073741824) from pk_lDiv (b := 1073741824) (by omega) (by decide) (by decide), hd]
  refine am_l2i (n := 6) dX8_lengthOfCode_5 rfl ?_
  rw [lN_i]
  generalize csz c = z
  refine am_iret dX8_lengthOfCode_6 rfl rfl ?_
  exact ⟨rfl, rfl⟩
set_option maxRecDepth 100000 in
set_option maxHeartbeats 400000 in
theorem m_numberOf (g : Gx) (c p : Nat) (h : Hp) (hc : c < 2 ^ 30) (hp : p < csz c) : AD g yX8_numberOf wsX8_numberOf rmX8_numberOf [.long (lN (lc c)), .int (nI p)] h (some (.int (nI (cdg c p)))) h := by
  have h63 := lc_lt63 hc
  have hd := lc_dig hc hp
  have h5 := csz_le c
  have hs := sh64 p (by omega)
  generalize lc c = x at *
  generalize cdg c p = y at *
  refine AC.of (cc := cX8_numberOf) (maxL := 3) (ret := (some .int)) (by decide +kernel) rfl (Nat.le_of_ble_eq_true rfl) ?_
  show AW g mmX8_numberOf _ 0 [(0, some (.long (lN x))), (2, some (.int (nI p)))] [] _
  refine am_lload_n (n := 1) (i := 0) dX8_numberOf_0 rfl rfl rfl ?_
  refine am_bipush (n := 3) (v := 6) dX8_numberOf_1 rfl rfl ?_
  refine am_iconst (n := 4) (v := 4) dX8_numberOf_3 rfl rfl ?_
  refine am_iload_n (n := 5) (i := 2) dX8_numberOf_4 rfl rfl rfl ?_
  refine am_isub (n := 6) dX8_numberOf_5 rfl ?_
  refine am_imul (n := 7) dX8_numberOf_6 rfl ?_
  refine am_lshr (n := 8) dX8_numberOf_7 rfl ?_
  rw [pf_shr (d := 6 * (4 - p)) (by rw [hs, BitVec.toNat_ofNat]; exact Nat.mod_eq_of_lt (by omega)) h63]
  refine am_ldc2 (n := 11) (v := 63) dX8_numberOf_8 (by decide +kernel) rfl ?_
  refine am_land (n := 12) dX8_numberOf_11 rfl ?_
  rw [show lN (x / 2 ^ (6 * (4 - p))) &&& 63 = lN (x / 2 ^ (6 * (4 - p)) % 64) from fb_maskL _ 6, hd]
  refine am_l2i (n := 13) dX8_numberOf_12 rfl ?_
  rw [lN_i]
  refine am_iret dX8_numberOf_13 rfl rfl ?_
  exact ⟨rfl, rfl⟩
set_option maxRecDepth 100000 in
set_option maxHeartbeats 400000 in
theorem cm_code (g : Gx) (x n k p : Int32) (G : GS) (h : Hp) (hX : MG G h) : CM g yX8_code wsX8_code rmX8_code [.ref 40, .int x, .int n, .int k, .int p] h (sp_code x n k p G) := by
  have c40 := isC_40
  have c49 := isC_49
  have c50 := isC_50
  have h4 := hX.2.1.2.2.2.2.1
  have h24 := hX.2.1.2.2.1
  unfold CM sp_code
  refine AC.of (cc := cX8_code) (maxL := 7) (ret := (some .int)) (by decide +kernel) rfl (Nat.le_of_ble_eq_true rfl) ?_
  show AW g mmX8_code _ 0 [(0, some (.ref 40)), (1, some (.int x)), (2, some (.int n)), (3, some (.int k)), (4, some (.int p))] [] _
  refine am_aload_n (n := 1) (i := 0) dX8_code_0 rfl rfl rfl ?_
  refine am_iload_n (n := 2) (i := 1) dX8_code_1 rfl rfl rfl ?_
  refine cdX8_code_156 (n := 5) dX8_code_2 (by first | exact ⟨rfl, rfl⟩ | assumption) (m_isEar g x G.1.2.2.2.length h (by omega) hX.1.2.2.2.1) rfl rfl (Nat.le_of_ble_eq_true rfl) (by first | assumption | exact isC_of (by decide +kernel)) rfl ?_
  cases hxx : inN x G.1.2.2.2.length with
  | false =>
    rw [sp_E_f _ hxx]
    refine am_if_eq (tgt := 16) (n := 8) dX8_code_5 (by decide) rfl (fun _ => ?_) (fun q_z => absurd rfl q_z)
    refine am_iconst (n := 17) (v := (-1)) dX8_code_16 rfl rfl ?_
    refine am_iret dX8_code_17 rfl rfl ?_
    exact ⟨rfl, hX, Fr.rf⟩
  | true =>
    obtain ⟨e, he, rfl⟩ := inN_t (by omega) hxx
    have hx := List.getElem?_eq_getElem he
    obtain ⟨e4, R, vE⟩ := mE hX.1 hX.2.1 hx
    rw [sp_E_t _ h4 he hx]
    generalize G.1.2.2.2[e] = E at *
    refine am_if_eq (tgt := 16) (n := 8) dX8_code_5 (by decide) rfl (fun q_z => absurd q_z (show ¬ (1 : Int32) = 0 by decide)) (fun _ => ?_)
    refine am_aload_n (n := 9) (i := 0) dX8_code_8 rfl rfl rfl ?_
    refine am_iload_n (n := 10) (i := 2) dX8_code_9 rfl rfl rfl ?_
    refine cdX8_code_93 (n := 13) dX8_code_10 (by first | exact ⟨rfl, rfl⟩ | assumption) (m_isName g n G.1.2.2.1.length h (by omega) hX.1.2.2.1) rfl rfl (Nat.le_of_ble_eq_true rfl) (by first | assumption | exact isC_of (by decide +kernel)) rfl ?_
    cases hn : inN n G.1.2.2.1.length with
    | false =>
      rw [if_neg (by decide)]
      refine am_if_ne (tgt := 18) (n := 16) dX8_code_13 (by decide) rfl (fun q_z => absurd rfl q_z) (fun _ => ?_)
      refine am_iconst (n := 17) (v := (-1)) dX8_code_16 rfl rfl ?_
      refine am_iret dX8_code_17 rfl rfl ?_
      exact ⟨rfl, hX, Fr.rf⟩
    | true =>
      rw [if_pos rfl]
      obtain ⟨i, hi, rfl⟩ := inN_t (by omega) hn
      rw [tn_nI (by omega)]
      have hin0 : vp_in (nI i) 24 := vp_in_nI (by omega) (by decide)
      refine am_if_ne (tgt := 18) (n := 16) dX8_code_13 (by decide) rfl (fun _ => ?_) (fun q_z => absurd q_z (show ¬ (1 : Int32) = 0 by decide))
      refine am_aload_n (n := 19) (i := 0) dX8_code_18 rfl rfl rfl ?_
      refine am_iload_n (n := 20) (i := 1) dX8_code_19 rfl rfl rfl ?_
      refine caX8_code_147 (n := 23) dX8_code_20 (by first | exact ⟨rfl, rfl⟩ | assumption) (m_hearAll g e G.1 E h hX.1 hX.2.1 hx) rfl rfl (Nat.le_of_ble_eq_true rfl) (by first | assumption | exact isC_of (by decide +kernel)) rfl ?_
      rintro r h1 ⟨rfl, H1, F1⟩
      have X1 := hX.s F1
      have hV := VC_of hX.2.1 vE
      have hi2 : i < (csOf G.1 E).length := by rw [csOf_len]; exact hi
      generalize csOf G.1 E = cs at *
      have hl4 := hV.at hi2
      obtain ⟨A1, A2⟩ := H1.at hi2
      have h30 := dl_30 hV
      have hdl := dl_len hV
      unfold cdS
      refine am_iload_n (n := 24) (i := 3) dX8_code_23 rfl rfl rfl ?_
      refine am_iconst (n := 25) (v := 0) dX8_code_24 rfl rfl ?_
      refine am_aload_n (n := 26) (i := 0) dX8_code_25 rfl rfl rfl ?_
      refine gfX8_code_39 (n := 29) dX8_code_26 (by first | assumption | exact isC_of (by decide +kernel)) rfl ?_
      refine am_iload_n (n := 30) (i := 2) dX8_code_29 rfl rfl rfl ?_
      refine am_iald (n := 31) dX8_code_30 (by first | assumption | exact isC_of (by decide +kernel)) (by first | assumption | exact vp_in_nI (by omega) (by omega) | exact vp_in_iff.mpr (by decide)) rfl ?_
      rw [nI_clamp (by omega), A1]
      refine am_iconst (n := 32) (v := 1) dX8_code_31 rfl rfl ?_
      refine am_isub (n := 33) dX8_code_32 rfl ?_
      refine cdX8_code_51 (n := 36) dX8_code_33 (by first | exact ⟨rfl, rfl⟩ | assumption) (m_in g k 0 (nI (cN cs i).length - 1) h1) rfl rfl (Nat.le_of_ble_eq_true rfl) rfl ?_
      rw [inN_pred k (show (cN cs i).length < 2 ^ 31 by omega)]
      cases hk : inN k (cN cs i).length with
      | false =>
        rw [if_neg (by decide)]
        refine am_if_ne (tgt := 41) (n := 39) dX8_code_36 (by decide) rfl (fun q_z => absurd rfl q_z) (fun _ => ?_)
        refine am_iconst (n := 40) (v := (-1)) dX8_code_39 rfl rfl ?_
        refine am_iret dX8_code_40 rfl rfl ?_
        exact ⟨rfl, X1, F1.1⟩
      | true =>
        rw [if_pos rfl]
        obtain ⟨j, hj, rfl⟩ := inN_t (by omega) hk
        rw [tn_nI (by omega)]
        have hjc := gD_at hj
        have hc30 := hl4.2 _ (List.mem_of_getElem? hjc)
        have hA := A2 j _ hjc
        have hdc := cN_dl hi2 hjc
        generalize (cN cs i).getD j 0 = c at *
        have hin1 : vp_in (nI (4 * i + j)) 96 := vp_in_nI (by omega) (by decide)
        refine am_if_ne (tgt := 41) (n := 39) dX8_code_36 (by decide) rfl (fun _ => ?_) (fun q_z => absurd q_z (show ¬ (1 : Int32) = 0 by decide))
        refine am_iload (n := 43) dX8_code_41 rfl rfl ?_
        refine am_iconst (n := 44) (v := 0) dX8_code_43 rfl rfl ?_
        refine am_bipush (n := 46) (v := 6) dX8_code_44 rfl rfl ?_
        refine cdX8_code_51 (n := 49) dX8_code_46 (by first | exact ⟨rfl, rfl⟩ | assumption) (m_in g p 0 6 h1) rfl rfl (Nat.le_of_ble_eq_true rfl) rfl ?_
        cases hp : inR p 0 6 with
        | false =>
          rw [if_neg (by decide), show (decide (0 ≤ p) && decide (p ≤ 6)) = false from hp]
          refine am_if_ne (tgt := 55) (n := 52) dX8_code_49 (by decide) rfl (fun q_z => absurd rfl q_z) (fun _ => ?_)
          refine am_bipush (n := 54) (v := (-2)) dX8_code_52 rfl rfl ?_
          refine am_iret dX8_code_54 rfl rfl ?_
          exact ⟨rfl, X1, F1.1⟩
        | true =>
          rw [if_pos rfl, show (decide (0 ≤ p) && decide (p ≤ 6)) = true from hp]
          obtain ⟨q, -, q6, rfl⟩ := inR_t (by decide) (by decide) hp
          have hsz := csz_le c
          unfold plS
          refine am_if_ne (tgt := 55) (n := 52) dX8_code_49 (by decide) rfl (fun _ => ?_) (fun q_z => absurd q_z (show ¬ (1 : Int32) = 0 by decide))
          refine am_aload_n (n := 56) (i := 0) dX8_code_55 rfl rfl rfl ?_
          refine gfX8_code_36 (n := 59) dX8_code_56 (by first | assumption | exact isC_of (by decide +kernel)) rfl ?_
          refine am_iconst (n := 60) (v := 4) dX8_code_59 rfl rfl ?_
          refine am_iload_n (n := 61) (i := 2) dX8_code_60 rfl rfl rfl ?_
          refine am_imul (n := 62) dX8_code_61 rfl ?_
          refine am_iload_n (n := 63) (i := 3) dX8_code_62 rfl rfl rfl ?_
          refine am_iadd (n := 64) dX8_code_63 rfl ?_
          rw [ix_4]
          refine am_lald (n := 65) dX8_code_64 (by first | assumption | exact isC_of (by decide +kernel)) (by first | assumption | exact vp_in_nI (by omega) (by omega) | exact vp_in_iff.mpr (by decide)) rfl ?_
          rw [nI_clamp (by omega), hA]
          refine am_lstore (n := 67) dX8_code_65 (Nat.le_of_ble_eq_true rfl) rfl rfl ?_
          refine am_iload (n := 69) dX8_code_67 rfl rfl ?_
          refine am_bipush (n := 71) (v := 6) dX8_code_69 rfl rfl ?_
          by_cases p6 : nI q = 6
          · rw [if_pos p6]
            refine am_icmp_ne (tgt := 81) (n := 74) dX8_code_71 (by decide) rfl (fun q_z => absurd p6 q_z) (fun _ => ?_)
            refine am_aload_n (n := 75) (i := 0) dX8_code_74 rfl rfl rfl ?_
            refine am_lload (n := 77) dX8_code_75 rfl rfl ?_
            have hdw := m_drawerWith g c (dl cs) h1 H1.1 hc30 h30 hdl
            rw [if_pos (List.mem_of_getElem? hdc)] at hdw
            refine cdX8_code_136 (n := 80) dX8_code_77 (by first | exact ⟨rfl, rfl⟩ | assumption) hdw rfl rfl (Nat.le_of_ble_eq_true rfl) (by first | assumption | exact isC_of (by decide +kernel)) rfl ?_
            generalize ix c (dl cs) = v
            exact am_iret dX8_code_80 rfl rfl ⟨rfl, X1, F1.1⟩
          · rw [if_neg p6]
            refine am_icmp_ne (tgt := 81) (n := 74) dX8_code_71 (by decide) rfl (fun _ => ?_) (fun q_z => absurd q_z p6)
            refine am_iload (n := 83) dX8_code_81 rfl rfl ?_
            refine am_iconst (n := 84) (v := 5) dX8_code_83 rfl rfl ?_
            by_cases p5 : nI q = 5
            · rw [if_pos p5]
              refine am_icmp_ne (tgt := 95) (n := 87) dX8_code_84 (by decide) rfl (fun q_z => absurd p5 q_z) (fun _ => ?_)
              refine am_lload (n := 89) dX8_code_87 rfl rfl ?_
              refine cdX8_code_210 (n := 92) dX8_code_89 (by first | exact ⟨rfl, rfl⟩ | assumption) (m_lengthOfCode g c h1 hc30) rfl rfl (Nat.le_of_ble_eq_true rfl) rfl ?_
              generalize csz c = v
              refine am_goto (tgt := 117) dX8_code_92 (by decide) ?_
              refine am_iret dX8_code_117 rfl rfl ?_
              exact ⟨rfl, X1, F1.1⟩
            · rw [if_neg p5, tn_nI (by omega)]
              refine am_icmp_ne (tgt := 95) (n := 87) dX8_code_84 (by decide) rfl (fun _ => ?_) (fun q_z => absurd q_z p5)
              refine am_iload (n := 97) dX8_code_95 rfl rfl ?_
              refine am_lload (n := 99) dX8_code_97 rfl rfl ?_
              refine cdX8_code_210 (n := 102) dX8_code_99 (by first | exact ⟨rfl, rfl⟩ | assumption) (m_lengthOfCode g c h1 hc30) rfl rfl (Nat.le_of_ble_eq_true rfl) rfl ?_
              by_cases ps : q < csz c
              · rw [if_pos ps]
                refine am_icmp_ge (tgt := 115) (n := 105) dX8_code_102 (by decide) rfl (fun q_z => absurd q_z (nI_ge ps (by omega))) (fun _ => ?_)
                refine am_lload (n := 107) dX8_code_105 rfl rfl ?_
                refine am_iload (n := 109) dX8_code_107 rfl rfl ?_
                refine cdX8_code_213 (n := 112) dX8_code_109 (by first | exact ⟨rfl, rfl⟩ | assumption) (m_numberOf g c q h1 hc30 ps) rfl rfl (Nat.le_of_ble_eq_true rfl) rfl ?_
                generalize cdg c q = v
                refine am_goto (tgt := 117) dX8_code_112 (by decide) ?_
                refine am_iret dX8_code_117 rfl rfl ?_
                exact ⟨rfl, X1, F1.1⟩
              · rw [if_neg ps]
                refine am_icmp_ge (tgt := 115) (n := 105) dX8_code_102 (by decide) rfl (fun _ => ?_) (fun q_z => absurd (nI_le (Nat.not_lt.mp ps) (by omega)) q_z)
                refine am_bipush (n := 117) (v := (-6)) dX8_code_115 rfl rfl ?_
                refine am_iret dX8_code_117 rfl rfl ?_
                exact ⟨rfl, X1, F1.1⟩
