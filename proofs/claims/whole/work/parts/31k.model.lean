/-! The reference: hearAll -/
/-- what was heard last -/
def HA (cs : List (List Nat)) (h : Hp) : Prop := DRZ (dl cs) h ∧ ∀ (i : Nat) (l : List Nat), cs[i]? = some l → h.1 50 i = nI l.length ∧ ∀ (j c : Nat), l[j]? = some c → h.2.1 49 (4 * i + j) = lN (lc c)
theorem ix_4 (i j : Nat) : (4 : Int32) * nI i + nI j = nI (4 * i + j) := by
  rw [show (4 : Int32) = nI 4 from rfl, nI_mul, nI_add]
set_option maxRecDepth 100000 in
set_option maxHeartbeats 800000 in
theorem m_hearAll (g : Gx) (e : Nat) (S : SV) (E : EV) (h : Hp) (R : RZ 0 S (h.1 41)) (V : VS S) (hx : S.2.2.2[e]? = some E) : AC g yX8_hearAll wsX8_hearAll rmX8_hearAll [.ref 40, .int (nI e)] h (fun v h' => v = none ∧ HA (csOf S E) h' ∧ FrS h h') := by
  have c40 := isC_40
  have c41 := isC_41
  have c48 := isC_48
  have c49 := isC_49
  have c50 := isC_50
  have c51 := isC_51
  obtain ⟨e4, RE, VE'⟩ := mE R V hx
  have hVC := VC_of V VE'
  have hn24 := V.2.2.1
  have hlen := csOf_len S E
  have hcsi : ∀ i, i < S.2.2.1.length → (csOf S E)[i]? = some (codes E S.1 (S.2.2.1.getD i 0)) := by
    intro i hi
    unfold csOf
    rw [List.getElem?_map, gD_at hi]
    rfl
  have hr2 : h.1 41 2 = nI S.2.2.1.length := R.2.2.1
  have hr0 : h.1 41 0 = nI S.1 := R.1
  generalize csOf S E = cs at *
  generalize hZ : ZP g (fun v h' => v = none ∧ HA cs h' ∧ FrS h h') = Z
  have z0 : Z.1 = 0 ∧ Z.2.1 = 0 := by rw [← hZ]; exact ⟨rfl, rfl⟩
  refine AC.of (cc := cX8_hearAll) (maxL := 4) (ret := none) (by decide +kernel) rfl (Nat.le_of_ble_eq_true rfl) ?_
  show AW g mmX8_hearAll _ 0 [(0, some (.ref 40)), (1, some (.int (nI e)))] [] _
  rw [hZ]
  refine am_aload_n (n := 1) (i := 0) dX8_hearAll_0 rfl rfl rfl ?_
  refine am_iconst (n := 2) (v := 0) dX8_hearAll_1 rfl rfl ?_
  refine pfX8_hearAll_130 (n := 5) dX8_hearAll_2 (by first | assumption | exact isC_of (by decide +kernel)) rfl ?_
  refine am_iconst (n := 6) (v := 0) dX8_hearAll_5 rfl rfl ?_
  refine am_istore_n (n := 7) (i := 2) dX8_hearAll_6 rfl (Nat.le_of_ble_eq_true rfl) rfl rfl ?_
  let In1 : Nat → List Nat → Hp → Prop := fun i X h1 => FrS h h1 ∧ DRZ (dls X) h1 ∧ ∀ (i' : Nat) (l : List Nat), i' < i → cs[i']? = some l → h1.1 50 i' = nI l.length ∧ ∀ (j c : Nat), l[j]? = some c → h1.2.1 49 (4 * i' + j) = lN (lc c)
  have outer : ∀ i, i ≤ cs.length → ∀ h1 : Hp, In1 i (cs.take i).flatten h1 → AW g mmX8_hearAll Z 7 [(0, some (.ref 40)), (1, some (.int (nI e))), (2, some (.int (nI i)))] [] h1 := by
    refine loop_up (Wp := fun i => ∀ h1 : Hp, In1 i (cs.take i).flatten h1 → AW g mmX8_hearAll Z 7 [(0, some (.ref 40)), (1, some (.int (nI e))), (2, some (.int (nI i)))] [] h1) cs.length ?_ ?_
    · rintro h1 ⟨F, D, A⟩
      rw [List.take_length] at D
      refine am_iload_n (n := 8) (i := 2) dX8_hearAll_7 rfl rfl rfl ?_
      refine am_aload_n (n := 9) (i := 0) dX8_hearAll_8 rfl rfl rfl ?_
      refine gfX8_hearAll_7 (n := 12) dX8_hearAll_9 (by first | assumption | exact isC_of (by decide +kernel)) rfl ?_
      refine am_iconst (n := 13) (v := 2) dX8_hearAll_12 rfl rfl ?_
      refine am_iald (n := 14) dX8_hearAll_13 (by first | assumption | exact isC_of (by decide +kernel)) (by first | assumption | exact vp_in_nI (by omega) (by omega) | exact vp_in_iff.mpr (by decide)) rfl ?_
      rw [show (2 : Int32).toNatClampNeg = 2 from rfl, F.2.1, hr2, ← hlen]
      refine am_icmp_ge (tgt := 115) (n := 17) dX8_hearAll_14 (by decide) rfl (fun _ => ?_) (fun q_z => absurd (nI_le (Nat.le_refl _) (by omega)) q_z)
      rw [← hZ]
      refine am_vret dX8_hearAll_115 rfl ?_
      exact ⟨rfl, ⟨D, fun i l hi => A i l (List.getElem?_eq_some_iff.mp hi).1 hi⟩, F⟩
    · rintro i hi K h1 ⟨F, D, A⟩
      have hiS : i < S.2.2.1.length := by omega
      have hci := hcsi i hiS
      have hVW := (mW R V hiS).2.2.2
      refine am_iload_n (n := 8) (i := 2) dX8_hearAll_7 rfl rfl rfl ?_
      refine am_aload_n (n := 9) (i := 0) dX8_hearAll_8 rfl rfl rfl ?_
      refine gfX8_hearAll_7 (n := 12) dX8_hearAll_9 (by first | assumption | exact isC_of (by decide +kernel)) rfl ?_
      refine am_iconst (n := 13) (v := 2) dX8_hearAll_12 rfl rfl ?_
      refine am_iald (n := 14) dX8_hearAll_13 (by first | assumption | exact isC_of (by decide +kernel)) (by first | assumption | exact vp_in_nI (by omega) (by omega) | exact vp_in_iff.mpr (by decide)) rfl ?_
      rw [show (2 : Int32).toNatClampNeg = 2 from rfl, F.2.1, hr2, ← hlen]
      refine am_icmp_ge (tgt := 115) (n := 17) dX8_hearAll_14 (by decide) rfl (fun q_z => absurd q_z (nI_ge hi (by omega))) (fun _ => ?_)
      refine am_aload_n (n := 18) (i := 0) dX8_hearAll_17 rfl rfl rfl ?_
      refine am_iload_n (n := 19) (i := 2) dX8_hearAll_18 rfl rfl rfl ?_
      refine caX8_hearAll_99 (n := 22) dX8_hearAll_19 (by first | exact ⟨rfl, rfl⟩ | assumption) (m_takeName g i S h1 (by rw [F.2.1]; exact R) V hiS) rfl rfl (Nat.le_of_ble_eq_true rfl) (by first | assumption | exact isC_of (by decide +kernel)) rfl ?_
      rintro r h2 ⟨rfl, W2, F2⟩
      have F12 := F.tr F2.s
      refine am_aload_n (n := 23) (i := 0) dX8_hearAll_22 rfl rfl rfl ?_
      refine am_iload_n (n := 24) (i := 1) dX8_hearAll_23 rfl rfl rfl ?_
      generalize S.2.2.1.getD i 0 = w at *
      refine caX8_hearAll_133 (n := 27) dX8_hearAll_24 (by first | exact ⟨rfl, rfl⟩ | assumption) (m_hearWord g e w S.1 E h2 e4 (by rw [F12.2.1]; exact RE) VE' W2 hVW V.1.2 (by rw [F12.2.1]; exact hr0)) rfl rfl (Nat.le_of_ble_eq_true rfl) (by first | assumption | exact isC_of (by decide +kernel)) rfl ?_
      rintro r h3 ⟨rfl, C3, F3⟩
      have F13 := F12.tr F3.s
      have D3 : DRZ (dls (cs.take i).flatten) h3 := ⟨by rw [F3.2.1 15 (by omega), F2.2.1 15 (by omega)]; exact D.1, fun d c hd => by rw [F3.2.2.1 51 (by omega), F2.2.2]; exact D.2 d c hd⟩
      have A3 : ∀ (i' : Nat) (l : List Nat), i' < i → cs[i']? = some l → h3.1 50 i' = nI l.length ∧ ∀ (j c : Nat), l[j]? = some c → h3.2.1 49 (4 * i' + j) = lN (lc c) := fun i' l hi' hl => by
        rw [F3.1 50 (by omega), F2.1 50 (by omega) (by omega), F3.2.2.1 49 (by omega), F2.2.2]
        exact A i' l hi' hl
      generalize codes E S.1 w = cl at *
      have hcl4 := hVC.2 cl (List.mem_of_getElem? hci)
      obtain ⟨C1, C2⟩ := C3
      have hinI : vp_in (nI i) 24 := vp_in_nI (by omega) (by decide)
      refine am_aload_n (n := 28) (i := 0) dX8_hearAll_27 rfl rfl rfl ?_
      refine gfX8_hearAll_39 (n := 31) dX8_hearAll_28 (by first | assumption | exact isC_of (by decide +kernel)) rfl ?_
      refine am_iload_n (n := 32) (i := 2) dX8_hearAll_31 rfl rfl rfl ?_
      refine am_aload_n (n := 33) (i := 0) dX8_hearAll_32 rfl rfl rfl ?_
      refine gfX8_hearAll_123 (n := 36) dX8_hearAll_33 (by first | assumption | exact isC_of (by decide +kernel)) rfl ?_
      rw [C1]
      refine am_iast (n := 37) dX8_hearAll_36 (by first | assumption | exact isC_of (by decide +kernel)) (by first | assumption | exact vp_in_nI (by omega) (by omega) | exact vp_in_iff.mpr (by decide)) rfl ?_
      refine am_iconst (n := 38) (v := 0) dX8_hearAll_37 rfl rfl ?_
      refine am_istore_n (n := 39) (i := 3) dX8_hearAll_38 rfl (Nat.le_of_ble_eq_true rfl) rfl rfl ?_
      rw [nI_clamp (by omega)]
      have etake : ∀ j, j < cl.length → (cs.take i).flatten ++ cl.take (j + 1) = ((cs.take i).flatten ++ cl.take j) ++ [cl.getD j 0] := by
        intro j hj
        rw [List.take_succ, List.append_assoc, gD_at hj]
        rfl
      have eall : (cs.take (i + 1)).flatten = (cs.take i).flatten ++ cl := by
        rw [List.take_succ, hci, List.flatten_append]
        simp
      let In2 : Nat → Hp → Prop := fun j h3 => FrS h h3 ∧ DRZ (dls ((cs.take i).flatten ++ cl.take j)) h3 ∧ (∀ (i' : Nat) (l : List Nat), i' < i → cs[i']? = some l → h3.1 50 i' = nI l.length ∧ ∀ (j c : Nat), l[j]? = some c → h3.2.1 49 (4 * i' + j) = lN (lc c)) ∧ h3.1 50 i = nI cl.length ∧ (h3.1 40 11 = nI cl.length ∧ ∀ (j' c : Nat), cl[j']? = some c → h3.2.1 48 j' = lN (lc c)) ∧ ∀ (j' c : Nat), j' < j → cl[j']? = some c → h3.2.1 49 (4 * i + j') = lN (lc c)
      have inner : ∀ j, j ≤ cl.length → ∀ h3 : Hp, In2 j h3 → AW g mmX8_hearAll Z 39 [(0, some (.ref 40)), (1, some (.int (nI e))), (2, some (.int (nI i))), (3, some (.int (nI j)))] [] h3 := by
        refine loop_up (Wp := fun j => ∀ h3 : Hp, In2 j h3 → AW g mmX8_hearAll Z 39 [(0, some (.ref 40)), (1, some (.int (nI e))), (2, some (.int (nI i))), (3, some (.int (nI j)))] [] h3) cl.length ?_ ?_
        · rintro h3 ⟨G1, G2, G3, G4, G5, G6⟩
          rw [List.take_length, ← eall] at G2
          refine am_iload_n (n := 40) (i := 3) dX8_hearAll_39 rfl rfl rfl ?_
          refine am_aload_n (n := 41) (i := 0) dX8_hearAll_40 rfl rfl rfl ?_
          refine gfX8_hearAll_123 (n := 44) dX8_hearAll_41 (by first | assumption | exact isC_of (by decide +kernel)) rfl ?_
          rw [G5.1]
          refine am_icmp_ge (tgt := 109) (n := 47) dX8_hearAll_44 (by decide) rfl (fun _ => ?_) (fun q_z => absurd (nI_le (Nat.le_refl _) (by omega)) q_z)
          first | refine am_iincN (n := 112) dX8_hearAll_109 rfl rfl rfl ?_ | refine am_iinc1 (n := 112) dX8_hearAll_109 rfl rfl rfl ?_
          refine am_goto (tgt := 7) dX8_hearAll_112 (by decide) ?_
          refine am_loc _ rfl (K h3 ⟨G1, G2, fun i' l hi' hl => ?_⟩)
          by_cases z : i' = i
          · subst z
            rw [hci] at hl
            have := Option.some.inj hl
            subst this
            exact ⟨G4, fun j c hj => G6 j c (List.getElem?_eq_some_iff.mp hj).1 hj⟩
          · exact G3 i' l (by omega) hl
        · rintro j hj K2 h3 ⟨G1, G2, G3, G4, G5, G6⟩
          have hc0 := gD_at hj
          have hX := etake j hj
          have hc30 := hcl4.2.2.1 _ (List.mem_of_getElem? hc0)
          have hC := G5.2 j _ hc0
          generalize cl.getD j 0 = c0 at *
          generalize hXd : (cs.take i).flatten ++ cl.take j = X at G2 hX
          have hXin : ∀ x, x ∈ X → ∃ (m : Nat) (l : List Nat), cs[m]? = some l ∧ x ∈ l := by
            intro x hx
            rw [← hXd] at hx
            rcases List.mem_append.mp hx with q | q
            · obtain ⟨l, hl, hxl⟩ := List.mem_flatten.mp q
              obtain ⟨m, hm⟩ := List.getElem?_of_mem (List.mem_of_mem_take hl)
              exact ⟨m, l, hm, hxl⟩
            · exact ⟨i, cl, hci, List.mem_of_mem_take q⟩
          have hX30 : ∀ x ∈ dls X, x < 2 ^ 30 := by
            intro x hx
            obtain ⟨m, l, hm, hxl⟩ := hXin x (mem_dls.mp hx)
            exact (hVC.2 l (List.mem_of_getElem? hm)).2.2.1 x hxl
          have hXl : X.length < 96 := by
            rw [← hXd, List.length_append, List.length_take]
            have := flat_len (cs := cs.take i) (fun l hl => (hVC.2 l (List.mem_of_mem_take hl)).1)
            rw [List.length_take] at this
            have := hcl4.1
            omega
          have hdl := dls_len X
          have hap := dls_app X c0
          have hj4 : j < 4 := by have := hcl4.1; omega
          have b1 : vp_in (nI j) 4 := vp_in_nI hj4 (by decide)
          obtain ⟨m, hm⟩ : ∃ m, m = 4 * i + j := ⟨_, rfl⟩
          have b2 : vp_in (nI m) 96 := vp_in_nI (by omega) (by decide)
          refine am_iload_n (n := 40) (i := 3) dX8_hearAll_39 rfl rfl rfl ?_
          refine am_aload_n (n := 41) (i := 0) dX8_hearAll_40 rfl rfl rfl ?_
          refine gfX8_hearAll_123 (n := 44) dX8_hearAll_41 (by first | assumption | exact isC_of (by decide +kernel)) rfl ?_
          rw [G5.1]
          refine am_icmp_ge (tgt := 109) (n := 47) dX8_hearAll_44 (by decide) rfl (fun q_z => absurd q_z (nI_ge hj (by omega))) (fun _ => ?_)
          refine am_aload_n (n := 48) (i := 0) dX8_hearAll_47 rfl rfl rfl ?_
          refine gfX8_hearAll_36 (n := 51) dX8_hearAll_48 (by first | assumption | exact isC_of (by decide +kernel)) rfl ?_
          refine am_iconst (n := 52) (v := 4) dX8_hearAll_51 rfl rfl ?_
          refine am_iload_n (n := 53) (i := 2) dX8_hearAll_52 rfl rfl rfl ?_
          refine am_imul (n := 54) dX8_hearAll_53 rfl ?_
          refine am_iload_n (n := 55) (i := 3) dX8_hearAll_54 rfl rfl rfl ?_
          refine am_iadd (n := 56) dX8_hearAll_55 rfl ?_
          rw [ix_4, ← hm]
          refine am_aload_n (n := 57) (i := 0) dX8_hearAll_56 rfl rfl rfl ?_
          refine gfX8_hearAll_32 (n := 60) dX8_hearAll_57 (by first | assumption | exact isC_of (by decide +kernel)) rfl ?_
          refine am_iload_n (n := 61) (i := 3) dX8_hearAll_60 rfl rfl rfl ?_
          refine am_lald (n := 62) dX8_hearAll_61 (by first | assumption | exact isC_of (by decide +kernel)) (by first | assumption | exact vp_in_nI (by omega) (by omega) | exact vp_in_iff.mpr (by decide)) rfl ?_
          rw [nI_clamp (by omega), hC]
          refine am_last (n := 63) dX8_hearAll_62 (by first | assumption | exact isC_of (by decide +kernel)) (by first | assumption | exact vp_in_nI (by omega) (by omega) | exact vp_in_iff.mpr (by decide)) rfl ?_
          refine am_aload_n (n := 64) (i := 0) dX8_hearAll_63 rfl rfl rfl ?_
          refine am_aload_n (n := 65) (i := 0) dX8_hearAll_64 rfl rfl rfl ?_
          refine gfX8_hearAll_32 (n := 68) dX8_hearAll_65 (by first | assumption | exact isC_of (by decide +kernel)) rfl ?_
          refine am_iload_n (n := 69) (i := 3) dX8_hearAll_68 rfl rfl rfl ?_
          refine am_lald (n := 70) dX8_hearAll_69 (by first | assumption | exact isC_of (by decide +kernel)) (by first | assumption | exact vp_in_nI (by omega) (by omega) | exact vp_in_iff.mpr (by decide)) rfl ?_
          rw [nI_clamp (show m < 2 ^ 31 by omega), nI_clamp (show j < 2 ^ 31 by omega), setJ_n _ _ (show (48 : Nat) ≠ 49 by decide), hC]
          have D4 : DRZ (dls X) (setJ h3 49 (vp_updL (h3.2.1 49) m (lN (lc c0)))) := ⟨G2.1, fun d c hd => by rw [setJ_n _ _ (by omega)]; exact G2.2 d c hd⟩
          have G6' : ∀ (j' c : Nat), j' < j + 1 → cl[j']? = some c → vp_updL (h3.2.1 49) m (lN (lc c0)) (4 * i + j') = lN (lc c) := by
            intro j' c hj' hc
            by_cases z : j' = j
            · subst z
              rw [hc0] at hc
              rw [← Option.some.inj hc, ← hm, pk_uLs]
            · rw [pk_uLn (by omega)]
              exact G6 j' c (by omega) hc
          have G3' : ∀ (i' : Nat) (l : List Nat), i' < i → cs[i']? = some l → h3.1 50 i' = nI l.length ∧ ∀ (j c : Nat), l[j]? = some c → vp_updL (h3.2.1 49) m (lN (lc c0)) (4 * i' + j) = lN (lc c) := by
            intro i' l hi' hl
            obtain ⟨u1, u2⟩ := G3 i' l hi' hl
            refine ⟨u1, fun j2 c hj2 => ?_⟩
            have := (hVC.2 l (List.mem_of_getElem? hl)).1
            have hj2l := (List.getElem?_eq_some_iff.mp hj2).1
            rw [pk_uLn (by omega)]
            exact u2 j2 c hj2
          refine cdX8_hearAll_136 (n := 73) dX8_hearAll_70 (by first | exact ⟨rfl, rfl⟩ | assumption) (m_drawerWith g c0 (dls X) _ D4 hc30 hX30 (by omega)) rfl rfl (Nat.le_of_ble_eq_true rfl) (by first | assumption | exact isC_of (by decide +kernel)) rfl ?_
          refine am_bipush (n := 75) (v := (-6)) dX8_hearAll_73 rfl rfl ?_
          by_cases q : c0 ∈ dls X
          · rw [if_pos q]
            have hixl := ix_lt q
            refine am_icmp_ne (tgt := 103) (n := 78) dX8_hearAll_75 (by decide) rfl (fun _ => ?_) (fun q_z => absurd q_z (nI_ne6 (by omega)))
            first | refine am_iincN (n := 106) dX8_hearAll_103 rfl rfl rfl ?_ | refine am_iinc1 (n := 106) dX8_hearAll_103 rfl rfl rfl ?_
            refine am_goto (tgt := 39) dX8_hearAll_106 (by decide) ?_
            refine am_loc _ rfl (K2 _ ⟨G1.J 49 _ (by omega) (by omega), ?_, fun i' l hi' hl => ?_, G4, ⟨G5.1, fun j' c hc => ?_⟩, fun j' c hj' hc => ?_⟩)
            · rw [hX, hap, show addD (dls X) c0 = dls X from if_pos q]
              exact D4
            · rw [setJ_s]
              exact G3' i' l hi' hl
            · rw [setJ_n _ _ (by omega)]
              exact G5.2 j' c hc
            · rw [setJ_s]
              exact G6' j' c hj' hc
          · rw [if_neg q]
            have b3 : vp_in (nI (dls X).length) 96 := vp_in_nI (by omega) (by decide)
            refine am_icmp_ne (tgt := 103) (n := 78) dX8_hearAll_75 (by decide) rfl (fun q_z => absurd rfl q_z) (fun _ => ?_)
            refine am_aload_n (n := 79) (i := 0) dX8_hearAll_78 rfl rfl rfl ?_
            refine gfX8_hearAll_42 (n := 82) dX8_hearAll_79 (by first | assumption | exact isC_of (by decide +kernel)) rfl ?_
            refine am_aload_n (n := 83) (i := 0) dX8_hearAll_82 rfl rfl rfl ?_
            refine gfX8_hearAll_130 (n := 86) dX8_hearAll_83 (by first | assumption | exact isC_of (by decide +kernel)) rfl ?_
            rw [setJ_1, G2.1]
            refine am_aload_n (n := 87) (i := 0) dX8_hearAll_86 rfl rfl rfl ?_
            refine gfX8_hearAll_32 (n := 90) dX8_hearAll_87 (by first | assumption | exact isC_of (by decide +kernel)) rfl ?_
            refine am_iload_n (n := 91) (i := 3) dX8_hearAll_90 rfl rfl rfl ?_
            refine am_lald (n := 92) dX8_hearAll_91 (by first | assumption | exact isC_of (by decide +kernel)) (by first | assumption | exact vp_in_nI (by omega) (by omega) | exact vp_in_iff.mpr (by decide)) rfl ?_
            rw [nI_clamp (by omega), setJ_n _ _ (show (48 : Nat) ≠ 49 by decide), hC]
            refine am_last (n := 93) dX8_hearAll_92 (by first | assumption | exact isC_of (by decide +kernel)) (by first | assumption | exact vp_in_nI (by omega) (by omega) | exact vp_in_iff.mpr (by decide)) rfl ?_
            rw [nI_clamp (by omega)]
            refine am_aload_n (n := 94) (i := 0) dX8_hearAll_93 rfl rfl rfl ?_
            refine am_dup (n := 95) dX8_hearAll_94 rfl rfl ?_
            refine gfX8_hearAll_130 (n := 98) dX8_hearAll_95 (by first | assumption | exact isC_of (by decide +kernel)) rfl ?_
            rw [setJ_1, setJ_1, G2.1]
            refine am_iconst (n := 99) (v := 1) dX8_hearAll_98 rfl rfl ?_
            refine am_iadd (n := 100) dX8_hearAll_99 rfl ?_
            rw [nI_1]
            refine pfX8_hearAll_130 (n := 103) dX8_hearAll_100 (by first | assumption | exact isC_of (by decide +kernel)) rfl ?_
            first | refine am_iincN (n := 106) dX8_hearAll_103 rfl rfl rfl ?_ | refine am_iinc1 (n := 106) dX8_hearAll_103 rfl rfl rfl ?_
            refine am_goto (tgt := 39) dX8_hearAll_106 (by decide) ?_
            have hadd : addD (dls X) c0 = dls X ++ [c0] := if_neg q
            refine am_loc _ rfl (K2 _ ⟨((G1.J 49 _ (by omega) (by omega)).J 51 _ (by omega) (by omega)).F 15 _ (by omega), ⟨?_, fun d c hd => ?_⟩, fun i' l hi' hl => ?_, ?_, ⟨?_, fun j' c hc => ?_⟩, fun j' c hj' hc => ?_⟩)
            · rw [hX, hap, hadd, setI_s, pk_us, List.length_append]
              rfl
            · rw [hX, hap, hadd] at hd
              rw [setI_J, setJ_s]
              by_cases z : d = (dls X).length
              · subst z
                rw [List.getElem?_append_right (Nat.le_refl _), Nat.sub_self, List.getElem?_cons_zero] at hd
                rw [← Option.some.inj hd, pk_uLs]
              · have hil := (List.getElem?_eq_some_iff.mp hd).1
                rw [List.length_append] at hil
                simp at hil
                rw [List.getElem?_append_left (by omega)] at hd
                rw [pk_uLn z]
                exact D4.2 d c hd
            · simp (disch := omega) only [setI_n, setI_J, setJ_n, setJ_s, setJ_1]
              exact G3' i' l hi' hl
            · simp (disch := omega) only [setI_n, setI_J, setJ_n, setJ_s, setJ_1]
              exact G4
            · rw [setI_s, pk_un (by omega)]
              exact G5.1
            · simp (disch := omega) only [setI_n, setI_J, setJ_n, setJ_s, setJ_1]
              exact G5.2 j' c hc
            · simp (disch := omega) only [setI_n, setI_J, setJ_n, setJ_s, setJ_1]
              exact G6' j' c hj' hc
      refine am_loc _ rfl (inner 0 (Nat.zero_le _) _ ⟨F13.I 50 _ (by omega) (by omega), ⟨by rw [setI_n _ _ (by omega), List.take_zero, List.append_nil]; exact D3.1, fun d c hd => by rw [List.take_zero, List.append_nil] at hd; exact D3.2 d c hd⟩, fun i' l hi' hl => ?_, by rw [setI_s, pk_us], ⟨by rw [setI_n _ _ (by omega)]; exact C1, C2⟩, fun j' c hj' _ => by omega⟩)
      rw [setI_s, pk_un (by omega)]
      exact A3 i' l hi' hl
  refine am_loc _ rfl (outer 0 (Nat.zero_le _) _ ⟨FrS.rf.F 15 _ (by omega), ⟨by rw [setI_s, pk_us]; rfl, fun d c hd => by cases hd⟩, fun i' l hi' _ => by omega⟩)
