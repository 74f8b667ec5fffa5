/-! Ear: merge -/
set_option maxRecDepth 100000 in
set_option maxHeartbeats 16000000 in
theorem ac_X2_mergeClasses (g : Gx) (k a b : Nat) (E : EV) (h : Hp) (hk : isEar k) (hE : RE k E h) (hV : VE E) (ha : a ≤ 9) (hb : b ≤ 9) : AC g yX2_mergeClasses wsX2_mergeClasses rmX2_mergeClasses [.ref k, .int (nI a), .int (nI b)] h (fun r h' => r = none ∧ RE k (mergeE E a b) h' ∧ FrI k (k + 6) h h') := by
  have hk' := hk
  obtain ⟨k0, k1, k2, k3, k4, k5, k6⟩ := hk
  obtain ⟨f, s, hab, ms⟩ := E
  have hVf : ∀ l, l < 26 → f l ≤ 9 := fun l hl => (hV.1 l hl).1
  have hVs : ∀ l, l < 26 → s l ≤ 10 := fun l hl => (hV.1 l hl).2.1
  refine AC.of (cc := cX2_mergeClasses) (maxL := 7) (ret := none) (by decide +kernel) rfl (Nat.le_of_ble_eq_true rfl) ?_
  show AW g mmX2_mergeClasses _ 0 [(0, some (.ref k)), (1, some (.int (nI a))), (2, some (.int (nI b)))] [] _
  refine am_iconst (n := 1) (v := 0) dX2_mergeClasses_0 rfl rfl ?_
  refine am_istore_n (n := 2) (i := 3) dX2_mergeClasses_1 rfl (Nat.le_of_ble_eq_true rfl) rfl rfl ?_
  refine am_iconst (n := 3) (v := 0) dX2_mergeClasses_2 rfl rfl ?_
  refine am_istore (n := 5) dX2_mergeClasses_3 (Nat.le_of_ble_eq_true rfl) rfl rfl ?_
  refine am_iconst (n := 6) (v := 0) dX2_mergeClasses_5 rfl rfl ?_
  refine am_istore (n := 8) dX2_mergeClasses_6 (Nat.le_of_ble_eq_true rfl) rfl rfl ?_
  generalize hZ : ZP g (fun r h' => r = none ∧ RE k (mergeE (f, s, hab, ms) a b) h' ∧ FrI k (k + 6) h h') = Z
  have z0 : Z.1 = 0 ∧ Z.2.1 = 0 := by rw [← hZ]; exact ⟨rfl, rfl⟩
  refine am_loc [(0, some (.ref k)), (1, some (.int (nI a))), (2, some (.int (nI b))), (3, some (.int (orF (fun l => if f l = b then sh1 l else 0) 0))), (4, some (.int (orF (mgM f s a b) 0))), (5, some (.int (nI 0)))] rfl ?_
  refine loop_up (Wp := fun i => ∀ h1 : Hp, MidE k h h1 (fun l => if l < i then mgF f a b l else f l) (fun l => if l < i then mgS f s a b l else s l) → AW g mmX2_mergeClasses Z 8 [(0, some (.ref k)), (1, some (.int (nI a))), (2, some (.int (nI b))), (3, some (.int (orF (fun l => if f l = b then sh1 l else 0) i))), (4, some (.int (orF (mgM f s a b) i))), (5, some (.int (nI i)))] [] h1) 26 ?_ ?_ 0 (by omega) h ((MidE.of hE).to (fun l hl => ⟨by rw [if_neg (by omega)], by rw [if_neg (by omega)]⟩))
  · intro h1 M
    have M' : MidE k h h1 (mgF f a b) (mgS f s a b) := M.to (fun l hl => ⟨if_pos hl, if_pos hl⟩)
    have R1 := M'.re hE
    refine am_iload (n := 10) dX2_mergeClasses_8 rfl rfl ?_
    refine am_bipush (n := 12) (v := 26) dX2_mergeClasses_10 rfl rfl ?_
    refine am_icmp_ge (tgt := 109) (n := 15) dX2_mergeClasses_12 (by decide) rfl (fun _ => ?_) (fun q => absurd (by decide) q)
    refine am_aload_n (n := 110) (i := 0) dX2_mergeClasses_109 rfl rfl rfl ?_
    refine am_iload_n (n := 111) (i := 1) dX2_mergeClasses_110 rfl rfl rfl ?_
    refine am_iload_n (n := 112) (i := 2) dX2_mergeClasses_111 rfl rfl rfl ?_
    refine am_iload_n (n := 113) (i := 3) dX2_mergeClasses_112 rfl rfl rfl ?_
    refine am_iload (n := 115) dX2_mergeClasses_113 rfl rfl ?_
    rw [← hZ]
    refine caX2_mergeClasses_53 (n := 118) dX2_mergeClasses_115 ⟨rfl, rfl⟩ (ac_X2_remember g k a b (orF (fun l => if f l = b then sh1 l else 0) 26) (orF (mgM f s a b) 26) _ h1 hk' R1 hV.2.2.1) rfl rfl (Nat.le_of_ble_eq_true rfl) (by first | assumption | exact isC_of (by decide +kernel)) rfl ?_
    rintro r h2 ⟨rfl, R2, F2⟩
    refine am_vret dX2_mergeClasses_118 rfl ?_
    exact ⟨rfl, R2, M'.fr.tr F2⟩
  · intro i hi K
    have en : (nI i).toNatClampNeg = i := nI_clamp (by omega)
    -- behind the letter
    have t103 : ∀ (h2 : Hp) (m3 m4 : Int32), MidE k h h2 (fun l => if l < i + 1 then mgF f a b l else f l) (fun l => if l < i + 1 then mgS f s a b l else s l) → m3 = orF (fun l => if f l = b then sh1 l else 0) (i + 1) → m4 = orF (mgM f s a b) (i + 1) → ∀ x6 : Int32, AW g mmX2_mergeClasses Z 103 [(0, some (.ref k)), (1, some (.int (nI a))), (2, some (.int (nI b))), (3, some (.int m3)), (4, some (.int m4)), (5, some (.int (nI i))), (6, some (.int x6))] [] h2 := by
      rintro h2 m3 m4 M2 rfl rfl x6
      first | refine am_iincN (n := 106) dX2_mergeClasses_103 rfl rfl rfl ?_ | refine am_iinc1 (n := 106) dX2_mergeClasses_103 rfl rfl rfl ?_
      refine am_goto (tgt := 8) dX2_mergeClasses_106 (by decide) ?_
      exact am_loc _ rfl (K h2 M2)
    -- from 72 on: the second class is moved
    have t72 : ∀ (h2 : Hp) (m3 : Int32), MidE k h h2 (fun l => if l < i + 1 then mgF f a b l else f l) (fun l => if l < i then mgS f s a b l else if l = i then mgS1 s a b l else s l) → m3 = orF (fun l => if f l = b then sh1 l else 0) (i + 1) → AW g mmX2_mergeClasses Z 72 [(0, some (.ref k)), (1, some (.int (nI a))), (2, some (.int (nI b))), (3, some (.int m3)), (4, some (.int (orF (mgM f s a b) i))), (5, some (.int (nI i))), (6, some (.int (bI (decide (s i = b + 1)))))] [] h2 := by
      intro h2 m3 M2 h3
      have g1 := M2.2.2 i hi
      simp only [if_pos (Nat.lt_succ_self i), if_neg (Nat.lt_irrefl i), if_true] at g1
      have v1 : mgF f a b i ≤ 9 := by have := hVf i hi; unfold mgF; split <;> omega
      have v2 : mgS1 s a b i ≤ 10 := by have := hVs i hi; unfold mgS1; split <;> omega
      have M3 : MidE k h (if h2.1 (k + 2) i = h2.1 (k + 1) i then setI h2 (k + 2) (upd (h2.1 (k + 2)) i (-6)) else h2) (fun l => if l < i + 1 then mgF f a b l else f l) (fun l => if l < i + 1 then mgS f s a b l else s l) := by
        by_cases z : h2.1 (k + 2) i = h2.1 (k + 1) i
        · rw [if_pos z]
          rw [g1.1, g1.2, sec_eq v2 v1] at z
          refine (M2.S (i := i) (v := 0)).to (fun l hl => ⟨rfl, ?_⟩)
          by_cases q : l = i
          · subst q
            rw [upN_s, if_pos (Nat.lt_succ_self _)]
            unfold mgS
            rw [if_pos z]
          · rw [upN_n _ _ q]
            by_cases q2 : l < i
            · rw [if_pos q2, if_pos (by omega)]
            · rw [if_neg q2, if_neg q, if_neg (by omega)]
        · rw [if_neg z]
          rw [g1.1, g1.2, sec_eq v2 v1] at z
          refine M2.to (fun l hl => ⟨rfl, ?_⟩)
          by_cases q : l = i
          · subst q
            rw [if_neg (Nat.lt_irrefl _), if_pos rfl, if_pos (Nat.lt_succ_self _)]
            unfold mgS
            rw [if_neg z]
          · by_cases q2 : l < i
            · rw [if_pos q2, if_pos (by omega)]
            · rw [if_neg q2, if_neg q, if_neg (by omega)]
      refine am_aload_n (n := 73) (i := 0) dX2_mergeClasses_72 rfl rfl rfl ?_
      refine am_iload (n := 75) dX2_mergeClasses_73 rfl rfl ?_
      refine cdX2_mergeClasses_49 (n := 78) dX2_mergeClasses_75 z0 (ac_X2_loseSameSecond g k i h2 hk' hi) rfl rfl (Nat.le_of_ble_eq_true rfl) (by first | assumption | exact isC_of (by decide +kernel)) rfl ?_
      revert M3
      generalize (if h2.1 (k + 2) i = h2.1 (k + 1) i then setI h2 (k + 2) (upd (h2.1 (k + 2)) i (-6)) else h2) = h4
      intro M3
      have g4 := (M3.2.2 i hi).2
      simp only [if_pos (Nat.lt_succ_self i)] at g4
      have v3 : mgS f s a b i ≤ 10 := by unfold mgS; split <;> omega
      have em : orF (mgM f s a b) (i + 1) = orF (mgM f s a b) i ||| mgM f s a b i := rfl
      refine am_iload (n := 80) dX2_mergeClasses_78 rfl rfl ?_
      by_cases hs : s i = b + 1
      · refine am_if_eq (tgt := 103) (n := 83) dX2_mergeClasses_80 (by decide) rfl (fun q => absurd q (by rw [bI_t (decide_eq_true hs)]; decide)) (fun _ => ?_)
        refine am_aload_n (n := 84) (i := 0) dX2_mergeClasses_83 rfl rfl rfl ?_
        refine gfX2_mergeClasses_15 (n := 87) dX2_mergeClasses_84 (by first | assumption | exact isC_of (by decide +kernel)) rfl ?_
        refine am_iload (n := 89) dX2_mergeClasses_87 rfl rfl ?_
        refine am_iald (n := 90) dX2_mergeClasses_89 (by first | assumption | exact isC_of (by decide +kernel)) (by first | assumption | exact vp_in_nI (by omega) (by omega) | decide) rfl ?_
        refine am_iload_n (n := 91) (i := 1) dX2_mergeClasses_90 rfl rfl rfl ?_
        rw [en, g4]
        have e1 : mgS1 s a b i = a + 1 := by unfold mgS1; rw [if_pos hs]
        refine am_icmp_ne (tgt := 103) (n := 94) dX2_mergeClasses_91 (by decide) rfl (fun c_91 => ?_) (fun c_91 => ?_)
        · have hz : mgF f a b i = a := by
            rw [sec_eq v3 ha] at c_91
            unfold mgS at c_91
            rw [e1] at c_91
            by_cases q : a + 1 = mgF f a b i + 1
            · omega
            · rw [if_neg q] at c_91
              exact absurd rfl c_91
          refine am_loc _ rfl (t103 h4 m3 (orF (mgM f s a b) i) M3 h3 (by rw [em]; unfold mgM; rw [if_neg (fun q => q.2 hz), or_0]) _)
        · have hz : ¬ mgF f a b i = a := by
            rw [sec_eq v3 ha] at c_91
            unfold mgS at c_91
            rw [e1] at c_91
            intro q
            rw [if_pos (by omega)] at c_91
            omega
          refine am_iload (n := 96) dX2_mergeClasses_94 rfl rfl ?_
          refine am_iconst (n := 97) (v := 1) dX2_mergeClasses_96 rfl rfl ?_
          refine am_iload (n := 99) dX2_mergeClasses_97 rfl rfl ?_
          refine am_ishl (n := 100) dX2_mergeClasses_99 rfl ?_
          refine am_ior (n := 101) dX2_mergeClasses_100 rfl ?_
          refine am_istore (n := 103) dX2_mergeClasses_101 (Nat.le_of_ble_eq_true rfl) rfl rfl ?_
          refine am_loc _ rfl (t103 h4 m3 _ M3 h3 (by rw [em]; unfold mgM; rw [if_pos ⟨hs, hz⟩]; rfl) _)
      · refine am_if_eq (tgt := 103) (n := 83) dX2_mergeClasses_80 (by decide) rfl (fun _ => ?_) (fun q => absurd (by rw [bI_f (decide_eq_false hs)]) q)
        refine am_loc _ rfl (t103 h4 m3 (orF (mgM f s a b) i) M3 h3 (by rw [em]; unfold mgM; rw [if_neg (fun q => hs q.1), or_0]) _)
    -- from 41 on: the class is moved
    have t41 : ∀ (h2 : Hp) (m3 : Int32), MidE k h h2 (fun l => if l < i + 1 then mgF f a b l else f l) (fun l => if l < i then mgS f s a b l else s l) → m3 = orF (fun l => if f l = b then sh1 l else 0) (i + 1) → AW g mmX2_mergeClasses Z 41 [(0, some (.ref k)), (1, some (.int (nI a))), (2, some (.int (nI b))), (3, some (.int m3)), (4, some (.int (orF (mgM f s a b) i))), (5, some (.int (nI i)))] [] h2 := by
      intro h2 m3 M2 h3
      have g1 := (M2.2.2 i hi).2
      simp only [if_neg (Nat.lt_irrefl i)] at g1
      refine am_aload_n (n := 42) (i := 0) dX2_mergeClasses_41 rfl rfl rfl ?_
      refine gfX2_mergeClasses_15 (n := 45) dX2_mergeClasses_42 (by first | assumption | exact isC_of (by decide +kernel)) rfl ?_
      refine am_iload (n := 47) dX2_mergeClasses_45 rfl rfl ?_
      refine am_iald (n := 48) dX2_mergeClasses_47 (by first | assumption | exact isC_of (by decide +kernel)) (by first | assumption | exact vp_in_nI (by omega) (by omega) | decide) rfl ?_
      refine am_iload_n (n := 49) (i := 2) dX2_mergeClasses_48 rfl rfl rfl ?_
      rw [en, g1]
      by_cases hs : s i = b + 1
      · refine am_icmp_ne (tgt := 56) (n := 52) dX2_mergeClasses_49 (by decide) rfl (fun q => absurd ((sec_eq (hVs i hi) hb).mpr hs) q) (fun _ => ?_)
        refine am_iconst (n := 53) (v := 1) dX2_mergeClasses_52 rfl rfl ?_
        refine am_goto (tgt := 57) dX2_mergeClasses_53 (by decide) ?_
        refine am_istore (n := 59) dX2_mergeClasses_57 (Nat.le_of_ble_eq_true rfl) rfl rfl ?_
        refine am_iload (n := 61) dX2_mergeClasses_59 rfl rfl ?_
        refine am_if_eq (tgt := 72) (n := 64) dX2_mergeClasses_61 (by decide) rfl (fun q => absurd q (by decide)) (fun _ => ?_)
        refine am_aload_n (n := 65) (i := 0) dX2_mergeClasses_64 rfl rfl rfl ?_
        refine gfX2_mergeClasses_15 (n := 68) dX2_mergeClasses_65 (by first | assumption | exact isC_of (by decide +kernel)) rfl ?_
        refine am_iload (n := 70) dX2_mergeClasses_68 rfl rfl ?_
        refine am_iload_n (n := 71) (i := 1) dX2_mergeClasses_70 rfl rfl rfl ?_
        refine am_iast (n := 72) dX2_mergeClasses_71 (by first | assumption | exact isC_of (by decide +kernel)) (by first | assumption | exact vp_in_nI (by omega) (by omega) | decide) rfl ?_
        rw [en]
        have M3 := (M2.S (i := i) (v := a + 1)).to (F' := fun l => if l < i + 1 then mgF f a b l else f l) (S' := fun l => if l < i then mgS f s a b l else if l = i then mgS1 s a b l else s l) (fun l hl => ⟨rfl, by
          by_cases q : l = i
          · subst q
            rw [upN_s, if_neg (Nat.lt_irrefl _), if_pos rfl]
            unfold mgS1
            rw [if_pos hs]
          · rw [upN_n _ _ q, if_neg q]⟩)
        rw [show sec (a + 1) = nI a from sec_nI (Nat.succ_pos a)] at M3
        have e6 : bI (decide (s i = b + 1)) = 1 := bI_t (decide_eq_true hs)
        have := t72 _ m3 M3 h3
        rw [e6] at this
        exact am_loc _ rfl this
      · refine am_icmp_ne (tgt := 56) (n := 52) dX2_mergeClasses_49 (by decide) rfl (fun _ => ?_) (fun q => absurd q (fun q => hs ((sec_eq (hVs i hi) hb).mp q)))
        refine am_iconst (n := 57) (v := 0) dX2_mergeClasses_56 rfl rfl ?_
        refine am_istore (n := 59) dX2_mergeClasses_57 (Nat.le_of_ble_eq_true rfl) rfl rfl ?_
        refine am_iload (n := 61) dX2_mergeClasses_59 rfl rfl ?_
        refine am_if_eq (tgt := 72) (n := 64) dX2_mergeClasses_61 (by decide) rfl (fun _ => ?_) (fun q => absurd rfl q)
        have M3 := M2.to (F' := fun l => if l < i + 1 then mgF f a b l else f l) (S' := fun l => if l < i then mgS f s a b l else if l = i then mgS1 s a b l else s l) (fun l hl => ⟨rfl, by
          by_cases q : l = i
          · subst q
            rw [if_neg (Nat.lt_irrefl _), if_neg (Nat.lt_irrefl _), if_pos rfl]
            unfold mgS1
            rw [if_neg hs]
          · rw [if_neg q]⟩)
        have e6 : bI (decide (s i = b + 1)) = 0 := bI_f (decide_eq_false hs)
        have := t72 _ m3 M3 h3
        rw [e6] at this
        exact am_loc _ rfl this
    intro h1 M
    have g1 := (M.2.2 i hi).1
    simp only [if_neg (Nat.lt_irrefl i)] at g1
    have eo : orF (fun l => if f l = b then sh1 l else 0) (i + 1) = orF (fun l => if f l = b then sh1 l else 0) i ||| (if f i = b then sh1 i else 0) := rfl
    refine am_iload (n := 10) dX2_mergeClasses_8 rfl rfl ?_
    refine am_bipush (n := 12) (v := 26) dX2_mergeClasses_10 rfl rfl ?_
    refine am_icmp_ge (tgt := 109) (n := 15) dX2_mergeClasses_12 (by decide) rfl (fun q => absurd q (nI_ge hi (by decide))) (fun _ => ?_)
    refine am_aload_n (n := 16) (i := 0) dX2_mergeClasses_15 rfl rfl rfl ?_
    refine gfX2_mergeClasses_9 (n := 19) dX2_mergeClasses_16 (by first | assumption | exact isC_of (by decide +kernel)) rfl ?_
    refine am_iload (n := 21) dX2_mergeClasses_19 rfl rfl ?_
    refine am_iald (n := 22) dX2_mergeClasses_21 (by first | assumption | exact isC_of (by decide +kernel)) (by first | assumption | exact vp_in_nI (by omega) (by omega) | decide) rfl ?_
    refine am_iload_n (n := 23) (i := 2) dX2_mergeClasses_22 rfl rfl rfl ?_
    rw [en, g1]
    have hfi := hVf i hi
    by_cases hf : f i = b
    · refine am_icmp_ne (tgt := 41) (n := 26) dX2_mergeClasses_23 (by decide) rfl (fun q => absurd (congrArg nI hf) q) (fun _ => ?_)
      refine am_aload_n (n := 27) (i := 0) dX2_mergeClasses_26 rfl rfl rfl ?_
      refine gfX2_mergeClasses_9 (n := 30) dX2_mergeClasses_27 (by first | assumption | exact isC_of (by decide +kernel)) rfl ?_
      refine am_iload (n := 32) dX2_mergeClasses_30 rfl rfl ?_
      refine am_iload_n (n := 33) (i := 1) dX2_mergeClasses_32 rfl rfl rfl ?_
      refine am_iast (n := 34) dX2_mergeClasses_33 (by first | assumption | exact isC_of (by decide +kernel)) (by first | assumption | exact vp_in_nI (by omega) (by omega) | decide) rfl ?_
      refine am_iload_n (n := 35) (i := 3) dX2_mergeClasses_34 rfl rfl rfl ?_
      refine am_iconst (n := 36) (v := 1) dX2_mergeClasses_35 rfl rfl ?_
      refine am_iload (n := 38) dX2_mergeClasses_36 rfl rfl ?_
      refine am_ishl (n := 39) dX2_mergeClasses_38 rfl ?_
      refine am_ior (n := 40) dX2_mergeClasses_39 rfl ?_
      refine am_istore_n (n := 41) (i := 3) dX2_mergeClasses_40 rfl (Nat.le_of_ble_eq_true rfl) rfl rfl ?_
      rw [en]
      have M3 := (M.F (i := i) (a := a)).to (F' := fun l => if l < i + 1 then mgF f a b l else f l) (S' := fun l => if l < i then mgS f s a b l else s l) (fun l hl => ⟨by
        by_cases q : l = i
        · subst q
          rw [upN_s, if_pos (Nat.lt_succ_self _)]
          unfold mgF
          rw [if_pos hf]
        · rw [upN_n _ _ q]
          by_cases q2 : l < i
          · rw [if_pos q2, if_pos (by omega)]
          · rw [if_neg q2, if_neg (by omega)], rfl⟩)
      exact am_loc _ rfl (t41 _ _ M3 (by rw [eo, if_pos hf]; rfl))
    · refine am_icmp_ne (tgt := 41) (n := 26) dX2_mergeClasses_23 (by decide) rfl (fun _ => ?_) (fun q => absurd q (fun q => hf ((nI_eq (by omega) (by omega)).mp q)))
      have M3 := M.to (F' := fun l => if l < i + 1 then mgF f a b l else f l) (S' := fun l => if l < i then mgS f s a b l else s l) (fun l hl => ⟨by
        by_cases q : l = i
        · subst q
          rw [if_neg (Nat.lt_irrefl _), if_pos (Nat.lt_succ_self _)]
          unfold mgF
          rw [if_neg hf]
        · by_cases q2 : l < i
          · rw [if_pos q2, if_pos (by omega)]
          · rw [if_neg q2, if_neg (by omega)], rfl⟩)
      exact am_loc _ rfl (t41 _ _ M3 (by rw [eo, if_neg hf, or_0]))
