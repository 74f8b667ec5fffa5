/-! Ear: split -/
set_option maxRecDepth 100000 in
set_option maxHeartbeats 16000000 in
theorem ac_X2_splitLatest (g : Gx) (k : Nat) (f s : Nat → Nat) (hab : Nat) (ms : List (Nat × Nat × Int32 × Int32)) (q : Nat × Nat × Int32 × Int32) (h : Hp) (hk : isEar k) (hE : RE k (f, s, hab, ms ++ [q]) h) (hV : VE (f, s, hab, ms ++ [q])) : AC g yX2_splitLatest wsX2_splitLatest rmX2_splitLatest [.ref k] h (fun r h' => r = some (.int (nI q.2.1)) ∧ RE k (splitE (f, s, hab, ms ++ [q]) q ms) h' ∧ FrI k (k + 6) h h') := by
  have hk' := hk
  obtain ⟨k0, k1, k2, k3, k4, k5, k6⟩ := hk
  have hVf : ∀ l, l < 26 → f l ≤ 9 := fun l hl => (hV.1 l hl).1
  have hVs : ∀ l, l < 26 → s l ≤ 10 := fun l hl => (hV.1 l hl).2.1
  have hlen : ms.length + 1 ≤ 6 := by
    have := hV.2.2.1
    rw [List.length_append] at this
    exact this
  have hq := hV.2.2.2 q (List.mem_append_right _ List.mem_cons_self)
  obtain ⟨a, b, mf, mm⟩ := q
  have ha : a ≤ 9 := hq.1
  have hb : b ≤ 9 := hq.2
  have hm : h.1 k 3 = nI (ms.length + 1) := by
    have := hE.2.2.1
    rw [List.length_append] at this
    exact this
  obtain ⟨g1, g2, g3, g4⟩ := hE.2.2.2 ms.length (a, b, mf, mm) (by rw [List.getElem?_append_right (Nat.le_refl _), Nat.sub_self]; rfl)
  have enl : (nI ms.length).toNatClampNeg = ms.length := nI_clamp (by omega)
  refine AC.of (cc := cX2_splitLatest) (maxL := 5) (ret := (some .int)) (by decide +kernel) rfl (Nat.le_of_ble_eq_true rfl) ?_
  show AW g mmX2_splitLatest _ 0 [(0, some (.ref k))] [] _
  refine am_aload_n (n := 1) (i := 0) dX2_splitLatest_0 rfl rfl rfl ?_
  refine gfX2_splitLatest_40 (n := 4) dX2_splitLatest_1 (by first | assumption | exact isC_of (by decide +kernel)) rfl ?_
  rw [hm]
  refine am_if_le (tgt := 16) (n := 7) dX2_splitLatest_4 (by decide) rfl (fun q => absurd q (nI_nle (Nat.succ_pos _) (by omega))) (fun _ => ?_)
  refine am_aload_n (n := 8) (i := 0) dX2_splitLatest_7 rfl rfl rfl ?_
  refine gfX2_splitLatest_40 (n := 11) dX2_splitLatest_8 (by first | assumption | exact isC_of (by decide +kernel)) rfl ?_
  refine am_bipush (n := 13) (v := 6) dX2_splitLatest_11 rfl rfl ?_
  rw [hm]
  refine am_icmp_le (tgt := 19) (n := 16) dX2_splitLatest_13 (by decide) rfl (fun _ => ?_) (fun q => absurd (nI_le (show ms.length + 1 ≤ 6 by omega) (by decide)) q)
  refine am_aload_n (n := 20) (i := 0) dX2_splitLatest_19 rfl rfl rfl ?_
  refine am_dup (n := 21) dX2_splitLatest_20 rfl rfl ?_
  refine gfX2_splitLatest_40 (n := 24) dX2_splitLatest_21 (by first | assumption | exact isC_of (by decide +kernel)) rfl ?_
  refine am_iconst (n := 25) (v := 1) dX2_splitLatest_24 rfl rfl ?_
  rw [hm]
  refine am_isub (n := 26) dX2_splitLatest_25 rfl ?_
  rw [nI_pred]
  refine pfX2_splitLatest_40 (n := 29) dX2_splitLatest_26 (by first | assumption | exact isC_of (by decide +kernel)) rfl ?_
  refine am_aload_n (n := 30) (i := 0) dX2_splitLatest_29 rfl rfl rfl ?_
  refine gfX2_splitLatest_18 (n := 33) dX2_splitLatest_30 (by first | assumption | exact isC_of (by decide +kernel)) rfl ?_
  refine am_aload_n (n := 34) (i := 0) dX2_splitLatest_33 rfl rfl rfl ?_
  refine gfX2_splitLatest_40 (n := 37) dX2_splitLatest_34 (by first | assumption | exact isC_of (by decide +kernel)) rfl ?_
  simp only [setI_s, pk_us]
  refine am_abs (fun hB => RE k (f, s, hab, ms) hB ∧ FrI k (k + 6) h hB ∧ hB.1 (k + 3) = h.1 (k + 3) ∧ hB.1 (k + 4) = h.1 (k + 4) ∧ hB.1 (k + 5) = h.1 (k + 5) ∧ hB.1 (k + 6) = h.1 (k + 6)) ⟨⟨fun l hl => ?_, ?_, ?_, fun j x hj => ?_⟩, FrI.rf.set _ (by omega) (by omega), ?_, ?_, ?_, ?_⟩ ?_
  · simp (disch := omega) only [setI_n]
    exact hE.1 l hl
  · simp (disch := omega) only [setI_s, pk_un]
    exact hE.2.1
  · simp (disch := omega) only [setI_s, pk_us]
  · simp (disch := omega) only [setI_n]
    have hj' : ms[j]? = some x := hj
    have hjl := (List.getElem?_eq_some_iff.mp hj').1
    exact hE.2.2.2 j x (by rw [List.getElem?_append_left hjl]; exact hj')
  · simp (disch := omega) only [setI_n]
  · simp (disch := omega) only [setI_n]
  · simp (disch := omega) only [setI_n]
  · simp (disch := omega) only [setI_n]
  rintro hB ⟨RB, FB, e3, e4, e5, e6⟩
  have hmB : hB.1 k 3 = nI ms.length := RB.2.2.1
  refine am_iald (n := 38) dX2_splitLatest_37 (by first | assumption | exact isC_of (by decide +kernel)) (by first | assumption | exact vp_in_nI (by omega) (by omega) | decide) rfl ?_
  rw [enl, e3, g1]
  refine am_istore_n (n := 39) (i := 1) dX2_splitLatest_38 rfl (Nat.le_of_ble_eq_true rfl) rfl rfl ?_
  refine am_aload_n (n := 40) (i := 0) dX2_splitLatest_39 rfl rfl rfl ?_
  refine gfX2_splitLatest_21 (n := 43) dX2_splitLatest_40 (by first | assumption | exact isC_of (by decide +kernel)) rfl ?_
  refine am_aload_n (n := 44) (i := 0) dX2_splitLatest_43 rfl rfl rfl ?_
  refine gfX2_splitLatest_40 (n := 47) dX2_splitLatest_44 (by first | assumption | exact isC_of (by decide +kernel)) rfl ?_
  rw [hmB]
  refine am_iald (n := 48) dX2_splitLatest_47 (by first | assumption | exact isC_of (by decide +kernel)) (by first | assumption | exact vp_in_nI (by omega) (by omega) | decide) rfl ?_
  rw [enl, e4, g2]
  refine am_istore_n (n := 49) (i := 2) dX2_splitLatest_48 rfl (Nat.le_of_ble_eq_true rfl) rfl rfl ?_
  refine am_iconst (n := 50) (v := 0) dX2_splitLatest_49 rfl rfl ?_
  refine am_istore_n (n := 51) (i := 3) dX2_splitLatest_50 rfl (Nat.le_of_ble_eq_true rfl) rfl rfl ?_
  refine am_loc [(0, some (.ref k)), (1, some (.int (nI a))), (2, some (.int (nI b))), (3, some (.int (nI 0)))] rfl ?_
  generalize hZ : ZP g (fun r h' => r = some (.int (nI b)) ∧ RE k (splitE (f, s, hab, ms ++ [(a, b, mf, mm)]) (a, b, mf, mm) ms) h' ∧ FrI k (k + 6) h h') = Z
  have z0 : Z.1 = 0 ∧ Z.2.1 = 0 := by rw [← hZ]; exact ⟨rfl, rfl⟩
  refine loop_up (Wp := fun i => ∀ h1 : Hp, MidE k hB h1 (fun l => if l < i then spF (a, b, mf, mm) f l else f l) (fun l => if l < i then spS (a, b, mf, mm) f s l else s l) → AW g mmX2_splitLatest Z 51 [(0, some (.ref k)), (1, some (.int (nI a))), (2, some (.int (nI b))), (3, some (.int (nI i)))] [] h1) 26 ?_ ?_ 0 (by omega) hB ((MidE.of RB).to (fun l hl => ⟨by rw [if_neg (by omega)], by rw [if_neg (by omega)]⟩))
  · intro h1 M
    have M' : MidE k hB h1 (spF (a, b, mf, mm) f) (spS (a, b, mf, mm) f s) := M.to (fun l hl => ⟨if_pos hl, if_pos hl⟩)
    refine am_iload_n (n := 52) (i := 3) dX2_splitLatest_51 rfl rfl rfl ?_
    refine am_bipush (n := 54) (v := 26) dX2_splitLatest_52 rfl rfl ?_
    refine am_icmp_ge (tgt := 137) (n := 57) dX2_splitLatest_54 (by decide) rfl (fun _ => ?_) (fun q => absurd (by decide) q)
    rw [← hZ]
    refine am_iload_n (n := 138) (i := 2) dX2_splitLatest_137 rfl rfl rfl ?_
    refine am_iret dX2_splitLatest_138 rfl rfl ?_
    exact ⟨rfl, M'.re RB, FB.tr M'.fr⟩
  · intro i hi K
    have en : (nI i).toNatClampNeg = i := nI_clamp (by omega)
    have t126 : ∀ (h2 : Hp) (x4 : Int32), MidE k hB h2 (fun l => if l < i + 1 then spF (a, b, mf, mm) f l else f l) (fun l => if l < i then spS (a, b, mf, mm) f s l else if l = i then spS1 (a, b, mf, mm) s l else s l) → AW g mmX2_splitLatest Z 126 [(0, some (.ref k)), (1, some (.int (nI a))), (2, some (.int (nI b))), (3, some (.int (nI i))), (4, some (.int x4))] [] h2 := by
      intro h2 x4 M2
      have g1 := M2.2.2 i hi
      simp only [if_pos (Nat.lt_succ_self i), if_neg (Nat.lt_irrefl i), if_true] at g1
      have v1 : spF (a, b, mf, mm) f i ≤ 9 := by have := hVf i hi; unfold spF; split <;> omega
      have v2 : spS1 (a, b, mf, mm) s i ≤ 10 := by have := hVs i hi; unfold spS1; split <;> omega
      have M3 : MidE k hB (if h2.1 (k + 2) i = h2.1 (k + 1) i then setI h2 (k + 2) (upd (h2.1 (k + 2)) i (-6)) else h2) (fun l => if l < i + 1 then spF (a, b, mf, mm) f l else f l) (fun l => if l < i + 1 then spS (a, b, mf, mm) f s l else s l) := by
        by_cases z : h2.1 (k + 2) i = h2.1 (k + 1) i
        · rw [if_pos z]
          rw [g1.1, g1.2, sec_eq v2 v1] at z
          refine (M2.S (i := i) (v := 0)).to (fun l hl => ⟨rfl, ?_⟩)
          by_cases q : l = i
          · subst q
            rw [upN_s, if_pos (Nat.lt_succ_self _)]
            unfold spS
            rw [if_pos z]
          · rw [upN_n _ _ q]
            by_cases q2 : l < i
            · rw [if_pos q2, if_pos (by omega)]
            · rw [if_neg q2, if_neg q, if_neg (by omega)]
        · rw [if_neg z]
          rw [g1.1, g1.2, sec_eq v2 v1] at z
          refine M2.to (fun l hl => ⟨rfl, ?_⟩)
          by_cases q : l = i
          · subst q
            rw [if_neg (Nat.lt_irrefl _), if_pos rfl, if_pos (Nat.lt_succ_self _)]
            unfold spS
            rw [if_neg z]
          · by_cases q2 : l < i
            · rw [if_pos q2, if_pos (by omega)]
            · rw [if_neg q2, if_neg q, if_neg (by omega)]
      refine am_aload_n (n := 127) (i := 0) dX2_splitLatest_126 rfl rfl rfl ?_
      refine am_iload_n (n := 128) (i := 3) dX2_splitLatest_127 rfl rfl rfl ?_
      refine cdX2_splitLatest_49 (n := 131) dX2_splitLatest_128 z0 (ac_X2_loseSameSecond g k i h2 hk' hi) rfl rfl (Nat.le_of_ble_eq_true rfl) (by first | assumption | exact isC_of (by decide +kernel)) rfl ?_
      first | refine am_iincN (n := 134) dX2_splitLatest_131 rfl rfl rfl ?_ | refine am_iinc1 (n := 134) dX2_splitLatest_131 rfl rfl rfl ?_
      refine am_goto (tgt := 51) dX2_splitLatest_134 (by decide) ?_
      exact am_loc _ rfl (K _ M3)
    have t94 : ∀ (h2 : Hp), MidE k hB h2 (fun l => if l < i + 1 then spF (a, b, mf, mm) f l else f l) (fun l => if l < i then spS (a, b, mf, mm) f s l else s l) → AW g mmX2_splitLatest Z 94 [(0, some (.ref k)), (1, some (.int (nI a))), (2, some (.int (nI b))), (3, some (.int (nI i))), (4, some (.int (sh1 i)))] [] h2 := by
      intro h2 M2
      have m3 : h2.1 k 3 = nI ms.length := by rw [M2.1 k (by omega) (by omega)]; exact hmB
      have m6 : h2.1 (k + 6) ms.length = mm := by rw [M2.1 (k + 6) (by omega) (by omega), e6]; exact g4
      have g1 := (M2.2.2 i hi).2
      simp only [if_neg (Nat.lt_irrefl i)] at g1
      have no : ¬ (bt mm i = true ∧ s i = a + 1) → AW g mmX2_splitLatest Z 126 [(0, some (.ref k)), (1, some (.int (nI a))), (2, some (.int (nI b))), (3, some (.int (nI i))), (4, some (.int (sh1 i)))] [] h2 := fun hn => t126 h2 _ (M2.to (fun l hl => ⟨rfl, by
          by_cases q : l = i
          · subst q
            rw [if_neg (Nat.lt_irrefl _), if_neg (Nat.lt_irrefl _), if_pos rfl]
            unfold spS1
            rw [if_neg hn]
          · rw [if_neg q]⟩))
      refine am_aload_n (n := 95) (i := 0) dX2_splitLatest_94 rfl rfl rfl ?_
      refine gfX2_splitLatest_27 (n := 98) dX2_splitLatest_95 (by first | assumption | exact isC_of (by decide +kernel)) rfl ?_
      refine am_aload_n (n := 99) (i := 0) dX2_splitLatest_98 rfl rfl rfl ?_
      refine gfX2_splitLatest_40 (n := 102) dX2_splitLatest_99 (by first | assumption | exact isC_of (by decide +kernel)) rfl ?_
      rw [m3]
      refine am_iald (n := 103) dX2_splitLatest_102 (by first | assumption | exact isC_of (by decide +kernel)) (by first | assumption | exact vp_in_nI (by omega) (by omega) | decide) rfl ?_
      rw [enl, m6]
      refine am_iload (n := 105) dX2_splitLatest_103 rfl rfl ?_
      refine am_iand (n := 106) dX2_splitLatest_105 rfl ?_
      refine am_if_eq (tgt := 126) (n := 109) dX2_splitLatest_106 (by decide) rfl (fun c_106 => ?_) (fun c_106 => ?_)
      · exact no (fun q => by rw [(bt_sh1 mm i (by omega)).mp c_106] at q; exact absurd q.1 (by decide))
      · have hbit : bt mm i = true := by
          cases hx : bt mm i with
          | true => rfl
          | false => exact absurd ((bt_sh1 mm i (by omega)).mpr hx) c_106
        refine am_aload_n (n := 110) (i := 0) dX2_splitLatest_109 rfl rfl rfl ?_
        refine gfX2_splitLatest_15 (n := 113) dX2_splitLatest_110 (by first | assumption | exact isC_of (by decide +kernel)) rfl ?_
        refine am_iload_n (n := 114) (i := 3) dX2_splitLatest_113 rfl rfl rfl ?_
        refine am_iald (n := 115) dX2_splitLatest_114 (by first | assumption | exact isC_of (by decide +kernel)) (by first | assumption | exact vp_in_nI (by omega) (by omega) | decide) rfl ?_
        refine am_iload_n (n := 116) (i := 1) dX2_splitLatest_115 rfl rfl rfl ?_
        rw [en, g1]
        by_cases hs : s i = a + 1
        · refine am_icmp_ne (tgt := 126) (n := 119) dX2_splitLatest_116 (by decide) rfl (fun q => absurd ((sec_eq (hVs i hi) ha).mpr hs) q) (fun _ => ?_)
          refine am_aload_n (n := 120) (i := 0) dX2_splitLatest_119 rfl rfl rfl ?_
          refine gfX2_splitLatest_15 (n := 123) dX2_splitLatest_120 (by first | assumption | exact isC_of (by decide +kernel)) rfl ?_
          refine am_iload_n (n := 124) (i := 3) dX2_splitLatest_123 rfl rfl rfl ?_
          refine am_iload_n (n := 125) (i := 2) dX2_splitLatest_124 rfl rfl rfl ?_
          refine am_iast (n := 126) dX2_splitLatest_125 (by first | assumption | exact isC_of (by decide +kernel)) (by first | assumption | exact vp_in_nI (by omega) (by omega) | decide) rfl ?_
          rw [en]
          have M3 := (M2.S (i := i) (v := b + 1)).to (F' := fun l => if l < i + 1 then spF (a, b, mf, mm) f l else f l) (S' := fun l => if l < i then spS (a, b, mf, mm) f s l else if l = i then spS1 (a, b, mf, mm) s l else s l) (fun l hl => ⟨rfl, by
            by_cases q : l = i
            · subst q
              rw [upN_s, if_neg (Nat.lt_irrefl _), if_pos rfl]
              unfold spS1
              rw [if_pos ⟨hbit, hs⟩]
            · rw [upN_n _ _ q, if_neg q]⟩)
          rw [show sec (b + 1) = nI b from sec_nI (Nat.succ_pos b)] at M3
          exact t126 _ _ M3
        · refine am_icmp_ne (tgt := 126) (n := 119) dX2_splitLatest_116 (by decide) rfl (fun _ => ?_) (fun q => absurd q (fun q => hs ((sec_eq (hVs i hi) ha).mp q)))
          exact no (fun q => hs q.2)
    intro h1 M
    have m3 : h1.1 k 3 = nI ms.length := by rw [M.1 k (by omega) (by omega)]; exact hmB
    have m5 : h1.1 (k + 5) ms.length = mf := by rw [M.1 (k + 5) (by omega) (by omega), e5]; exact g3
    have g1 := (M.2.2 i hi).1
    simp only [if_neg (Nat.lt_irrefl i)] at g1
    have no : ¬ (bt mf i = true ∧ f i = a) → AW g mmX2_splitLatest Z 94 [(0, some (.ref k)), (1, some (.int (nI a))), (2, some (.int (nI b))), (3, some (.int (nI i))), (4, some (.int (sh1 i)))] [] h1 := fun hn => t94 h1 (M.to (fun l hl => ⟨by
        by_cases q : l = i
        · subst q
          rw [if_neg (Nat.lt_irrefl _), if_pos (Nat.lt_succ_self _)]
          unfold spF
          rw [if_neg hn]
        · by_cases q2 : l < i
          · rw [if_pos q2, if_pos (by omega)]
          · rw [if_neg q2, if_neg (by omega)], rfl⟩))
    refine am_iload_n (n := 52) (i := 3) dX2_splitLatest_51 rfl rfl rfl ?_
    refine am_bipush (n := 54) (v := 26) dX2_splitLatest_52 rfl rfl ?_
    refine am_icmp_ge (tgt := 137) (n := 57) dX2_splitLatest_54 (by decide) rfl (fun q => absurd q (nI_ge hi (by decide))) (fun _ => ?_)
    refine am_iconst (n := 58) (v := 1) dX2_splitLatest_57 rfl rfl ?_
    refine am_iload_n (n := 59) (i := 3) dX2_splitLatest_58 rfl rfl rfl ?_
    refine am_ishl (n := 60) dX2_splitLatest_59 rfl ?_
    refine am_istore (n := 62) dX2_splitLatest_60 (Nat.le_of_ble_eq_true rfl) rfl rfl ?_
    refine am_aload_n (n := 63) (i := 0) dX2_splitLatest_62 rfl rfl rfl ?_
    refine gfX2_splitLatest_24 (n := 66) dX2_splitLatest_63 (by first | assumption | exact isC_of (by decide +kernel)) rfl ?_
    refine am_aload_n (n := 67) (i := 0) dX2_splitLatest_66 rfl rfl rfl ?_
    refine gfX2_splitLatest_40 (n := 70) dX2_splitLatest_67 (by first | assumption | exact isC_of (by decide +kernel)) rfl ?_
    rw [m3]
    refine am_iald (n := 71) dX2_splitLatest_70 (by first | assumption | exact isC_of (by decide +kernel)) (by first | assumption | exact vp_in_nI (by omega) (by omega) | decide) rfl ?_
    rw [enl, m5]
    refine am_iload (n := 73) dX2_splitLatest_71 rfl rfl ?_
    refine am_iand (n := 74) dX2_splitLatest_73 rfl ?_
    refine am_if_eq (tgt := 94) (n := 77) dX2_splitLatest_74 (by decide) rfl (fun c_74 => ?_) (fun c_74 => ?_)
    · exact am_loc _ rfl (no (fun q => by rw [(bt_sh1 mf i (by omega)).mp c_74] at q; exact absurd q.1 (by decide)))
    · have hbit : bt mf i = true := by
        cases hx : bt mf i with
        | true => rfl
        | false => exact absurd ((bt_sh1 mf i (by omega)).mpr hx) c_74
      refine am_aload_n (n := 78) (i := 0) dX2_splitLatest_77 rfl rfl rfl ?_
      refine gfX2_splitLatest_9 (n := 81) dX2_splitLatest_78 (by first | assumption | exact isC_of (by decide +kernel)) rfl ?_
      refine am_iload_n (n := 82) (i := 3) dX2_splitLatest_81 rfl rfl rfl ?_
      refine am_iald (n := 83) dX2_splitLatest_82 (by first | assumption | exact isC_of (by decide +kernel)) (by first | assumption | exact vp_in_nI (by omega) (by omega) | decide) rfl ?_
      refine am_iload_n (n := 84) (i := 1) dX2_splitLatest_83 rfl rfl rfl ?_
      rw [en, g1]
      have hfi := hVf i hi
      by_cases hf : f i = a
      · refine am_icmp_ne (tgt := 94) (n := 87) dX2_splitLatest_84 (by decide) rfl (fun q => absurd (congrArg nI hf) q) (fun _ => ?_)
        refine am_aload_n (n := 88) (i := 0) dX2_splitLatest_87 rfl rfl rfl ?_
        refine gfX2_splitLatest_9 (n := 91) dX2_splitLatest_88 (by first | assumption | exact isC_of (by decide +kernel)) rfl ?_
        refine am_iload_n (n := 92) (i := 3) dX2_splitLatest_91 rfl rfl rfl ?_
        refine am_iload_n (n := 93) (i := 2) dX2_splitLatest_92 rfl rfl rfl ?_
        refine am_iast (n := 94) dX2_splitLatest_93 (by first | assumption | exact isC_of (by decide +kernel)) (by first | assumption | exact vp_in_nI (by omega) (by omega) | decide) rfl ?_
        rw [en]
        have M3 := (M.F (i := i) (a := b)).to (F' := fun l => if l < i + 1 then spF (a, b, mf, mm) f l else f l) (S' := fun l => if l < i then spS (a, b, mf, mm) f s l else s l) (fun l hl => ⟨by
          by_cases q : l = i
          · subst q
            rw [upN_s, if_pos (Nat.lt_succ_self _)]
            unfold spF
            rw [if_pos ⟨hbit, hf⟩]
          · rw [upN_n _ _ q]
            by_cases q2 : l < i
            · rw [if_pos q2, if_pos (by omega)]
            · rw [if_neg q2, if_neg (by omega)], rfl⟩)
        exact am_loc _ rfl (t94 _ M3)
      · refine am_icmp_ne (tgt := 94) (n := 87) dX2_splitLatest_84 (by decide) rfl (fun _ => ?_) (fun q => absurd q (fun q => hf ((nI_eq (by omega) (by omega)).mp q)))
        exact am_loc _ rfl (no (fun q => hf q.2))
