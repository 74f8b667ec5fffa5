/-! Ear: mergers -/
set_option maxRecDepth 100000 in
set_option maxHeartbeats 8000000 in
theorem ac_X2_forgetOldest (g : Gx) (k : Nat) (E : EV) (h : Hp) (hk : isEar k) (hE : RE k E h) (h6 : E.2.2.2.length = 6) : AC g yX2_forgetOldest wsX2_forgetOldest rmX2_forgetOldest [.ref k] h (fun r h' => r = none ∧ RE k (E.1, E.2.1, E.2.2.1, E.2.2.2.tail) h' ∧ FrI k (k + 6) h h') := by
  obtain ⟨k0, k1, k2, k3, k4, k5, k6⟩ := hk
  refine AC.of (cc := cX2_forgetOldest) (maxL := 1) (ret := none) (by decide +kernel) rfl (Nat.le_of_ble_eq_true rfl) ?_
  show AW g mmX2_forgetOldest _ 0 [(0, some (.ref k))] [] _
  refine am_aload_n (n := 1) (i := 0) dX2_forgetOldest_0 rfl rfl rfl ?_
  refine am_iconst (n := 2) (v := 5) dX2_forgetOldest_1 rfl rfl ?_
  refine pfX2_forgetOldest_40 (n := 5) dX2_forgetOldest_2 (by first | assumption | exact isC_of (by decide +kernel)) rfl ?_
  refine am_aload_n (n := 6) (i := 0) dX2_forgetOldest_5 rfl rfl rfl ?_
  refine gfX2_forgetOldest_18 (n := 9) dX2_forgetOldest_6 (by first | assumption | exact isC_of (by decide +kernel)) rfl ?_
  refine am_iconst (n := 10) (v := 1) dX2_forgetOldest_9 rfl rfl ?_
  refine am_aload_n (n := 11) (i := 0) dX2_forgetOldest_10 rfl rfl rfl ?_
  refine gfX2_forgetOldest_18 (n := 14) dX2_forgetOldest_11 (by first | assumption | exact isC_of (by decide +kernel)) rfl ?_
  refine am_iconst (n := 15) (v := 0) dX2_forgetOldest_14 rfl rfl ?_
  refine am_aload_n (n := 16) (i := 0) dX2_forgetOldest_15 rfl rfl rfl ?_
  refine gfX2_forgetOldest_40 (n := 19) dX2_forgetOldest_16 (by first | assumption | exact isC_of (by decide +kernel)) rfl ?_
  simp (disch := omega) only [setI_n, setI_s, pk_us]
  refine am_copyi (n := 22) dX2_forgetOldest_19 (by decide +kernel) (by decide +kernel) (by decide +kernel) (by decide +kernel) (Nat.le_of_ble_eq_true rfl) (Nat.le_of_ble_eq_true rfl) (by first | assumption | exact isC_of (by decide +kernel)) (by first | assumption | exact isC_of (by decide +kernel)) (by decide) (by decide) (by decide) (by decide) (by decide) rfl ?_
  refine am_aload_n (n := 23) (i := 0) dX2_forgetOldest_22 rfl rfl rfl ?_
  refine gfX2_forgetOldest_21 (n := 26) dX2_forgetOldest_23 (by first | assumption | exact isC_of (by decide +kernel)) rfl ?_
  refine am_iconst (n := 27) (v := 1) dX2_forgetOldest_26 rfl rfl ?_
  refine am_aload_n (n := 28) (i := 0) dX2_forgetOldest_27 rfl rfl rfl ?_
  refine gfX2_forgetOldest_21 (n := 31) dX2_forgetOldest_28 (by first | assumption | exact isC_of (by decide +kernel)) rfl ?_
  refine am_iconst (n := 32) (v := 0) dX2_forgetOldest_31 rfl rfl ?_
  refine am_aload_n (n := 33) (i := 0) dX2_forgetOldest_32 rfl rfl rfl ?_
  refine gfX2_forgetOldest_40 (n := 36) dX2_forgetOldest_33 (by first | assumption | exact isC_of (by decide +kernel)) rfl ?_
  simp (disch := omega) only [setI_n, setI_s, pk_us]
  refine am_copyi (n := 39) dX2_forgetOldest_36 (by decide +kernel) (by decide +kernel) (by decide +kernel) (by decide +kernel) (Nat.le_of_ble_eq_true rfl) (Nat.le_of_ble_eq_true rfl) (by first | assumption | exact isC_of (by decide +kernel)) (by first | assumption | exact isC_of (by decide +kernel)) (by decide) (by decide) (by decide) (by decide) (by decide) rfl ?_
  refine am_aload_n (n := 40) (i := 0) dX2_forgetOldest_39 rfl rfl rfl ?_
  refine gfX2_forgetOldest_24 (n := 43) dX2_forgetOldest_40 (by first | assumption | exact isC_of (by decide +kernel)) rfl ?_
  refine am_iconst (n := 44) (v := 1) dX2_forgetOldest_43 rfl rfl ?_
  refine am_aload_n (n := 45) (i := 0) dX2_forgetOldest_44 rfl rfl rfl ?_
  refine gfX2_forgetOldest_24 (n := 48) dX2_forgetOldest_45 (by first | assumption | exact isC_of (by decide +kernel)) rfl ?_
  refine am_iconst (n := 49) (v := 0) dX2_forgetOldest_48 rfl rfl ?_
  refine am_aload_n (n := 50) (i := 0) dX2_forgetOldest_49 rfl rfl rfl ?_
  refine gfX2_forgetOldest_40 (n := 53) dX2_forgetOldest_50 (by first | assumption | exact isC_of (by decide +kernel)) rfl ?_
  simp (disch := omega) only [setI_n, setI_s, pk_us]
  refine am_copyi (n := 56) dX2_forgetOldest_53 (by decide +kernel) (by decide +kernel) (by decide +kernel) (by decide +kernel) (Nat.le_of_ble_eq_true rfl) (Nat.le_of_ble_eq_true rfl) (by first | assumption | exact isC_of (by decide +kernel)) (by first | assumption | exact isC_of (by decide +kernel)) (by decide) (by decide) (by decide) (by decide) (by decide) rfl ?_
  refine am_aload_n (n := 57) (i := 0) dX2_forgetOldest_56 rfl rfl rfl ?_
  refine gfX2_forgetOldest_27 (n := 60) dX2_forgetOldest_57 (by first | assumption | exact isC_of (by decide +kernel)) rfl ?_
  refine am_iconst (n := 61) (v := 1) dX2_forgetOldest_60 rfl rfl ?_
  refine am_aload_n (n := 62) (i := 0) dX2_forgetOldest_61 rfl rfl rfl ?_
  refine gfX2_forgetOldest_27 (n := 65) dX2_forgetOldest_62 (by first | assumption | exact isC_of (by decide +kernel)) rfl ?_
  refine am_iconst (n := 66) (v := 0) dX2_forgetOldest_65 rfl rfl ?_
  refine am_aload_n (n := 67) (i := 0) dX2_forgetOldest_66 rfl rfl rfl ?_
  refine gfX2_forgetOldest_40 (n := 70) dX2_forgetOldest_67 (by first | assumption | exact isC_of (by decide +kernel)) rfl ?_
  simp (disch := omega) only [setI_n, setI_s, pk_us]
  refine am_copyi (n := 73) dX2_forgetOldest_70 (by decide +kernel) (by decide +kernel) (by decide +kernel) (by decide +kernel) (Nat.le_of_ble_eq_true rfl) (Nat.le_of_ble_eq_true rfl) (by first | assumption | exact isC_of (by decide +kernel)) (by first | assumption | exact isC_of (by decide +kernel)) (by decide) (by decide) (by decide) (by decide) (by decide) rfl ?_
  refine am_vret dX2_forgetOldest_73 rfl ?_
  refine ⟨rfl, ⟨fun l hl => ?_, ?_, ?_, fun j q hj => ?_⟩, ((((FrI.rf.set _ (by omega) (by omega)).set _ (by omega) (by omega)).set _ (by omega) (by omega)).set _ (by omega) (by omega)).set _ (by omega) (by omega)⟩
  · simp (disch := omega) only [setI_n, setI_s]
    exact hE.1 l hl
  · simp (disch := omega) only [setI_n, setI_s, pk_un]
    exact hE.2.1
  · simp (disch := omega) only [setI_n, setI_s, pk_us]
    rw [show (E.1, E.2.1, E.2.2.1, E.2.2.2.tail).2.2.2.length = 5 by show E.2.2.2.tail.length = 5; rw [List.length_tail]; omega]
    rfl
  · have hj' : E.2.2.2[j + 1]? = some q := by
      have : E.2.2.2.tail[j]? = some q := hj
      rw [List.getElem?_tail] at this
      exact this
    have hj6 : j + 1 < 6 := by
      have := (List.getElem?_eq_some_iff.mp hj').1
      omega
    obtain ⟨q1, q2, q3, q4⟩ := hE.2.2.2 (j + 1) q hj'
    have hc : ∀ f : Nat → Int32, va_cpy f f (1 : Int32).toNatClampNeg (0 : Int32).toNatClampNeg (5 : Int32).toNatClampNeg j = f (j + 1) := by
      intro f
      refine (pk_cpy_in (Nat.zero_le _) (show j < 0 + 5 by omega)).trans ?_
      show f (1 + (j - 0)) = _
      congr 1
      omega
    simp (disch := omega) only [setI_n, setI_s]
    exact ⟨(hc _).trans q1, (hc _).trans q2, (hc _).trans q3, (hc _).trans q4⟩
set_option maxRecDepth 100000 in
set_option maxHeartbeats 8000000 in
theorem ac_X2_remember (g : Gx) (k a b : Nat) (x y : Int32) (E : EV) (h : Hp) (hk : isEar k) (hE : RE k E h) (h6 : E.2.2.2.length ≤ 6) : AC g yX2_remember wsX2_remember rmX2_remember [.ref k, .int (nI a), .int (nI b), .int x, .int y] h (fun r h' => r = none ∧ RE k (E.1, E.2.1, E.2.2.1, pushM E.2.2.2 (a, b, x, y)) h' ∧ FrI k (k + 6) h h') := by
  have hk' := hk
  obtain ⟨k0, k1, k2, k3, k4, k5, k6⟩ := hk
  refine AC.of (cc := cX2_remember) (maxL := 5) (ret := none) (by decide +kernel) rfl (Nat.le_of_ble_eq_true rfl) ?_
  show AW g mmX2_remember _ 0 [(0, some (.ref k)), (1, some (.int (nI a))), (2, some (.int (nI b))), (3, some (.int x)), (4, some (.int y))] [] _
  have tail : ∀ (ms : List (Nat × Nat × Int32 × Int32)) (h1 : Hp), ms.length < 6 → RE k (E.1, E.2.1, E.2.2.1, ms) h1 → FrI k (k + 6) h h1 → ms ++ [(a, b, x, y)] = pushM E.2.2.2 (a, b, x, y) → AW g mmX2_remember (ZP g (fun r h' => r = none ∧ RE k (E.1, E.2.1, E.2.2.1, pushM E.2.2.2 (a, b, x, y)) h' ∧ FrI k (k + 6) h h')) 13 [(0, some (.ref k)), (1, some (.int (nI a))), (2, some (.int (nI b))), (3, some (.int x)), (4, some (.int y))] [] h1 := by
    intro ms h1 hl H1 F hms
    have hm : h1.1 k 3 = nI ms.length := H1.2.2.1
    refine am_aload_n (n := 14) (i := 0) dX2_remember_13 rfl rfl rfl ?_
    refine gfX2_remember_18 (n := 17) dX2_remember_14 (by first | assumption | exact isC_of (by decide +kernel)) rfl ?_
    refine am_aload_n (n := 18) (i := 0) dX2_remember_17 rfl rfl rfl ?_
    refine gfX2_remember_40 (n := 21) dX2_remember_18 (by first | assumption | exact isC_of (by decide +kernel)) rfl ?_
    rw [hm]
    refine am_iload_n (n := 22) (i := 1) dX2_remember_21 rfl rfl rfl ?_
    refine am_iast (n := 23) dX2_remember_22 (by first | assumption | exact isC_of (by decide +kernel)) (by first | assumption | exact vp_in_nI (by omega) (by omega) | decide) rfl ?_
    refine am_aload_n (n := 24) (i := 0) dX2_remember_23 rfl rfl rfl ?_
    refine gfX2_remember_21 (n := 27) dX2_remember_24 (by first | assumption | exact isC_of (by decide +kernel)) rfl ?_
    refine am_aload_n (n := 28) (i := 0) dX2_remember_27 rfl rfl rfl ?_
    refine gfX2_remember_40 (n := 31) dX2_remember_28 (by first | assumption | exact isC_of (by decide +kernel)) rfl ?_
    simp (disch := omega) only [setI_n]
    rw [hm]
    refine am_iload_n (n := 32) (i := 2) dX2_remember_31 rfl rfl rfl ?_
    refine am_iast (n := 33) dX2_remember_32 (by first | assumption | exact isC_of (by decide +kernel)) (by first | assumption | exact vp_in_nI (by omega) (by omega) | decide) rfl ?_
    refine am_aload_n (n := 34) (i := 0) dX2_remember_33 rfl rfl rfl ?_
    refine gfX2_remember_24 (n := 37) dX2_remember_34 (by first | assumption | exact isC_of (by decide +kernel)) rfl ?_
    refine am_aload_n (n := 38) (i := 0) dX2_remember_37 rfl rfl rfl ?_
    refine gfX2_remember_40 (n := 41) dX2_remember_38 (by first | assumption | exact isC_of (by decide +kernel)) rfl ?_
    simp (disch := omega) only [setI_n]
    rw [hm]
    refine am_iload_n (n := 42) (i := 3) dX2_remember_41 rfl rfl rfl ?_
    refine am_iast (n := 43) dX2_remember_42 (by first | assumption | exact isC_of (by decide +kernel)) (by first | assumption | exact vp_in_nI (by omega) (by omega) | decide) rfl ?_
    refine am_aload_n (n := 44) (i := 0) dX2_remember_43 rfl rfl rfl ?_
    refine gfX2_remember_27 (n := 47) dX2_remember_44 (by first | assumption | exact isC_of (by decide +kernel)) rfl ?_
    refine am_aload_n (n := 48) (i := 0) dX2_remember_47 rfl rfl rfl ?_
    refine gfX2_remember_40 (n := 51) dX2_remember_48 (by first | assumption | exact isC_of (by decide +kernel)) rfl ?_
    simp (disch := omega) only [setI_n]
    rw [hm]
    refine am_iload (n := 53) dX2_remember_51 rfl rfl ?_
    refine am_iast (n := 54) dX2_remember_53 (by first | assumption | exact isC_of (by decide +kernel)) (by first | assumption | exact vp_in_nI (by omega) (by omega) | decide) rfl ?_
    refine am_aload_n (n := 55) (i := 0) dX2_remember_54 rfl rfl rfl ?_
    refine am_dup (n := 56) dX2_remember_55 rfl rfl ?_
    refine gfX2_remember_40 (n := 59) dX2_remember_56 (by first | assumption | exact isC_of (by decide +kernel)) rfl ?_
    simp (disch := omega) only [setI_n]
    rw [hm]
    refine am_iconst (n := 60) (v := 1) dX2_remember_59 rfl rfl ?_
    refine am_iadd (n := 61) dX2_remember_60 rfl ?_
    refine pfX2_remember_40 (n := 64) dX2_remember_61 (by first | assumption | exact isC_of (by decide +kernel)) rfl ?_
    refine am_vret dX2_remember_64 rfl ?_
    rw [← hms]
    refine ⟨rfl, ⟨fun l hl => ?_, ?_, ?_, fun j q hj => ?_⟩, ((((F.set _ (by omega) (by omega)).set _ (by omega) (by omega)).set _ (by omega) (by omega)).set _ (by omega) (by omega)).set _ (by omega) (by omega)⟩
    · simp (disch := omega) only [setI_n, setI_s]
      exact H1.1 l hl
    · simp (disch := omega) only [setI_n, setI_s, pk_un]
      exact H1.2.1
    · simp (disch := omega) only [setI_n, setI_s, pk_us]
      show nI ms.length + 1 = nI (ms ++ [(a, b, x, y)]).length
      rw [List.length_append, nI_1]
      rfl
    · have e : (nI ms.length).toNatClampNeg = ms.length := nI_clamp (by omega)
      simp (disch := omega) only [setI_n, setI_s, e]
      have hj : (ms ++ [(a, b, x, y)])[j]? = some q := hj
      by_cases z : j = ms.length
      · subst z
        rw [List.getElem?_append_right (Nat.le_refl _), Nat.sub_self] at hj
        cases hj
        simp only [pk_us]
        exact ⟨trivial, trivial, trivial, trivial⟩
      · have hjl : j < ms.length := by
          have := (List.getElem?_eq_some_iff.mp hj).1
          rw [List.length_append] at this
          simp at this
          omega
        rw [List.getElem?_append_left hjl] at hj
        simp only [pk_un z]
        exact H1.2.2.2 j q hj
  refine am_aload_n (n := 1) (i := 0) dX2_remember_0 rfl rfl rfl ?_
  refine gfX2_remember_40 (n := 4) dX2_remember_1 (by first | assumption | exact isC_of (by decide +kernel)) rfl ?_
  refine am_bipush (n := 6) (v := 6) dX2_remember_4 rfl rfl ?_
  have hm : h.1 k 3 = nI E.2.2.2.length := hE.2.2.1
  rw [hm]
  rcases Nat.lt_or_ge E.2.2.2.length 6 with hl | hl
  · refine am_icmp_lt (tgt := 13) (n := 9) dX2_remember_6 (by decide) rfl (fun _ => ?_) (fun q => absurd (nI_lt hl (by decide)) q)
    exact tail E.2.2.2 h hl hE FrI.rf (by unfold pushM; rw [if_pos hl])
  · refine am_icmp_lt (tgt := 13) (n := 9) dX2_remember_6 (by decide) rfl (fun q => absurd q (nI_nlt hl (by omega))) (fun _ => ?_)
    refine am_aload_n (n := 10) (i := 0) dX2_remember_9 rfl rfl rfl ?_
    refine caX2_remember_57 (n := 13) dX2_remember_10 ⟨rfl, rfl⟩ (ac_X2_forgetOldest g k E h hk' hE (by omega)) rfl rfl (Nat.le_of_ble_eq_true rfl) (by first | assumption | exact isC_of (by decide +kernel)) rfl ?_
    rintro r h1 ⟨rfl, H1, F1⟩
    refine tail E.2.2.2.tail h1 (by rw [List.length_tail]; omega) H1 F1 (by unfold pushM; rw [if_neg (by omega)])
