/-! Ear: ways, and the row of codes -/
theorem take_has (l : List Nat) (x : Nat) {i : Nat} (hi : i < l.length) : (l.take (i + 1)).contains x = ((l.take i).contains x || (l[i] == x)) := by
  have hx : l[i]? = some l[i] := List.getElem?_eq_getElem hi
  rw [List.take_succ, hx, List.contains_append]
  cases hq : (l[i] == x) with
  | true =>
    have := eq_of_beq hq
    simp [this]
  | false =>
    have h2 : ¬ x = l[i] := fun q => by
      rw [← q] at hq
      simp at hq
    simp [h2]
theorem wy_le (o : Nat) : wy o ≤ 4 := by
  unfold wy
  split
  · omega
  · split <;> omega
set_option maxRecDepth 100000 in
set_option maxHeartbeats 400000 in
theorem ac_X2_waysToHear (g : Gx) (k n : Nat) (E : EV) (h : Hp) (hk : isEar k) (hE : RE k E h) (hV : VE E) (hn : VW n) : AD g yX2_waysToHear wsX2_waysToHear rmX2_waysToHear [.ref k, .long (lN n)] h (some (.int (nI (wy (oc E n (wsz n)))))) h := by
  have hk' := hk
  obtain ⟨k0, k1, k2, k3, k4, k5, k6⟩ := hk
  have hz := wsz_le n
  refine AC.of (cc := cX2_waysToHear) (maxL := 6) (ret := (some .int)) (by decide +kernel) rfl (Nat.le_of_ble_eq_true rfl) ?_
  show AW g mmX2_waysToHear _ 0 [(0, some (.ref k)), (1, some (.long (lN n)))] [] _
  refine am_iconst (n := 1) (v := 1) dX2_waysToHear_0 rfl rfl ?_
  refine am_istore_n (n := 2) (i := 3) dX2_waysToHear_1 rfl (Nat.le_of_ble_eq_true rfl) rfl rfl ?_
  refine am_iconst (n := 3) (v := 0) dX2_waysToHear_2 rfl rfl ?_
  refine am_istore (n := 5) dX2_waysToHear_3 (Nat.le_of_ble_eq_true rfl) rfl rfl ?_
  refine am_loc [(0, some (.ref k)), (1, some (.long (lN n))), (3, some (.int (nI (wy (oc E n 0))))), (4, some (.int (nI 0)))] rfl ?_
  refine loop_up (Wp := fun p => AW g mmX2_waysToHear _ 5 [(0, some (.ref k)), (1, some (.long (lN n))), (3, some (.int (nI (wy (oc E n p))))), (4, some (.int (nI p)))] [] h) (wsz n) ?_ ?_ 0 (Nat.zero_le _)
  · have wyle : wy (oc E n (wsz n)) ≤ 4 := by have := wy_le (oc E n (wsz n)); omega
    refine am_iload (n := 7) dX2_waysToHear_5 rfl rfl ?_
    refine am_bipush (n := 9) (v := 10) dX2_waysToHear_7 rfl rfl ?_
    rcases Nat.lt_or_ge (wsz n) 10 with hl | hl
    · refine am_icmp_ge (tgt := 69) (n := 12) dX2_waysToHear_9 (by decide) rfl (fun q => absurd q (nI_ge hl (by decide))) (fun _ => ?_)
      refine am_iload_n (n := 13) (i := 3) dX2_waysToHear_12 rfl rfl rfl ?_
      refine am_iconst (n := 14) (v := 4) dX2_waysToHear_13 rfl rfl ?_
      by_cases h4 : wy (oc E n (wsz n)) < 4
      · refine am_icmp_ge (tgt := 69) (n := 17) dX2_waysToHear_14 (by decide) rfl (fun q => absurd q (nI_ge h4 (by decide))) (fun _ => ?_)
        refine am_lload_n (n := 18) (i := 1) dX2_waysToHear_17 rfl rfl rfl ?_
        refine am_iload (n := 20) dX2_waysToHear_18 rfl rfl ?_
        refine cdX2_waysToHear_68 (n := 23) dX2_waysToHear_20 ⟨rfl, rfl⟩ (ac_X6_letterAt g n (wsz n) h hn.1 (by omega)) rfl rfl (Nat.le_of_ble_eq_true rfl) rfl ?_
        refine am_istore (n := 25) dX2_waysToHear_23 (Nat.le_of_ble_eq_true rfl) rfl rfl ?_
        refine am_iload (n := 27) dX2_waysToHear_25 rfl rfl ?_
        rw [wsz_out hl]
        refine cdX2_waysToHear_74 (n := 30) dX2_waysToHear_27 ⟨rfl, rfl⟩ (ac_X6_isLetter g (nI 0 - 1) h) rfl rfl (Nat.le_of_ble_eq_true rfl) rfl ?_
        refine am_if_ne (tgt := 36) (n := 33) dX2_waysToHear_30 (by decide) rfl (fun q => absurd (by decide) q) (fun _ => ?_)
        refine am_goto (tgt := 69) dX2_waysToHear_33 (by decide) ?_
        refine am_iload_n (n := 70) (i := 3) dX2_waysToHear_69 rfl rfl rfl ?_
        refine am_iret dX2_waysToHear_70 rfl rfl ?_
        exact ⟨rfl, rfl⟩
      · refine am_icmp_ge (tgt := 69) (n := 17) dX2_waysToHear_14 (by decide) rfl (fun _ => ?_) (fun q => absurd (nI_le (Nat.not_lt.mp h4) (by omega)) q)
        refine am_iload_n (n := 70) (i := 3) dX2_waysToHear_69 rfl rfl rfl ?_
        refine am_iret dX2_waysToHear_70 rfl rfl ?_
        exact ⟨rfl, rfl⟩
    · refine am_icmp_ge (tgt := 69) (n := 12) dX2_waysToHear_9 (by decide) rfl (fun _ => ?_) (fun q => absurd (nI_le hl (by omega)) q)
      refine am_iload_n (n := 70) (i := 3) dX2_waysToHear_69 rfl rfl rfl ?_
      refine am_iret dX2_waysToHear_70 rfl rfl ?_
      exact ⟨rfl, rfl⟩
  · intro p hp K
    have w0 := wsz_in hp
    have w26 := hn.2.1 p
    have hb36 := bh_le (hab := E.2.2.1) (p := p) hn.2.1
    refine am_iload (n := 7) dX2_waysToHear_5 rfl rfl ?_
    refine am_bipush (n := 9) (v := 10) dX2_waysToHear_7 rfl rfl ?_
    refine am_icmp_ge (tgt := 69) (n := 12) dX2_waysToHear_9 (by decide) rfl (fun q => absurd q (nI_ge (show p < 10 by omega) (by decide))) (fun _ => ?_)
    refine am_iload_n (n := 13) (i := 3) dX2_waysToHear_12 rfl rfl rfl ?_
    refine am_iconst (n := 14) (v := 4) dX2_waysToHear_13 rfl rfl ?_
    by_cases h4 : oc E n p < 2
    · have hw4 : wy (oc E n p) < 4 := by
        rcases (show oc E n p = 0 ∨ oc E n p = 1 by omega) with z | z <;> rw [z] <;> decide
      refine am_icmp_ge (tgt := 69) (n := 17) dX2_waysToHear_14 (by decide) rfl (fun q => absurd q (nI_ge hw4 (by decide))) (fun _ => ?_)
      refine am_lload_n (n := 18) (i := 1) dX2_waysToHear_17 rfl rfl rfl ?_
      refine am_iload (n := 20) dX2_waysToHear_18 rfl rfl ?_
      refine cdX2_waysToHear_68 (n := 23) dX2_waysToHear_20 ⟨rfl, rfl⟩ (ac_X6_letterAt g n p h hn.1 (by omega)) rfl rfl (Nat.le_of_ble_eq_true rfl) rfl ?_
      refine am_istore (n := 25) dX2_waysToHear_23 (Nat.le_of_ble_eq_true rfl) rfl rfl ?_
      refine am_iload (n := 27) dX2_waysToHear_25 rfl rfl ?_
      refine cdX2_waysToHear_74 (n := 30) dX2_waysToHear_27 ⟨rfl, rfl⟩ (ac_X6_isLetter g (nI (wl n p) - 1) h) rfl rfl (Nat.le_of_ble_eq_true rfl) rfl ?_
      rw [lt_isl _ (by omega), bI_t (decide_eq_true (show wl n p ≠ 0 by omega))]
      refine am_if_ne (tgt := 36) (n := 33) dX2_waysToHear_30 (by decide) rfl (fun _ => ?_) (fun q => absurd q (by decide))
      have ew : (nI (wl n p) - 1).toNatClampNeg = wl n p - 1 := by rw [nI_m1 w0, nI_clamp (by omega)]
      have hin : vp_in (nI (wl n p) - 1) 26 := by rw [nI_m1 w0]; exact vp_in_nI (by omega) (by omega)
      have h26 : wl n p - 1 < 26 := by omega
      have r1 := hE.1 (wl n p - 1) h26
      have hs10 := hV.1 (wl n p - 1) h26
      have no : opn E n p = 0 → ∀ l : Lo, lget l 0 = some (.ref k) → lget l 1 = some (.long (lN n)) → lget l 3 = some (.int (nI (wy (oc E n p)))) → lget l 4 = some (.int (nI p)) → AW g mmX2_waysToHear (ZP g (fun r h2 => r = some (.int (nI (wy (oc E n (wsz n))))) ∧ h2 = h)) 63 l [] h := by
        intro eo l l0 l1 l3 l4
        refine am_loc [(0, some (.ref k)), (1, some (.long (lN n))), (3, some (.int (nI (wy (oc E n p))))), (4, some (.int (nI p)))] (by simp only [List.map_cons, List.map_nil, l0, l1, l3, l4]) ?_
        first | refine am_iincN (n := 66) dX2_waysToHear_63 rfl rfl rfl ?_ | refine am_iinc1 (n := 66) dX2_waysToHear_63 rfl rfl rfl ?_
        refine am_goto (tgt := 5) dX2_waysToHear_66 (by decide) ?_
        rw [oc_succ, eo] at K
        exact am_loc _ rfl K
      refine am_aload_n (n := 37) (i := 0) dX2_waysToHear_36 rfl rfl rfl ?_
      refine gfX2_waysToHear_15 (n := 40) dX2_waysToHear_37 (by first | assumption | exact isC_of (by decide +kernel)) rfl ?_
      refine am_iload (n := 42) dX2_waysToHear_40 rfl rfl ?_
      refine am_iald (n := 43) dX2_waysToHear_42 (by first | assumption | exact isC_of (by decide +kernel)) (by first | assumption | exact vp_in_nI (by omega) (by omega) | decide) rfl ?_
      refine am_bipush (n := 45) (v := (-6)) dX2_waysToHear_43 rfl rfl ?_
      rw [ew, r1.2]
      by_cases hs0 : E.2.1 (wl n p - 1) = 0
      · refine am_icmp_eq (tgt := 63) (n := 48) dX2_waysToHear_45 (by decide) rfl (fun _ => ?_) (fun q => absurd ((sec_none hs10.2.1).mpr hs0) q)
        exact no (by unfold opn; rw [if_neg (fun q => q.2 hs0)]) _ rfl rfl rfl rfl
      · refine am_icmp_eq (tgt := 63) (n := 48) dX2_waysToHear_45 (by decide) rfl (fun q => absurd q (fun q => hs0 ((sec_none hs10.2.1).mp q))) (fun _ => ?_)
        refine am_aload_n (n := 49) (i := 0) dX2_waysToHear_48 rfl rfl rfl ?_
        refine am_lload_n (n := 50) (i := 1) dX2_waysToHear_49 rfl rfl rfl ?_
        refine am_iload (n := 52) dX2_waysToHear_50 rfl rfl ?_
        refine cdX2_waysToHear_78 (n := 55) dX2_waysToHear_52 ⟨rfl, rfl⟩ (ac_X2_byHabit g k n p E h hk' hE hV hn hp) rfl rfl (Nat.le_of_ble_eq_true rfl) (by first | assumption | exact isC_of (by decide +kernel)) rfl ?_
        refine am_iconst (n := 56) (v := (-1)) dX2_waysToHear_55 rfl rfl ?_
        by_cases hb : bh E.2.2.1 n p = 0
        · refine am_icmp_ne (tgt := 63) (n := 59) dX2_waysToHear_56 (by decide) rfl (fun q => absurd ((lt_m1 _ (by omega)).mpr hb) q) (fun _ => ?_)
          have eo : opn E n p = 1 := by unfold opn; rw [if_pos ⟨hb, hs0⟩]
          rw [oc_succ, eo] at K
          refine am_iload_n (n := 60) (i := 3) dX2_waysToHear_59 rfl rfl rfl ?_
          refine am_iconst (n := 61) (v := 2) dX2_waysToHear_60 rfl rfl ?_
          refine am_imul (n := 62) dX2_waysToHear_61 rfl ?_
          have e2 : nI (wy (oc E n p)) * 2 = nI (wy (oc E n p + 1)) := by
            rcases (show oc E n p = 0 ∨ oc E n p = 1 by omega) with z | z <;> rw [z] <;> rfl
          rw [e2]
          refine am_istore_n (n := 63) (i := 3) dX2_waysToHear_62 rfl (Nat.le_of_ble_eq_true rfl) rfl rfl ?_
          first | refine am_iincN (n := 66) dX2_waysToHear_63 rfl rfl rfl ?_ | refine am_iinc1 (n := 66) dX2_waysToHear_63 rfl rfl rfl ?_
          refine am_goto (tgt := 5) dX2_waysToHear_66 (by decide) ?_
          exact am_loc _ rfl K
        · refine am_icmp_ne (tgt := 63) (n := 59) dX2_waysToHear_56 (by decide) rfl (fun _ => ?_) (fun q => absurd q (fun q => hb ((lt_m1 _ (by omega)).mp q)))
          exact no (by unfold opn; rw [if_neg (fun q => hb q.1)]) _ rfl rfl rfl rfl
    · have e4 : ∀ o, 2 ≤ o → wy o = 4 := by intro o ho; unfold wy; rw [if_neg (by omega), if_neg (by omega)]
      have hm := oc_mono E n p (wsz n - p)
      rw [show p + (wsz n - p) = wsz n by omega] at hm
      rw [e4 _ (show 2 ≤ oc E n p by omega), e4 _ (show 2 ≤ oc E n (wsz n) by omega)]
      refine am_icmp_ge (tgt := 69) (n := 17) dX2_waysToHear_14 (by decide) rfl (fun _ => ?_) (fun q => absurd (by decide) q)
      refine am_iload_n (n := 70) (i := 3) dX2_waysToHear_69 rfl rfl rfl ?_
      refine am_iret dX2_waysToHear_70 rfl rfl ?_
      exact ⟨rfl, rfl⟩
theorem cw_lt {E : EV} {L n v : Nat} (hV : VE E) (hn : VW n) (hL : L ≤ 5) : cw E L n v < 2 ^ 30 := by
  obtain ⟨i1, i2, -⟩ := hs_inv (L := L) (v := v) hV hn (wsz n) (Nat.le_refl _)
  exact Nat.lt_of_lt_of_le i1 (Nat.le_trans (Nat.pow_le_pow_right (by decide) (show (hs E L n v (wsz n)).2.1 ≤ 5 by omega)) (by decide))
set_option maxRecDepth 100000 in
set_option maxHeartbeats 400000 in
theorem ac_X2_writeCodes (g : Gx) (k n L r : Nat) (E : EV) (h : Hp) (hk : isEar k) (hE : RE k E h) (hV : VE E) (hn : VW n) (hL : L ≤ 5) (hr : isC r 8 4) (hd : r < k ∨ k + 6 < r) : AC g yX2_writeCodes wsX2_writeCodes rmX2_writeCodes [.ref k, .long (lN n), .int (nI L), .ref r] h (fun v h' => v = some (.int (nI (codes E L n).length)) ∧ FrI r r h h' ∧ ∀ j x, (codes E L n)[j]? = some x → h'.1 r j = nI x) := by
  have hk' := hk
  obtain ⟨k0, k1, k2, k3, k4, k5, k6⟩ := hk
  have hw4 := wy_le (oc E n (wsz n))
  refine AC.of (cc := cX2_writeCodes) (maxL := 11) (ret := (some .int)) (by decide +kernel) rfl (Nat.le_of_ble_eq_true rfl) ?_
  show AW g mmX2_writeCodes _ 0 [(0, some (.ref k)), (1, some (.long (lN n))), (3, some (.int (nI L))), (4, some (.ref r))] [] _
  refine am_aload_n (n := 1) (i := 0) dX2_writeCodes_0 rfl rfl rfl ?_
  refine am_lload_n (n := 2) (i := 1) dX2_writeCodes_1 rfl rfl rfl ?_
  refine cdX2_writeCodes_60 (n := 5) dX2_writeCodes_2 ⟨rfl, rfl⟩ (ac_X2_waysToHear g k n E h hk' hE hV hn) rfl rfl (Nat.le_of_ble_eq_true rfl) (by first | assumption | exact isC_of (by decide +kernel)) rfl ?_
  refine am_istore (n := 7) dX2_writeCodes_5 (Nat.le_of_ble_eq_true rfl) rfl rfl ?_
  refine am_iconst (n := 8) (v := 0) dX2_writeCodes_7 rfl rfl ?_
  refine am_istore (n := 10) dX2_writeCodes_8 (Nat.le_of_ble_eq_true rfl) rfl rfl ?_
  refine am_iconst (n := 11) (v := 0) dX2_writeCodes_10 rfl rfl ?_
  refine am_istore (n := 13) dX2_writeCodes_11 (Nat.le_of_ble_eq_true rfl) rfl rfl ?_
  have hcw := codes_wy E L n
  generalize wy (oc E n (wsz n)) = w at hw4 hcw ⊢
  rw [← hcw]
  generalize hZ : ZP g (fun v h' => v = some (.int (nI (dd (cw E L n) w).length)) ∧ FrI r r h h' ∧ ∀ j x, (dd (cw E L n) w)[j]? = some x → h'.1 r j = nI x) = Z
  have z0 : Z.1 = 0 ∧ Z.2.1 = 0 := by rw [← hZ]; exact ⟨rfl, rfl⟩
  refine am_loc [(0, some (.ref k)), (1, some (.long (lN n))), (3, some (.int (nI L))), (4, some (.ref r)), (5, some (.int (nI w))), (6, some (.int (nI (dd (cw E L n) 0).length))), (7, some (.int (nI 0)))] rfl ?_
  refine loop_up (Wp := fun v => ∀ h1 : Hp, FrI r r h h1 → (∀ j x, (dd (cw E L n) v)[j]? = some x → h1.1 r j = nI x) → AW g mmX2_writeCodes Z 13 [(0, some (.ref k)), (1, some (.long (lN n))), (3, some (.int (nI L))), (4, some (.ref r)), (5, some (.int (nI w))), (6, some (.int (nI (dd (cw E L n) v).length))), (7, some (.int (nI v)))] [] h1) w ?_ ?_ 0 (Nat.zero_le _) h FrI.rf (fun j x hj => by cases hj)
  · intro h1 F H
    refine am_iload (n := 15) dX2_writeCodes_13 rfl rfl ?_
    refine am_iload (n := 17) dX2_writeCodes_15 rfl rfl ?_
    refine am_icmp_ge (tgt := 99) (n := 20) dX2_writeCodes_17 (by decide) rfl (fun _ => ?_) (fun q => absurd (Int32.le_refl _) q)
    rw [← hZ]
    refine am_iload (n := 101) dX2_writeCodes_99 rfl rfl ?_
    refine am_iret dX2_writeCodes_101 rfl rfl ?_
    exact ⟨rfl, F, H⟩
  · intro v hv K h1 F H
    have hE1 : RE k E h1 := hE.kept (fun c c1 c2 => F.1 c (by omega))
    have hlen := dd_le (cw E L n) v
    have hx30 := cw_lt (v := v) hV hn hL
    refine am_iload (n := 15) dX2_writeCodes_13 rfl rfl ?_
    refine am_iload (n := 17) dX2_writeCodes_15 rfl rfl ?_
    refine am_icmp_ge (tgt := 99) (n := 20) dX2_writeCodes_17 (by decide) rfl (fun q => absurd q (nI_ge hv (by omega))) (fun _ => ?_)
    refine am_aload_n (n := 21) (i := 0) dX2_writeCodes_20 rfl rfl rfl ?_
    refine am_lload_n (n := 22) (i := 1) dX2_writeCodes_21 rfl rfl rfl ?_
    refine am_iload_n (n := 23) (i := 3) dX2_writeCodes_22 rfl rfl rfl ?_
    refine am_iload (n := 25) dX2_writeCodes_23 rfl rfl ?_
    refine cdX2_writeCodes_64 (n := 28) dX2_writeCodes_25 z0 (ac_X2_codeByWay g k n L v E h1 hk' hE1 hV hn hL (by omega)) rfl rfl (Nat.le_of_ble_eq_true rfl) (by first | assumption | exact isC_of (by decide +kernel)) rfl ?_
    refine am_istore (n := 30) dX2_writeCodes_28 (Nat.le_of_ble_eq_true rfl) rfl rfl ?_
    refine am_iconst (n := 31) (v := 1) dX2_writeCodes_30 rfl rfl ?_
    refine am_istore (n := 33) dX2_writeCodes_31 (Nat.le_of_ble_eq_true rfl) rfl rfl ?_
    refine am_iconst (n := 34) (v := 0) dX2_writeCodes_33 rfl rfl ?_
    refine am_istore (n := 36) dX2_writeCodes_34 (Nat.le_of_ble_eq_true rfl) rfl rfl ?_
    -- the search: is the code new?
    refine am_loc [(0, some (.ref k)), (1, some (.long (lN n))), (3, some (.int (nI L))), (4, some (.ref r)), (5, some (.int (nI w))), (6, some (.int (nI (dd (cw E L n) v).length))), (7, some (.int (nI v))), (8, some (.int (nI (cw E L n v)))), (9, some (.int (bI (!((dd (cw E L n) v).take 0).contains (cw E L n v))))), (10, some (.int (nI 0)))] rfl ?_
    refine loop_up (Wp := fun i => AW g mmX2_writeCodes Z 36 [(0, some (.ref k)), (1, some (.long (lN n))), (3, some (.int (nI L))), (4, some (.ref r)), (5, some (.int (nI w))), (6, some (.int (nI (dd (cw E L n) v).length))), (7, some (.int (nI v))), (8, some (.int (nI (cw E L n v)))), (9, some (.int (bI (!((dd (cw E L n) v).take i).contains (cw E L n v))))), (10, some (.int (nI i)))] [] h1) (dd (cw E L n) v).length ?_ ?_ 0 (Nat.zero_le _)
    · refine am_iload (n := 38) dX2_writeCodes_36 rfl rfl ?_
      refine am_iload (n := 40) dX2_writeCodes_38 rfl rfl ?_
      refine am_icmp_ge (tgt := 70) (n := 43) dX2_writeCodes_40 (by decide) rfl (fun _ => ?_) (fun q => absurd (Int32.le_refl _) q)
      rw [List.take_length]
      refine am_iload (n := 72) dX2_writeCodes_70 rfl rfl ?_
      by_cases hc : cw E L n v ∈ dd (cw E L n) v
      · have e1 : (!(dd (cw E L n) v).contains (cw E L n v)) = false := by rw [List.contains_iff_mem.mpr hc]; rfl
        have ed : dd (cw E L n) (v + 1) = dd (cw E L n) v := by rw [dd, if_pos hc]
        rw [e1]
        refine am_if_eq (tgt := 93) (n := 75) dX2_writeCodes_72 (by decide) rfl (fun _ => ?_) (fun q => absurd rfl q)
        first | refine am_iincN (n := 96) dX2_writeCodes_93 rfl rfl rfl ?_ | refine am_iinc1 (n := 96) dX2_writeCodes_93 rfl rfl rfl ?_
        refine am_goto (tgt := 13) dX2_writeCodes_96 (by decide) ?_
        have K1 := K h1 F (fun j x hj => H j x (by rw [← ed]; exact hj))
        rw [ed] at K1
        exact am_loc _ rfl K1
      · have e1 : (!(dd (cw E L n) v).contains (cw E L n v)) = true := by
          cases hx : (dd (cw E L n) v).contains (cw E L n v) with
          | false => rfl
          | true => exact absurd (List.contains_iff_mem.mp hx) hc
        have ed : dd (cw E L n) (v + 1) = dd (cw E L n) v ++ [cw E L n v] := by rw [dd, if_neg hc]
        rw [e1]
        refine am_if_eq (tgt := 93) (n := 75) dX2_writeCodes_72 (by decide) rfl (fun q => absurd q (by decide)) (fun _ => ?_)
        refine am_iload (n := 77) dX2_writeCodes_75 rfl rfl ?_
        refine am_aload (n := 79) dX2_writeCodes_77 rfl rfl ?_
        refine am_alen (n := 80) dX2_writeCodes_79 (by first | assumption | exact isC_of (by decide +kernel)) (by decide) rfl rfl ?_
        refine am_icmp_ge (tgt := 93) (n := 83) dX2_writeCodes_80 (by decide) rfl (fun q => absurd q (nI_ge (show (dd (cw E L n) v).length < 4 by omega) (by decide))) (fun _ => ?_)
        have en : (nI (dd (cw E L n) v).length).toNatClampNeg = (dd (cw E L n) v).length := nI_clamp (by omega)
        refine am_aload (n := 85) dX2_writeCodes_83 rfl rfl ?_
        refine am_iload (n := 87) dX2_writeCodes_85 rfl rfl ?_
        refine am_iload (n := 89) dX2_writeCodes_87 rfl rfl ?_
        refine am_iast (n := 90) dX2_writeCodes_89 (by first | assumption | exact isC_of (by decide +kernel)) (by first | assumption | exact vp_in_nI (by omega) (by omega) | decide) rfl ?_
        first | refine am_iincN (n := 93) dX2_writeCodes_90 rfl rfl rfl ?_ | refine am_iinc1 (n := 93) dX2_writeCodes_90 rfl rfl rfl ?_
        first | refine am_iincN (n := 96) dX2_writeCodes_93 rfl rfl rfl ?_ | refine am_iinc1 (n := 96) dX2_writeCodes_93 rfl rfl rfl ?_
        refine am_goto (tgt := 13) dX2_writeCodes_96 (by decide) ?_
        rw [en]
        have K1 := K (setI h1 r (upd (h1.1 r) (dd (cw E L n) v).length (nI (cw E L n v)))) (F.set _ (Nat.le_refl _) (Nat.le_refl _)) (fun j x hj => by
          rw [setI_s]
          rw [ed] at hj
          by_cases z : j = (dd (cw E L n) v).length
          · subst z
            rw [List.getElem?_append_right (Nat.le_refl _), Nat.sub_self, List.getElem?_cons_zero] at hj
            rw [← Option.some.inj hj, pk_us]
          · have hjl := (List.getElem?_eq_some_iff.mp hj).1
            rw [List.length_append] at hjl
            simp at hjl
            rw [List.getElem?_append_left (by omega)] at hj
            rw [pk_un z]
            exact H j x hj)
        rw [ed, List.length_append] at K1
        exact am_loc _ rfl K1
    · intro i hi K2
      have en : (nI i).toNatClampNeg = i := nI_clamp (by omega)
      have hin : vp_in (nI i) 4 := vp_in_nI (by omega) (by decide)
      have hx : (dd (cw E L n) v)[i]? = some (dd (cw E L n) v)[i] := List.getElem?_eq_getElem hi
      have hy : (dd (cw E L n) v)[i] < 2 ^ 30 := by
        obtain ⟨j, -, e⟩ := dd_mem.mp (List.getElem_mem hi)
        rw [← e]
        exact cw_lt hV hn hL
      have et := take_has (dd (cw E L n) v) (cw E L n v) hi
      refine am_iload (n := 38) dX2_writeCodes_36 rfl rfl ?_
      refine am_iload (n := 40) dX2_writeCodes_38 rfl rfl ?_
      refine am_icmp_ge (tgt := 70) (n := 43) dX2_writeCodes_40 (by decide) rfl (fun q => absurd q (nI_ge hi (by omega))) (fun _ => ?_)
      refine am_iload (n := 45) dX2_writeCodes_43 rfl rfl ?_
      refine am_aload (n := 47) dX2_writeCodes_45 rfl rfl ?_
      refine am_alen (n := 48) dX2_writeCodes_47 (by first | assumption | exact isC_of (by decide +kernel)) (by decide) rfl rfl ?_
      refine am_icmp_ge (tgt := 70) (n := 51) dX2_writeCodes_48 (by decide) rfl (fun q => absurd q (nI_ge (show i < 4 by omega) (by decide))) (fun _ => ?_)
      refine am_aload (n := 53) dX2_writeCodes_51 rfl rfl ?_
      refine am_iload (n := 55) dX2_writeCodes_53 rfl rfl ?_
      refine am_iald (n := 56) dX2_writeCodes_55 (by first | assumption | exact isC_of (by decide +kernel)) (by first | assumption | exact vp_in_nI (by omega) (by omega) | decide) rfl ?_
      refine am_iload (n := 58) dX2_writeCodes_56 rfl rfl ?_
      rw [en, H i _ hx]
      by_cases he : (dd (cw E L n) v)[i] = cw E L n v
      · refine am_icmp_ne (tgt := 64) (n := 61) dX2_writeCodes_58 (by decide) rfl (fun q => absurd (congrArg nI he) q) (fun _ => ?_)
        refine am_iconst (n := 62) (v := 0) dX2_writeCodes_61 rfl rfl ?_
        refine am_istore (n := 64) dX2_writeCodes_62 (Nat.le_of_ble_eq_true rfl) rfl rfl ?_
        first | refine am_iincN (n := 67) dX2_writeCodes_64 rfl rfl rfl ?_ | refine am_iinc1 (n := 67) dX2_writeCodes_64 rfl rfl rfl ?_
        refine am_goto (tgt := 36) dX2_writeCodes_67 (by decide) ?_
        rw [et, he] at K2
        refine am_loc _ ?_ K2
        simp only [List.map_cons, List.map_nil, beq_self_eq_true, Bool.or_true]
        rfl
      · refine am_icmp_ne (tgt := 64) (n := 61) dX2_writeCodes_58 (by decide) rfl (fun _ => ?_) (fun q => absurd q (fun q => he ((nI_eq (by omega) (by omega)).mp q)))
        first | refine am_iincN (n := 67) dX2_writeCodes_64 rfl rfl rfl ?_ | refine am_iinc1 (n := 67) dX2_writeCodes_64 rfl rfl rfl ?_
        refine am_goto (tgt := 36) dX2_writeCodes_67 (by decide) ?_
        have e0 : ((dd (cw E L n) v)[i] == cw E L n v) = false := by simp [he]
        rw [et, e0, Bool.or_false] at K2
        exact am_loc _ rfl K2
