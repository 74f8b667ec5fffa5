/-! Ear: codes by ways -/
set_option maxRecDepth 100000 in
set_option maxHeartbeats 16000000 in
theorem ac_X2_codeByWay (g : Gx) (k n L v : Nat) (E : EV) (h : Hp) (hk : isEar k) (hE : RE k E h) (hV : VE E) (hn : VW n) (hL : L ≤ 5) (hv : v < 4) : AD g yX2_codeByWay wsX2_codeByWay rmX2_codeByWay [.ref k, .long (lN n), .int (nI L), .int (nI v)] h (some (.int (nI (cw E L n v)))) h := by
  have hk' := hk
  obtain ⟨k0, k1, k2, k3, k4, k5, k6⟩ := hk
  have hz := wsz_le n
  refine AC.of (cc := cX2_codeByWay) (maxL := 13) (ret := (some .int)) (by decide +kernel) rfl (Nat.le_of_ble_eq_true rfl) ?_
  show AW g mmX2_codeByWay _ 0 [(0, some (.ref k)), (1, some (.long (lN n))), (3, some (.int (nI L))), (4, some (.int (nI v)))] [] _
  refine am_iconst (n := 1) (v := 0) dX2_codeByWay_0 rfl rfl ?_
  refine am_istore (n := 3) dX2_codeByWay_1 (Nat.le_of_ble_eq_true rfl) rfl rfl ?_
  refine am_iconst (n := 4) (v := 0) dX2_codeByWay_3 rfl rfl ?_
  refine am_istore (n := 6) dX2_codeByWay_4 (Nat.le_of_ble_eq_true rfl) rfl rfl ?_
  refine am_iconst (n := 7) (v := 0) dX2_codeByWay_6 rfl rfl ?_
  refine am_istore (n := 9) dX2_codeByWay_7 (Nat.le_of_ble_eq_true rfl) rfl rfl ?_
  refine am_iload (n := 11) dX2_codeByWay_9 rfl rfl ?_
  refine am_istore (n := 13) dX2_codeByWay_11 (Nat.le_of_ble_eq_true rfl) rfl rfl ?_
  refine am_iconst (n := 14) (v := 0) dX2_codeByWay_13 rfl rfl ?_
  refine am_istore (n := 16) dX2_codeByWay_14 (Nat.le_of_ble_eq_true rfl) rfl rfl ?_
  refine am_loc [(0, some (.ref k)), (1, some (.long (lN n))), (3, some (.int (nI L))), (5, some (.int (nI (hs E L n v 0).1))), (6, some (.int (nI (hs E L n v 0).2.1))), (7, some (.int (nI (hs E L n v 0).2.2.1))), (8, some (.int (nI (v / 2 ^ (hs E L n v 0).2.2.2)))), (9, some (.int (nI 0)))] (by simp only [hs, Nat.pow_zero, Nat.div_one]; rfl) ?_
  refine loop_up (Wp := fun p => AW g mmX2_codeByWay _ 16 [(0, some (.ref k)), (1, some (.long (lN n))), (3, some (.int (nI L))), (5, some (.int (nI (hs E L n v p).1))), (6, some (.int (nI (hs E L n v p).2.1))), (7, some (.int (nI (hs E L n v p).2.2.1))), (8, some (.int (nI (v / 2 ^ (hs E L n v p).2.2.2)))), (9, some (.int (nI p)))] [] h) (wsz n) ?_ ?_ 0 (Nat.zero_le _)
  · have inv := hs_inv (L := L) (v := v) hV hn (wsz n) (Nat.le_refl _)
    refine am_iload (n := 18) dX2_codeByWay_16 rfl rfl ?_
    refine am_bipush (n := 20) (v := 10) dX2_codeByWay_18 rfl rfl ?_
    rcases Nat.lt_or_ge (wsz n) 10 with hl | hl
    · refine am_icmp_ge (tgt := 158) (n := 23) dX2_codeByWay_20 (by decide) rfl (fun q => absurd q (nI_ge hl (by decide))) (fun _ => ?_)
      refine am_iload (n := 25) dX2_codeByWay_23 rfl rfl ?_
      refine am_iload_n (n := 26) (i := 3) dX2_codeByWay_25 rfl rfl rfl ?_
      by_cases hc : (hs E L n v (wsz n)).2.1 < L
      · refine am_icmp_ge (tgt := 158) (n := 29) dX2_codeByWay_26 (by decide) rfl (fun q => absurd q (nI_ge hc (by omega))) (fun _ => ?_)
        refine am_lload_n (n := 30) (i := 1) dX2_codeByWay_29 rfl rfl rfl ?_
        refine am_iload (n := 32) dX2_codeByWay_30 rfl rfl ?_
        refine cdX2_codeByWay_68 (n := 35) dX2_codeByWay_32 ⟨rfl, rfl⟩ (ac_X6_letterAt g n (wsz n) h hn.1 (by omega)) rfl rfl (Nat.le_of_ble_eq_true rfl) rfl ?_
        refine am_istore (n := 37) dX2_codeByWay_35 (Nat.le_of_ble_eq_true rfl) rfl rfl ?_
        refine am_iload (n := 39) dX2_codeByWay_37 rfl rfl ?_
        rw [wsz_out hl]
        refine cdX2_codeByWay_74 (n := 42) dX2_codeByWay_39 ⟨rfl, rfl⟩ (ac_X6_isLetter g (nI 0 - 1) h) rfl rfl (Nat.le_of_ble_eq_true rfl) rfl ?_
        refine am_if_ne (tgt := 48) (n := 45) dX2_codeByWay_42 (by decide) rfl (fun q => absurd (by decide) q) (fun _ => ?_)
        refine am_goto (tgt := 158) dX2_codeByWay_45 (by decide) ?_
        refine am_iload (n := 160) dX2_codeByWay_158 rfl rfl ?_
        refine am_iret dX2_codeByWay_160 rfl rfl ?_
        exact ⟨rfl, rfl⟩
      · refine am_icmp_ge (tgt := 158) (n := 29) dX2_codeByWay_26 (by decide) rfl (fun _ => ?_) (fun q => absurd (nI_le (Nat.not_lt.mp hc) (by omega)) q)
        refine am_iload (n := 160) dX2_codeByWay_158 rfl rfl ?_
        refine am_iret dX2_codeByWay_160 rfl rfl ?_
        exact ⟨rfl, rfl⟩
    · refine am_icmp_ge (tgt := 158) (n := 23) dX2_codeByWay_20 (by decide) rfl (fun _ => ?_) (fun q => absurd (nI_le hl (by omega)) q)
      refine am_iload (n := 160) dX2_codeByWay_158 rfl rfl ?_
      refine am_iret dX2_codeByWay_160 rfl rfl ?_
      exact ⟨rfl, rfl⟩
  · intro p hp K
    obtain ⟨iv1, iv2, iv3⟩ := hs_inv (L := L) (v := v) hV hn p (Nat.le_of_lt hp)
    have w0 := wsz_in hp
    have w26 := hn.2.1 p
    have hx35 := hvS_le (v := v) (o := (hs E L n v p).2.2.2) hV hn.2.1 w0
    have hb36 := bh_le (hab := E.2.2.1) (p := p) hn.2.1
    refine am_iload (n := 18) dX2_codeByWay_16 rfl rfl ?_
    refine am_bipush (n := 20) (v := 10) dX2_codeByWay_18 rfl rfl ?_
    refine am_icmp_ge (tgt := 158) (n := 23) dX2_codeByWay_20 (by decide) rfl (fun q => absurd q (nI_ge (show p < 10 by omega) (by decide))) (fun _ => ?_)
    refine am_iload (n := 25) dX2_codeByWay_23 rfl rfl ?_
    refine am_iload_n (n := 26) (i := 3) dX2_codeByWay_25 rfl rfl rfl ?_
    by_cases hc : (hs E L n v p).2.1 < L
    · refine am_icmp_ge (tgt := 158) (n := 29) dX2_codeByWay_26 (by decide) rfl (fun q => absurd q (nI_ge hc (by omega))) (fun _ => ?_)
      refine am_lload_n (n := 30) (i := 1) dX2_codeByWay_29 rfl rfl rfl ?_
      refine am_iload (n := 32) dX2_codeByWay_30 rfl rfl ?_
      refine cdX2_codeByWay_68 (n := 35) dX2_codeByWay_32 ⟨rfl, rfl⟩ (ac_X6_letterAt g n p h hn.1 (by omega)) rfl rfl (Nat.le_of_ble_eq_true rfl) rfl ?_
      refine am_istore (n := 37) dX2_codeByWay_35 (Nat.le_of_ble_eq_true rfl) rfl rfl ?_
      refine am_iload (n := 39) dX2_codeByWay_37 rfl rfl ?_
      refine cdX2_codeByWay_74 (n := 42) dX2_codeByWay_39 ⟨rfl, rfl⟩ (ac_X6_isLetter g (nI (wl n p) - 1) h) rfl rfl (Nat.le_of_ble_eq_true rfl) rfl ?_
      rw [lt_isl _ (by omega), bI_t (decide_eq_true (show wl n p ≠ 0 by omega))]
      refine am_if_ne (tgt := 48) (n := 45) dX2_codeByWay_42 (by decide) rfl (fun _ => ?_) (fun q => absurd q (by decide))
      refine am_aload_n (n := 49) (i := 0) dX2_codeByWay_48 rfl rfl rfl ?_
      refine am_lload_n (n := 50) (i := 1) dX2_codeByWay_49 rfl rfl rfl ?_
      refine am_iload (n := 52) dX2_codeByWay_50 rfl rfl ?_
      refine cdX2_codeByWay_78 (n := 55) dX2_codeByWay_52 ⟨rfl, rfl⟩ (ac_X2_byHabit g k n p E h hk' hE hV hn hp) rfl rfl (Nat.le_of_ble_eq_true rfl) (by first | assumption | exact isC_of (by decide +kernel)) rfl ?_
      -- behind the hearing
      have t124 : ∀ l : Lo, lget l 0 = some (.ref k) → lget l 1 = some (.long (lN n)) → lget l 3 = some (.int (nI L)) → lget l 5 = some (.int (nI (hs E L n v p).1)) → lget l 6 = some (.int (nI (hs E L n v p).2.1)) → lget l 7 = some (.int (nI (hs E L n v p).2.2.1)) → lget l 8 = some (.int (nI (v / 2 ^ ((hs E L n v p).2.2.2 + opn E n p)))) → lget l 9 = some (.int (nI p)) → lget l 11 = some (.int (nI (hvS E n v p (hs E L n v p).2.2.2))) → AW g mmX2_codeByWay (ZP g (fun r h2 => r = some (.int (nI (cw E L n v))) ∧ h2 = h)) 124 l [] h := by
        intro l l0 l1 l3 l5 l6 l7 l8 l9 l11
        refine am_loc [(0, some (.ref k)), (1, some (.long (lN n))), (3, some (.int (nI L))), (5, some (.int (nI (hs E L n v p).1))), (6, some (.int (nI (hs E L n v p).2.1))), (7, some (.int (nI (hs E L n v p).2.2.1))), (8, some (.int (nI (v / 2 ^ ((hs E L n v p).2.2.2 + opn E n p))))), (9, some (.int (nI p))), (11, some (.int (nI (hvS E n v p (hs E L n v p).2.2.2))))] (by simp only [List.map_cons, List.map_nil, l0, l1, l3, l5, l6, l7, l8, l9, l11]) ?_
        clear l0 l1 l3 l5 l6 l7 l8 l9 l11
        have t148 : ∀ c z : Nat, (hs E L n v (p + 1)).1 = c → (hs E L n v (p + 1)).2.1 = z → ∀ l : Lo, lget l 0 = some (.ref k) → lget l 1 = some (.long (lN n)) → lget l 3 = some (.int (nI L)) → lget l 5 = some (.int (nI c)) → lget l 6 = some (.int (nI z)) → lget l 8 = some (.int (nI (v / 2 ^ ((hs E L n v p).2.2.2 + opn E n p)))) → lget l 9 = some (.int (nI p)) → lget l 11 = some (.int (nI (hvS E n v p (hs E L n v p).2.2.2))) → AW g mmX2_codeByWay (ZP g (fun r h2 => r = some (.int (nI (cw E L n v))) ∧ h2 = h)) 148 l [] h := by
          intro c z e1 e2 l l0 l1 l3 l5 l6 l8 l9 l11
          refine am_loc [(0, some (.ref k)), (1, some (.long (lN n))), (3, some (.int (nI L))), (5, some (.int (nI c))), (6, some (.int (nI z))), (8, some (.int (nI (v / 2 ^ ((hs E L n v p).2.2.2 + opn E n p))))), (9, some (.int (nI p))), (11, some (.int (nI (hvS E n v p (hs E L n v p).2.2.2))))] (by simp only [List.map_cons, List.map_nil, l0, l1, l3, l5, l6, l8, l9, l11]) ?_
          clear l0 l1 l3 l5 l6 l8 l9 l11
          refine am_iload (n := 150) dX2_codeByWay_148 rfl rfl ?_
          refine am_istore (n := 152) dX2_codeByWay_150 (Nat.le_of_ble_eq_true rfl) rfl rfl ?_
          first | refine am_iincN (n := 155) dX2_codeByWay_152 rfl rfl rfl ?_ | refine am_iinc1 (n := 155) dX2_codeByWay_152 rfl rfl rfl ?_
          refine am_goto (tgt := 16) dX2_codeByWay_155 (by decide) ?_
          refine am_loc _ ?_ K
          simp only [List.map_cons, List.map_nil, e1, e2]
          rfl
        refine am_iload (n := 126) dX2_codeByWay_124 rfl rfl ?_
        by_cases x0 : hvS E n v p (hs E L n v p).2.2.2 = 0
        · refine am_if_eq (tgt := 148) (n := 129) dX2_codeByWay_126 (by decide) rfl (fun _ => ?_) (fun q => absurd (by rw [x0]; rfl) q)
          have hno : ¬ (hvS E n v p (hs E L n v p).2.2.2 ≠ 0 ∧ hvS E n v p (hs E L n v p).2.2.2 ≠ (hs E L n v p).2.2.1 ∧ (hs E L n v p).2.1 < L) := fun q => q.1 x0
          exact t148 _ _ (if_neg hno) (if_neg hno) _ rfl rfl rfl rfl rfl rfl rfl rfl
        · refine am_if_eq (tgt := 148) (n := 129) dX2_codeByWay_126 (by decide) rfl (fun q => absurd q (nI_ne0 (by omega) (by omega))) (fun _ => ?_)
          refine am_iload (n := 131) dX2_codeByWay_129 rfl rfl ?_
          refine am_iload (n := 133) dX2_codeByWay_131 rfl rfl ?_
          by_cases xa : hvS E n v p (hs E L n v p).2.2.2 = (hs E L n v p).2.2.1
          · refine am_icmp_eq (tgt := 148) (n := 136) dX2_codeByWay_133 (by decide) rfl (fun _ => ?_) (fun q => absurd (congrArg nI xa) q)
            have hno : ¬ (hvS E n v p (hs E L n v p).2.2.2 ≠ 0 ∧ hvS E n v p (hs E L n v p).2.2.2 ≠ (hs E L n v p).2.2.1 ∧ (hs E L n v p).2.1 < L) := fun q => q.2.1 xa
            exact t148 _ _ (if_neg hno) (if_neg hno) _ rfl rfl rfl rfl rfl rfl rfl rfl
          · refine am_icmp_eq (tgt := 148) (n := 136) dX2_codeByWay_133 (by decide) rfl (fun q => absurd q (fun q => xa ((nI_eq (by omega) (by omega)).mp q))) (fun _ => ?_)
            have hyes : (hvS E n v p (hs E L n v p).2.2.2 ≠ 0 ∧ hvS E n v p (hs E L n v p).2.2.2 ≠ (hs E L n v p).2.2.1 ∧ (hs E L n v p).2.1 < L) := ⟨x0, xa, hc⟩
            have hc24 : (hs E L n v p).1 < 2 ^ 24 := Nat.lt_of_lt_of_le iv1 (Nat.le_trans (Nat.pow_le_pow_right (by decide) (show (hs E L n v p).2.1 ≤ 4 by omega)) (by decide))
            refine am_iload (n := 138) dX2_codeByWay_136 rfl rfl ?_
            refine am_iload (n := 140) dX2_codeByWay_138 rfl rfl ?_
            refine cdX2_codeByWay_81 (n := 143) dX2_codeByWay_140 ⟨rfl, rfl⟩ (ac_X0_with g (hs E L n v p).1 (hvS E n v p (hs E L n v p).2.2.2) h hc24 (by omega)) rfl rfl (Nat.le_of_ble_eq_true rfl) rfl ?_
            refine am_istore (n := 145) dX2_codeByWay_143 (Nat.le_of_ble_eq_true rfl) rfl rfl ?_
            first | refine am_iincN (n := 148) dX2_codeByWay_145 rfl rfl rfl ?_ | refine am_iinc1 (n := 148) dX2_codeByWay_145 rfl rfl rfl ?_
            exact t148 _ _ (if_pos hyes) (if_pos hyes) _ rfl rfl rfl rfl rfl rfl rfl rfl
      refine am_istore (n := 57) dX2_codeByWay_55 (Nat.le_of_ble_eq_true rfl) rfl rfl ?_
      refine am_iload (n := 59) dX2_codeByWay_57 rfl rfl ?_
      refine am_iconst (n := 60) (v := (-1)) dX2_codeByWay_59 rfl rfl ?_
      by_cases hb : bh E.2.2.1 n p = 0
      · refine am_icmp_ne (tgt := 124) (n := 63) dX2_codeByWay_60 (by decide) rfl (fun q => absurd ((lt_m1 _ (by omega)).mpr hb) q) (fun _ => ?_)
        have ew : (nI (wl n p) - 1).toNatClampNeg = wl n p - 1 := by rw [nI_m1 w0, nI_clamp (by omega)]
        have hin : vp_in (nI (wl n p) - 1) 26 := by rw [nI_m1 w0]; exact vp_in_nI (by omega) (by omega)
        have h26 : wl n p - 1 < 26 := by omega
        have r1 := hE.1 (wl n p - 1) h26
        have hs10 := hV.1 (wl n p - 1) h26
        have ebit : nI (v / 2 ^ (hs E L n v p).2.2.2) &&& 1 = nI (v / 2 ^ (hs E L n v p).2.2.2 % 2) := fa_mask _ 1
        have hlt : v / 2 ^ (hs E L n v p).2.2.2 < 4 := Nat.lt_of_le_of_lt (Nat.div_le_self _ _) hv
        refine am_aload_n (n := 64) (i := 0) dX2_codeByWay_63 rfl rfl rfl ?_
        refine gfX2_codeByWay_15 (n := 67) dX2_codeByWay_64 (by first | assumption | exact isC_of (by decide +kernel)) rfl ?_
        refine am_iload (n := 69) dX2_codeByWay_67 rfl rfl ?_
        refine am_iald (n := 70) dX2_codeByWay_69 (by first | assumption | exact isC_of (by decide +kernel)) (by first | assumption | exact vp_in_nI (by omega) (by omega) | decide) rfl ?_
        refine am_bipush (n := 72) (v := (-6)) dX2_codeByWay_70 rfl rfl ?_
        rw [ew, r1.2]
        by_cases hs0 : E.2.1 (wl n p - 1) = 0
        · have eo : opn E n p = 0 := by unfold opn; rw [if_neg (fun q => q.2 hs0)]
          have ex : hvS E n v p (hs E L n v p).2.2.2 = E.1 (wl n p - 1) := by unfold hvS; rw [if_pos hb, if_neg (fun q => q.1 hs0)]
          refine am_icmp_eq (tgt := 79) (n := 75) dX2_codeByWay_72 (by decide) rfl (fun _ => ?_) (fun q => absurd ((sec_none hs10.2.1).mpr hs0) q)
          refine am_iconst (n := 80) (v := 0) dX2_codeByWay_79 rfl rfl ?_
          refine am_istore (n := 82) dX2_codeByWay_80 (Nat.le_of_ble_eq_true rfl) rfl rfl ?_
          refine am_iload (n := 84) dX2_codeByWay_82 rfl rfl ?_
          refine am_if_eq (tgt := 104) (n := 87) dX2_codeByWay_84 (by decide) rfl (fun _ => ?_) (fun q => absurd rfl q)
          refine am_aload_n (n := 105) (i := 0) dX2_codeByWay_104 rfl rfl rfl ?_
          refine gfX2_codeByWay_9 (n := 108) dX2_codeByWay_105 (by first | assumption | exact isC_of (by decide +kernel)) rfl ?_
          refine am_iload (n := 110) dX2_codeByWay_108 rfl rfl ?_
          refine am_iald (n := 111) dX2_codeByWay_110 (by first | assumption | exact isC_of (by decide +kernel)) (by first | assumption | exact vp_in_nI (by omega) (by omega) | decide) rfl ?_
          rw [ew, r1.1, ← ex]
          refine am_istore (n := 113) dX2_codeByWay_111 (Nat.le_of_ble_eq_true rfl) rfl rfl ?_
          refine am_iload (n := 115) dX2_codeByWay_113 rfl rfl ?_
          refine am_if_eq (tgt := 124) (n := 118) dX2_codeByWay_115 (by decide) rfl (fun _ => ?_) (fun q => absurd rfl q)
          exact t124 _ rfl rfl rfl rfl rfl rfl (by rw [eo]; rfl) rfl rfl
        · have eo : opn E n p = 1 := by unfold opn; rw [if_pos ⟨hb, hs0⟩]
          refine am_icmp_eq (tgt := 79) (n := 75) dX2_codeByWay_72 (by decide) rfl (fun q => absurd q (fun q => hs0 ((sec_none hs10.2.1).mp q))) (fun _ => ?_)
          refine am_iconst (n := 76) (v := 1) dX2_codeByWay_75 rfl rfl ?_
          refine am_goto (tgt := 80) dX2_codeByWay_76 (by decide) ?_
          refine am_istore (n := 82) dX2_codeByWay_80 (Nat.le_of_ble_eq_true rfl) rfl rfl ?_
          refine am_iload (n := 84) dX2_codeByWay_82 rfl rfl ?_
          refine am_if_eq (tgt := 104) (n := 87) dX2_codeByWay_84 (by decide) rfl (fun q => absurd q (by decide)) (fun _ => ?_)
          refine am_iload (n := 89) dX2_codeByWay_87 rfl rfl ?_
          refine am_iconst (n := 90) (v := 1) dX2_codeByWay_89 rfl rfl ?_
          refine am_iand (n := 91) dX2_codeByWay_90 rfl ?_
          rw [ebit]
          have eu : ((nI (v / 2 ^ (hs E L n v p).2.2.2)).toUInt32 >>> ((1 : Int32).toUInt32 &&& Int32.toUInt32 31)).toInt32 = nI (v / 2 ^ ((hs E L n v p).2.2.2 + opn E n p)) := by
            rw [pk_ushrN (by omega) 1 1 (by decide), eo, Nat.div_div_eq_div_mul, ← Nat.pow_add]
          by_cases hbit : v / 2 ^ (hs E L n v p).2.2.2 % 2 = 1
          · have ex : hvS E n v p (hs E L n v p).2.2.2 = E.2.1 (wl n p - 1) - 1 := by unfold hvS; rw [if_pos hb, if_pos ⟨hs0, hbit⟩]
            refine am_if_eq (tgt := 104) (n := 94) dX2_codeByWay_91 (by decide) rfl (fun q => absurd q (by rw [hbit]; decide)) (fun _ => ?_)
            refine am_aload_n (n := 95) (i := 0) dX2_codeByWay_94 rfl rfl rfl ?_
            refine gfX2_codeByWay_15 (n := 98) dX2_codeByWay_95 (by first | assumption | exact isC_of (by decide +kernel)) rfl ?_
            refine am_iload (n := 100) dX2_codeByWay_98 rfl rfl ?_
            refine am_iald (n := 101) dX2_codeByWay_100 (by first | assumption | exact isC_of (by decide +kernel)) (by first | assumption | exact vp_in_nI (by omega) (by omega) | decide) rfl ?_
            rw [ew, r1.2, sec_nI (by omega), ← ex]
            refine am_goto (tgt := 111) dX2_codeByWay_101 (by decide) ?_
            refine am_istore (n := 113) dX2_codeByWay_111 (Nat.le_of_ble_eq_true rfl) rfl rfl ?_
            refine am_iload (n := 115) dX2_codeByWay_113 rfl rfl ?_
            refine am_if_eq (tgt := 124) (n := 118) dX2_codeByWay_115 (by decide) rfl (fun q => absurd q (by decide)) (fun _ => ?_)
            refine am_iload (n := 120) dX2_codeByWay_118 rfl rfl ?_
            refine am_iconst (n := 121) (v := 1) dX2_codeByWay_120 rfl rfl ?_
            refine am_iushr (n := 122) dX2_codeByWay_121 rfl ?_
            rw [eu]
            refine am_istore (n := 124) dX2_codeByWay_122 (Nat.le_of_ble_eq_true rfl) rfl rfl ?_
            exact t124 _ rfl rfl rfl rfl rfl rfl rfl rfl rfl
          · have ex : hvS E n v p (hs E L n v p).2.2.2 = E.1 (wl n p - 1) := by unfold hvS; rw [if_pos hb, if_neg (fun q => hbit q.2)]
            refine am_if_eq (tgt := 104) (n := 94) dX2_codeByWay_91 (by decide) rfl (fun _ => ?_) (fun q => absurd (by rw [show v / 2 ^ (hs E L n v p).2.2.2 % 2 = 0 by omega]; rfl) q)
            refine am_aload_n (n := 105) (i := 0) dX2_codeByWay_104 rfl rfl rfl ?_
            refine gfX2_codeByWay_9 (n := 108) dX2_codeByWay_105 (by first | assumption | exact isC_of (by decide +kernel)) rfl ?_
            refine am_iload (n := 110) dX2_codeByWay_108 rfl rfl ?_
            refine am_iald (n := 111) dX2_codeByWay_110 (by first | assumption | exact isC_of (by decide +kernel)) (by first | assumption | exact vp_in_nI (by omega) (by omega) | decide) rfl ?_
            rw [ew, r1.1, ← ex]
            refine am_istore (n := 113) dX2_codeByWay_111 (Nat.le_of_ble_eq_true rfl) rfl rfl ?_
            refine am_iload (n := 115) dX2_codeByWay_113 rfl rfl ?_
            refine am_if_eq (tgt := 124) (n := 118) dX2_codeByWay_115 (by decide) rfl (fun q => absurd q (by decide)) (fun _ => ?_)
            refine am_iload (n := 120) dX2_codeByWay_118 rfl rfl ?_
            refine am_iconst (n := 121) (v := 1) dX2_codeByWay_120 rfl rfl ?_
            refine am_iushr (n := 122) dX2_codeByWay_121 rfl ?_
            rw [eu]
            refine am_istore (n := 124) dX2_codeByWay_122 (Nat.le_of_ble_eq_true rfl) rfl rfl ?_
            exact t124 _ rfl rfl rfl rfl rfl rfl rfl rfl rfl
      · have eo : opn E n p = 0 := by unfold opn; rw [if_neg (fun q => hb q.1)]
        have ex : hvS E n v p (hs E L n v p).2.2.2 = bh E.2.2.1 n p - 1 := by unfold hvS; rw [if_neg hb]
        refine am_icmp_ne (tgt := 124) (n := 63) dX2_codeByWay_60 (by decide) rfl (fun _ => ?_) (fun q => absurd q (fun q => hb ((lt_m1 _ (by omega)).mp q)))
        exact t124 _ rfl rfl rfl rfl rfl rfl (by rw [eo]; rfl) rfl (by rw [ex, ← nI_m1 (by omega)]; rfl)
    · have e := cw_stop (Nat.le_of_lt hp) hc
      refine am_icmp_ge (tgt := 158) (n := 29) dX2_codeByWay_26 (by decide) rfl (fun _ => ?_) (fun q => absurd (nI_le (Nat.not_lt.mp hc) (by omega)) q)
      refine am_iload (n := 160) dX2_codeByWay_158 rfl rfl ?_
      refine am_iret dX2_codeByWay_160 rfl rfl ?_
      rw [e]
      exact ⟨rfl, rfl⟩
