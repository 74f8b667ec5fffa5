/-! The reference: codeBy -/
theorem shr_bit : ∀ v, v < 4 → ∀ o, o < 2 → (((nI v >>> (nI o &&& 31)) &&& 1 = 1) ↔ v / 2 ^ o % 2 = 1) := by decide +kernel
theorem nI_ne6 {n : Nat} (h : n < 2 ^ 31) : ¬ nI n = -6 := by
  intro q
  have := nI_pos' h
  rw [q] at this
  exact absurd this (by decide)
set_option maxRecDepth 100000 in
set_option maxHeartbeats 800000 in
theorem m_codeBy (g : Gx) (e n v L : Nat) (E : EV) (h : Hp) (he : e < 4) (R : REZ (268 + 78 * e) E (h.1 41)) (hV : VE E) (hW : MWd n h) (hn : VW n) (hv : v < 4) (hL : L ≤ 5) (hz : h.1 41 0 = nI L) : AD g yX8_codeBy wsX8_codeBy rmX8_codeBy [.ref 40, .int (nI e), .int (nI v)] h (some (.long (lN (lc (cw E L n v))))) h := by
  have c40 := isC_40
  have c41 := isC_41
  have c47 := isC_47
  have h10 := wsz_le n
  have hinv := fun p hp => hs_inv (E := E) (L := L) (n := n) (v := v) hV hn p hp
  have hcsz := csz_hs (v := v) hV hn hL
  have hocl : ∀ p, (hs E L n v p).2.2.2 ≤ p := by
    intro p
    rw [hs_oc]
    induction p with
    | zero => exact Nat.le_refl _
    | succ p ih =>
      rw [oc_succ]
      have := opn_le E n p
      omega
  generalize hZ : ZP g (fun r h2 => r = some (.long (lN (lc (cw E L n v)))) ∧ h2 = h) = Z
  have z0 : Z.1 = 0 ∧ Z.2.1 = 0 := by rw [← hZ]; exact ⟨rfl, rfl⟩
  refine AC.of (cc := cX8_codeBy) (maxL := 12) (ret := (some .long)) (by decide +kernel) rfl (Nat.le_of_ble_eq_true rfl) ?_
  show AW g mmX8_codeBy _ 0 [(0, some (.ref 40)), (1, some (.int (nI e))), (2, some (.int (nI v)))] [] _
  rw [hZ]
  refine am_lconst (n := 1) (v := 0) dX8_codeBy_0 rfl rfl ?_
  refine am_lstore_n (n := 2) (i := 3) dX8_codeBy_1 rfl (Nat.le_of_ble_eq_true rfl) rfl rfl ?_
  refine am_iconst (n := 3) (v := 0) dX8_codeBy_2 rfl rfl ?_
  refine am_istore (n := 5) dX8_codeBy_3 (Nat.le_of_ble_eq_true rfl) rfl rfl ?_
  refine am_iconst (n := 6) (v := 0) dX8_codeBy_5 rfl rfl ?_
  refine am_istore (n := 8) dX8_codeBy_6 (Nat.le_of_ble_eq_true rfl) rfl rfl ?_
  refine am_iconst (n := 9) (v := 0) dX8_codeBy_8 rfl rfl ?_
  refine am_istore (n := 11) dX8_codeBy_9 (Nat.le_of_ble_eq_true rfl) rfl rfl ?_
  refine am_iconst (n := 12) (v := 0) dX8_codeBy_11 rfl rfl ?_
  refine am_istore (n := 14) dX8_codeBy_12 (Nat.le_of_ble_eq_true rfl) rfl rfl ?_
  refine am_loc [(0, some (.ref 40)), (1, some (.int (nI e))), (2, some (.int (nI v))), (3, some (.long (lN (hs E L n v 0).1))), (5, some (.int (nI (hs E L n v 0).2.1))), (6, some (.int (nI (hs E L n v 0).2.2.2))), (7, some (.int (nI (hs E L n v 0).2.2.1))), (8, some (.int (nI 0)))] rfl ?_
  refine loop_up (Wp := fun p => AW g mmX8_codeBy Z 14 [(0, some (.ref 40)), (1, some (.int (nI e))), (2, some (.int (nI v))), (3, some (.long (lN (hs E L n v p).1))), (5, some (.int (nI (hs E L n v p).2.1))), (6, some (.int (nI (hs E L n v p).2.2.2))), (7, some (.int (nI (hs E L n v p).2.2.1))), (8, some (.int (nI p)))] [] h) (wsz n) ?_ ?_ 0 (Nat.zero_le _)
  · have hc : cw E L n v = (hs E L n v (wsz n)).1 := rfl
    obtain ⟨i1, i2, i3⟩ := hinv (wsz n) (Nat.le_refl _)
    have hl : lc (cw E L n v) = 1073741824 * (hs E L n v (wsz n)).2.1 + (hs E L n v (wsz n)).1 * 64 ^ (5 - (hs E L n v (wsz n)).2.1) := by
      unfold lc
      rw [hcsz, hc]
    rw [hl] at hZ
    clear hl hc hcsz hinv
    generalize hs E L n v (wsz n) = t at *
    refine am_iload (n := 16) dX8_codeBy_14 rfl rfl ?_
    refine am_aload_n (n := 17) (i := 0) dX8_codeBy_16 rfl rfl rfl ?_
    refine gfX8_codeBy_75 (n := 20) dX8_codeBy_17 (by first | assumption | exact isC_of (by decide +kernel)) rfl ?_
    rw [hW.1]
    refine am_icmp_ge (tgt := 173) (n := 23) dX8_codeBy_20 (by decide) rfl (fun _ => ?_) (fun q_z => absurd (nI_le (Nat.le_refl _) (by omega)) q_z)
    refine am_iload (n := 175) dX8_codeBy_173 rfl rfl ?_
    refine am_istore (n := 177) dX8_codeBy_175 (Nat.le_of_ble_eq_true rfl) rfl rfl ?_
    refine am_loc [(3, some (.long (lN (t.1 * 64 ^ 0)))), (5, some (.int (nI t.2.1))), (8, some (.int (nI (t.2.1 + 0))))] (by rw [Nat.pow_zero, Nat.mul_one]; rfl) ?_
    refine loop_up (Wp := fun j => AW g mmX8_codeBy Z 177 [(3, some (.long (lN (t.1 * 64 ^ j)))), (5, some (.int (nI t.2.1))), (8, some (.int (nI (t.2.1 + j))))] [] h) (5 - t.2.1) ?_ ?_ 0 (Nat.zero_le _)
    · refine am_iload (n := 179) dX8_codeBy_177 rfl rfl ?_
      refine am_iconst (n := 180) (v := 5) dX8_codeBy_179 rfl rfl ?_
      refine am_icmp_ge (tgt := 195) (n := 183) dX8_codeBy_180 (by decide) rfl (fun _ => ?_) (fun q_z => absurd (nI_le (show 5 ≤ t.2.1 + (5 - t.2.1) by omega) (by omega)) q_z)
      refine am_ldc2 (n := 198) (v := 1073741824) dX8_codeBy_195 (by decide +kernel) rfl ?_
      refine am_iload (n := 200) dX8_codeBy_198 rfl rfl ?_
      refine am_i2l (n := 201) dX8_codeBy_200 rfl ?_
      rw [nI_l (by omega)]
      refine am_lmul (n := 202) dX8_codeBy_201 rfl ?_
      rw [show (1073741824 : Int64) * lN t.2.1 = lN (1073741824 * t.2.1) from lN_mul _ _]
      refine am_lload_n (n := 203) (i := 3) dX8_codeBy_202 rfl rfl rfl ?_
      refine am_ladd (n := 204) dX8_codeBy_203 rfl ?_
      rw [lN_add, ← hZ]
      refine am_lret dX8_codeBy_204 rfl ?_
      exact ⟨rfl, rfl⟩
    · intro j hj K
      refine am_iload (n := 179) dX8_codeBy_177 rfl rfl ?_
      refine am_iconst (n := 180) (v := 5) dX8_codeBy_179 rfl rfl ?_
      refine am_icmp_ge (tgt := 195) (n := 183) dX8_codeBy_180 (by decide) rfl (fun q_z => absurd q_z (nI_ge (show t.2.1 + j < 5 by omega) (by decide))) (fun _ => ?_)
      refine am_lload_n (n := 184) (i := 3) dX8_codeBy_183 rfl rfl rfl ?_
      refine am_ldc2 (n := 187) (v := 64) dX8_codeBy_184 (by decide +kernel) rfl ?_
      refine am_lmul (n := 188) dX8_codeBy_187 rfl ?_
      rw [show lN (t.1 * 64 ^ j) * (64 : Int64) = lN (t.1 * 64 ^ (j + 1)) by rw [show (64 : Int64) = lN 64 from rfl, lN_mul, Nat.pow_succ, Nat.mul_assoc]]
      refine am_lstore_n (n := 189) (i := 3) dX8_codeBy_188 rfl (Nat.le_of_ble_eq_true rfl) rfl rfl ?_
      first | refine am_iincN (n := 192) dX8_codeBy_189 rfl rfl rfl ?_ | refine am_iinc1 (n := 192) dX8_codeBy_189 rfl rfl rfl ?_
      refine am_goto (tgt := 177) dX8_codeBy_192 (by decide) ?_
      exact am_loc _ rfl K
  · intro p hp K
    have hlt := wsz_in hp
    have h26 := hn.2.1 p
    have hx := hW.2 p hp
    have hin : vp_in (nI p) 10 := vp_in_nI (by omega) (by decide)
    obtain ⟨i1, i2, i3⟩ := hinv p (by omega)
    have hxl := hvS_le (v := v) (o := (hs E L n v p).2.2.2) hV hn.2.1 hlt
    have hol := hocl p
    have hbl := bh_le (hab := E.2.2.1) (p := p) hn.2.1
    rw [show hs E L n v (p + 1) = (if hvS E n v p (hs E L n v p).2.2.2 ≠ 0 ∧ hvS E n v p (hs E L n v p).2.2.2 ≠ (hs E L n v p).2.2.1 ∧ (hs E L n v p).2.1 < L then 64 * (hs E L n v p).1 + hvS E n v p (hs E L n v p).2.2.2 else (hs E L n v p).1, if hvS E n v p (hs E L n v p).2.2.2 ≠ 0 ∧ hvS E n v p (hs E L n v p).2.2.2 ≠ (hs E L n v p).2.2.1 ∧ (hs E L n v p).2.1 < L then (hs E L n v p).2.1 + 1 else (hs E L n v p).2.1, hvS E n v p (hs E L n v p).2.2.2, (hs E L n v p).2.2.2 + opn E n p) from rfl] at K
    clear hinv hcsz hocl
    generalize hs E L n v p = t at *
    have hvd : hvS E n v p t.2.2.2 = if bh E.2.2.1 n p = 0 then (if E.2.1 (wl n p - 1) ≠ 0 ∧ v / 2 ^ t.2.2.2 % 2 = 1 then E.2.1 (wl n p - 1) - 1 else E.1 (wl n p - 1)) else bh E.2.2.1 n p - 1 := rfl
    have hod : opn E n p = if bh E.2.2.1 n p = 0 ∧ E.2.1 (wl n p - 1) ≠ 0 then 1 else 0 := rfl
    have hby := m_byHabit g e n p E h he R hV hW hn hp
    have hR1 := R.1 (wl n p - 1) (by omega)
    have hVl := hV.1 (wl n p - 1) (by omega)
    have hl26 : wl n p - 1 < 26 := by omega
    generalize hvS E n v p t.2.2.2 = x at *
    generalize opn E n p = u at *
    generalize bh E.2.2.1 n p = b at *
    generalize wl n p - 1 = l at *
    obtain ⟨hR1, hR2⟩ := hR1
    generalize E.1 l = f at *
    generalize E.2.1 l = s at *
    obtain ⟨c, len, ahead, o⟩ := t
    dsimp only at *
    have hc24 : len < L → c < 64 ^ 4 := fun q => Nat.lt_of_lt_of_le i1 (Nat.pow_le_pow_right (by decide) (by omega))
    have t127 : ∀ ll, lget ll 0 = some (.ref 40) → lget ll 1 = some (.int (nI e)) → lget ll 2 = some (.int (nI v)) → lget ll 3 = some (.long (lN c)) → lget ll 5 = some (.int (nI len)) → lget ll 6 = some (.int (nI (o + u))) → lget ll 7 = some (.int (nI ahead)) → lget ll 8 = some (.int (nI p)) → lget ll 9 = some (.int (nI x)) → AW g mmX8_codeBy Z 127 ll [] h := by
      intro ll l0 l1 l2 l3 l5 l6 l7 l8 l9
      refine am_loc [(0, some (.ref 40)), (1, some (.int (nI e))), (2, some (.int (nI v))), (3, some (.long (lN c))), (5, some (.int (nI len))), (6, some (.int (nI (o + u)))), (7, some (.int (nI ahead))), (8, some (.int (nI p))), (9, some (.int (nI x)))] (by simp only [List.map_cons, List.map_nil, l0, l1, l2, l3, l5, l6, l7, l8, l9]) ?_
      have skip : ¬ (x ≠ 0 ∧ x ≠ ahead ∧ len < L) → AW g mmX8_codeBy Z 163 [(0, some (.ref 40)), (1, some (.int (nI e))), (2, some (.int (nI v))), (3, some (.long (lN c))), (5, some (.int (nI len))), (6, some (.int (nI (o + u)))), (7, some (.int (nI ahead))), (8, some (.int (nI p))), (9, some (.int (nI x)))] [] h := by
        intro q
        rw [if_neg q, if_neg q] at K
        refine am_iload (n := 165) dX8_codeBy_163 rfl rfl ?_
        refine am_istore (n := 167) dX8_codeBy_165 (Nat.le_of_ble_eq_true rfl) rfl rfl ?_
        first | refine am_iincN (n := 170) dX8_codeBy_167 rfl rfl rfl ?_ | refine am_iinc1 (n := 170) dX8_codeBy_167 rfl rfl rfl ?_
        refine am_goto (tgt := 14) dX8_codeBy_170 (by decide) ?_
        exact am_loc _ rfl K
      refine am_iload (n := 129) dX8_codeBy_127 rfl rfl ?_
      by_cases q1 : x = 0
      · refine am_if_le (tgt := 163) (n := 132) dX8_codeBy_129 (by decide) rfl (fun _ => ?_) (fun q_z => absurd (by rw [q1]; decide) q_z)
        exact skip (fun q => q.1 q1)
      · refine am_if_le (tgt := 163) (n := 132) dX8_codeBy_129 (by decide) rfl (fun q_z => absurd q_z (fun z => absurd ((nI_leI (b := 0) (by omega) (by omega)).mp z) (by omega))) (fun _ => ?_)
        refine am_iload (n := 134) dX8_codeBy_132 rfl rfl ?_
        refine am_iload (n := 136) dX8_codeBy_134 rfl rfl ?_
        by_cases q2 : x = ahead
        · refine am_icmp_eq (tgt := 163) (n := 139) dX8_codeBy_136 (by decide) rfl (fun _ => ?_) (fun q_z => absurd (by rw [q2]) q_z)
          exact skip (fun q => q.2.1 q2)
        · refine am_icmp_eq (tgt := 163) (n := 139) dX8_codeBy_136 (by decide) rfl (fun q_z => absurd q_z (fun z => q2 ((nI_eq (by omega) (by omega)).mp z))) (fun _ => ?_)
          refine am_iload (n := 141) dX8_codeBy_139 rfl rfl ?_
          refine am_aload_n (n := 142) (i := 0) dX8_codeBy_141 rfl rfl rfl ?_
          refine gfX8_codeBy_7 (n := 145) dX8_codeBy_142 (by first | assumption | exact isC_of (by decide +kernel)) rfl ?_
          refine am_iconst (n := 146) (v := 0) dX8_codeBy_145 rfl rfl ?_
          refine am_iald (n := 147) dX8_codeBy_146 (by first | assumption | exact isC_of (by decide +kernel)) (by first | assumption | exact vp_in_nI (by omega) (by omega) | exact vp_in_iff.mpr (by decide)) rfl ?_
          rw [show (0 : Int32).toNatClampNeg = 0 from rfl, hz]
          by_cases q3 : len < L
          · refine am_icmp_ge (tgt := 163) (n := 150) dX8_codeBy_147 (by decide) rfl (fun q_z => absurd q_z (nI_ge q3 (by omega))) (fun _ => ?_)
            rw [if_pos ⟨q1, q2, q3⟩, if_pos ⟨q1, q2, q3⟩] at K
            refine am_ldc2 (n := 153) (v := 64) dX8_codeBy_150 (by decide +kernel) rfl ?_
            refine am_lload_n (n := 154) (i := 3) dX8_codeBy_153 rfl rfl rfl ?_
            refine am_lmul (n := 155) dX8_codeBy_154 rfl ?_
            rw [show (64 : Int64) * lN c = lN (64 * c) from lN_mul 64 c]
            refine am_iload (n := 157) dX8_codeBy_155 rfl rfl ?_
            refine am_i2l (n := 158) dX8_codeBy_157 rfl ?_
            rw [nI_l (by omega)]
            refine am_ladd (n := 159) dX8_codeBy_158 rfl ?_
            rw [lN_add]
            refine am_lstore_n (n := 160) (i := 3) dX8_codeBy_159 rfl (Nat.le_of_ble_eq_true rfl) rfl rfl ?_
            first | refine am_iincN (n := 163) dX8_codeBy_160 rfl rfl rfl ?_ | refine am_iinc1 (n := 163) dX8_codeBy_160 rfl rfl rfl ?_
            refine am_iload (n := 165) dX8_codeBy_163 rfl rfl ?_
            refine am_istore (n := 167) dX8_codeBy_165 (Nat.le_of_ble_eq_true rfl) rfl rfl ?_
            first | refine am_iincN (n := 170) dX8_codeBy_167 rfl rfl rfl ?_ | refine am_iinc1 (n := 170) dX8_codeBy_167 rfl rfl rfl ?_
            refine am_goto (tgt := 14) dX8_codeBy_170 (by decide) ?_
            exact am_loc _ rfl K
          · refine am_icmp_ge (tgt := 163) (n := 150) dX8_codeBy_147 (by decide) rfl (fun _ => ?_) (fun q_z => absurd (nI_le (Nat.not_lt.mp q3) (by omega)) q_z)
            exact skip (fun q => q3 q.2.2)
    refine am_iload (n := 16) dX8_codeBy_14 rfl rfl ?_
    refine am_aload_n (n := 17) (i := 0) dX8_codeBy_16 rfl rfl rfl ?_
    refine gfX8_codeBy_75 (n := 20) dX8_codeBy_17 (by first | assumption | exact isC_of (by decide +kernel)) rfl ?_
    rw [hW.1]
    refine am_icmp_ge (tgt := 173) (n := 23) dX8_codeBy_20 (by decide) rfl (fun q_z => absurd q_z (nI_ge hp (by omega))) (fun _ => ?_)
    refine am_aload_n (n := 24) (i := 0) dX8_codeBy_23 rfl rfl rfl ?_
    refine am_iload_n (n := 25) (i := 1) dX8_codeBy_24 rfl rfl rfl ?_
    refine am_iload (n := 27) dX8_codeBy_25 rfl rfl ?_
    refine cdX8_codeBy_116 (n := 30) dX8_codeBy_27 (by first | exact ⟨rfl, rfl⟩ | assumption) hby rfl rfl (Nat.le_of_ble_eq_true rfl) (by first | assumption | exact isC_of (by decide +kernel)) rfl ?_
    refine am_istore (n := 32) dX8_codeBy_30 (Nat.le_of_ble_eq_true rfl) rfl rfl ?_
    refine am_iload (n := 34) dX8_codeBy_32 rfl rfl ?_
    refine am_bipush (n := 36) (v := (-6)) dX8_codeBy_34 rfl rfl ?_
    by_cases hb : b = 0
    · subst hb
      rw [sec_0]
      rw [if_pos rfl] at hvd
      refine am_icmp_ne (tgt := 127) (n := 39) dX8_codeBy_36 (by decide) rfl (fun q_z => absurd rfl q_z) (fun _ => ?_)
      refine am_aload_n (n := 40) (i := 0) dX8_codeBy_39 rfl rfl rfl ?_
      refine am_iload_n (n := 41) (i := 1) dX8_codeBy_40 rfl rfl rfl ?_
      refine am_bipush (n := 43) (v := 26) dX8_codeBy_41 rfl rfl ?_
      refine am_aload_n (n := 44) (i := 0) dX8_codeBy_43 rfl rfl rfl ?_
      refine gfX8_codeBy_29 (n := 47) dX8_codeBy_44 (by first | assumption | exact isC_of (by decide +kernel)) rfl ?_
      refine am_iload (n := 49) dX8_codeBy_47 rfl rfl ?_
      refine am_iald (n := 50) dX8_codeBy_49 (by first | assumption | exact isC_of (by decide +kernel)) (by first | assumption | exact vp_in_nI (by omega) (by omega) | exact vp_in_iff.mpr (by decide)) rfl ?_
      rw [nI_clamp (by omega), hx]
      refine am_iadd (n := 51) dX8_codeBy_50 rfl ?_
      rw [show (26 : Int32) + nI l = nI (26 + l) from nI_add 26 l]
      refine cdX8_codeBy_106 (n := 54) dX8_codeBy_51 (by first | exact ⟨rfl, rfl⟩ | assumption) (m_at g e (26 + l) h he (by omega)) rfl rfl (Nat.le_of_ble_eq_true rfl) (by first | assumption | exact isC_of (by decide +kernel)) rfl ?_
      rw [show 268 + 78 * e + (26 + l) = 268 + 78 * e + 26 + l by omega, hR2]
      refine am_iconst (n := 55) (v := 1) dX8_codeBy_54 rfl rfl ?_
      refine am_isub (n := 56) dX8_codeBy_55 rfl ?_
      refine am_istore (n := 58) dX8_codeBy_56 (Nat.le_of_ble_eq_true rfl) rfl rfl ?_
      refine am_iload (n := 60) dX8_codeBy_58 rfl rfl ?_
      have t112 : ∀ ll, lget ll 0 = some (.ref 40) → lget ll 1 = some (.int (nI e)) → lget ll 2 = some (.int (nI v)) → lget ll 3 = some (.long (lN c)) → lget ll 5 = some (.int (nI len)) → lget ll 6 = some (.int (nI o)) → lget ll 7 = some (.int (nI ahead)) → lget ll 8 = some (.int (nI p)) → lget ll 9 = some (.int (nI x)) → lget ll 10 = some (.int (nI s - 1)) → AW g mmX8_codeBy Z 112 ll [] h := by
        intro ll l0 l1 l2 l3 l5 l6 l7 l8 l9 l10
        refine am_loc [(0, some (.ref 40)), (1, some (.int (nI e))), (2, some (.int (nI v))), (3, some (.long (lN c))), (5, some (.int (nI len))), (6, some (.int (nI o))), (7, some (.int (nI ahead))), (8, some (.int (nI p))), (9, some (.int (nI x))), (10, some (.int (nI s - 1)))] (by simp only [List.map_cons, List.map_nil, l0, l1, l2, l3, l5, l6, l7, l8, l9, l10]) ?_
        refine am_iload (n := 114) dX8_codeBy_112 rfl rfl ?_
        refine am_iload (n := 116) dX8_codeBy_114 rfl rfl ?_
        by_cases hs0 : s = 0
        · rw [if_neg (fun q => q.2 hs0)] at hod
          subst hod
          refine am_if_lt (tgt := 123) (n := 119) dX8_codeBy_116 (by decide) rfl (fun _ => ?_) (fun q_z => absurd (by rw [hs0]; decide) q_z)
          refine am_iconst (n := 124) (v := 0) dX8_codeBy_123 rfl rfl ?_
          refine am_iadd (n := 125) dX8_codeBy_124 rfl ?_
          rw [show nI o + (0 : Int32) = nI (o + 0) from nI_add o 0]
          refine am_istore (n := 127) dX8_codeBy_125 (Nat.le_of_ble_eq_true rfl) rfl rfl ?_
          exact t127 _ rfl rfl rfl rfl rfl rfl rfl rfl rfl
        · rw [if_pos ⟨rfl, hs0⟩] at hod
          subst hod
          refine am_if_lt (tgt := 123) (n := 119) dX8_codeBy_116 (by decide) rfl (fun q_z => absurd q_z (by rw [nI_m1 (by omega)]; exact nI_pos (by omega))) (fun _ => ?_)
          refine am_iconst (n := 120) (v := 1) dX8_codeBy_119 rfl rfl ?_
          refine am_goto (tgt := 124) dX8_codeBy_120 (by decide) ?_
          refine am_iadd (n := 125) dX8_codeBy_124 rfl ?_
          rw [nI_1]
          refine am_istore (n := 127) dX8_codeBy_125 (Nat.le_of_ble_eq_true rfl) rfl rfl ?_
          exact t127 _ rfl rfl rfl rfl rfl rfl rfl rfl rfl
      have t83 : ∀ ll, ¬ (s ≠ 0 ∧ v / 2 ^ o % 2 = 1) → lget ll 0 = some (.ref 40) → lget ll 1 = some (.int (nI e)) → lget ll 2 = some (.int (nI v)) → lget ll 3 = some (.long (lN c)) → lget ll 5 = some (.int (nI len)) → lget ll 6 = some (.int (nI o)) → lget ll 7 = some (.int (nI ahead)) → lget ll 8 = some (.int (nI p)) → lget ll 10 = some (.int (nI s - 1)) → AW g mmX8_codeBy Z 83 ll [] h := by
        intro ll hq l0 l1 l2 l3 l5 l6 l7 l8 l10
        rw [if_neg hq] at hvd
        refine am_loc [(0, some (.ref 40)), (1, some (.int (nI e))), (2, some (.int (nI v))), (3, some (.long (lN c))), (5, some (.int (nI len))), (6, some (.int (nI o))), (7, some (.int (nI ahead))), (8, some (.int (nI p))), (10, some (.int (nI s - 1)))] (by simp only [List.map_cons, List.map_nil, l0, l1, l2, l3, l5, l6, l7, l8, l10]) ?_
        refine am_iconst (n := 84) (v := 0) dX8_codeBy_83 rfl rfl ?_
        refine am_istore (n := 86) dX8_codeBy_84 (Nat.le_of_ble_eq_true rfl) rfl rfl ?_
        refine am_iload (n := 88) dX8_codeBy_86 rfl rfl ?_
        refine am_if_eq (tgt := 96) (n := 91) dX8_codeBy_88 (by decide) rfl (fun _ => ?_) (fun q_z => absurd rfl q_z)
        refine am_aload_n (n := 97) (i := 0) dX8_codeBy_96 rfl rfl rfl ?_
        refine am_iload_n (n := 98) (i := 1) dX8_codeBy_97 rfl rfl rfl ?_
        refine am_iconst (n := 99) (v := 0) dX8_codeBy_98 rfl rfl ?_
        refine am_aload_n (n := 100) (i := 0) dX8_codeBy_99 rfl rfl rfl ?_
        refine gfX8_codeBy_29 (n := 103) dX8_codeBy_100 (by first | assumption | exact isC_of (by decide +kernel)) rfl ?_
        refine am_iload (n := 105) dX8_codeBy_103 rfl rfl ?_
        refine am_iald (n := 106) dX8_codeBy_105 (by first | assumption | exact isC_of (by decide +kernel)) (by first | assumption | exact vp_in_nI (by omega) (by omega) | exact vp_in_iff.mpr (by decide)) rfl ?_
        rw [nI_clamp (by omega), hx]
        refine am_iadd (n := 107) dX8_codeBy_106 rfl ?_
        rw [show (0 : Int32) + nI l = nI (0 + l) from nI_add 0 l]
        refine cdX8_codeBy_106 (n := 110) dX8_codeBy_107 (by first | exact ⟨rfl, rfl⟩ | assumption) (m_at g e (0 + l) h he (by omega)) rfl rfl (Nat.le_of_ble_eq_true rfl) (by first | assumption | exact isC_of (by decide +kernel)) rfl ?_
        rw [Nat.zero_add, hR1, ← hvd]
        refine am_istore (n := 112) dX8_codeBy_110 (Nat.le_of_ble_eq_true rfl) rfl rfl ?_
        exact t112 _ rfl rfl rfl rfl rfl rfl rfl rfl rfl rfl
      by_cases hs0 : s = 0
      · refine am_if_lt (tgt := 83) (n := 63) dX8_codeBy_60 (by decide) rfl (fun _ => ?_) (fun q_z => absurd (by rw [hs0]; decide) q_z)
        exact t83 _ (fun q => q.1 hs0) rfl rfl rfl rfl rfl rfl rfl rfl rfl
      · refine am_if_lt (tgt := 83) (n := 63) dX8_codeBy_60 (by decide) rfl (fun q_z => absurd q_z (by rw [nI_m1 (by omega)]; exact nI_pos (by omega))) (fun _ => ?_)
        refine am_iload (n := 65) dX8_codeBy_63 rfl rfl ?_
        refine am_iconst (n := 66) (v := 2) dX8_codeBy_65 rfl rfl ?_
        by_cases ho : o < 2
        · refine am_icmp_ge (tgt := 83) (n := 69) dX8_codeBy_66 (by decide) rfl (fun q_z => absurd q_z (nI_ge ho (by decide))) (fun _ => ?_)
          refine am_iload_n (n := 70) (i := 2) dX8_codeBy_69 rfl rfl rfl ?_
          refine am_iload (n := 72) dX8_codeBy_70 rfl rfl ?_
          refine am_ishr (n := 73) dX8_codeBy_72 rfl ?_
          refine am_iconst (n := 74) (v := 1) dX8_codeBy_73 rfl rfl ?_
          refine am_iand (n := 75) dX8_codeBy_74 rfl ?_
          refine am_iconst (n := 76) (v := 1) dX8_codeBy_75 rfl rfl ?_
          by_cases hbit : v / 2 ^ o % 2 = 1
          · refine am_icmp_ne (tgt := 83) (n := 79) dX8_codeBy_76 (by decide) rfl (fun q_z => absurd ((shr_bit v hv o ho).mpr hbit) q_z) (fun _ => ?_)
            rw [if_pos ⟨hs0, hbit⟩] at hvd
            refine am_iconst (n := 80) (v := 1) dX8_codeBy_79 rfl rfl ?_
            refine am_goto (tgt := 84) dX8_codeBy_80 (by decide) ?_
            refine am_istore (n := 86) dX8_codeBy_84 (Nat.le_of_ble_eq_true rfl) rfl rfl ?_
            refine am_iload (n := 88) dX8_codeBy_86 rfl rfl ?_
            refine am_if_eq (tgt := 96) (n := 91) dX8_codeBy_88 (by decide) rfl (fun q_z => absurd q_z (by decide)) (fun _ => ?_)
            refine am_iload (n := 93) dX8_codeBy_91 rfl rfl ?_
            rw [nI_m1 (by omega), ← hvd]
            refine am_goto (tgt := 110) dX8_codeBy_93 (by decide) ?_
            refine am_istore (n := 112) dX8_codeBy_110 (Nat.le_of_ble_eq_true rfl) rfl rfl ?_
            exact t112 _ rfl rfl rfl rfl rfl rfl rfl rfl rfl (by show some (Value.int (nI x)) = _; rw [hvd, nI_m1 (by omega)])
          · refine am_icmp_ne (tgt := 83) (n := 79) dX8_codeBy_76 (by decide) rfl (fun _ => ?_) (fun q_z => absurd q_z (fun q => hbit ((shr_bit v hv o ho).mp q)))
            exact t83 _ (fun q => hbit q.2) rfl rfl rfl rfl rfl rfl rfl rfl rfl
        · refine am_icmp_ge (tgt := 83) (n := 69) dX8_codeBy_66 (by decide) rfl (fun _ => ?_) (fun q_z => absurd (nI_le (Nat.not_lt.mp ho) (by omega)) q_z)
          refine t83 _ (fun q => ?_) rfl rfl rfl rfl rfl rfl rfl rfl rfl
          have : v / 2 ^ o = 0 := Nat.div_eq_of_lt (Nat.lt_of_lt_of_le hv (Nat.pow_le_pow_right (n := 2) (by decide) (show 2 ≤ o by omega)))
          rw [this] at q
          exact absurd q.2 (by decide)
    · rw [sec_nI (by omega)]
      rw [if_neg hb] at hvd
      rw [if_neg (fun q => hb q.1)] at hod
      refine am_icmp_ne (tgt := 127) (n := 39) dX8_codeBy_36 (by decide) rfl (fun _ => ?_) (fun q_z => absurd q_z (nI_ne6 (by omega)))
      subst hod
      exact t127 _ rfl rfl rfl rfl rfl rfl rfl rfl (by rw [hvd]; rfl)
