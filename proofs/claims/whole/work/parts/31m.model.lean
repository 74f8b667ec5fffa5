/-! The reference: of, name, distance, count, alike -/
set_option maxRecDepth 100000 in
set_option maxHeartbeats 400000 in
theorem m_lettersOf (g : Gx) (e c : Nat) (E : EV) (h : Hp) (he : e < 4) (R : REZ (268 + 78 * e) E (h.1 41)) (hV : VE E) (hc : c ≤ 9) : AD g yX8_lettersOf wsX8_lettersOf rmX8_lettersOf [.ref 40, .int (nI e), .int (nI c)] h (some (.int (lof E.1 c))) h := by
  have c40 := isC_40
  unfold lof
  generalize hZ : ZP g (fun r h2 => r = some (.int (orF (fun l => if E.1 l = c then sh1 l else 0) 26)) ∧ h2 = h) = Z
  have z0 : Z.1 = 0 ∧ Z.2.1 = 0 := by rw [← hZ]; exact ⟨rfl, rfl⟩
  refine AC.of (cc := cX8_lettersOf) (maxL := 5) (ret := (some .int)) (by decide +kernel) rfl (Nat.le_of_ble_eq_true rfl) ?_
  show AW g mmX8_lettersOf _ 0 [(0, some (.ref 40)), (1, some (.int (nI e))), (2, some (.int (nI c)))] [] _
  rw [hZ]
  refine am_iconst (n := 1) (v := 0) dX8_lettersOf_0 rfl rfl ?_
  refine am_istore_n (n := 2) (i := 3) dX8_lettersOf_1 rfl (Nat.le_of_ble_eq_true rfl) rfl rfl ?_
  refine am_iconst (n := 3) (v := 0) dX8_lettersOf_2 rfl rfl ?_
  refine am_istore (n := 5) dX8_lettersOf_3 (Nat.le_of_ble_eq_true rfl) rfl rfl ?_
  refine am_loc [(0, some (.ref 40)), (1, some (.int (nI e))), (2, some (.int (nI c))), (3, some (.int (orF (fun l => if E.1 l = c then sh1 l else 0) 0))), (4, some (.int (nI 0)))] rfl ?_
  refine loop_up (Wp := fun i => AW g mmX8_lettersOf Z 5 [(0, some (.ref 40)), (1, some (.int (nI e))), (2, some (.int (nI c))), (3, some (.int (orF (fun l => if E.1 l = c then sh1 l else 0) i))), (4, some (.int (nI i)))] [] h) 26 ?_ ?_ 0 (by omega)
  · refine am_iload (n := 7) dX8_lettersOf_5 rfl rfl ?_
    refine am_bipush (n := 9) (v := 26) dX8_lettersOf_7 rfl rfl ?_
    refine am_icmp_ge (tgt := 42) (n := 12) dX8_lettersOf_9 (by decide) rfl (fun _ => ?_) (fun q_z => absurd (by decide) q_z)
    rw [← hZ]
    refine am_iload_n (n := 43) (i := 3) dX8_lettersOf_42 rfl rfl rfl ?_
    refine am_iret dX8_lettersOf_43 rfl rfl ?_
    exact ⟨rfl, rfl⟩
  · intro i hi K
    rw [show orF (fun l => if E.1 l = c then sh1 l else 0) (i + 1) = orF (fun l => if E.1 l = c then sh1 l else 0) i ||| (if E.1 i = c then sh1 i else 0) from rfl] at K
    have hv := (hV.1 i hi).1
    generalize orF (fun l => if E.1 l = c then sh1 l else 0) i = y at *
    refine am_iload (n := 7) dX8_lettersOf_5 rfl rfl ?_
    refine am_bipush (n := 9) (v := 26) dX8_lettersOf_7 rfl rfl ?_
    refine am_icmp_ge (tgt := 42) (n := 12) dX8_lettersOf_9 (by decide) rfl (fun q_z => absurd q_z (nI_ge hi (by decide))) (fun _ => ?_)
    refine am_iload_n (n := 13) (i := 3) dX8_lettersOf_12 rfl rfl rfl ?_
    refine am_aload_n (n := 14) (i := 0) dX8_lettersOf_13 rfl rfl rfl ?_
    refine am_iload_n (n := 15) (i := 1) dX8_lettersOf_14 rfl rfl rfl ?_
    refine am_iconst (n := 16) (v := 0) dX8_lettersOf_15 rfl rfl ?_
    refine am_iload (n := 18) dX8_lettersOf_16 rfl rfl ?_
    refine am_iadd (n := 19) dX8_lettersOf_18 rfl ?_
    rw [show (0 : Int32) + nI i = nI (0 + i) from nI_add 0 i]
    refine cdX8_lettersOf_106 (n := 22) dX8_lettersOf_19 (by first | exact ⟨rfl, rfl⟩ | assumption) (m_at g e (0 + i) h he (by omega)) rfl rfl (Nat.le_of_ble_eq_true rfl) (by first | assumption | exact isC_of (by decide +kernel)) rfl ?_
    rw [Nat.zero_add, (R.1 i hi).1]
    refine am_iload_n (n := 23) (i := 2) dX8_lettersOf_22 rfl rfl rfl ?_
    by_cases q : E.1 i = c
    · rw [if_pos q] at K
      refine am_icmp_ne (tgt := 33) (n := 26) dX8_lettersOf_23 (by decide) rfl (fun q_z => absurd (by rw [q]) q_z) (fun _ => ?_)
      refine am_iconst (n := 27) (v := 1) dX8_lettersOf_26 rfl rfl ?_
      refine am_iload (n := 29) dX8_lettersOf_27 rfl rfl ?_
      refine am_ishl (n := 30) dX8_lettersOf_29 rfl ?_
      refine am_goto (tgt := 34) dX8_lettersOf_30 (by decide) ?_
      refine am_ior (n := 35) dX8_lettersOf_34 rfl ?_
      refine am_istore_n (n := 36) (i := 3) dX8_lettersOf_35 rfl (Nat.le_of_ble_eq_true rfl) rfl rfl ?_
      first | refine am_iincN (n := 39) dX8_lettersOf_36 rfl rfl rfl ?_ | refine am_iinc1 (n := 39) dX8_lettersOf_36 rfl rfl rfl ?_
      refine am_goto (tgt := 5) dX8_lettersOf_39 (by decide) ?_
      exact am_loc _ rfl K
    · rw [if_neg q] at K
      refine am_icmp_ne (tgt := 33) (n := 26) dX8_lettersOf_23 (by decide) rfl (fun _ => ?_) (fun q_z => absurd q_z (fun z => q ((nI_eq (by omega) (by omega)).mp z)))
      refine am_iconst (n := 34) (v := 0) dX8_lettersOf_33 rfl rfl ?_
      refine am_ior (n := 35) dX8_lettersOf_34 rfl ?_
      refine am_istore_n (n := 36) (i := 3) dX8_lettersOf_35 rfl (Nat.le_of_ble_eq_true rfl) rfl rfl ?_
      first | refine am_iincN (n := 39) dX8_lettersOf_36 rfl rfl rfl ?_ | refine am_iinc1 (n := 39) dX8_lettersOf_36 rfl rfl rfl ?_
      refine am_goto (tgt := 5) dX8_lettersOf_39 (by decide) ?_
      exact am_loc _ rfl K
set_option maxRecDepth 100000 in
set_option maxHeartbeats 400000 in
theorem m_lettersWithSecond (g : Gx) (e : Nat) (E : EV) (h : Hp) (he : e < 4) (R : REZ (268 + 78 * e) E (h.1 41)) (hV : VE E) : AD g yX8_lettersWithSecond wsX8_lettersWithSecond rmX8_lettersWithSecond [.ref 40, .int (nI e)] h (some (.int (lws E.2.1))) h := by
  have c40 := isC_40
  unfold lws
  generalize hZ : ZP g (fun r h2 => r = some (.int (orF (fun l => if E.2.1 l = 0 then 0 else sh1 l) 26)) ∧ h2 = h) = Z
  have z0 : Z.1 = 0 ∧ Z.2.1 = 0 := by rw [← hZ]; exact ⟨rfl, rfl⟩
  refine AC.of (cc := cX8_lettersWithSecond) (maxL := 4) (ret := (some .int)) (by decide +kernel) rfl (Nat.le_of_ble_eq_true rfl) ?_
  show AW g mmX8_lettersWithSecond _ 0 [(0, some (.ref 40)), (1, some (.int (nI e)))] [] _
  rw [hZ]
  refine am_iconst (n := 1) (v := 0) dX8_lettersWithSecond_0 rfl rfl ?_
  refine am_istore_n (n := 2) (i := 2) dX8_lettersWithSecond_1 rfl (Nat.le_of_ble_eq_true rfl) rfl rfl ?_
  refine am_iconst (n := 3) (v := 0) dX8_lettersWithSecond_2 rfl rfl ?_
  refine am_istore_n (n := 4) (i := 3) dX8_lettersWithSecond_3 rfl (Nat.le_of_ble_eq_true rfl) rfl rfl ?_
  refine am_loc [(0, some (.ref 40)), (1, some (.int (nI e))), (2, some (.int (orF (fun l => if E.2.1 l = 0 then 0 else sh1 l) 0))), (3, some (.int (nI 0)))] rfl ?_
  refine loop_up (Wp := fun i => AW g mmX8_lettersWithSecond Z 4 [(0, some (.ref 40)), (1, some (.int (nI e))), (2, some (.int (orF (fun l => if E.2.1 l = 0 then 0 else sh1 l) i))), (3, some (.int (nI i)))] [] h) 26 ?_ ?_ 0 (by omega)
  · refine am_iload_n (n := 5) (i := 3) dX8_lettersWithSecond_4 rfl rfl rfl ?_
    refine am_bipush (n := 7) (v := 26) dX8_lettersWithSecond_5 rfl rfl ?_
    refine am_icmp_ge (tgt := 38) (n := 10) dX8_lettersWithSecond_7 (by decide) rfl (fun _ => ?_) (fun q_z => absurd (by decide) q_z)
    rw [← hZ]
    refine am_iload_n (n := 39) (i := 2) dX8_lettersWithSecond_38 rfl rfl rfl ?_
    refine am_iret dX8_lettersWithSecond_39 rfl rfl ?_
    exact ⟨rfl, rfl⟩
  · intro i hi K
    rw [show orF (fun l => if E.2.1 l = 0 then 0 else sh1 l) (i + 1) = orF (fun l => if E.2.1 l = 0 then 0 else sh1 l) i ||| (if E.2.1 i = 0 then 0 else sh1 i) from rfl] at K
    have hv := (hV.1 i hi).2.1
    generalize orF (fun l => if E.2.1 l = 0 then 0 else sh1 l) i = y at *
    refine am_iload_n (n := 5) (i := 3) dX8_lettersWithSecond_4 rfl rfl rfl ?_
    refine am_bipush (n := 7) (v := 26) dX8_lettersWithSecond_5 rfl rfl ?_
    refine am_icmp_ge (tgt := 38) (n := 10) dX8_lettersWithSecond_7 (by decide) rfl (fun q_z => absurd q_z (nI_ge hi (by decide))) (fun _ => ?_)
    refine am_iload_n (n := 11) (i := 2) dX8_lettersWithSecond_10 rfl rfl rfl ?_
    refine am_aload_n (n := 12) (i := 0) dX8_lettersWithSecond_11 rfl rfl rfl ?_
    refine am_iload_n (n := 13) (i := 1) dX8_lettersWithSecond_12 rfl rfl rfl ?_
    refine am_bipush (n := 15) (v := 26) dX8_lettersWithSecond_13 rfl rfl ?_
    refine am_iload_n (n := 16) (i := 3) dX8_lettersWithSecond_15 rfl rfl rfl ?_
    refine am_iadd (n := 17) dX8_lettersWithSecond_16 rfl ?_
    rw [show (26 : Int32) + nI i = nI (26 + i) from nI_add 26 i]
    refine cdX8_lettersWithSecond_106 (n := 20) dX8_lettersWithSecond_17 (by first | exact ⟨rfl, rfl⟩ | assumption) (m_at g e (26 + i) h he (by omega)) rfl rfl (Nat.le_of_ble_eq_true rfl) (by first | assumption | exact isC_of (by decide +kernel)) rfl ?_
    rw [← Nat.add_assoc, (R.1 i hi).2]
    by_cases q : E.2.1 i = 0
    · rw [if_pos q] at K
      refine am_if_le (tgt := 29) (n := 23) dX8_lettersWithSecond_20 (by decide) rfl (fun _ => ?_) (fun q_z => absurd (by rw [q]; decide) q_z)
      refine am_iconst (n := 30) (v := 0) dX8_lettersWithSecond_29 rfl rfl ?_
      refine am_ior (n := 31) dX8_lettersWithSecond_30 rfl ?_
      refine am_istore_n (n := 32) (i := 2) dX8_lettersWithSecond_31 rfl (Nat.le_of_ble_eq_true rfl) rfl rfl ?_
      first | refine am_iincN (n := 35) dX8_lettersWithSecond_32 rfl rfl rfl ?_ | refine am_iinc1 (n := 35) dX8_lettersWithSecond_32 rfl rfl rfl ?_
      refine am_goto (tgt := 4) dX8_lettersWithSecond_35 (by decide) ?_
      exact am_loc _ rfl K
    · rw [if_neg q] at K
      refine am_if_le (tgt := 29) (n := 23) dX8_lettersWithSecond_20 (by decide) rfl (fun q_z => absurd q_z (fun z => absurd ((nI_leI (b := 0) (by omega) (by omega)).mp z) (by omega))) (fun _ => ?_)
      refine am_iconst (n := 24) (v := 1) dX8_lettersWithSecond_23 rfl rfl ?_
      refine am_iload_n (n := 25) (i := 3) dX8_lettersWithSecond_24 rfl rfl rfl ?_
      refine am_ishl (n := 26) dX8_lettersWithSecond_25 rfl ?_
      refine am_goto (tgt := 30) dX8_lettersWithSecond_26 (by decide) ?_
      refine am_ior (n := 31) dX8_lettersWithSecond_30 rfl ?_
      refine am_istore_n (n := 32) (i := 2) dX8_lettersWithSecond_31 rfl (Nat.le_of_ble_eq_true rfl) rfl rfl ?_
      first | refine am_iincN (n := 35) dX8_lettersWithSecond_32 rfl rfl rfl ?_ | refine am_iinc1 (n := 35) dX8_lettersWithSecond_32 rfl rfl rfl ?_
      refine am_goto (tgt := 4) dX8_lettersWithSecond_35 (by decide) ?_
      exact am_loc _ rfl K
set_option maxRecDepth 100000 in
set_option maxHeartbeats 400000 in
theorem cm_of (g : Gx) (x y w : Int32) (G : GS) (h : Hp) (hX : MG G h) : CM g yX8_of wsX8_of rmX8_of [.ref 40, .int x, .int y, .int w] h (sp_of x y w G) := by
  have c40 := isC_40
  have h4 := hX.2.1.2.2.2.2.1
  unfold CM sp_of
  refine AC.of (cc := cX8_of) (maxL := 5) (ret := (some .int)) (by decide +kernel) rfl (Nat.le_of_ble_eq_true rfl) ?_
  show AW g mmX8_of _ 0 [(0, some (.ref 40)), (1, some (.int x)), (2, some (.int y)), (3, some (.int w))] [] _
  refine am_aload_n (n := 1) (i := 0) dX8_of_0 rfl rfl rfl ?_
  refine am_iload_n (n := 2) (i := 1) dX8_of_1 rfl rfl rfl ?_
  refine cdX8_of_156 (n := 5) dX8_of_2 (by first | exact ⟨rfl, rfl⟩ | assumption) (m_isEar g x G.1.2.2.2.length h (by omega) hX.1.2.2.2.1) rfl rfl (Nat.le_of_ble_eq_true rfl) (by first | assumption | exact isC_of (by decide +kernel)) rfl ?_
  cases hxx : inN x G.1.2.2.2.length with
  | false =>
    rw [sp_E_f _ hxx]
    refine am_if_eq (tgt := 15) (n := 8) dX8_of_5 (by decide) rfl (fun _ => ?_) (fun q_z => absurd rfl q_z)
    refine am_iconst (n := 16) (v := (-1)) dX8_of_15 rfl rfl ?_
    refine am_iret dX8_of_16 rfl rfl ?_
    exact ⟨rfl, hX, Fr.rf⟩
  | true =>
    obtain ⟨e, he, rfl⟩ := inN_t (by omega) hxx
    have hx := List.getElem?_eq_getElem he
    obtain ⟨e4, R, vE⟩ := mE hX.1 hX.2.1 hx
    rw [sp_E_t _ h4 he hx]
    generalize G.1.2.2.2[e] = E at *
    refine am_if_eq (tgt := 15) (n := 8) dX8_of_5 (by decide) rfl (fun q_z => absurd q_z (show ¬ (1 : Int32) = 0 by decide)) (fun _ => ?_)
    refine am_iload_n (n := 9) (i := 2) dX8_of_8 rfl rfl rfl ?_
    refine cdX8_of_166 (n := 12) dX8_of_9 (by first | exact ⟨rfl, rfl⟩ | assumption) (m_isLetter g y h) rfl rfl (Nat.le_of_ble_eq_true rfl) rfl ?_
    cases hl : isLtr y with
    | false =>
      rw [if_neg (by decide)]
      refine am_if_ne (tgt := 17) (n := 15) dX8_of_12 (by decide) rfl (fun q_z => absurd rfl q_z) (fun _ => ?_)
      refine am_iconst (n := 16) (v := (-1)) dX8_of_15 rfl rfl ?_
      refine am_iret dX8_of_16 rfl rfl ?_
      exact ⟨rfl, hX, Fr.rf⟩
    | true =>
      rw [if_pos rfl]
      obtain ⟨l, hl26, rfl⟩ := isLtr_t hl
      rw [tn_nI (by omega)]
      have hv := (vE.1 l hl26)
      refine am_if_ne (tgt := 17) (n := 15) dX8_of_12 (by decide) rfl (fun _ => ?_) (fun q_z => absurd q_z (show ¬ (1 : Int32) = 0 by decide))
      refine am_aload_n (n := 18) (i := 0) dX8_of_17 rfl rfl rfl ?_
      refine am_iload_n (n := 19) (i := 1) dX8_of_18 rfl rfl rfl ?_
      refine am_iconst (n := 20) (v := 0) dX8_of_19 rfl rfl ?_
      refine am_iload_n (n := 21) (i := 2) dX8_of_20 rfl rfl rfl ?_
      refine am_iadd (n := 22) dX8_of_21 rfl ?_
      rw [show (0 : Int32) + nI l = nI (0 + l) from nI_add 0 l]
      refine cdX8_of_106 (n := 25) dX8_of_22 (by first | exact ⟨rfl, rfl⟩ | assumption) (m_at g e (0 + l) h e4 (by omega)) rfl rfl (Nat.le_of_ble_eq_true rfl) (by first | assumption | exact isC_of (by decide +kernel)) rfl ?_
      rw [Nat.zero_add, (R.1 l hl26).1]
      refine am_istore (n := 27) dX8_of_25 (Nat.le_of_ble_eq_true rfl) rfl rfl ?_
      refine am_iload_n (n := 28) (i := 3) dX8_of_27 rfl rfl rfl ?_
      unfold ofS
      by_cases w0 : w = 0
      · rw [if_pos w0]
        refine am_if_ne (tgt := 36) (n := 31) dX8_of_28 (by decide) rfl (fun q_z => absurd w0 q_z) (fun _ => ?_)
        refine am_iload (n := 33) dX8_of_31 rfl rfl ?_
        refine am_goto (tgt := 67) dX8_of_33 (by decide) ?_
        refine am_iret dX8_of_67 rfl rfl ?_
        exact ⟨rfl, hX, Fr.rf⟩
      · rw [if_neg w0]
        refine am_if_ne (tgt := 36) (n := 31) dX8_of_28 (by decide) rfl (fun _ => ?_) (fun q_z => absurd q_z w0)
        refine am_iload_n (n := 37) (i := 3) dX8_of_36 rfl rfl rfl ?_
        refine am_iconst (n := 38) (v := 1) dX8_of_37 rfl rfl ?_
        by_cases w1 : w = 1
        · rw [if_pos w1]
          refine am_icmp_ne (tgt := 50) (n := 41) dX8_of_38 (by decide) rfl (fun q_z => absurd w1 q_z) (fun _ => ?_)
          refine am_aload_n (n := 42) (i := 0) dX8_of_41 rfl rfl rfl ?_
          refine am_iload_n (n := 43) (i := 1) dX8_of_42 rfl rfl rfl ?_
          refine am_iload_n (n := 44) (i := 2) dX8_of_43 rfl rfl rfl ?_
          refine cdX8_of_175 (n := 47) dX8_of_44 (by first | exact ⟨rfl, rfl⟩ | assumption) (m_secondOf g e l (E.2.1 l) h e4 hl26 (R.1 l hl26).2 hv.2.1) rfl rfl (Nat.le_of_ble_eq_true rfl) (by first | assumption | exact isC_of (by decide +kernel)) rfl ?_
          generalize sec (E.2.1 l) = v
          refine am_goto (tgt := 67) dX8_of_47 (by decide) ?_
          refine am_iret dX8_of_67 rfl rfl ?_
          exact ⟨rfl, hX, Fr.rf⟩
        · rw [if_neg w1]
          refine am_icmp_ne (tgt := 50) (n := 41) dX8_of_38 (by decide) rfl (fun _ => ?_) (fun q_z => absurd q_z w1)
          refine am_iload_n (n := 51) (i := 3) dX8_of_50 rfl rfl rfl ?_
          refine am_iconst (n := 52) (v := 2) dX8_of_51 rfl rfl ?_
          by_cases w2 : w = 2
          · rw [if_pos w2]
            refine am_icmp_ne (tgt := 65) (n := 55) dX8_of_52 (by decide) rfl (fun q_z => absurd w2 q_z) (fun _ => ?_)
            refine am_aload_n (n := 56) (i := 0) dX8_of_55 rfl rfl rfl ?_
            refine am_iload_n (n := 57) (i := 1) dX8_of_56 rfl rfl rfl ?_
            refine am_iload (n := 59) dX8_of_57 rfl rfl ?_
            refine cdX8_of_178 (n := 62) dX8_of_59 (by first | exact ⟨rfl, rfl⟩ | assumption) (m_lettersOf g e (E.1 l) E h e4 R vE hv.1) rfl rfl (Nat.le_of_ble_eq_true rfl) (by first | assumption | exact isC_of (by decide +kernel)) rfl ?_
            generalize lof E.1 (E.1 l) = v
            refine am_goto (tgt := 67) dX8_of_62 (by decide) ?_
            refine am_iret dX8_of_67 rfl rfl ?_
            exact ⟨rfl, hX, Fr.rf⟩
          · rw [if_neg w2]
            refine am_icmp_ne (tgt := 65) (n := 55) dX8_of_52 (by decide) rfl (fun _ => ?_) (fun q_z => absurd q_z w2)
            refine am_bipush (n := 67) (v := (-2)) dX8_of_65 rfl rfl ?_
            refine am_iret dX8_of_67 rfl rfl ?_
            exact ⟨rfl, hX, Fr.rf⟩
set_option maxRecDepth 100000 in
set_option maxHeartbeats 400000 in
theorem cm_name (g : Gx) (x w : Int32) (G : GS) (h : Hp) (hX : MG G h) : CM g yX8_name wsX8_name rmX8_name [.ref 40, .int x, .int w] h (sp_name x w G) := by
  have c40 := isC_40
  have h24 := hX.2.1.2.2.1
  unfold CM sp_name
  refine AC.of (cc := cX8_name) (maxL := 3) (ret := (some .int)) (by decide +kernel) rfl (Nat.le_of_ble_eq_true rfl) ?_
  show AW g mmX8_name _ 0 [(0, some (.ref 40)), (1, some (.int x)), (2, some (.int w))] [] _
  refine am_aload_n (n := 1) (i := 0) dX8_name_0 rfl rfl rfl ?_
  refine am_iload_n (n := 2) (i := 1) dX8_name_1 rfl rfl rfl ?_
  refine cdX8_name_93 (n := 5) dX8_name_2 (by first | exact ⟨rfl, rfl⟩ | assumption) (m_isName g x G.1.2.2.1.length h (by omega) hX.1.2.2.1) rfl rfl (Nat.le_of_ble_eq_true rfl) (by first | assumption | exact isC_of (by decide +kernel)) rfl ?_
  cases hx : inN x G.1.2.2.1.length with
  | false =>
    rw [if_neg (by decide)]
    refine am_if_ne (tgt := 10) (n := 8) dX8_name_5 (by decide) rfl (fun q_z => absurd rfl q_z) (fun _ => ?_)
    refine am_iconst (n := 9) (v := (-1)) dX8_name_8 rfl rfl ?_
    refine am_iret dX8_name_9 rfl rfl ?_
    exact ⟨rfl, hX, Fr.rf⟩
  | true =>
    rw [if_pos rfl]
    obtain ⟨i, hi, rfl⟩ := inN_t (by omega) hx
    rw [tn_nI (by omega)]
    obtain ⟨i24, w1, w2, vW⟩ := mW hX.1 hX.2.1 hi
    have hls := m_letterSet g i G.1 h hX.1 hX.2.1 hi
    generalize G.1.2.2.1.getD i 0 = m at *
    have hsz := wsz_le m
    refine am_if_ne (tgt := 10) (n := 8) dX8_name_5 (by decide) rfl (fun _ => ?_) (fun q_z => absurd q_z (show ¬ (1 : Int32) = 0 by decide))
    refine am_iload_n (n := 11) (i := 2) dX8_name_10 rfl rfl rfl ?_
    refine am_iconst (n := 12) (v := 0) dX8_name_11 rfl rfl ?_
    refine am_bipush (n := 14) (v := 11) dX8_name_12 rfl rfl ?_
    refine cdX8_name_51 (n := 17) dX8_name_14 (by first | exact ⟨rfl, rfl⟩ | assumption) (m_in g w 0 11 h) rfl rfl (Nat.le_of_ble_eq_true rfl) rfl ?_
    unfold nmS
    cases hw : inR w 0 11 with
    | false =>
      have hw0 : ¬ w = 0 := fun q => by subst q; cases hw
      have hw11 : ¬ w = 11 := fun q => by subst q; cases hw
      have hw10 : inR w 1 10 = false := by
        cases q : inR w 1 10 with
        | false => rfl
        | true =>
          obtain ⟨v, v1, v2, rfl⟩ := inR_t (by decide) (by decide) q
          rw [inR_i (by decide) (by omega) (by omega)] at hw
          cases hw
      rw [show (decide (0 ≤ w) && decide (w ≤ 11)) = false from hw, if_neg hw0, hw10, if_neg (by decide), if_neg hw11]
      refine am_if_ne (tgt := 23) (n := 20) dX8_name_17 (by decide) rfl (fun q_z => absurd rfl q_z) (fun _ => ?_)
      refine am_bipush (n := 22) (v := (-2)) dX8_name_20 rfl rfl ?_
      refine am_iret dX8_name_22 rfl rfl ?_
      exact ⟨rfl, hX, Fr.rf⟩
    | true =>
      rw [show (decide (0 ≤ w) && decide (w ≤ 11)) = true from hw]
      obtain ⟨v, -, v11, rfl⟩ := inR_t (by decide) (by decide) hw
      refine am_if_ne (tgt := 23) (n := 20) dX8_name_17 (by decide) rfl (fun _ => ?_) (fun q_z => absurd q_z (show ¬ (1 : Int32) = 0 by decide))
      refine am_iload_n (n := 24) (i := 2) dX8_name_23 rfl rfl rfl ?_
      by_cases w0 : nI v = 0
      · rw [if_pos w0]
        refine am_if_ne (tgt := 33) (n := 27) dX8_name_24 (by decide) rfl (fun q_z => absurd w0 q_z) (fun _ => ?_)
        refine am_aload_n (n := 28) (i := 0) dX8_name_27 rfl rfl rfl ?_
        refine am_iload_n (n := 29) (i := 1) dX8_name_28 rfl rfl rfl ?_
        refine cdX8_name_78 (n := 32) dX8_name_29 (by first | exact ⟨rfl, rfl⟩ | assumption) (m_lengthOf g i h i24) rfl rfl (Nat.le_of_ble_eq_true rfl) (by first | assumption | exact isC_of (by decide +kernel)) rfl ?_
        rw [w1]
        exact am_iret dX8_name_32 rfl rfl ⟨rfl, hX, Fr.rf⟩
      · rw [if_neg w0]
        refine am_if_ne (tgt := 33) (n := 27) dX8_name_24 (by decide) rfl (fun _ => ?_) (fun q_z => absurd q_z w0)
        refine am_iload_n (n := 34) (i := 2) dX8_name_33 rfl rfl rfl ?_
        refine am_bipush (n := 36) (v := 11) dX8_name_34 rfl rfl ?_
        have hv0 : v ≠ 0 := fun q => w0 (by rw [q]; rfl)
        by_cases w11 : nI v = 11
        · have : v = 11 := (nI_eq (b := 11) (by omega) (by omega)).mp w11
          subst this
          rw [show inR (nI 11) 1 10 = false from by decide, if_neg (by decide), if_pos w11]
          refine am_icmp_ne (tgt := 47) (n := 39) dX8_name_36 (by decide) rfl (fun q_z => absurd rfl q_z) (fun _ => ?_)
          refine am_aload_n (n := 40) (i := 0) dX8_name_39 rfl rfl rfl ?_
          refine am_iload_n (n := 41) (i := 1) dX8_name_40 rfl rfl rfl ?_
          refine cdX8_name_190 (n := 44) dX8_name_41 (by first | exact ⟨rfl, rfl⟩ | assumption) hls rfl rfl (Nat.le_of_ble_eq_true rfl) (by first | assumption | exact isC_of (by decide +kernel)) rfl ?_
          generalize wset m = s
          refine am_goto (tgt := 69) dX8_name_44 (by decide) ?_
          refine am_iret dX8_name_69 rfl rfl ?_
          exact ⟨rfl, hX, Fr.rf⟩
        · have hv11 : v ≠ 11 := fun q => w11 (by rw [q]; rfl)
          rw [inR_i (by decide) (by omega) (by omega), if_pos rfl, tn_nI (by omega)]
          refine am_icmp_ne (tgt := 47) (n := 39) dX8_name_36 (by decide) rfl (fun _ => ?_) (fun q_z => absurd q_z w11)
          refine am_iload_n (n := 48) (i := 2) dX8_name_47 rfl rfl rfl ?_
          refine am_aload_n (n := 49) (i := 0) dX8_name_48 rfl rfl rfl ?_
          refine am_iload_n (n := 50) (i := 1) dX8_name_49 rfl rfl rfl ?_
          refine cdX8_name_78 (n := 53) dX8_name_50 (by first | exact ⟨rfl, rfl⟩ | assumption) (m_lengthOf g i h i24) rfl rfl (Nat.le_of_ble_eq_true rfl) (by first | assumption | exact isC_of (by decide +kernel)) rfl ?_
          rw [w1]
          by_cases q : v ≤ wsz m
          · have hpos := wsz_in (show v - 1 < wsz m by omega)
            rw [if_neg (by omega)]
            refine am_icmp_gt (tgt := 67) (n := 56) dX8_name_53 (by decide) rfl (fun q_z => absurd q_z (fun z => absurd ((nI_ltI (by omega) (by omega)).mp z) (by omega))) (fun _ => ?_)
            refine am_aload_n (n := 57) (i := 0) dX8_name_56 rfl rfl rfl ?_
            refine am_iload_n (n := 58) (i := 1) dX8_name_57 rfl rfl rfl ?_
            refine am_iload_n (n := 59) (i := 2) dX8_name_58 rfl rfl rfl ?_
            refine am_iconst (n := 60) (v := 1) dX8_name_59 rfl rfl ?_
            refine am_isub (n := 61) dX8_name_60 rfl ?_
            rw [nI_m1 (by omega)]
            refine cdX8_name_82 (n := 64) dX8_name_61 (by first | exact ⟨rfl, rfl⟩ | assumption) (m_letterOf g i (v - 1) h i24 (by omega)) rfl rfl (Nat.le_of_ble_eq_true rfl) (by first | assumption | exact isC_of (by decide +kernel)) rfl ?_
            rw [w2 (v - 1) (by omega)]
            refine am_goto (tgt := 69) dX8_name_64 (by decide) ?_
            refine am_iret dX8_name_69 rfl rfl ?_
            exact ⟨rfl, hX, Fr.rf⟩
          · rw [if_pos (vW.2.2.1 (v - 1) (by omega))]
            refine am_icmp_gt (tgt := 67) (n := 56) dX8_name_53 (by decide) rfl (fun _ => ?_) (fun q_z => absurd ((nI_ltI (by omega) (by omega)).mpr (by omega)) q_z)
            refine am_bipush (n := 69) (v := (-6)) dX8_name_67 rfl rfl ?_
            refine am_iret dX8_name_69 rfl rfl ?_
            exact ⟨rfl, hX, Fr.rf⟩
set_option maxRecDepth 100000 in
set_option maxHeartbeats 400000 in
theorem cm_distance (g : Gx) (a b : Int32) (G : GS) (h : Hp) (hX : MG G h) : CM g yX8_distance wsX8_distance rmX8_distance [.ref 40, .int a, .int b] h (sp_distance a b G) := by
  have c40 := isC_40
  have h24 := hX.2.1.2.2.1
  unfold CM sp_distance
  refine AC.of (cc := cX8_distance) (maxL := 3) (ret := (some .int)) (by decide +kernel) rfl (Nat.le_of_ble_eq_true rfl) ?_
  show AW g mmX8_distance _ 0 [(0, some (.ref 40)), (1, some (.int a)), (2, some (.int b))] [] _
  refine am_aload_n (n := 1) (i := 0) dX8_distance_0 rfl rfl rfl ?_
  refine am_iload_n (n := 2) (i := 1) dX8_distance_1 rfl rfl rfl ?_
  refine cdX8_distance_93 (n := 5) dX8_distance_2 (by first | exact ⟨rfl, rfl⟩ | assumption) (m_isName g a G.1.2.2.1.length h (by omega) hX.1.2.2.1) rfl rfl (Nat.le_of_ble_eq_true rfl) (by first | assumption | exact isC_of (by decide +kernel)) rfl ?_
  cases ha : inN a G.1.2.2.1.length with
  | false =>
    rw [if_neg (fun q => by cases q.1)]
    refine am_if_eq (tgt := 16) (n := 8) dX8_distance_5 (by decide) rfl (fun _ => ?_) (fun q_z => absurd rfl q_z)
    refine am_iconst (n := 17) (v := (-1)) dX8_distance_16 rfl rfl ?_
    refine am_iret dX8_distance_17 rfl rfl ?_
    exact ⟨rfl, hX, Fr.rf⟩
  | true =>
    obtain ⟨i, hi, rfl⟩ := inN_t (by omega) ha
    refine am_if_eq (tgt := 16) (n := 8) dX8_distance_5 (by decide) rfl (fun q_z => absurd q_z (show ¬ (1 : Int32) = 0 by decide)) (fun _ => ?_)
    refine am_aload_n (n := 9) (i := 0) dX8_distance_8 rfl rfl rfl ?_
    refine am_iload_n (n := 10) (i := 2) dX8_distance_9 rfl rfl rfl ?_
    refine cdX8_distance_93 (n := 13) dX8_distance_10 (by first | exact ⟨rfl, rfl⟩ | assumption) (m_isName g b G.1.2.2.1.length h (by omega) hX.1.2.2.1) rfl rfl (Nat.le_of_ble_eq_true rfl) (by first | assumption | exact isC_of (by decide +kernel)) rfl ?_
    cases hb : inN b G.1.2.2.1.length with
    | false =>
      rw [if_neg (fun q => by cases q.2)]
      refine am_if_ne (tgt := 18) (n := 16) dX8_distance_13 (by decide) rfl (fun q_z => absurd rfl q_z) (fun _ => ?_)
      refine am_iconst (n := 17) (v := (-1)) dX8_distance_16 rfl rfl ?_
      refine am_iret dX8_distance_17 rfl rfl ?_
      exact ⟨rfl, hX, Fr.rf⟩
    | true =>
      obtain ⟨j, hj, rfl⟩ := inN_t (by omega) hb
      rw [tn_nI (by omega), tn_nI (by omega), if_pos ⟨rfl, rfl⟩]
      refine am_if_ne (tgt := 18) (n := 16) dX8_distance_13 (by decide) rfl (fun _ => ?_) (fun q_z => absurd q_z (show ¬ (1 : Int32) = 0 by decide))
      refine am_aload_n (n := 19) (i := 0) dX8_distance_18 rfl rfl rfl ?_
      refine am_iload_n (n := 20) (i := 1) dX8_distance_19 rfl rfl rfl ?_
      refine caX8_distance_99 (n := 23) dX8_distance_20 (by first | exact ⟨rfl, rfl⟩ | assumption) (m_takeName g i G.1 h hX.1 hX.2.1 hi) rfl rfl (Nat.le_of_ble_eq_true rfl) (by first | assumption | exact isC_of (by decide +kernel)) rfl ?_
      rintro r h1 ⟨rfl, W1, F1⟩
      have F1 := F1.s
      have vi := (mW hX.1 hX.2.1 hi).2.2.2
      refine am_aload_n (n := 24) (i := 0) dX8_distance_23 rfl rfl rfl ?_
      refine am_iload_n (n := 25) (i := 2) dX8_distance_24 rfl rfl rfl ?_
      refine caX8_distance_103 (n := 28) dX8_distance_25 (by first | exact ⟨rfl, rfl⟩ | assumption) (m_distanceTo g j _ G.1 h1 (by rw [F1.2.1]; exact hX.1) hX.2.1 hj W1 vi) rfl rfl (Nat.le_of_ble_eq_true rfl) (by first | assumption | exact isC_of (by decide +kernel)) rfl ?_
      rintro r h2 ⟨rfl, F2⟩
      have F2 := FrS.ofI F2 (by omega) (by omega)
      generalize dst (G.1.2.2.1.getD i 0) (G.1.2.2.1.getD j 0) = v
      exact am_iret dX8_distance_28 rfl rfl ⟨rfl, (hX.s F1).s F2, (F1.tr F2).1⟩
set_option maxRecDepth 100000 in
set_option maxHeartbeats 400000 in
theorem cm_count (g : Gx) (w : Int32) (G : GS) (h : Hp) (hX : MG G h) : CM g yX8_count wsX8_count rmX8_count [.ref 40, .int w] h (sp_count w G) := by
  have c40 := isC_40
  have c41 := isC_41
  have h24 := hX.2.1.2.2.1
  obtain ⟨xR, xV, xPp, xL, xD, xP⟩ := id hX
  unfold CM sp_count ctS
  refine AC.of (cc := cX8_count) (maxL := 4) (ret := (some .int)) (by decide +kernel) rfl (Nat.le_of_ble_eq_true rfl) ?_
  show AW g mmX8_count _ 0 [(0, some (.ref 40)), (1, some (.int w))] [] _
  refine am_iconst (n := 1) (v := 0) dX8_count_0 rfl rfl ?_
  refine am_istore_n (n := 2) (i := 2) dX8_count_1 rfl (Nat.le_of_ble_eq_true rfl) rfl rfl ?_
  refine am_iload_n (n := 3) (i := 1) dX8_count_2 rfl rfl rfl ?_
  by_cases w0 : w = 0
  · subst w0
    rw [if_pos rfl]
    refine am_tableIn (tgt := 44) dX8_count_3 (by decide) (by decide) rfl (by decide) ?_
    refine am_aload_n (n := 45) (i := 0) dX8_count_44 rfl rfl rfl ?_
    refine gfX8_count_7 (n := 48) dX8_count_45 (by first | assumption | exact isC_of (by decide +kernel)) rfl ?_
    refine am_iconst (n := 49) (v := 2) dX8_count_48 rfl rfl ?_
    refine am_iald (n := 50) dX8_count_49 (by first | assumption | exact isC_of (by decide +kernel)) (by first | assumption | exact vp_in_nI (by omega) (by omega) | exact vp_in_iff.mpr (by decide)) rfl ?_
    rw [show (2 : Int32).toNatClampNeg = 2 from rfl, show h.1 41 2 = _ from xR.2.2.1]
    refine am_iret dX8_count_50 rfl rfl ?_
    exact ⟨rfl, hX, Fr.rf⟩
  · rw [if_neg w0]
    by_cases w1 : w = 1
    · subst w1
      rw [if_pos rfl]
      refine am_tableIn (tgt := 51) dX8_count_3 (by decide) (by decide) rfl (by decide) ?_
      refine am_aload_n (n := 52) (i := 0) dX8_count_51 rfl rfl rfl ?_
      refine gfX8_count_7 (n := 55) dX8_count_52 (by first | assumption | exact isC_of (by decide +kernel)) rfl ?_
      refine am_iconst (n := 56) (v := 3) dX8_count_55 rfl rfl ?_
      refine am_iald (n := 57) dX8_count_56 (by first | assumption | exact isC_of (by decide +kernel)) (by first | assumption | exact vp_in_nI (by omega) (by omega) | exact vp_in_iff.mpr (by decide)) rfl ?_
      rw [show (3 : Int32).toNatClampNeg = 3 from rfl, show h.1 41 3 = _ from xR.2.2.2.1]
      refine am_iret dX8_count_57 rfl rfl ?_
      exact ⟨rfl, hX, Fr.rf⟩
    · rw [if_neg w1]
      by_cases w2 : w = 2
      · subst w2
        rw [if_pos rfl]
        refine am_tableIn (tgt := 58) dX8_count_3 (by decide) (by decide) rfl (by decide) ?_
        refine am_aload_n (n := 59) (i := 0) dX8_count_58 rfl rfl rfl ?_
        refine gfX8_count_7 (n := 62) dX8_count_59 (by first | assumption | exact isC_of (by decide +kernel)) rfl ?_
        refine am_iload_n (n := 63) (i := 1) dX8_count_62 rfl rfl rfl ?_
        refine am_iconst (n := 64) (v := 2) dX8_count_63 rfl rfl ?_
        refine am_isub (n := 65) dX8_count_64 rfl ?_
        rw [show (2 : Int32) - 2 = nI 0 from rfl]
        refine am_iald (n := 66) dX8_count_65 (by first | assumption | exact isC_of (by decide +kernel)) (by first | assumption | exact vp_in_nI (by omega) (by omega) | exact vp_in_iff.mpr (by decide)) rfl ?_
        rw [nI_clamp (by omega), show h.1 41 0 = _ from xR.1]
        refine am_iret dX8_count_66 rfl rfl ?_
        exact ⟨rfl, hX, Fr.rf⟩
      · rw [if_neg w2]
        by_cases w3 : w = 3
        · subst w3
          rw [if_pos rfl]
          refine am_tableIn (tgt := 58) dX8_count_3 (by decide) (by decide) rfl (by decide) ?_
          refine am_aload_n (n := 59) (i := 0) dX8_count_58 rfl rfl rfl ?_
          refine gfX8_count_7 (n := 62) dX8_count_59 (by first | assumption | exact isC_of (by decide +kernel)) rfl ?_
          refine am_iload_n (n := 63) (i := 1) dX8_count_62 rfl rfl rfl ?_
          refine am_iconst (n := 64) (v := 2) dX8_count_63 rfl rfl ?_
          refine am_isub (n := 65) dX8_count_64 rfl ?_
          rw [show (3 : Int32) - 2 = nI 1 from rfl]
          refine am_iald (n := 66) dX8_count_65 (by first | assumption | exact isC_of (by decide +kernel)) (by first | assumption | exact vp_in_nI (by omega) (by omega) | exact vp_in_iff.mpr (by decide)) rfl ?_
          rw [nI_clamp (by omega), show h.1 41 1 = _ from xR.2.1]
          refine am_iret dX8_count_66 rfl rfl ?_
          exact ⟨rfl, hX, Fr.rf⟩
        · rw [if_neg w3]
          by_cases w4 : w = 4
          · subst w4
            rw [if_pos rfl]
            refine am_tableIn (tgt := 67) dX8_count_3 (by decide) (by decide) rfl (by decide) ?_
            refine am_aload_n (n := 68) (i := 0) dX8_count_67 rfl rfl rfl ?_
            refine gfX8_count_68 (n := 71) dX8_count_68 (by first | assumption | exact isC_of (by decide +kernel)) rfl ?_
            rw [xD.1]
            refine am_iret dX8_count_71 rfl rfl ?_
            exact ⟨rfl, hX, Fr.rf⟩
          · rw [if_neg w4]
            by_cases w5 : w = 5
            · subst w5
              rw [if_pos rfl]
              refine am_tableIn (tgt := 72) dX8_count_3 (by decide) (by decide) rfl (by decide) ?_
              refine am_aload_n (n := 73) (i := 0) dX8_count_72 rfl rfl rfl ?_
              refine gfX8_count_55 (n := 76) dX8_count_73 (by first | assumption | exact isC_of (by decide +kernel)) rfl ?_
              rw [xPp.1]
              refine am_iret dX8_count_76 rfl rfl ?_
              exact ⟨rfl, hX, Fr.rf⟩
            · rw [if_neg w5]
              by_cases w6 : w = 6
              · subst w6
                rw [if_pos rfl]
                unfold lin
                have hr2 : h.1 41 2 = nI G.1.2.2.1.length := xR.2.2.1
                dsimp only
                generalize hZ : ZP g (fun v h' => v = some (.int (orF (fun i => wset (G.1.2.2.1.getD i 0)) G.1.2.2.1.length)) ∧ MG G h' ∧ Fr 40 59 h h') = Z
                have z0 : Z.1 = 0 ∧ Z.2.1 = 0 := by rw [← hZ]; exact ⟨rfl, rfl⟩
                refine am_tableIn (tgt := 77) dX8_count_3 (by decide) (by decide) rfl (by decide) ?_
                refine am_iconst (n := 78) (v := 0) dX8_count_77 rfl rfl ?_
                refine am_istore_n (n := 79) (i := 3) dX8_count_78 rfl (Nat.le_of_ble_eq_true rfl) rfl rfl ?_
                refine am_loc [(0, some (.ref 40)), (2, some (.int (orF (fun i => wset (G.1.2.2.1.getD i 0)) 0))), (3, some (.int (nI 0)))] rfl ?_
                refine loop_up (Wp := fun k => AW g mmX8_count Z 79 [(0, some (.ref 40)), (2, some (.int (orF (fun i => wset (G.1.2.2.1.getD i 0)) k))), (3, some (.int (nI k)))] [] h) G.1.2.2.1.length ?_ ?_ 0 (Nat.zero_le _)
                · refine am_iload_n (n := 80) (i := 3) dX8_count_79 rfl rfl rfl ?_
                  refine am_aload_n (n := 81) (i := 0) dX8_count_80 rfl rfl rfl ?_
                  refine gfX8_count_7 (n := 84) dX8_count_81 (by first | assumption | exact isC_of (by decide +kernel)) rfl ?_
                  refine am_iconst (n := 85) (v := 2) dX8_count_84 rfl rfl ?_
                  refine am_iald (n := 86) dX8_count_85 (by first | assumption | exact isC_of (by decide +kernel)) (by first | assumption | exact vp_in_nI (by omega) (by omega) | exact vp_in_iff.mpr (by decide)) rfl ?_
                  rw [show (2 : Int32).toNatClampNeg = 2 from rfl, hr2]
                  refine am_icmp_ge (tgt := 103) (n := 89) dX8_count_86 (by decide) rfl (fun _ => ?_) (fun q_z => absurd (nI_le (Nat.le_refl _) (by omega)) q_z)
                  rw [← hZ]
                  generalize orF (fun i => wset (G.1.2.2.1.getD i 0)) G.1.2.2.1.length = y
                  refine am_iload_n (n := 104) (i := 2) dX8_count_103 rfl rfl rfl ?_
                  refine am_iret dX8_count_104 rfl rfl ?_
                  exact ⟨rfl, hX, Fr.rf⟩
                · intro k hk K
                  rw [show orF (fun i => wset (G.1.2.2.1.getD i 0)) (k + 1) = orF (fun i => wset (G.1.2.2.1.getD i 0)) k ||| wset (G.1.2.2.1.getD k 0) from rfl] at K
                  have hls := m_letterSet g k G.1 h hX.1 hX.2.1 hk
                  generalize orF (fun i => wset (G.1.2.2.1.getD i 0)) k = y at *
                  generalize wset (G.1.2.2.1.getD k 0) = y2 at *
                  refine am_iload_n (n := 80) (i := 3) dX8_count_79 rfl rfl rfl ?_
                  refine am_aload_n (n := 81) (i := 0) dX8_count_80 rfl rfl rfl ?_
                  refine gfX8_count_7 (n := 84) dX8_count_81 (by first | assumption | exact isC_of (by decide +kernel)) rfl ?_
                  refine am_iconst (n := 85) (v := 2) dX8_count_84 rfl rfl ?_
                  refine am_iald (n := 86) dX8_count_85 (by first | assumption | exact isC_of (by decide +kernel)) (by first | assumption | exact vp_in_nI (by omega) (by omega) | exact vp_in_iff.mpr (by decide)) rfl ?_
                  rw [show (2 : Int32).toNatClampNeg = 2 from rfl, hr2]
                  refine am_icmp_ge (tgt := 103) (n := 89) dX8_count_86 (by decide) rfl (fun q_z => absurd q_z (nI_ge hk (by omega))) (fun _ => ?_)
                  refine am_iload_n (n := 90) (i := 2) dX8_count_89 rfl rfl rfl ?_
                  refine am_aload_n (n := 91) (i := 0) dX8_count_90 rfl rfl rfl ?_
                  refine am_iload_n (n := 92) (i := 3) dX8_count_91 rfl rfl rfl ?_
                  refine cdX8_count_190 (n := 95) dX8_count_92 (by first | exact ⟨rfl, rfl⟩ | assumption) hls rfl rfl (Nat.le_of_ble_eq_true rfl) (by first | assumption | exact isC_of (by decide +kernel)) rfl ?_
                  refine am_ior (n := 96) dX8_count_95 rfl ?_
                  refine am_istore_n (n := 97) (i := 2) dX8_count_96 rfl (Nat.le_of_ble_eq_true rfl) rfl rfl ?_
                  first | refine am_iincN (n := 100) dX8_count_97 rfl rfl rfl ?_ | refine am_iinc1 (n := 100) dX8_count_97 rfl rfl rfl ?_
                  refine am_goto (tgt := 79) dX8_count_100 (by decide) ?_
                  exact am_loc _ rfl K
              · rw [if_neg w6]
                refine am_tableOut (tgt := 105) dX8_count_3 (sw_far (n := 6) (by decide) (fun i hi => by rcases i with _ | _ | _ | _ | _ | _ | _ | i; exact w0; exact w1; exact w2; exact w3; exact w4; exact w5; exact w6; omega)) (by decide) ?_
                refine am_bipush (n := 107) (v := (-2)) dX8_count_105 rfl rfl ?_
                refine am_iret dX8_count_107 rfl rfl ?_
                exact ⟨rfl, hX, Fr.rf⟩
set_option maxRecDepth 100000 in
set_option maxHeartbeats 400000 in
theorem cm_alike (g : Gx) (x a b : Int32) (G : GS) (h : Hp) (hX : MG G h) : CM g yX8_alike wsX8_alike rmX8_alike [.ref 40, .int x, .int a, .int b] h (sp_alike x a b G) := by
  have c40 := isC_40
  have h4 := hX.2.1.2.2.2.2.1
  have h24 := hX.2.1.2.2.1
  unfold CM sp_alike
  refine AC.of (cc := cX8_alike) (maxL := 4) (ret := (some .int)) (by decide +kernel) rfl (Nat.le_of_ble_eq_true rfl) ?_
  show AW g mmX8_alike _ 0 [(0, some (.ref 40)), (1, some (.int x)), (2, some (.int a)), (3, some (.int b))] [] _
  refine am_aload_n (n := 1) (i := 0) dX8_alike_0 rfl rfl rfl ?_
  refine am_iload_n (n := 2) (i := 1) dX8_alike_1 rfl rfl rfl ?_
  refine cdX8_alike_156 (n := 5) dX8_alike_2 (by first | exact ⟨rfl, rfl⟩ | assumption) (m_isEar g x G.1.2.2.2.length h (by omega) hX.1.2.2.2.1) rfl rfl (Nat.le_of_ble_eq_true rfl) (by first | assumption | exact isC_of (by decide +kernel)) rfl ?_
  cases hxx : inN x G.1.2.2.2.length with
  | false =>
    rw [sp_E_f _ hxx]
    refine am_if_eq (tgt := 24) (n := 8) dX8_alike_5 (by decide) rfl (fun _ => ?_) (fun q_z => absurd rfl q_z)
    refine am_iconst (n := 25) (v := (-1)) dX8_alike_24 rfl rfl ?_
    refine am_iret dX8_alike_25 rfl rfl ?_
    exact ⟨rfl, hX, Fr.rf⟩
  | true =>
    obtain ⟨e, he, rfl⟩ := inN_t (by omega) hxx
    have hx := List.getElem?_eq_getElem he
    rw [sp_E_t _ h4 he hx]
    have hV := VC_of hX.2.1 (mE hX.1 hX.2.1 hx).2.2
    have hcl := csOf_len G.1 G.1.2.2.2[e]
    have hall := m_hearAll g e G.1 _ h hX.1 hX.2.1 hx
    generalize csOf G.1 G.1.2.2.2[e] = cs at *
    refine am_if_eq (tgt := 24) (n := 8) dX8_alike_5 (by decide) rfl (fun q_z => absurd q_z (show ¬ (1 : Int32) = 0 by decide)) (fun _ => ?_)
    refine am_aload_n (n := 9) (i := 0) dX8_alike_8 rfl rfl rfl ?_
    refine am_iload_n (n := 10) (i := 2) dX8_alike_9 rfl rfl rfl ?_
    refine cdX8_alike_93 (n := 13) dX8_alike_10 (by first | exact ⟨rfl, rfl⟩ | assumption) (m_isName g a G.1.2.2.1.length h (by omega) hX.1.2.2.1) rfl rfl (Nat.le_of_ble_eq_true rfl) (by first | assumption | exact isC_of (by decide +kernel)) rfl ?_
    cases ha : inN a G.1.2.2.1.length with
    | false =>
      rw [if_neg (fun q => by cases q.1)]
      refine am_if_eq (tgt := 24) (n := 16) dX8_alike_13 (by decide) rfl (fun _ => ?_) (fun q_z => absurd rfl q_z)
      refine am_iconst (n := 25) (v := (-1)) dX8_alike_24 rfl rfl ?_
      refine am_iret dX8_alike_25 rfl rfl ?_
      exact ⟨rfl, hX, Fr.rf⟩
    | true =>
      obtain ⟨i, hi, rfl⟩ := inN_t (by omega) ha
      rw [tn_nI (by omega)]
      refine am_if_eq (tgt := 24) (n := 16) dX8_alike_13 (by decide) rfl (fun q_z => absurd q_z (show ¬ (1 : Int32) = 0 by decide)) (fun _ => ?_)
      refine am_aload_n (n := 17) (i := 0) dX8_alike_16 rfl rfl rfl ?_
      refine am_iload_n (n := 18) (i := 3) dX8_alike_17 rfl rfl rfl ?_
      refine cdX8_alike_93 (n := 21) dX8_alike_18 (by first | exact ⟨rfl, rfl⟩ | assumption) (m_isName g b G.1.2.2.1.length h (by omega) hX.1.2.2.1) rfl rfl (Nat.le_of_ble_eq_true rfl) (by first | assumption | exact isC_of (by decide +kernel)) rfl ?_
      cases hb : inN b G.1.2.2.1.length with
      | false =>
        rw [if_neg (fun q => by cases q.2)]
        refine am_if_ne (tgt := 26) (n := 24) dX8_alike_21 (by decide) rfl (fun q_z => absurd rfl q_z) (fun _ => ?_)
        refine am_iconst (n := 25) (v := (-1)) dX8_alike_24 rfl rfl ?_
        refine am_iret dX8_alike_25 rfl rfl ?_
        exact ⟨rfl, hX, Fr.rf⟩
      | true =>
        obtain ⟨j, hj, rfl⟩ := inN_t (by omega) hb
        rw [tn_nI (by omega), if_pos ⟨rfl, rfl⟩]
        refine am_if_ne (tgt := 26) (n := 24) dX8_alike_21 (by decide) rfl (fun _ => ?_) (fun q_z => absurd q_z (show ¬ (1 : Int32) = 0 by decide))
        refine am_aload_n (n := 27) (i := 0) dX8_alike_26 rfl rfl rfl ?_
        refine am_iload_n (n := 28) (i := 1) dX8_alike_27 rfl rfl rfl ?_
        refine caX8_alike_147 (n := 31) dX8_alike_28 (by first | exact ⟨rfl, rfl⟩ | assumption) hall rfl rfl (Nat.le_of_ble_eq_true rfl) (by first | assumption | exact isC_of (by decide +kernel)) rfl ?_
        rintro r h1 ⟨rfl, H1, F1⟩
        refine am_aload_n (n := 32) (i := 0) dX8_alike_31 rfl rfl rfl ?_
        refine am_iload_n (n := 33) (i := 2) dX8_alike_32 rfl rfl rfl ?_
        refine am_iload_n (n := 34) (i := 3) dX8_alike_33 rfl rfl rfl ?_
        refine cdX8_alike_144 (n := 37) dX8_alike_34 (by first | exact ⟨rfl, rfl⟩ | assumption) (m_haveCommon g i j cs h1 H1 hV (by omega) (by omega)) rfl rfl (Nat.le_of_ble_eq_true rfl) (by first | assumption | exact isC_of (by decide +kernel)) rfl ?_
        cases com cs i j with
        | true =>
          refine am_if_eq (tgt := 44) (n := 40) dX8_alike_37 (by decide) rfl (fun q_z => absurd q_z (show ¬ (1 : Int32) = 0 by decide)) (fun _ => ?_)
          refine am_iconst (n := 41) (v := 1) dX8_alike_40 rfl rfl ?_
          refine am_goto (tgt := 45) dX8_alike_41 (by decide) ?_
          refine am_iret dX8_alike_45 rfl rfl ?_
          exact ⟨rfl, hX.s F1, F1.1⟩
        | false =>
          refine am_if_eq (tgt := 44) (n := 40) dX8_alike_37 (by decide) rfl (fun _ => ?_) (fun q_z => absurd rfl q_z)
          refine am_iconst (n := 45) (v := 0) dX8_alike_44 rfl rfl ?_
          refine am_iret dX8_alike_45 rfl rfl ?_
          exact ⟨rfl, hX.s F1, F1.1⟩
