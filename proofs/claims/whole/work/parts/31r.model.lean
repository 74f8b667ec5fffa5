/-! The reference: merge, split, ear -/
theorem MG.fe {G : GS} {e : Nat} {E' : EV} {h h1 : Hp} (X : MG G h) (hV' : VE E') (F : FE (268 + 78 * e) h h1) (R' : REZ (268 + 78 * e) E' (h1.1 41)) : MG (withE G.1 (G.1.2.2.2.set e E'), G.2) h1 :=
  X.ear hV' F.1 F.2.2 R'
theorem FE.fr {b : Nat} {h h1 : Hp} (F : FE b h h1) : Fr 40 59 h h1 := FrZ F.1 F.2.1
set_option maxRecDepth 100000 in
set_option maxHeartbeats 400000 in
theorem cm_merge (g : Gx) (x a b : Int32) (G : GS) (h : Hp) (hX : MG G h) : CM g yX8_merge wsX8_merge rmX8_merge [.ref 40, .int x, .int a, .int b] h (sp_merge x a b G) := by
  have c40 := isC_40
  have h4 := hX.2.1.2.2.2.2.1
  unfold CM
  refine AC.of (cc := cX8_merge) (maxL := 4) (ret := (some .int)) (by decide +kernel) rfl (Nat.le_of_ble_eq_true rfl) ?_
  show AW g mmX8_merge _ 0 [(0, some (.ref 40)), (1, some (.int x)), (2, some (.int a)), (3, some (.int b))] [] _
  refine am_aload_n (n := 1) (i := 0) dX8_merge_0 rfl rfl rfl ?_
  refine am_iload_n (n := 2) (i := 1) dX8_merge_1 rfl rfl rfl ?_
  refine cdX8_merge_156 (n := 5) dX8_merge_2 (by first | exact ⟨rfl, rfl⟩ | assumption) (m_isEar g x G.1.2.2.2.length h (by omega) hX.1.2.2.2.1) rfl rfl (Nat.le_of_ble_eq_true rfl) (by first | assumption | exact isC_of (by decide +kernel)) rfl ?_
  cases hxx : inN x G.1.2.2.2.length with
  | false =>
    have hs2 : sp_merge x a b G = (-1, G) := by unfold sp_merge; rw [eN_f hxx]
    rw [hs2]
    refine am_if_ne (tgt := 10) (n := 8) dX8_merge_5 (by decide) rfl (fun q_z => absurd rfl q_z) (fun _ => ?_)
    refine am_iconst (n := 9) (v := (-1)) dX8_merge_8 rfl rfl ?_
    refine am_iret dX8_merge_9 rfl rfl ?_
    exact ⟨rfl, hX, Fr.rf⟩
  | true =>
    obtain ⟨e, he, rfl⟩ := inN_t (by omega) hxx
    have hx := List.getElem?_eq_getElem he
    obtain ⟨e4, -, vE⟩ := mE hX.1 hX.2.1 hx
    generalize G.1.2.2.2[e] = E at *
    have hsp : sp_merge (nI e) a b G = if canM a b = false then (-2, G) else (nI (pc (lof (mergeE E (tn a) (tn b)).1 (tn a))), recG G (withE G.1 (G.1.2.2.2.set e (mergeE E (tn a) (tn b))))) := by
      unfold sp_merge
      rw [eN_i h4 he, tn_nI (by omega), hx]
    rw [hsp]
    refine am_if_ne (tgt := 10) (n := 8) dX8_merge_5 (by decide) rfl (fun _ => ?_) (fun q_z => absurd q_z (show ¬ (1 : Int32) = 0 by decide))
    refine am_iload_n (n := 11) (i := 2) dX8_merge_10 rfl rfl rfl ?_
    refine am_iload_n (n := 12) (i := 3) dX8_merge_11 rfl rfl rfl ?_
    refine cdX8_merge_184 (n := 15) dX8_merge_12 (by first | exact ⟨rfl, rfl⟩ | assumption) (m_areKinds g a b h) rfl rfl (Nat.le_of_ble_eq_true rfl) rfl ?_
    cases hb : canM a b with
    | false =>
      rw [if_pos rfl]
      refine am_if_ne (tgt := 21) (n := 18) dX8_merge_15 (by decide) rfl (fun q_z => absurd rfl q_z) (fun _ => ?_)
      refine am_bipush (n := 20) (v := (-2)) dX8_merge_18 rfl rfl ?_
      refine am_iret dX8_merge_20 rfl rfl ?_
      exact ⟨rfl, hX, Fr.rf⟩
    | true =>
      rw [if_neg (by decide)]
      have hb2 := hb
      unfold canM at hb2
      rw [Bool.and_eq_true, Bool.and_eq_true] at hb2
      obtain ⟨na, -, na9, rfl⟩ := inR_t (by decide) (by decide) hb2.1.1
      obtain ⟨nb, -, nb9, rfl⟩ := inR_t (by decide) (by decide) hb2.1.2
      rw [tn_nI (by omega), tn_nI (by omega)]
      refine am_if_ne (tgt := 21) (n := 18) dX8_merge_15 (by decide) rfl (fun _ => ?_) (fun q_z => absurd q_z (show ¬ (1 : Int32) = 0 by decide))
      refine am_aload_n (n := 22) (i := 0) dX8_merge_21 rfl rfl rfl ?_
      refine caX8_merge_63 (n := 25) dX8_merge_22 (by first | exact ⟨rfl, rfl⟩ | assumption) (m_record g G h hX) rfl rfl (Nat.le_of_ble_eq_true rfl) (by first | assumption | exact isC_of (by decide +kernel)) rfl ?_
      rintro r h1 ⟨rfl, X1, F1, -⟩
      have R1 := (mE X1.1 X1.2.1 hx).2.1
      refine am_aload_n (n := 26) (i := 0) dX8_merge_25 rfl rfl rfl ?_
      refine am_iload_n (n := 27) (i := 1) dX8_merge_26 rfl rfl rfl ?_
      refine am_iload_n (n := 28) (i := 2) dX8_merge_27 rfl rfl rfl ?_
      refine am_iload_n (n := 29) (i := 3) dX8_merge_28 rfl rfl rfl ?_
      refine caX8_merge_187 (n := 32) dX8_merge_29 (by first | exact ⟨rfl, rfl⟩ | assumption) (m_mergeKinds g e na nb E h1 e4 R1 vE na9 nb9) rfl rfl (Nat.le_of_ble_eq_true rfl) (by first | assumption | exact isC_of (by decide +kernel)) rfl ?_
      rintro r h2 ⟨rfl, F2, R2⟩
      have vE2 := VE_merge vE na9 nb9
      have h26 := lof_26 (f := (mergeE E na nb).1) (c := na)
      refine am_aload_n (n := 33) (i := 0) dX8_merge_32 rfl rfl rfl ?_
      refine am_iload_n (n := 34) (i := 1) dX8_merge_33 rfl rfl rfl ?_
      refine am_iload_n (n := 35) (i := 2) dX8_merge_34 rfl rfl rfl ?_
      refine cdX8_merge_178 (n := 38) dX8_merge_35 (by first | exact ⟨rfl, rfl⟩ | assumption) (m_lettersOf g e na (mergeE E na nb) h2 e4 R2 vE2 na9) rfl rfl (Nat.le_of_ble_eq_true rfl) (by first | assumption | exact isC_of (by decide +kernel)) rfl ?_
      generalize lof (mergeE E na nb).1 na = ks at *
      refine cdX8_merge_153 (n := 41) dX8_merge_38 (by first | exact ⟨rfl, rfl⟩ | assumption) (m_bits g ks h2 h26) rfl rfl (Nat.le_of_ble_eq_true rfl) rfl ?_
      generalize pc ks = v
      exact am_iret dX8_merge_41 rfl rfl ⟨rfl, X1.fe vE2 F2 R2, F1.tr F2.fr⟩
set_option maxRecDepth 100000 in
set_option maxHeartbeats 800000 in
theorem cm_split (g : Gx) (x : Int32) (G : GS) (h : Hp) (hX : MG G h) : CM g yX8_split wsX8_split rmX8_split [.ref 40, .int x] h (sp_split x G) := by
  have c40 := isC_40
  have h4 := hX.2.1.2.2.2.2.1
  unfold CM
  refine AC.of (cc := cX8_split) (maxL := 8) (ret := (some .int)) (by decide +kernel) rfl (Nat.le_of_ble_eq_true rfl) ?_
  show AW g mmX8_split _ 0 [(0, some (.ref 40)), (1, some (.int x))] [] _
  refine am_aload_n (n := 1) (i := 0) dX8_split_0 rfl rfl rfl ?_
  refine am_iload_n (n := 2) (i := 1) dX8_split_1 rfl rfl rfl ?_
  refine cdX8_split_156 (n := 5) dX8_split_2 (by first | exact ⟨rfl, rfl⟩ | assumption) (m_isEar g x G.1.2.2.2.length h (by omega) hX.1.2.2.2.1) rfl rfl (Nat.le_of_ble_eq_true rfl) (by first | assumption | exact isC_of (by decide +kernel)) rfl ?_
  cases hxx : inN x G.1.2.2.2.length with
  | false =>
    have hs2 : sp_split x G = (-1, G) := by unfold sp_split; rw [eN_f hxx]
    rw [hs2]
    refine am_if_ne (tgt := 10) (n := 8) dX8_split_5 (by decide) rfl (fun q_z => absurd rfl q_z) (fun _ => ?_)
    refine am_iconst (n := 9) (v := (-1)) dX8_split_8 rfl rfl ?_
    refine am_iret dX8_split_9 rfl rfl ?_
    exact ⟨rfl, hX, Fr.rf⟩
  | true =>
    obtain ⟨e, he, rfl⟩ := inN_t (by omega) hxx
    have hx := List.getElem?_eq_getElem he
    obtain ⟨e4, R, vE⟩ := mE hX.1 hX.2.1 hx
    generalize G.1.2.2.2[e] = E at *
    have hsp : sp_split (nI e) G = match E.2.2.2.getLast? with
      | none => (-5, G)
      | some q => (nI q.2.1, recG G (withE G.1 (G.1.2.2.2.set e (splitE E q E.2.2.2.dropLast)))) := by
      unfold sp_split
      rw [eN_i h4 he, tn_nI (by omega), hx]
      rfl
    have hm6 := vE.2.2.1
    refine am_if_ne (tgt := 10) (n := 8) dX8_split_5 (by decide) rfl (fun _ => ?_) (fun q_z => absurd q_z (show ¬ (1 : Int32) = 0 by decide))
    refine am_aload_n (n := 11) (i := 0) dX8_split_10 rfl rfl rfl ?_
    refine am_iload_n (n := 12) (i := 1) dX8_split_11 rfl rfl rfl ?_
    refine am_bipush (n := 14) (v := 53) dX8_split_12 rfl rfl ?_
    refine cdX8_split_106 (n := 17) dX8_split_14 (by first | exact ⟨rfl, rfl⟩ | assumption) (m_at g e 53 h e4 (by omega)) rfl rfl (Nat.le_of_ble_eq_true rfl) (by first | assumption | exact isC_of (by decide +kernel)) rfl ?_
    rw [R.2.2.1]
    rcases List.eq_nil_or_concat E.2.2.2 with hm | ⟨ms, q, hm⟩
    · have hs2 : sp_split (nI e) G = (-5, G) := by rw [hsp, hm]; rfl
      rw [hm, hs2]
      refine am_if_ne (tgt := 23) (n := 20) dX8_split_17 (by decide) rfl (fun q_z => absurd rfl q_z) (fun _ => ?_)
      refine am_bipush (n := 22) (v := (-5)) dX8_split_20 rfl rfl ?_
      refine am_iret dX8_split_22 rfl rfl ?_
      exact ⟨rfl, hX, Fr.rf⟩
    · rw [List.concat_eq_append] at hm
      have hs2 : sp_split (nI e) G = (nI q.2.1, recG G (withE G.1 (G.1.2.2.2.set e (splitE E q ms)))) := by
        rw [hsp, show E.2.2.2.getLast? = some q by rw [hm]; simp, show E.2.2.2.dropLast = ms by rw [hm]; simp]
      rw [hs2]
      have hlen : E.2.2.2.length = ms.length + 1 := by rw [hm, List.length_append]; rfl
      rw [hlen]
      have vE2 : VE (splitE E q ms) := VE_split vE (by rw [hm]; exact List.mem_append_right _ List.mem_cons_self) (fun y hy => by rw [hm]; exact List.mem_append_left _ hy) (by omega)
      have hq9 := vE.2.2.2 q (by rw [hm]; exact List.mem_append_right _ List.mem_cons_self)
      generalize hZ : ZP g (fun v h' => v = some (.int (nI q.2.1, recG G (withE G.1 (G.1.2.2.2.set e (splitE E q ms)))).1) ∧ MG (nI q.2.1, recG G (withE G.1 (G.1.2.2.2.set e (splitE E q ms)))).2 h' ∧ Fr 40 59 h h') = Z
      have z0 : Z.1 = 0 ∧ Z.2.1 = 0 := by rw [← hZ]; exact ⟨rfl, rfl⟩
      refine am_if_ne (tgt := 23) (n := 20) dX8_split_17 (by decide) rfl (fun _ => ?_) (fun q_z => absurd q_z (fun z => by have := (nI_eq (b := 0) (by omega) (by omega)).mp z; omega))
      refine am_aload_n (n := 24) (i := 0) dX8_split_23 rfl rfl rfl ?_
      refine caX8_split_63 (n := 27) dX8_split_24 (by first | exact ⟨rfl, rfl⟩ | assumption) (m_record g G h hX) rfl rfl (Nat.le_of_ble_eq_true rfl) (by first | assumption | exact isC_of (by decide +kernel)) rfl ?_
      rintro r h1 ⟨rfl, X1, F1, -⟩
      have R1 := (mE X1.1 X1.2.1 hx).2.1
      refine am_aload_n (n := 28) (i := 0) dX8_split_27 rfl rfl rfl ?_
      refine am_iload_n (n := 29) (i := 1) dX8_split_28 rfl rfl rfl ?_
      refine am_bipush (n := 31) (v := 53) dX8_split_29 rfl rfl ?_
      refine am_aload_n (n := 32) (i := 0) dX8_split_31 rfl rfl rfl ?_
      refine am_iload_n (n := 33) (i := 1) dX8_split_32 rfl rfl rfl ?_
      refine am_bipush (n := 35) (v := 53) dX8_split_33 rfl rfl ?_
      refine cdX8_split_106 (n := 38) dX8_split_35 (by first | exact ⟨rfl, rfl⟩ | assumption) (m_at g e 53 h1 e4 (by omega)) rfl rfl (Nat.le_of_ble_eq_true rfl) (by first | assumption | exact isC_of (by decide +kernel)) rfl ?_
      rw [R1.2.2.1, hlen]
      refine am_iconst (n := 39) (v := 1) dX8_split_38 rfl rfl ?_
      refine am_isub (n := 40) dX8_split_39 rfl ?_
      rw [nI_pred]
      refine caX8_split_159 (n := 43) dX8_split_40 (by first | exact ⟨rfl, rfl⟩ | assumption) (m_lay g e 53 (nI ms.length) h1 e4 (by omega)) rfl rfl (Nat.le_of_ble_eq_true rfl) (by first | assumption | exact isC_of (by decide +kernel)) rfl ?_
      rintro r h2 ⟨rfl, rfl⟩
      have FE2 := (FE.rf (b := 268 + 78 * e) (h := h1)).upd (i := 268 + 78 * e + 53) (nI ms.length) (by omega) (by omega)
      obtain ⟨r1, r2, r3, r4⟩ := R1
      have hqm : E.2.2.2[ms.length]? = some q := by rw [hm]; simp
      obtain ⟨q1, q2, q3, q4⟩ := r4 ms.length q hqm
      have R2 : REZ (268 + 78 * e) (E.1, E.2.1, E.2.2.1, ms) ((setI h1 41 (upd (h1.1 41) (268 + 78 * e + 53) (nI ms.length))).1 41) := by
        rw [setI_s]
        refine ⟨fun l hl => ⟨(pk_un (by omega)).trans (r1 l hl).1, (pk_un (by omega)).trans (r1 l hl).2⟩, (pk_un (by omega)).trans r2, pk_us, fun j y hj => ?_⟩
        have hj : ms[j]? = some y := hj
        have hjl := (List.getElem?_eq_some_iff.mp hj).1
        have hj2 : E.2.2.2[j]? = some y := by rw [hm, List.getElem?_append_left hjl]; exact hj
        obtain ⟨s1, s2, s3, s4⟩ := r4 j y hj2
        exact ⟨(pk_un (by omega)).trans s1, (pk_un (by omega)).trans s2, (pk_un (by omega)).trans s3, (pk_un (by omega)).trans s4⟩
      obtain ⟨m, hmm⟩ : ∃ m, m = 54 + 4 * ms.length := ⟨_, rfl⟩
      have w0 : (setI h1 41 (upd (h1.1 41) (268 + 78 * e + 53) (nI ms.length))).1 41 (268 + 78 * e + m) = nI q.1 := by
        rw [setI_s, pk_un (by omega), ← q1, show 268 + 78 * e + m = 268 + 78 * e + 54 + 4 * ms.length by omega]
      have w1 : (setI h1 41 (upd (h1.1 41) (268 + 78 * e + 53) (nI ms.length))).1 41 (268 + 78 * e + (m + 1)) = nI q.2.1 := by
        rw [setI_s, pk_un (by omega), ← q2, show 268 + 78 * e + (m + 1) = 268 + 78 * e + 54 + 4 * ms.length + 1 by omega]
      have w2 : (setI h1 41 (upd (h1.1 41) (268 + 78 * e + 53) (nI ms.length))).1 41 (268 + 78 * e + (m + 2)) = q.2.2.1 := by
        rw [setI_s, pk_un (by omega), ← q3, show 268 + 78 * e + (m + 2) = 268 + 78 * e + 54 + 4 * ms.length + 2 by omega]
      have w3 : (setI h1 41 (upd (h1.1 41) (268 + 78 * e + 53) (nI ms.length))).1 41 (268 + 78 * e + (m + 3)) = q.2.2.2 := by
        rw [setI_s, pk_un (by omega), ← q4, show 268 + 78 * e + (m + 3) = 268 + 78 * e + 54 + 4 * ms.length + 3 by omega]
      have w53 : (setI h1 41 (upd (h1.1 41) (268 + 78 * e + 53) (nI ms.length))).1 41 (268 + 78 * e + 53) = nI ms.length := R2.2.2.1
      generalize setI h1 41 (upd (h1.1 41) (268 + 78 * e + 53) (nI ms.length)) = h2 at *
      refine am_bipush (n := 45) (v := 54) dX8_split_43 rfl rfl ?_
      refine am_iconst (n := 46) (v := 4) dX8_split_45 rfl rfl ?_
      refine am_aload_n (n := 47) (i := 0) dX8_split_46 rfl rfl rfl ?_
      refine am_iload_n (n := 48) (i := 1) dX8_split_47 rfl rfl rfl ?_
      refine am_bipush (n := 50) (v := 53) dX8_split_48 rfl rfl ?_
      refine cdX8_split_106 (n := 53) dX8_split_50 (by first | exact ⟨rfl, rfl⟩ | assumption) (m_at g e 53 h2 e4 (by omega)) rfl rfl (Nat.le_of_ble_eq_true rfl) (by first | assumption | exact isC_of (by decide +kernel)) rfl ?_
      rw [w53]
      refine am_imul (n := 54) dX8_split_53 rfl ?_
      refine am_iadd (n := 55) dX8_split_54 rfl ?_
      rw [show (54 : Int32) + 4 * nI ms.length = nI m by rw [hmm, show (4 : Int32) = nI 4 from rfl, show (54 : Int32) = nI 54 from rfl, nI_mul, nI_add]]
      refine am_istore_n (n := 56) (i := 2) dX8_split_55 rfl (Nat.le_of_ble_eq_true rfl) rfl rfl ?_
      refine am_aload_n (n := 57) (i := 0) dX8_split_56 rfl rfl rfl ?_
      refine am_iload_n (n := 58) (i := 1) dX8_split_57 rfl rfl rfl ?_
      refine am_iload_n (n := 59) (i := 2) dX8_split_58 rfl rfl rfl ?_
      refine cdX8_split_106 (n := 62) dX8_split_59 (by first | exact ⟨rfl, rfl⟩ | assumption) (m_at g e m h2 e4 (by omega)) rfl rfl (Nat.le_of_ble_eq_true rfl) (by first | assumption | exact isC_of (by decide +kernel)) rfl ?_
      rw [w0]
      refine am_istore_n (n := 63) (i := 3) dX8_split_62 rfl (Nat.le_of_ble_eq_true rfl) rfl rfl ?_
      refine am_aload_n (n := 64) (i := 0) dX8_split_63 rfl rfl rfl ?_
      refine am_iload_n (n := 65) (i := 1) dX8_split_64 rfl rfl rfl ?_
      refine am_iload_n (n := 66) (i := 2) dX8_split_65 rfl rfl rfl ?_
      refine am_iconst (n := 67) (v := 1) dX8_split_66 rfl rfl ?_
      refine am_iadd (n := 68) dX8_split_67 rfl ?_
      rw [nI_1]
      refine cdX8_split_106 (n := 71) dX8_split_68 (by first | exact ⟨rfl, rfl⟩ | assumption) (m_at g e (m + 1) h2 e4 (by omega)) rfl rfl (Nat.le_of_ble_eq_true rfl) (by first | assumption | exact isC_of (by decide +kernel)) rfl ?_
      rw [w1]
      refine am_istore (n := 73) dX8_split_71 (Nat.le_of_ble_eq_true rfl) rfl rfl ?_
      refine am_iconst (n := 74) (v := 0) dX8_split_73 rfl rfl ?_
      refine am_istore (n := 76) dX8_split_74 (Nat.le_of_ble_eq_true rfl) rfl rfl ?_
      have hFb : ∀ l, l < 26 → spF q E.1 l ≤ 9 := fun l hl => by
        have := (vE.1 l hl).1
        unfold spF
        split <;> omega
      have hSb : ∀ l, l < 26 → spS1 q E.2.1 l ≤ 10 := fun l hl => by
        have := (vE.1 l hl).2.1
        unfold spS1
        split <;> omega
      refine am_loc [(0, some (.ref 40)), (1, some (.int (nI e))), (2, some (.int (nI m))), (3, some (.int (nI q.1))), (4, some (.int (nI q.2.1))), (5, some (.int (nI 0)))] rfl ?_
      refine loop_up (Wp := fun k => ∀ h3 : Hp, MZ (268 + 78 * e) h2 h3 (fun l => if l < k then spF q E.1 l else E.1 l) (fun l => if l < k then spS1 q E.2.1 l else E.2.1 l) → AW g mmX8_split Z 76 [(0, some (.ref 40)), (1, some (.int (nI e))), (2, some (.int (nI m))), (3, some (.int (nI q.1))), (4, some (.int (nI q.2.1))), (5, some (.int (nI k)))] [] h3) 26 ?_ ?_ 0 (by omega) h2 ((MZ.of R2).to (fun l hl => ⟨by rw [if_neg (Nat.not_lt_zero _)], by rw [if_neg (Nat.not_lt_zero _)]⟩))
      · intro h3 M3
        have M4 : MZ (268 + 78 * e) h2 h3 (spF q E.1) (spS1 q E.2.1) := M3.to (fun l hl => ⟨if_pos hl, if_pos hl⟩)
        refine am_iload (n := 78) dX8_split_76 rfl rfl ?_
        refine am_bipush (n := 80) (v := 26) dX8_split_78 rfl rfl ?_
        refine am_icmp_ge (tgt := 226) (n := 83) dX8_split_80 (by decide) rfl (fun _ => ?_) (fun q_z => absurd (by decide) q_z)
        refine am_aload_n (n := 227) (i := 0) dX8_split_226 rfl rfl rfl ?_
        refine am_iload_n (n := 228) (i := 1) dX8_split_227 rfl rfl rfl ?_
        refine caX8_split_172 (n := 231) dX8_split_228 (by first | exact ⟨rfl, rfl⟩ | assumption) (m_clean g e _ _ h2 h3 e4 M4 hFb hSb) rfl rfl (Nat.le_of_ble_eq_true rfl) (by first | assumption | exact isC_of (by decide +kernel)) rfl ?_
        rintro r h5 ⟨rfl, M5⟩
        have M5 : MZ (268 + 78 * e) h2 h5 (spF q E.1) (spS q E.1 E.2.1) := M5
        have R5 : REZ (268 + 78 * e) (splitE E q ms) (h5.1 41) := M5.re R2
        have F5 := FE2.tr (FE.mz M5)
        rw [← hZ]
        refine am_iload (n := 233) dX8_split_231 rfl rfl ?_
        exact am_iret dX8_split_233 rfl rfl ⟨rfl, X1.fe vE2 F5 R5, F1.tr F5.fr⟩
      · intro k hk K h3 M3
        have hx0 := M3.2.2.2 k hk
        have hx1 : h3.1 41 (268 + 78 * e + k) = nI (E.1 k) := by
          rw [hx0.1]
          show nI (if k < k then _ else _) = _
          rw [if_neg (Nat.lt_irrefl k)]
        have hx2 : h3.1 41 (268 + 78 * e + (26 + k)) = nI (E.2.1 k) := by
          rw [← Nat.add_assoc, hx0.2]
          show nI (if k < k then _ else _) = _
          rw [if_neg (Nat.lt_irrefl k)]
        have w2' : h3.1 41 (268 + 78 * e + (m + 2)) = q.2.2.1 := (M3.2.2.1 _ (by omega)).trans w2
        have w3' : h3.1 41 (268 + 78 * e + (m + 3)) = q.2.2.2 := (M3.2.2.1 _ (by omega)).trans w3
        obtain ⟨v1, v2, v3⟩ := vE.1 k hk
        have hFk : spF q E.1 k = if bt q.2.2.1 k = true ∧ E.1 k = q.1 then q.2.1 else E.1 k := rfl
        have hSk : spS1 q E.2.1 k = if bt q.2.2.2 k = true ∧ E.2.1 k = q.1 + 1 then q.2.1 + 1 else E.2.1 k := rfl
        have M2 := (M3.F (i := k) (a := spF q E.1 k) hk)
        have M4 := M2.S (i := k) (a := spS1 q E.2.1 k) hk
        have KK := K _ (M4.to (fun l hl => ⟨by
          by_cases z : l = k
          · rw [z, upN_s, if_pos (Nat.lt_succ_self _)]
          · rw [upN_n _ _ z]
            by_cases y : l < k
            · rw [if_pos y, if_pos (by omega)]
            · rw [if_neg y, if_neg (by omega)], by
          by_cases z : l = k
          · rw [z, upN_s, if_pos (Nat.lt_succ_self _)]
          · rw [upN_n _ _ z]
            by_cases y : l < k
            · rw [if_pos y, if_pos (by omega)]
            · rw [if_neg y, if_neg (by omega)]⟩))
        -- the writes
        have t160 : ∀ (l : Lo) (kb sb : Bool), (kb = true ↔ bt q.2.2.1 k = true ∧ E.1 k = q.1) → (sb = true ↔ bt q.2.2.2 k = true ∧ E.2.1 k = q.1 + 1) → lget l 0 = some (.ref 40) → lget l 1 = some (.int (nI e)) → lget l 2 = some (.int (nI m)) → lget l 3 = some (.int (nI q.1)) → lget l 4 = some (.int (nI q.2.1)) → lget l 5 = some (.int (nI k)) → lget l 6 = some (.int (bI kb)) → lget l 7 = some (.int (bI sb)) → AW g mmX8_split Z 160 l [] h3 := by
          intro l kb sb hkb hsb l0 l1 l2 l3 l4 l5 l6 l7
          refine am_loc [(0, some (.ref 40)), (1, some (.int (nI e))), (2, some (.int (nI m))), (3, some (.int (nI q.1))), (4, some (.int (nI q.2.1))), (5, some (.int (nI k))), (6, some (.int (bI kb))), (7, some (.int (bI sb)))] (by simp only [List.map_cons, List.map_nil, l0, l1, l2, l3, l4, l5, l6, l7]) ?_
          have t185 : AW g mmX8_split Z 185 [(0, some (.ref 40)), (1, some (.int (nI e))), (2, some (.int (nI m))), (3, some (.int (nI q.1))), (4, some (.int (nI q.2.1))), (5, some (.int (nI k))), (6, some (.int (bI kb))), (7, some (.int (bI sb)))] [.int (nI (spF q E.1 k)), .int (nI (0 + k)), .int (nI e), .ref 40] h3 := by
            refine caX8_split_159 (n := 188) dX8_split_185 (by first | exact ⟨rfl, rfl⟩ | assumption) (m_lay g e (0 + k) _ h3 e4 (by omega)) rfl rfl (Nat.le_of_ble_eq_true rfl) (by first | assumption | exact isC_of (by decide +kernel)) rfl ?_
            rintro r h5 ⟨rfl, rfl⟩
            rw [Nat.zero_add]
            have hx3 : (setI h3 41 (upd (h3.1 41) (268 + 78 * e + k) (nI (spF q E.1 k)))).1 41 (268 + 78 * e + (26 + k)) = nI (E.2.1 k) := by
              rw [setI_s, pk_un (by omega)]
              exact hx2
            generalize setI h3 41 (upd (h3.1 41) (268 + 78 * e + k) (nI (spF q E.1 k))) = h5 at *
            refine am_aload_n (n := 189) (i := 0) dX8_split_188 rfl rfl rfl ?_
            refine am_iload_n (n := 190) (i := 1) dX8_split_189 rfl rfl rfl ?_
            refine am_bipush (n := 192) (v := 26) dX8_split_190 rfl rfl ?_
            refine am_iload (n := 194) dX8_split_192 rfl rfl ?_
            refine am_iadd (n := 195) dX8_split_194 rfl ?_
            rw [show (26 : Int32) + nI k = nI (26 + k) from nI_add 26 k]
            refine am_iload (n := 197) dX8_split_195 rfl rfl ?_
            have t217 : AW g mmX8_split Z 217 [(0, some (.ref 40)), (1, some (.int (nI e))), (2, some (.int (nI m))), (3, some (.int (nI q.1))), (4, some (.int (nI q.2.1))), (5, some (.int (nI k))), (6, some (.int (bI kb))), (7, some (.int (bI sb)))] [.int (nI (spS1 q E.2.1 k)), .int (nI (26 + k)), .int (nI e), .ref 40] h5 := by
              refine caX8_split_159 (n := 220) dX8_split_217 (by first | exact ⟨rfl, rfl⟩ | assumption) (m_lay g e (26 + k) _ h5 e4 (by omega)) rfl rfl (Nat.le_of_ble_eq_true rfl) (by first | assumption | exact isC_of (by decide +kernel)) rfl ?_
              rintro r h6 ⟨rfl, rfl⟩
              first | refine am_iincN (n := 223) dX8_split_220 rfl rfl rfl ?_ | refine am_iinc1 (n := 223) dX8_split_220 rfl rfl rfl ?_
              refine am_goto (tgt := 76) dX8_split_223 (by decide) ?_
              exact am_loc _ rfl KK
            by_cases y : bt q.2.2.2 k = true ∧ E.2.1 k = q.1 + 1
            · rw [if_pos y] at hSk
              rw [hSk] at t217
              rw [show sb = true from hsb.mpr y] at t217 ⊢
              refine am_if_eq (tgt := 207) (n := 200) dX8_split_197 (by decide) rfl (fun q_z => absurd q_z (show ¬ (1 : Int32) = 0 by decide)) (fun _ => ?_)
              refine am_iload (n := 202) dX8_split_200 rfl rfl ?_
              refine am_iconst (n := 203) (v := 1) dX8_split_202 rfl rfl ?_
              refine am_iadd (n := 204) dX8_split_203 rfl ?_
              rw [nI_1]
              refine am_goto (tgt := 217) dX8_split_204 (by decide) ?_
              exact t217
            · rw [if_neg y] at hSk
              rw [hSk] at t217
              rw [show sb = false by cases sb with | false => rfl | true => exact absurd (hsb.mp rfl) y] at t217 ⊢
              refine am_if_eq (tgt := 207) (n := 200) dX8_split_197 (by decide) rfl (fun _ => ?_) (fun q_z => absurd rfl q_z)
              refine am_aload_n (n := 208) (i := 0) dX8_split_207 rfl rfl rfl ?_
              refine am_iload_n (n := 209) (i := 1) dX8_split_208 rfl rfl rfl ?_
              refine am_bipush (n := 211) (v := 26) dX8_split_209 rfl rfl ?_
              refine am_iload (n := 213) dX8_split_211 rfl rfl ?_
              refine am_iadd (n := 214) dX8_split_213 rfl ?_
              rw [show (26 : Int32) + nI k = nI (26 + k) from nI_add 26 k]
              refine cdX8_split_106 (n := 217) dX8_split_214 (by first | exact ⟨rfl, rfl⟩ | assumption) (m_at g e (26 + k) h5 e4 (by omega)) rfl rfl (Nat.le_of_ble_eq_true rfl) (by first | assumption | exact isC_of (by decide +kernel)) rfl ?_
              rw [hx3]
              exact t217
          refine am_aload_n (n := 161) (i := 0) dX8_split_160 rfl rfl rfl ?_
          refine am_iload_n (n := 162) (i := 1) dX8_split_161 rfl rfl rfl ?_
          refine am_iconst (n := 163) (v := 0) dX8_split_162 rfl rfl ?_
          refine am_iload (n := 165) dX8_split_163 rfl rfl ?_
          refine am_iadd (n := 166) dX8_split_165 rfl ?_
          rw [show (0 : Int32) + nI k = nI (0 + k) from nI_add 0 k]
          refine am_iload (n := 168) dX8_split_166 rfl rfl ?_
          by_cases y : bt q.2.2.1 k = true ∧ E.1 k = q.1
          · rw [if_pos y] at hFk
            rw [hFk] at t185
            rw [show kb = true from hkb.mpr y] at t185 ⊢
            refine am_if_eq (tgt := 176) (n := 171) dX8_split_168 (by decide) rfl (fun q_z => absurd q_z (show ¬ (1 : Int32) = 0 by decide)) (fun _ => ?_)
            refine am_iload (n := 173) dX8_split_171 rfl rfl ?_
            refine am_goto (tgt := 185) dX8_split_173 (by decide) ?_
            exact t185
          · rw [if_neg y] at hFk
            rw [hFk] at t185
            rw [show kb = false by cases kb with | false => rfl | true => exact absurd (hkb.mp rfl) y] at t185 ⊢
            refine am_if_eq (tgt := 176) (n := 171) dX8_split_168 (by decide) rfl (fun _ => ?_) (fun q_z => absurd rfl q_z)
            refine am_aload_n (n := 177) (i := 0) dX8_split_176 rfl rfl rfl ?_
            refine am_iload_n (n := 178) (i := 1) dX8_split_177 rfl rfl rfl ?_
            refine am_iconst (n := 179) (v := 0) dX8_split_178 rfl rfl ?_
            refine am_iload (n := 181) dX8_split_179 rfl rfl ?_
            refine am_iadd (n := 182) dX8_split_181 rfl ?_
            rw [show (0 : Int32) + nI k = nI (0 + k) from nI_add 0 k]
            refine cdX8_split_106 (n := 185) dX8_split_182 (by first | exact ⟨rfl, rfl⟩ | assumption) (m_at g e (0 + k) h3 e4 (by omega)) rfl rfl (Nat.le_of_ble_eq_true rfl) (by first | assumption | exact isC_of (by decide +kernel)) rfl ?_
            rw [Nat.zero_add, hx1]
            rw [Nat.zero_add] at t185
            exact t185
        -- the second class
        have t120 : ∀ (l : Lo) (kb : Bool), (kb = true ↔ bt q.2.2.1 k = true ∧ E.1 k = q.1) → lget l 0 = some (.ref 40) → lget l 1 = some (.int (nI e)) → lget l 2 = some (.int (nI m)) → lget l 3 = some (.int (nI q.1)) → lget l 4 = some (.int (nI q.2.1)) → lget l 5 = some (.int (nI k)) → lget l 6 = some (.int (bI kb)) → AW g mmX8_split Z 120 l [] h3 := by
          intro l kb hkb l0 l1 l2 l3 l4 l5 l6
          refine am_loc [(0, some (.ref 40)), (1, some (.int (nI e))), (2, some (.int (nI m))), (3, some (.int (nI q.1))), (4, some (.int (nI q.2.1))), (5, some (.int (nI k))), (6, some (.int (bI kb)))] (by simp only [List.map_cons, List.map_nil, l0, l1, l2, l3, l4, l5, l6]) ?_
          refine am_aload_n (n := 121) (i := 0) dX8_split_120 rfl rfl rfl ?_
          refine am_iload_n (n := 122) (i := 1) dX8_split_121 rfl rfl rfl ?_
          refine am_iload_n (n := 123) (i := 2) dX8_split_122 rfl rfl rfl ?_
          refine am_iconst (n := 124) (v := 3) dX8_split_123 rfl rfl ?_
          refine am_iadd (n := 125) dX8_split_124 rfl ?_
          rw [show nI m + (3 : Int32) = nI (m + 3) from nI_add m 3]
          refine cdX8_split_106 (n := 128) dX8_split_125 (by first | exact ⟨rfl, rfl⟩ | assumption) (m_at g e (m + 3) h3 e4 (by omega)) rfl rfl (Nat.le_of_ble_eq_true rfl) (by first | assumption | exact isC_of (by decide +kernel)) rfl ?_
          rw [w3']
          refine am_iload (n := 130) dX8_split_128 rfl rfl ?_
          refine am_ishr (n := 131) dX8_split_130 rfl ?_
          refine am_iconst (n := 132) (v := 1) dX8_split_131 rfl rfl ?_
          refine am_iand (n := 133) dX8_split_132 rfl ?_
          rw [shr1 q.2.2.2 (show k < 32 by omega)]
          refine am_iconst (n := 134) (v := 1) dX8_split_133 rfl rfl ?_
          by_cases y : bt q.2.2.2 k = true
          · rw [if_pos y]
            refine am_icmp_ne (tgt := 157) (n := 137) dX8_split_134 (by decide) rfl (fun q_z => absurd rfl q_z) (fun _ => ?_)
            refine am_aload_n (n := 138) (i := 0) dX8_split_137 rfl rfl rfl ?_
            refine am_iload_n (n := 139) (i := 1) dX8_split_138 rfl rfl rfl ?_
            refine am_bipush (n := 141) (v := 26) dX8_split_139 rfl rfl ?_
            refine am_iload (n := 143) dX8_split_141 rfl rfl ?_
            refine am_iadd (n := 144) dX8_split_143 rfl ?_
            rw [show (26 : Int32) + nI k = nI (26 + k) from nI_add 26 k]
            refine cdX8_split_106 (n := 147) dX8_split_144 (by first | exact ⟨rfl, rfl⟩ | assumption) (m_at g e (26 + k) h3 e4 (by omega)) rfl rfl (Nat.le_of_ble_eq_true rfl) (by first | assumption | exact isC_of (by decide +kernel)) rfl ?_
            rw [hx2]
            refine am_iload_n (n := 148) (i := 3) dX8_split_147 rfl rfl rfl ?_
            refine am_iconst (n := 149) (v := 1) dX8_split_148 rfl rfl ?_
            refine am_iadd (n := 150) dX8_split_149 rfl ?_
            rw [nI_1]
            by_cases y2 : E.2.1 k = q.1 + 1
            · refine am_icmp_ne (tgt := 157) (n := 153) dX8_split_150 (by decide) rfl (fun q_z => absurd (by rw [y2]) q_z) (fun _ => ?_)
              refine am_iconst (n := 154) (v := 1) dX8_split_153 rfl rfl ?_
              refine am_goto (tgt := 158) dX8_split_154 (by decide) ?_
              refine am_istore (n := 160) dX8_split_158 (Nat.le_of_ble_eq_true rfl) rfl rfl ?_
              exact t160 _ kb true hkb ⟨fun _ => ⟨y, y2⟩, fun _ => rfl⟩ rfl rfl rfl rfl rfl rfl rfl rfl
            · refine am_icmp_ne (tgt := 157) (n := 153) dX8_split_150 (by decide) rfl (fun _ => ?_) (fun q_z => absurd q_z (fun z => y2 ((nI_eq (by omega) (by omega)).mp z)))
              refine am_iconst (n := 158) (v := 0) dX8_split_157 rfl rfl ?_
              refine am_istore (n := 160) dX8_split_158 (Nat.le_of_ble_eq_true rfl) rfl rfl ?_
              exact t160 _ kb false hkb ⟨fun z => (by cases z), fun z => absurd z.2 y2⟩ rfl rfl rfl rfl rfl rfl rfl rfl
          · rw [if_neg y]
            refine am_icmp_ne (tgt := 157) (n := 137) dX8_split_134 (by decide) rfl (fun _ => ?_) (fun q_z => absurd q_z (by decide))
            refine am_iconst (n := 158) (v := 0) dX8_split_157 rfl rfl ?_
            refine am_istore (n := 160) dX8_split_158 (Nat.le_of_ble_eq_true rfl) rfl rfl ?_
            exact t160 _ kb false hkb ⟨fun z => (by cases z), fun z => absurd z.1 y⟩ rfl rfl rfl rfl rfl rfl rfl rfl
        refine am_iload (n := 78) dX8_split_76 rfl rfl ?_
        refine am_bipush (n := 80) (v := 26) dX8_split_78 rfl rfl ?_
        refine am_icmp_ge (tgt := 226) (n := 83) dX8_split_80 (by decide) rfl (fun q_z => absurd q_z (nI_ge hk (by decide))) (fun _ => ?_)
        refine am_aload_n (n := 84) (i := 0) dX8_split_83 rfl rfl rfl ?_
        refine am_iload_n (n := 85) (i := 1) dX8_split_84 rfl rfl rfl ?_
        refine am_iload_n (n := 86) (i := 2) dX8_split_85 rfl rfl rfl ?_
        refine am_iconst (n := 87) (v := 2) dX8_split_86 rfl rfl ?_
        refine am_iadd (n := 88) dX8_split_87 rfl ?_
        rw [show nI m + (2 : Int32) = nI (m + 2) from nI_add m 2]
        refine cdX8_split_106 (n := 91) dX8_split_88 (by first | exact ⟨rfl, rfl⟩ | assumption) (m_at g e (m + 2) h3 e4 (by omega)) rfl rfl (Nat.le_of_ble_eq_true rfl) (by first | assumption | exact isC_of (by decide +kernel)) rfl ?_
        rw [w2']
        refine am_iload (n := 93) dX8_split_91 rfl rfl ?_
        refine am_ishr (n := 94) dX8_split_93 rfl ?_
        refine am_iconst (n := 95) (v := 1) dX8_split_94 rfl rfl ?_
        refine am_iand (n := 96) dX8_split_95 rfl ?_
        rw [shr1 q.2.2.1 (show k < 32 by omega)]
        refine am_iconst (n := 97) (v := 1) dX8_split_96 rfl rfl ?_
        by_cases y : bt q.2.2.1 k = true
        · rw [if_pos y]
          refine am_icmp_ne (tgt := 117) (n := 100) dX8_split_97 (by decide) rfl (fun q_z => absurd rfl q_z) (fun _ => ?_)
          refine am_aload_n (n := 101) (i := 0) dX8_split_100 rfl rfl rfl ?_
          refine am_iload_n (n := 102) (i := 1) dX8_split_101 rfl rfl rfl ?_
          refine am_iconst (n := 103) (v := 0) dX8_split_102 rfl rfl ?_
          refine am_iload (n := 105) dX8_split_103 rfl rfl ?_
          refine am_iadd (n := 106) dX8_split_105 rfl ?_
          rw [show (0 : Int32) + nI k = nI (0 + k) from nI_add 0 k]
          refine cdX8_split_106 (n := 109) dX8_split_106 (by first | exact ⟨rfl, rfl⟩ | assumption) (m_at g e (0 + k) h3 e4 (by omega)) rfl rfl (Nat.le_of_ble_eq_true rfl) (by first | assumption | exact isC_of (by decide +kernel)) rfl ?_
          rw [Nat.zero_add, hx1]
          refine am_iload_n (n := 110) (i := 3) dX8_split_109 rfl rfl rfl ?_
          by_cases y2 : E.1 k = q.1
          · refine am_icmp_ne (tgt := 117) (n := 113) dX8_split_110 (by decide) rfl (fun q_z => absurd (by rw [y2]) q_z) (fun _ => ?_)
            refine am_iconst (n := 114) (v := 1) dX8_split_113 rfl rfl ?_
            refine am_goto (tgt := 118) dX8_split_114 (by decide) ?_
            refine am_istore (n := 120) dX8_split_118 (Nat.le_of_ble_eq_true rfl) rfl rfl ?_
            exact t120 _ true ⟨fun _ => ⟨y, y2⟩, fun _ => rfl⟩ rfl rfl rfl rfl rfl rfl rfl
          · refine am_icmp_ne (tgt := 117) (n := 113) dX8_split_110 (by decide) rfl (fun _ => ?_) (fun q_z => absurd q_z (fun z => y2 ((nI_eq (by omega) (by omega)).mp z)))
            refine am_iconst (n := 118) (v := 0) dX8_split_117 rfl rfl ?_
            refine am_istore (n := 120) dX8_split_118 (Nat.le_of_ble_eq_true rfl) rfl rfl ?_
            exact t120 _ false ⟨fun z => (by cases z), fun z => absurd z.2 y2⟩ rfl rfl rfl rfl rfl rfl rfl
        · rw [if_neg y]
          refine am_icmp_ne (tgt := 117) (n := 100) dX8_split_97 (by decide) rfl (fun _ => ?_) (fun q_z => absurd q_z (by decide))
          refine am_iconst (n := 118) (v := 0) dX8_split_117 rfl rfl ?_
          refine am_istore (n := 120) dX8_split_118 (Nat.le_of_ble_eq_true rfl) rfl rfl ?_
          exact t120 _ false ⟨fun z => (by cases z), fun z => absurd z.1 y⟩ rfl rfl rfl rfl rfl rfl rfl
