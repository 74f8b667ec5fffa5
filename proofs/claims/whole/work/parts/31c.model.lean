/-! The reference: record, set, undo, save, restore, wipe, fault, put -/
set_option maxRecDepth 100000 in
set_option maxHeartbeats 400000 in
theorem m_record (g : Gx) (G : GS) (h : Hp) (hX : MG G h) : AC g yX8_record wsX8_record rmX8_record [.ref 40] h (fun v h' => v = none ∧ MG (G.1, pushP G.2.1 G.1, G.2.2) h' ∧ Fr 40 59 h h' ∧ h'.1 41 = h.1 41 ∧ h'.1 47 = h.1 47 ∧ h'.1 40 9 = h.1 40 9) := by
  have c40 := isC_40
  have c41 := isC_41
  have c43 := isC_43
  generalize hZ : ZP g (fun v h' => v = none ∧ MG (G.1, pushP G.2.1 G.1, G.2.2) h' ∧ Fr 40 59 h h' ∧ h'.1 41 = h.1 41 ∧ h'.1 47 = h.1 47 ∧ h'.1 40 9 = h.1 40 9) = Z
  have z0 : Z.1 = 0 ∧ Z.2.1 = 0 := by rw [← hZ]; exact ⟨rfl, rfl⟩
  refine AC.of (cc := cX8_record) (maxL := 2) (ret := none) (by decide +kernel) rfl (Nat.le_of_ble_eq_true rfl) ?_
  show AW g mmX8_record _ 0 [(0, some (.ref 40))] [] _
  rw [hZ]
  have t50 : ∀ (past : List SV) (h1 : Hp) (l : Lo), past.length < 6 → past ++ [G.1] = pushP G.2.1 G.1 → MG (G.1, past, G.2.2) h1 → Fr 40 59 h h1 → (h1.1 41 = h.1 41 ∧ h1.1 47 = h.1 47 ∧ h1.1 40 9 = h.1 40 9) → lget l 0 = some (.ref 40) → AW g mmX8_record Z 50 l [] h1 := by
    intro past h1 l hp hpp X F e41 l0
    refine am_loc [(0, some (.ref 40))] (by simp only [List.map_cons, List.map_nil, l0]) ?_
    obtain ⟨xR, xV, ⟨x1, x2, x3⟩, xL, xD, xP⟩ := X
    refine am_aload_n (n := 51) (i := 0) dX8_record_50 rfl rfl rfl ?_
    refine gfX8_record_7 (n := 54) dX8_record_51 (by first | assumption | exact isC_of (by decide +kernel)) rfl ?_
    refine am_iconst (n := 55) (v := 0) dX8_record_54 rfl rfl ?_
    refine am_aload_n (n := 56) (i := 0) dX8_record_55 rfl rfl rfl ?_
    refine gfX8_record_16 (n := 59) dX8_record_56 (by first | assumption | exact isC_of (by decide +kernel)) rfl ?_
    refine am_sipush (n := 62) (v := 580) dX8_record_59 rfl rfl ?_
    refine am_aload_n (n := 63) (i := 0) dX8_record_62 rfl rfl rfl ?_
    refine gfX8_record_55 (n := 66) dX8_record_63 (by first | assumption | exact isC_of (by decide +kernel)) rfl ?_
    rw [show h1.1 40 3 = nI past.length from x1]
    refine am_imul (n := 67) dX8_record_66 rfl ?_
    rw [show (580 : Int32) * nI past.length = nI (580 * past.length) from nI_mul 580 _]
    refine cdX8_record_59 (n := 70) dX8_record_67 (by first | exact ⟨rfl, rfl⟩ | assumption) (m_copyState g 41 43 0 (580 * past.length) 580 3480 h1 c41 c43 (by decide) (by omega) (by omega) (by omega) (by omega)) rfl rfl (Nat.le_of_ble_eq_true rfl) rfl ?_
    refine am_aload_n (n := 71) (i := 0) dX8_record_70 rfl rfl rfl ?_
    refine am_dup (n := 72) dX8_record_71 rfl rfl ?_
    refine gfX8_record_55 (n := 75) dX8_record_72 (by first | assumption | exact isC_of (by decide +kernel)) rfl ?_
    rw [setI_n _ _ (show (40 : Nat) ≠ 43 by decide), show h1.1 40 3 = nI past.length from x1]
    refine am_iconst (n := 76) (v := 1) dX8_record_75 rfl rfl ?_
    refine am_iadd (n := 77) dX8_record_76 rfl ?_
    rw [nI_1]
    refine pfX8_record_55 (n := 80) dX8_record_77 (by first | assumption | exact isC_of (by decide +kernel)) rfl ?_
    rw [← hZ]
    refine am_vret dX8_record_80 rfl ?_
    refine ⟨rfl, ?_, (F.sI _ (by omega) (by omega)).sI _ (by omega) (by omega), ?_⟩
    · rw [← hpp]
      have fB : ∀ (r s : Nat → Int32) (c : Nat), c ≠ 40 → c ≠ 43 → (setI (setI h1 43 r) 40 s).1 c = h1.1 c := fun r s c w1 w2 => (setI_n _ _ w1).trans (setI_n _ _ w2)
      refine ⟨?_, xV, ⟨?_, ?_, fun j S hS => ?_⟩, ?_, ?_, xP⟩
      · rw [fB _ _ 41 (by omega) (by omega)]
        exact xR
      · rw [setI_s, pk_us, List.length_append]
        rfl
      · rw [List.length_append]
        show past.length + 1 ≤ 6
        omega
      · rw [setI_n _ _ (by omega), setI_s]
        by_cases z : j = past.length
        · subst z
          rw [List.getElem?_append_right (Nat.le_refl _), Nat.sub_self, List.getElem?_cons_zero] at hS
          rw [← Option.some.inj hS]
          refine ⟨xR.to xV (fun i hi => ?_), xV⟩
          unfold cpy
          rw [if_pos (by omega), show 580 * past.length + i - 580 * past.length = i by omega]
        · have hjl := (List.getElem?_eq_some_iff.mp hS).1
          rw [List.length_append] at hjl
          simp at hjl
          rw [List.getElem?_append_left (by omega)] at hS
          obtain ⟨y1, y2⟩ := x3 j S hS
          refine ⟨y1.to y2 (fun i hi => ?_), y2⟩
          unfold cpy
          rw [if_neg (by omega)]
      · unfold LZ
        rw [fB _ _ 44 (by omega) (by omega), fB _ _ 45 (by omega) (by omega)]
        exact xL
      · refine ⟨?_, fun i c hc => ?_⟩
        · rw [setI_s, pk_un (by omega)]
          exact xD.1
        · rw [fB _ _ 46 (by omega) (by omega)]
          exact xD.2 i c hc
    · rw [setI_n _ _ (by omega), setI_n _ _ (by omega), setI_n _ _ (by omega), setI_n _ _ (by omega), setI_s, pk_un (by omega), setI_n _ _ (by omega)]
      exact e41
  obtain ⟨x1, x2, x3⟩ := hX.2.2.1
  refine am_aload_n (n := 1) (i := 0) dX8_record_0 rfl rfl rfl ?_
  refine gfX8_record_55 (n := 4) dX8_record_1 (by first | assumption | exact isC_of (by decide +kernel)) rfl ?_
  refine am_bipush (n := 6) (v := 6) dX8_record_4 rfl rfl ?_
  rw [show (h.1 40 3) = nI G.2.1.length from x1]
  rcases Nat.lt_or_ge G.2.1.length 6 with hl | hl
  · refine am_icmp_ne (tgt := 50) (n := 9) dX8_record_6 (by decide) rfl (fun _ => ?_) (fun q_z => absurd q_z (fun q => by have := (nI_eq (b := 6) (by omega) (by omega)).mp q; omega))
    exact t50 G.2.1 h _ hl (by unfold pushP; rw [if_pos hl]) hX Fr.rf ⟨rfl, rfl, rfl⟩ rfl
  · have h6 : G.2.1.length = 6 := by omega
    refine am_icmp_ne (tgt := 50) (n := 9) dX8_record_6 (by decide) rfl (fun q_z => absurd (by rw [h6]; rfl) q_z) (fun _ => ?_)
    refine am_iconst (n := 10) (v := 0) dX8_record_9 rfl rfl ?_
    refine am_istore_n (n := 11) (i := 1) dX8_record_10 rfl (Nat.le_of_ble_eq_true rfl) rfl rfl ?_
    refine am_loc [(0, some (.ref 40)), (1, some (.int (nI 0)))] rfl ?_
    have e0 : h = setI h 43 (cpy (h.1 43) 580 (h.1 43) 0 0) := by
      rw [show cpy (h.1 43) 580 (h.1 43) 0 0 = h.1 43 from funext (fun j => if_neg (by omega)), setI_same]
    refine am_abs (fun h' => h' = setI h 43 (cpy (h.1 43) 580 (h.1 43) 0 0)) e0 ?_
    refine loop_up (Wp := fun k => ∀ hh : Hp, hh = setI h 43 (cpy (h.1 43) 580 (h.1 43) 0 k) → AW g mmX8_record Z 11 [(0, some (.ref 40)), (1, some (.int (nI k)))] [] hh) 2900 ?_ ?_ 0 (by omega)
    · intro hh eh
      refine am_iload_n (n := 12) (i := 1) dX8_record_11 rfl rfl rfl ?_
      refine am_sipush (n := 15) (v := 2900) dX8_record_12 rfl rfl ?_
      refine am_icmp_ge (tgt := 40) (n := 18) dX8_record_15 (by decide) rfl (fun _ => ?_) (fun q_z => absurd (by decide) q_z)
      refine am_aload_n (n := 41) (i := 0) dX8_record_40 rfl rfl rfl ?_
      refine am_dup (n := 42) dX8_record_41 rfl rfl ?_
      refine gfX8_record_55 (n := 45) dX8_record_42 (by first | assumption | exact isC_of (by decide +kernel)) rfl ?_
      rw [eh, setI_n _ _ (show (40 : Nat) ≠ 43 by decide), x1, h6]
      refine am_iconst (n := 46) (v := 1) dX8_record_45 rfl rfl ?_
      refine am_isub (n := 47) dX8_record_46 rfl ?_
      refine pfX8_record_55 (n := 50) dX8_record_47 (by first | assumption | exact isC_of (by decide +kernel)) rfl ?_
      refine t50 G.2.1.tail _ _ (by rw [List.length_tail]; omega) (by unfold pushP; rw [if_neg (by omega)]) ?_ ((Fr.rf.sI _ (by omega) (by omega)).sI _ (by omega) (by omega)) ⟨by rw [setI_n _ _ (by omega), setI_n _ _ (by omega)], by rw [setI_n _ _ (by omega), setI_n _ _ (by omega)], by rw [setI_s, pk_un (by omega), setI_n _ _ (by omega)]⟩ rfl
      obtain ⟨xR, xV, -, xL, xD, xP⟩ := hX
      refine ⟨?_, xV, ⟨?_, by rw [List.length_tail]; omega, fun j S hS => ?_⟩, ?_, ?_, xP⟩
      · rw [setI_n _ _ (by omega), setI_n _ _ (by omega)]
        exact xR
      · rw [setI_s, pk_us, List.length_tail, h6]
        rfl
      · rw [List.getElem?_tail] at hS
        have hjl := (List.getElem?_eq_some_iff.mp hS).1
        obtain ⟨y1, y2⟩ := x3 (j + 1) S hS
        refine ⟨y1.to y2 (fun i hi => ?_), y2⟩
        rw [setI_n _ _ (by omega), setI_s]
        unfold cpy
        rw [if_pos (by omega), show 580 + (580 * j + i - 0) = 580 * (j + 1) + i by omega]
      · unfold LZ
        rw [setI_n _ _ (by omega), setI_n _ _ (by omega), setI_n _ _ (by omega), setI_n _ _ (by omega)]
        exact xL
      · refine ⟨?_, fun i c hc => ?_⟩
        · rw [setI_s, pk_un (by omega)]
          exact xD.1
        · rw [setI_n _ _ (by omega), setI_n _ _ (by omega)]
          exact xD.2 i c hc
    · intro k hk K hh eh
      obtain ⟨m, hm⟩ : ∃ m, m = k + 580 := ⟨_, rfl⟩
      have b1 : vp_in (nI m) 3480 := vp_in_nI (by omega) (by decide)
      have b2 : vp_in (nI k) 3480 := vp_in_nI (by omega) (by decide)
      refine am_iload_n (n := 12) (i := 1) dX8_record_11 rfl rfl rfl ?_
      refine am_sipush (n := 15) (v := 2900) dX8_record_12 rfl rfl ?_
      refine am_icmp_ge (tgt := 40) (n := 18) dX8_record_15 (by decide) rfl (fun q_z => absurd q_z (nI_ge hk (by decide))) (fun _ => ?_)
      refine am_aload_n (n := 19) (i := 0) dX8_record_18 rfl rfl rfl ?_
      refine gfX8_record_16 (n := 22) dX8_record_19 (by first | assumption | exact isC_of (by decide +kernel)) rfl ?_
      refine am_iload_n (n := 23) (i := 1) dX8_record_22 rfl rfl rfl ?_
      refine am_aload_n (n := 24) (i := 0) dX8_record_23 rfl rfl rfl ?_
      refine gfX8_record_16 (n := 27) dX8_record_24 (by first | assumption | exact isC_of (by decide +kernel)) rfl ?_
      refine am_iload_n (n := 28) (i := 1) dX8_record_27 rfl rfl rfl ?_
      refine am_sipush (n := 31) (v := 580) dX8_record_28 rfl rfl ?_
      refine am_iadd (n := 32) dX8_record_31 rfl ?_
      rw [show nI k + (580 : Int32) = nI m by rw [hm]; exact nI_add k 580]
      refine am_iald (n := 33) dX8_record_32 (by first | assumption | exact isC_of (by decide +kernel)) (by first | assumption | exact vp_in_nI (by omega) (by omega) | exact vp_in_iff.mpr (by decide)) rfl ?_
      rw [nI_clamp (by omega)]
      refine am_iast (n := 34) dX8_record_33 (by first | assumption | exact isC_of (by decide +kernel)) (by first | assumption | exact vp_in_nI (by omega) (by omega) | exact vp_in_iff.mpr (by decide)) rfl ?_
      first | refine am_iincN (n := 37) dX8_record_34 rfl rfl rfl ?_ | refine am_iinc1 (n := 37) dX8_record_34 rfl rfl rfl ?_
      refine am_goto (tgt := 11) dX8_record_37 (by decide) ?_
      rw [nI_clamp (by omega)]
      refine am_loc _ rfl (K _ ?_)
      rw [eh, setI_I, setI_s]
      congr 1
      funext j
      unfold upd cpy
      by_cases q : j = k
      · rw [if_pos q, if_neg (show ¬ (0 ≤ m ∧ m < 0 + k) by omega), if_pos (show 0 ≤ j ∧ j < 0 + (k + 1) by omega), q, show 580 + (k - 0) = m by omega]
      · rw [if_neg q]
        by_cases q2 : 0 ≤ j ∧ j < 0 + k
        · rw [if_pos q2, if_pos (by omega)]
        · rw [if_neg q2, if_neg (by omega)]
theorem RZ.hd {S : SV} {r r' : Nat → Int32} (x : RZ 0 S r) (hV : VS S) {a b : Nat} (h0 : r' 0 = nI a) (h1 : r' 1 = nI b) (h2 : r' 2 = r 2) (h3 : r' 3 = r 3) (f : ∀ j, 4 ≤ j → j < 580 → r' j = r j) : RZ 0 (a, b, S.2.2) r' := by
  obtain ⟨x1, x2, x3, x4, x5, x6⟩ := x
  have h24 := hV.2.2.1
  have h4 := hV.2.2.2.2.1
  refine ⟨h0, h1, ?_, ?_, fun i w hi => ?_, fun e E he => ?_⟩
  · exact h2.trans x3
  · exact h3.trans x4
  · have hil := (List.getElem?_eq_some_iff.mp hi).1
    have hil : i < S.2.2.1.length := hil
    obtain ⟨y1, y2⟩ := x5 i w hi
    exact ⟨(f _ (by omega) (by omega)).trans y1, fun p hp => (f _ (by omega) (by omega)).trans (y2 p hp)⟩
  · have hel := (List.getElem?_eq_some_iff.mp he).1
    have hel : e < S.2.2.2.length := hel
    exact (x6 e E he).to (hV.2.2.2.2.2 E (List.mem_of_getElem? he)) (fun j hj => f _ (by omega) (by omega))
set_option maxRecDepth 100000 in
set_option maxHeartbeats 400000 in
theorem cm_set (g : Gx) (s v : Int32) (G : GS) (h : Hp) (hX : MG G h) : CM g yX8_set wsX8_set rmX8_set [.ref 40, .int s, .int v] h (sp_set s v G) := by
  have c40 := isC_40
  have c41 := isC_41
  unfold CM sp_set
  refine AC.of (cc := cX8_set) (maxL := 4) (ret := (some .int)) (by decide +kernel) rfl (Nat.le_of_ble_eq_true rfl) ?_
  show AW g mmX8_set _ 0 [(0, some (.ref 40)), (1, some (.int s)), (2, some (.int v))] [] _
  have fail : ∀ l : Lo, AW g mmX8_set (ZP g (fun v h' => v = some (.int (-2)) ∧ MG G h' ∧ Fr 40 59 h h')) 27 l [] h := by
    intro l
    refine am_bipush (n := 29) (v := (-2)) dX8_set_27 rfl rfl ?_
    refine am_iret dX8_set_29 rfl rfl ?_
    exact ⟨rfl, hX, Fr.rf⟩
  refine am_iload_n (n := 1) (i := 1) dX8_set_0 rfl rfl rfl ?_
  refine am_iconst (n := 2) (v := 0) dX8_set_1 rfl rfl ?_
  refine am_iconst (n := 3) (v := 1) dX8_set_2 rfl rfl ?_
  refine cdX8_set_51 (n := 6) dX8_set_3 (by first | exact ⟨rfl, rfl⟩ | assumption) (m_in g s 0 1 h) rfl rfl (Nat.le_of_ble_eq_true rfl) rfl ?_
  by_cases h0 : s = 0
  · subst h0
    refine am_if_eq (tgt := 27) (n := 9) dX8_set_6 (by decide) rfl (fun q_z => absurd q_z (by decide)) (fun _ => ?_)
    refine am_iload_n (n := 10) (i := 2) dX8_set_9 rfl rfl rfl ?_
    refine am_iconst (n := 11) (v := 1) dX8_set_10 rfl rfl ?_
    refine am_iload_n (n := 12) (i := 1) dX8_set_11 rfl rfl rfl ?_
    refine am_if_ne (tgt := 19) (n := 15) dX8_set_12 (by decide) rfl (fun q_z => absurd rfl q_z) (fun _ => ?_)
    refine am_iconst (n := 16) (v := 5) dX8_set_15 rfl rfl ?_
    refine am_goto (tgt := 21) dX8_set_16 (by decide) ?_
    refine cdX8_set_51 (n := 24) dX8_set_21 (by first | exact ⟨rfl, rfl⟩ | assumption) (m_in g v 1 5 h) rfl rfl (Nat.le_of_ble_eq_true rfl) rfl ?_
    cases hr : inR v 1 5 with
    | true =>
      rw [show (decide (1 ≤ v) && decide (v ≤ 5)) = true from hr, if_pos ⟨rfl, rfl⟩]
      obtain ⟨n, n1, n5, rfl⟩ := inR_t (by decide) (by decide) hr
      refine am_if_ne (tgt := 30) (n := 27) dX8_set_24 (by decide) rfl (fun _ => ?_) (fun q_z => absurd q_z (by decide))
      refine am_aload_n (n := 31) (i := 0) dX8_set_30 rfl rfl rfl ?_
      refine caX8_set_63 (n := 34) dX8_set_31 (by first | exact ⟨rfl, rfl⟩ | assumption) (m_record g G h hX) rfl rfl (Nat.le_of_ble_eq_true rfl) (by first | assumption | exact isC_of (by decide +kernel)) rfl ?_
      rintro r h1 ⟨rfl, X1, F1, -⟩
      refine am_aload_n (n := 35) (i := 0) dX8_set_34 rfl rfl rfl ?_
      refine gfX8_set_7 (n := 38) dX8_set_35 (by first | assumption | exact isC_of (by decide +kernel)) rfl ?_
      refine am_iload_n (n := 39) (i := 1) dX8_set_38 rfl rfl rfl ?_
      refine am_iald (n := 40) dX8_set_39 (by first | assumption | exact isC_of (by decide +kernel)) (by first | assumption | exact vp_in_nI (by omega) (by omega) | exact vp_in_iff.mpr (by decide)) rfl ?_
      rw [show (0 : Int32).toNatClampNeg = 0 from rfl, show h1.1 41 0 = nI G.1.1 from X1.1.1]
      refine am_istore_n (n := 41) (i := 3) dX8_set_40 rfl (Nat.le_of_ble_eq_true rfl) rfl rfl ?_
      refine am_aload_n (n := 42) (i := 0) dX8_set_41 rfl rfl rfl ?_
      refine gfX8_set_7 (n := 45) dX8_set_42 (by first | assumption | exact isC_of (by decide +kernel)) rfl ?_
      refine am_iload_n (n := 46) (i := 1) dX8_set_45 rfl rfl rfl ?_
      refine am_iload_n (n := 47) (i := 2) dX8_set_46 rfl rfl rfl ?_
      refine am_iast (n := 48) dX8_set_47 (by first | assumption | exact isC_of (by decide +kernel)) (by first | assumption | exact vp_in_nI (by omega) (by omega) | exact vp_in_iff.mpr (by decide)) rfl ?_
      refine am_iload_n (n := 49) (i := 3) dX8_set_48 rfl rfl rfl ?_
      refine am_iret dX8_set_49 rfl rfl ⟨rfl, ?_, F1.sI _ (by omega) (by omega)⟩
      rw [tn_nI (by omega), show (0 : Int32).toNatClampNeg = 0 from rfl]
      refine X1.now (S := (n, G.1.2)) ?_ ⟨⟨n1, n5⟩, X1.2.1.2⟩ (by rw [setI_n _ _ (by omega)]) (by rw [setI_n _ _ (by omega)]) (fun c w1 w2 => setI_n _ _ (by omega))
      rw [setI_s]
      exact X1.1.hd X1.2.1 pk_us ((pk_un (by omega)).trans X1.1.2.1) (pk_un (by omega)) (pk_un (by omega)) (fun j w1 w2 => pk_un (by omega))
    | false =>
      rw [show (decide (1 ≤ v) && decide (v ≤ 5)) = false from hr, if_neg (fun q => by cases q.2), if_neg (fun q => absurd q.1 (by decide))]
      refine am_if_ne (tgt := 30) (n := 27) dX8_set_24 (by decide) rfl (fun q_z => absurd rfl q_z) (fun _ => ?_)
      exact fail _
  · rw [if_neg (fun q => h0 q.1)]
    by_cases h1 : s = 1
    · subst h1
      refine am_if_eq (tgt := 27) (n := 9) dX8_set_6 (by decide) rfl (fun q_z => absurd q_z (by decide)) (fun _ => ?_)
      refine am_iload_n (n := 10) (i := 2) dX8_set_9 rfl rfl rfl ?_
      refine am_iconst (n := 11) (v := 1) dX8_set_10 rfl rfl ?_
      refine am_iload_n (n := 12) (i := 1) dX8_set_11 rfl rfl rfl ?_
      refine am_if_ne (tgt := 19) (n := 15) dX8_set_12 (by decide) rfl (fun _ => ?_) (fun q_z => absurd q_z (by decide))
      refine am_bipush (n := 21) (v := 24) dX8_set_19 rfl rfl ?_
      refine cdX8_set_51 (n := 24) dX8_set_21 (by first | exact ⟨rfl, rfl⟩ | assumption) (m_in g v 1 24 h) rfl rfl (Nat.le_of_ble_eq_true rfl) rfl ?_
      cases hr : inR v 1 24 with
      | true =>
        rw [show (decide (1 ≤ v) && decide (v ≤ 24)) = true from hr, if_pos ⟨rfl, rfl⟩]
        obtain ⟨n, n1, n5, rfl⟩ := inR_t (by decide) (by decide) hr
        refine am_if_ne (tgt := 30) (n := 27) dX8_set_24 (by decide) rfl (fun _ => ?_) (fun q_z => absurd q_z (by decide))
        refine am_aload_n (n := 31) (i := 0) dX8_set_30 rfl rfl rfl ?_
        refine caX8_set_63 (n := 34) dX8_set_31 (by first | exact ⟨rfl, rfl⟩ | assumption) (m_record g G h hX) rfl rfl (Nat.le_of_ble_eq_true rfl) (by first | assumption | exact isC_of (by decide +kernel)) rfl ?_
        rintro r h1 ⟨rfl, X1, F1, -⟩
        refine am_aload_n (n := 35) (i := 0) dX8_set_34 rfl rfl rfl ?_
        refine gfX8_set_7 (n := 38) dX8_set_35 (by first | assumption | exact isC_of (by decide +kernel)) rfl ?_
        refine am_iload_n (n := 39) (i := 1) dX8_set_38 rfl rfl rfl ?_
        refine am_iald (n := 40) dX8_set_39 (by first | assumption | exact isC_of (by decide +kernel)) (by first | assumption | exact vp_in_nI (by omega) (by omega) | exact vp_in_iff.mpr (by decide)) rfl ?_
        rw [show (1 : Int32).toNatClampNeg = 1 from rfl, show h1.1 41 1 = nI G.1.2.1 from X1.1.2.1]
        refine am_istore_n (n := 41) (i := 3) dX8_set_40 rfl (Nat.le_of_ble_eq_true rfl) rfl rfl ?_
        refine am_aload_n (n := 42) (i := 0) dX8_set_41 rfl rfl rfl ?_
        refine gfX8_set_7 (n := 45) dX8_set_42 (by first | assumption | exact isC_of (by decide +kernel)) rfl ?_
        refine am_iload_n (n := 46) (i := 1) dX8_set_45 rfl rfl rfl ?_
        refine am_iload_n (n := 47) (i := 2) dX8_set_46 rfl rfl rfl ?_
        refine am_iast (n := 48) dX8_set_47 (by first | assumption | exact isC_of (by decide +kernel)) (by first | assumption | exact vp_in_nI (by omega) (by omega) | exact vp_in_iff.mpr (by decide)) rfl ?_
        refine am_iload_n (n := 49) (i := 3) dX8_set_48 rfl rfl rfl ?_
        refine am_iret dX8_set_49 rfl rfl ⟨rfl, ?_, F1.sI _ (by omega) (by omega)⟩
        rw [tn_nI (by omega), show (1 : Int32).toNatClampNeg = 1 from rfl]
        refine X1.now (S := (G.1.1, n, G.1.2.2)) ?_ ⟨X1.2.1.1, ⟨n1, n5⟩, X1.2.1.2.2⟩ (by rw [setI_n _ _ (by omega)]) (by rw [setI_n _ _ (by omega)]) (fun c w1 w2 => setI_n _ _ (by omega))
        rw [setI_s]
        exact X1.1.hd X1.2.1 ((pk_un (by omega)).trans X1.1.1) pk_us (pk_un (by omega)) (pk_un (by omega)) (fun j w1 w2 => pk_un (by omega))
      | false =>
        rw [show (decide (1 ≤ v) && decide (v ≤ 24)) = false from hr, if_neg (fun q => by cases q.2)]
        refine am_if_ne (tgt := 30) (n := 27) dX8_set_24 (by decide) rfl (fun q_z => absurd rfl q_z) (fun _ => ?_)
        exact fail _
    · rw [if_neg (fun q => h1 q.1), show (decide (0 ≤ s) && decide (s ≤ 1)) = false from sw_f (n := 1) (by decide) (fun i hi => by rcases i with _ | _ | i; exact h0; exact h1; omega)]
      refine am_if_eq (tgt := 27) (n := 9) dX8_set_6 (by decide) rfl (fun _ => ?_) (fun q_z => absurd rfl q_z)
      exact fail _
set_option maxRecDepth 100000 in
set_option maxHeartbeats 400000 in
theorem cm_undo (g : Gx) (G : GS) (h : Hp) (hX : MG G h) : CM g yX8_undo wsX8_undo rmX8_undo [.ref 40] h (sp_undo G) := by
  have c40 := isC_40
  have c41 := isC_41
  have c43 := isC_43
  obtain ⟨xR, xV, ⟨x1, x2, x3⟩, xL, xD, xP⟩ := hX
  unfold CM
  refine AC.of (cc := cX8_undo) (maxL := 1) (ret := (some .int)) (by decide +kernel) rfl (Nat.le_of_ble_eq_true rfl) ?_
  show AW g mmX8_undo _ 0 [(0, some (.ref 40))] [] _
  refine am_aload_n (n := 1) (i := 0) dX8_undo_0 rfl rfl rfl ?_
  refine gfX8_undo_55 (n := 4) dX8_undo_1 (by first | assumption | exact isC_of (by decide +kernel)) rfl ?_
  rw [x1]
  rcases List.eq_nil_or_concat G.2.1 with hm | ⟨ps, S, hm⟩
  · have hs : sp_undo G = (-5, G) := by unfold sp_undo; rw [hm]; rfl
    rw [hs]
    refine am_if_ne (tgt := 10) (n := 7) dX8_undo_4 (by decide) rfl (fun q_z => absurd (by rw [hm]; rfl) q_z) (fun _ => ?_)
    refine am_bipush (n := 9) (v := (-5)) dX8_undo_7 rfl rfl ?_
    refine am_iret dX8_undo_9 rfl rfl ?_
    exact ⟨rfl, ⟨xR, xV, ⟨x1, x2, x3⟩, xL, xD, xP⟩, Fr.rf⟩
  · rw [List.concat_eq_append] at hm
    have hlen : G.2.1.length = ps.length + 1 := by rw [hm, List.length_append]; rfl
    have hs : sp_undo G = (nI ps.length, (S, ps, G.2.2)) := by
      unfold sp_undo
      rw [show G.2.1.getLast? = some S by rw [hm]; simp, show G.2.1.dropLast = ps by rw [hm]; simp, hlen]
      rfl
    rw [hs, hlen]
    refine am_if_ne (tgt := 10) (n := 7) dX8_undo_4 (by decide) rfl (fun _ => ?_) (fun q_z => absurd q_z (fun q => by have := (nI_eq (b := 0) (by omega) (by omega)).mp q; omega))
    refine am_aload_n (n := 11) (i := 0) dX8_undo_10 rfl rfl rfl ?_
    refine am_dup (n := 12) dX8_undo_11 rfl rfl ?_
    refine gfX8_undo_55 (n := 15) dX8_undo_12 (by first | assumption | exact isC_of (by decide +kernel)) rfl ?_
    rw [x1, hlen]
    refine am_iconst (n := 16) (v := 1) dX8_undo_15 rfl rfl ?_
    refine am_isub (n := 17) dX8_undo_16 rfl ?_
    rw [nI_pred]
    refine pfX8_undo_55 (n := 20) dX8_undo_17 (by first | assumption | exact isC_of (by decide +kernel)) rfl ?_
    refine am_aload_n (n := 21) (i := 0) dX8_undo_20 rfl rfl rfl ?_
    refine gfX8_undo_16 (n := 24) dX8_undo_21 (by first | assumption | exact isC_of (by decide +kernel)) rfl ?_
    refine am_sipush (n := 27) (v := 580) dX8_undo_24 rfl rfl ?_
    refine am_aload_n (n := 28) (i := 0) dX8_undo_27 rfl rfl rfl ?_
    refine gfX8_undo_55 (n := 31) dX8_undo_28 (by first | assumption | exact isC_of (by decide +kernel)) rfl ?_
    simp (disch := omega) only [setI_s, pk_us]
    refine am_imul (n := 32) dX8_undo_31 rfl ?_
    rw [show (580 : Int32) * nI ps.length = nI (580 * ps.length) from nI_mul 580 _]
    refine am_aload_n (n := 33) (i := 0) dX8_undo_32 rfl rfl rfl ?_
    refine gfX8_undo_7 (n := 36) dX8_undo_33 (by first | assumption | exact isC_of (by decide +kernel)) rfl ?_
    refine am_iconst (n := 37) (v := 0) dX8_undo_36 rfl rfl ?_
    have hS : G.2.1[ps.length]? = some S := by rw [hm]; simp
    obtain ⟨y1, y2⟩ := x3 ps.length S hS
    refine cdX8_undo_59 (n := 40) dX8_undo_37 (by first | exact ⟨rfl, rfl⟩ | assumption) (m_copyState g 43 41 (580 * ps.length) 0 3480 580 _ c43 c41 (by decide) (by omega) (by omega) (by omega) (by omega)) rfl rfl (Nat.le_of_ble_eq_true rfl) rfl ?_
    refine am_aload_n (n := 41) (i := 0) dX8_undo_40 rfl rfl rfl ?_
    refine gfX8_undo_55 (n := 44) dX8_undo_41 (by first | assumption | exact isC_of (by decide +kernel)) rfl ?_
    rw [setI_n _ _ (show (40 : Nat) ≠ 41 by decide), setI_s, pk_us]
    refine am_iret dX8_undo_44 rfl rfl ?_
    refine ⟨rfl, ⟨?_, y2, ⟨?_, by show ps.length ≤ 6; omega, fun j T hT => ?_⟩, ?_, ?_, xP⟩, (Fr.rf.sI _ (by omega) (by omega)).sI _ (by omega) (by omega)⟩
    · rw [setI_s]
      refine y1.to y2 (fun i hi => ?_)
      unfold cpy
      rw [if_pos (by omega), setI_n _ _ (by omega), show 580 * ps.length + (0 + i - 0) = 580 * ps.length + i by omega]
    · rw [setI_n _ _ (by omega), setI_s, pk_us]
    · have hj := (List.getElem?_eq_some_iff.mp hT).1
      have hT2 : G.2.1[j]? = some T := by rw [hm, List.getElem?_append_left hj]; exact hT
      rw [setI_n _ _ (by omega), setI_n _ _ (by omega)]
      exact x3 j T hT2
    · unfold LZ
      rw [setI_n _ _ (by omega), setI_n _ _ (by omega), setI_n _ _ (by omega), setI_n _ _ (by omega)]
      exact xL
    · refine ⟨?_, fun i c hc => ?_⟩
      · rw [setI_n _ _ (by omega), setI_s, pk_un (by omega)]
        exact xD.1
      · rw [setI_n _ _ (by omega), setI_n _ _ (by omega)]
        exact xD.2 i c hc
