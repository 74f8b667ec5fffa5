/-! The reference: drop, distance, name -/
theorem RZ.dropn {S : SV} {i : Nat} {r r' : Nat → Int32} (x : RZ 0 S r) (hV : VS S) (hi : i < S.2.2.1.length) (f : ∀ j, j ≠ 2 → (j < 4 + 11 * i ∨ 4 + 11 * (S.2.2.1.length - 1) ≤ j) → r' j = r j) (h2 : r' 2 = nI (S.2.2.1.length - 1)) (hm : ∀ j, 4 + 11 * i ≤ j → j < 4 + 11 * (S.2.2.1.length - 1) → r' j = r (j + 11)) : RZ 0 (S.1, S.2.1, S.2.2.1.eraseIdx i, S.2.2.2) r' := by
  obtain ⟨x1, x2, x3, x4, x5, x6⟩ := x
  have h24 := hV.2.2.1
  have h4 := hV.2.2.2.2.1
  have hl : (S.2.2.1.eraseIdx i).length = S.2.2.1.length - 1 := List.length_eraseIdx_of_lt hi
  refine ⟨(f 0 (by omega) (by omega)).trans x1, (f 1 (by omega) (by omega)).trans x2, ?_, (f 3 (by omega) (by omega)).trans x4, fun j u hj => ?_, fun e E he => ?_⟩
  · show r' 2 = nI (S.2.2.1.eraseIdx i).length
    rw [h2, hl]
  · have hj : (S.2.2.1.eraseIdx i)[j]? = some u := hj
    have hjl := (List.getElem?_eq_some_iff.mp hj).1
    rw [hl] at hjl
    rw [Nat.zero_add]
    by_cases z : j < i
    · rw [List.getElem?_eraseIdx_of_lt z] at hj
      obtain ⟨y1, y2⟩ := x5 j u hj
      rw [Nat.zero_add] at y1 y2
      exact ⟨(f _ (by omega) (by omega)).trans y1, fun p hp => (f _ (by omega) (by omega)).trans (y2 p hp)⟩
    · rw [List.getElem?_eraseIdx_of_ge (Nat.not_lt.mp z)] at hj
      obtain ⟨y1, y2⟩ := x5 (j + 1) u hj
      rw [Nat.zero_add] at y1 y2
      refine ⟨(hm _ (by omega) (by omega)).trans ?_, fun p hp => (hm _ (by omega) (by omega)).trans ?_⟩
      · rw [← y1]
        congr 1
      · rw [← y2 p hp, show 4 + 11 * j + 1 + p + 11 = 4 + 11 * (j + 1) + 1 + p by omega]
  · have hel := (List.getElem?_eq_some_iff.mp he).1
    have hel : e < S.2.2.2.length := hel
    exact (x6 e E he).to (hV.2.2.2.2.2 E (List.mem_of_getElem? he)) (fun j hj => f _ (by omega) (by omega))
set_option maxRecDepth 100000 in
set_option maxHeartbeats 400000 in
theorem cm_drop (g : Gx) (x : Int32) (G : GS) (h : Hp) (hX : MG G h) : CM g yX8_drop wsX8_drop rmX8_drop [.ref 40, .int x] h (sp_drop x G) := by
  have c40 := isC_40
  have c41 := isC_41
  have hn := hX.2.1.2.2.1
  unfold CM sp_drop
  refine AC.of (cc := cX8_drop) (maxL := 3) (ret := (some .int)) (by decide +kernel) rfl (Nat.le_of_ble_eq_true rfl) ?_
  show AW g mmX8_drop _ 0 [(0, some (.ref 40)), (1, some (.int x))] [] _
  refine am_aload_n (n := 1) (i := 0) dX8_drop_0 rfl rfl rfl ?_
  refine am_iload_n (n := 2) (i := 1) dX8_drop_1 rfl rfl rfl ?_
  refine cdX8_drop_93 (n := 5) dX8_drop_2 (by first | exact ⟨rfl, rfl⟩ | assumption) (m_isName g x G.1.2.2.1.length h (by omega) hX.1.2.2.1) rfl rfl (Nat.le_of_ble_eq_true rfl) (by first | assumption | exact isC_of (by decide +kernel)) rfl ?_
  cases hx : inN x G.1.2.2.1.length with
  | false =>
    rw [if_neg (by decide)]
    refine am_if_ne (tgt := 10) (n := 8) dX8_drop_5 (by decide) rfl (fun q_z => absurd rfl q_z) (fun _ => ?_)
    refine am_iconst (n := 9) (v := (-1)) dX8_drop_8 rfl rfl ?_
    refine am_iret dX8_drop_9 rfl rfl ?_
    exact ⟨rfl, hX, Fr.rf⟩
  | true =>
    rw [if_pos rfl]
    obtain ⟨i, hi, rfl⟩ := inN_t (by omega) hx
    rw [tn_nI (by omega)]
    generalize hZ : ZP g (fun v h' => v = some (.int (nI (G.1.2.2.1.length - 1), recG G (G.1.1, G.1.2.1, G.1.2.2.1.eraseIdx i, G.1.2.2.2)).1) ∧ MG (nI (G.1.2.2.1.length - 1), recG G (G.1.1, G.1.2.1, G.1.2.2.1.eraseIdx i, G.1.2.2.2)).2 h' ∧ Fr 40 59 h h') = Z
    have z0 : Z.1 = 0 ∧ Z.2.1 = 0 := by rw [← hZ]; exact ⟨rfl, rfl⟩
    refine am_if_ne (tgt := 10) (n := 8) dX8_drop_5 (by decide) rfl (fun _ => ?_) (fun q_z => absurd q_z (show ¬ (1 : Int32) = 0 by decide))
    refine am_aload_n (n := 11) (i := 0) dX8_drop_10 rfl rfl rfl ?_
    refine caX8_drop_63 (n := 14) dX8_drop_11 (by first | exact ⟨rfl, rfl⟩ | assumption) (m_record g G h hX) rfl rfl (Nat.le_of_ble_eq_true rfl) (by first | assumption | exact isC_of (by decide +kernel)) rfl ?_
    rintro r h1 ⟨rfl, X1, F1, -, -, -⟩
    have hl0 : (G.1.2.2.1.eraseIdx i).length = G.1.2.2.1.length - 1 := List.length_eraseIdx_of_lt hi
    have hVS : VS (G.1.1, G.1.2.1, G.1.2.2.1.eraseIdx i, G.1.2.2.2) := ⟨X1.2.1.1, X1.2.1.2.1, by show (G.1.2.2.1.eraseIdx i).length ≤ 24; omega, fun w hw => X1.2.1.2.2.2.1 w (List.mem_of_mem_eraseIdx hw), X1.2.1.2.2.2.2⟩
    have hdrop := fun r' => X1.1.dropn (i := i) (r' := r') X1.2.1 hi
    have r12 : h1.1 41 2 = nI G.1.2.2.1.length := X1.1.2.2.1
    obtain ⟨len, hlen⟩ : ∃ len, G.1.2.2.1.length = len + 1 := ⟨G.1.2.2.1.length - 1, by omega⟩
    rw [hlen] at hn hi r12
    have hdrop : ∀ r', _ := fun r' => hdrop r'
    refine am_aload_n (n := 15) (i := 0) dX8_drop_14 rfl rfl rfl ?_
    refine gfX8_drop_7 (n := 18) dX8_drop_15 (by first | assumption | exact isC_of (by decide +kernel)) rfl ?_
    refine am_iconst (n := 19) (v := 2) dX8_drop_18 rfl rfl ?_
    refine am_dup2 (n := 20) dX8_drop_19 rfl rfl rfl ?_
    refine am_iald (n := 21) dX8_drop_20 (by first | assumption | exact isC_of (by decide +kernel)) (by first | assumption | exact vp_in_nI (by omega) (by omega) | exact vp_in_iff.mpr (by decide)) rfl ?_
    rw [show (2 : Int32).toNatClampNeg = 2 from rfl, r12]
    refine am_iconst (n := 22) (v := 1) dX8_drop_21 rfl rfl ?_
    refine am_isub (n := 23) dX8_drop_22 rfl ?_
    rw [nI_pred]
    refine am_iast (n := 24) dX8_drop_23 (by first | assumption | exact isC_of (by decide +kernel)) (by first | assumption | exact vp_in_nI (by omega) (by omega) | exact vp_in_iff.mpr (by decide)) rfl ?_
    refine am_iconst (n := 25) (v := 4) dX8_drop_24 rfl rfl ?_
    refine am_bipush (n := 27) (v := 11) dX8_drop_25 rfl rfl ?_
    refine am_iload_n (n := 28) (i := 1) dX8_drop_27 rfl rfl rfl ?_
    refine am_imul (n := 29) dX8_drop_28 rfl ?_
    refine am_iadd (n := 30) dX8_drop_29 rfl ?_
    rw [show (2 : Int32).toNatClampNeg = 2 from rfl, ix_name]
    refine am_istore_n (n := 31) (i := 2) dX8_drop_30 rfl (Nat.le_of_ble_eq_true rfl) rfl rfl ?_
    refine am_loc [(0, some (.ref 40)), (1, some (.int (nI i))), (2, some (.int (nI (4 + 11 * i + 0))))] rfl ?_
    refine loop_up (Wp := fun k => ∀ hh : Hp, (∀ c, c ≠ 41 → hh.1 c = h1.1 c) → hh.2 = h1.2 → hh.1 41 2 = nI len → (∀ j, j < k → hh.1 41 (4 + 11 * i + j) = h1.1 41 (4 + 11 * i + j + 11)) → (∀ j, j ≠ 2 → (j < 4 + 11 * i ∨ 4 + 11 * i + k ≤ j) → hh.1 41 j = h1.1 41 j) → AW g mmX8_drop Z 31 [(0, some (.ref 40)), (1, some (.int (nI i))), (2, some (.int (nI (4 + 11 * i + k))))] [] hh) (11 * (len - i)) ?_ ?_ 0 (Nat.zero_le _) _ (fun c hc => setI_n _ _ hc) rfl (by rw [setI_s, pk_us]) (fun j hj => by omega) (fun j j2 hj => by rw [setI_s, pk_un (by omega)])
    · intro hh e1 e2 e3 e4 e5
      refine am_iload_n (n := 32) (i := 2) dX8_drop_31 rfl rfl rfl ?_
      refine am_iconst (n := 33) (v := 4) dX8_drop_32 rfl rfl ?_
      refine am_bipush (n := 35) (v := 11) dX8_drop_33 rfl rfl ?_
      refine am_aload_n (n := 36) (i := 0) dX8_drop_35 rfl rfl rfl ?_
      refine gfX8_drop_7 (n := 39) dX8_drop_36 (by first | assumption | exact isC_of (by decide +kernel)) rfl ?_
      refine am_iconst (n := 40) (v := 2) dX8_drop_39 rfl rfl ?_
      refine am_iald (n := 41) dX8_drop_40 (by first | assumption | exact isC_of (by decide +kernel)) (by first | assumption | exact vp_in_nI (by omega) (by omega) | exact vp_in_iff.mpr (by decide)) rfl ?_
      rw [show (2 : Int32).toNatClampNeg = 2 from rfl, e3]
      refine am_imul (n := 42) dX8_drop_41 rfl ?_
      refine am_iadd (n := 43) dX8_drop_42 rfl ?_
      rw [ix_name]
      refine am_icmp_ge (tgt := 67) (n := 46) dX8_drop_43 (by decide) rfl (fun _ => ?_) (fun q_z => absurd (nI_le (show 4 + 11 * len ≤ 4 + 11 * i + 11 * (len - i) by omega) (by omega)) q_z)
      refine am_aload_n (n := 68) (i := 0) dX8_drop_67 rfl rfl rfl ?_
      refine gfX8_drop_7 (n := 71) dX8_drop_68 (by first | assumption | exact isC_of (by decide +kernel)) rfl ?_
      refine am_iconst (n := 72) (v := 2) dX8_drop_71 rfl rfl ?_
      refine am_iald (n := 73) dX8_drop_72 (by first | assumption | exact isC_of (by decide +kernel)) (by first | assumption | exact vp_in_nI (by omega) (by omega) | exact vp_in_iff.mpr (by decide)) rfl ?_
      rw [show (2 : Int32).toNatClampNeg = 2 from rfl, e3, ← hZ, hlen]
      refine am_iret dX8_drop_73 rfl rfl ?_
      have FT : Fr 40 59 h1 hh := ⟨fun c hc => ⟨e1 c (by omega), by rw [e2]⟩, by rw [e2]⟩
      refine ⟨rfl, X1.now (hdrop (hh.1 41) (fun j j2 hj => ?_) ?_ (fun j j1 j2 => ?_)) hVS (by rw [e1 40 (by omega)]) (by rw [e1 40 (by omega)]) (fun c w1 w2 => e1 c (by omega)), F1.tr FT⟩
      · have hj : j < 4 + 11 * i ∨ 4 + 11 * (G.1.2.2.1.length - 1) ≤ j := hj
        rw [hlen] at hj
        exact e5 j j2 (by omega)
      · show hh.1 41 2 = nI (G.1.2.2.1.length - 1)
        rw [hlen]
        exact e3
      · have j2 : j < 4 + 11 * (G.1.2.2.1.length - 1) := j2
        rw [hlen] at j2
        have := e4 (j - (4 + 11 * i)) (by omega)
        rw [show 4 + 11 * i + (j - (4 + 11 * i)) = j by omega] at this
        exact this
    · intro k hk K hh e1 e2 e3 e4 e5
      obtain ⟨m, hm⟩ : ∃ m, m = 4 + 11 * i + k := ⟨_, rfl⟩
      obtain ⟨m2, hm2⟩ : ∃ m2, m2 = m + 11 := ⟨_, rfl⟩
      rw [← hm] at e5 ⊢
      have b1 : vp_in (nI m2) 580 := vp_in_nI (by omega) (by decide)
      have b2 : vp_in (nI m) 580 := vp_in_nI (by omega) (by decide)
      refine am_iload_n (n := 32) (i := 2) dX8_drop_31 rfl rfl rfl ?_
      refine am_iconst (n := 33) (v := 4) dX8_drop_32 rfl rfl ?_
      refine am_bipush (n := 35) (v := 11) dX8_drop_33 rfl rfl ?_
      refine am_aload_n (n := 36) (i := 0) dX8_drop_35 rfl rfl rfl ?_
      refine gfX8_drop_7 (n := 39) dX8_drop_36 (by first | assumption | exact isC_of (by decide +kernel)) rfl ?_
      refine am_iconst (n := 40) (v := 2) dX8_drop_39 rfl rfl ?_
      refine am_iald (n := 41) dX8_drop_40 (by first | assumption | exact isC_of (by decide +kernel)) (by first | assumption | exact vp_in_nI (by omega) (by omega) | exact vp_in_iff.mpr (by decide)) rfl ?_
      rw [show (2 : Int32).toNatClampNeg = 2 from rfl, e3]
      refine am_imul (n := 42) dX8_drop_41 rfl ?_
      refine am_iadd (n := 43) dX8_drop_42 rfl ?_
      rw [ix_name]
      refine am_icmp_ge (tgt := 67) (n := 46) dX8_drop_43 (by decide) rfl (fun q_z => absurd q_z (nI_ge (show m < 4 + 11 * len by omega) (by omega))) (fun _ => ?_)
      refine am_aload_n (n := 47) (i := 0) dX8_drop_46 rfl rfl rfl ?_
      refine gfX8_drop_7 (n := 50) dX8_drop_47 (by first | assumption | exact isC_of (by decide +kernel)) rfl ?_
      refine am_iload_n (n := 51) (i := 2) dX8_drop_50 rfl rfl rfl ?_
      refine am_aload_n (n := 52) (i := 0) dX8_drop_51 rfl rfl rfl ?_
      refine gfX8_drop_7 (n := 55) dX8_drop_52 (by first | assumption | exact isC_of (by decide +kernel)) rfl ?_
      refine am_iload_n (n := 56) (i := 2) dX8_drop_55 rfl rfl rfl ?_
      refine am_bipush (n := 58) (v := 11) dX8_drop_56 rfl rfl ?_
      refine am_iadd (n := 59) dX8_drop_58 rfl ?_
      rw [show nI m + (11 : Int32) = nI m2 by rw [hm2]; exact nI_add m 11]
      refine am_iald (n := 60) dX8_drop_59 (by first | assumption | exact isC_of (by decide +kernel)) (by first | assumption | exact vp_in_nI (by omega) (by omega) | exact vp_in_iff.mpr (by decide)) rfl ?_
      rw [nI_clamp (by omega), e5 m2 (by omega) (by omega)]
      refine am_iast (n := 61) dX8_drop_60 (by first | assumption | exact isC_of (by decide +kernel)) (by first | assumption | exact vp_in_nI (by omega) (by omega) | exact vp_in_iff.mpr (by decide)) rfl ?_
      first | refine am_iincN (n := 64) dX8_drop_61 rfl rfl rfl ?_ | refine am_iinc1 (n := 64) dX8_drop_61 rfl rfl rfl ?_
      refine am_goto (tgt := 31) dX8_drop_64 (by decide) ?_
      rw [nI_clamp (by omega), show m + 1 = 4 + 11 * i + (k + 1) by omega]
      refine am_loc _ rfl (K _ (fun c hc => (setI_n _ _ hc).trans (e1 c hc)) e2 ?_ (fun j hj => ?_) (fun j j2 hj => ?_))
      · rw [setI_s, pk_un (by omega)]
        exact e3
      · rw [setI_s]
        by_cases z : j = k
        · rw [z, ← hm, pk_us, hm2]
        · rw [pk_un (by omega)]
          exact e4 j (by omega)
      · rw [setI_s, pk_un (by omega)]
        exact e5 j j2 (by omega)
theorem lst_nI {x y : Nat} (hx : x < 2 ^ 31) (hy : y < 2 ^ 31) : (if nI x < nI y then nI x else nI y) = nI (min x y) := by
  by_cases q : x < y
  · rw [if_pos ((nI_ltI hx hy).mpr q), Nat.min_eq_left (by omega)]
  · rw [if_neg (fun z => q ((nI_ltI hx hy).mp z)), Nat.min_eq_right (by omega)]
set_option maxRecDepth 100000 in
set_option maxHeartbeats 400000 in
theorem m_distanceTo (g : Gx) (i n : Nat) (S : SV) (h : Hp) (R : RZ 0 S (h.1 41)) (V : VS S) (hi : i < S.2.2.1.length) (hW : MWd n h) (hn : VW n) : AC g yX8_distanceTo wsX8_distanceTo rmX8_distanceTo [.ref 40, .int (nI i)] h (fun v h' => v = some (.int (nI (dst n (S.2.2.1.getD i 0)))) ∧ FrI 52 52 h h') := by
  have c40 := isC_40
  have c41 := isC_41
  have c47 := isC_47
  have c52 := isC_52
  obtain ⟨i24, y1, y2, hm⟩ := mW R V hi
  obtain ⟨x1, x2⟩ := hW
  have hzn := wsz_le n
  have hzm := wsz_le (S.2.2.1.getD i 0)
  generalize S.2.2.1.getD i 0 = m at *
  generalize hZ : ZP g (fun v h' => v = some (.int (nI (dst n m))) ∧ FrI 52 52 h h') = Z
  have z0 : Z.1 = 0 ∧ Z.2.1 = 0 := by rw [← hZ]; exact ⟨rfl, rfl⟩
  refine AC.of (cc := cX8_distanceTo) (maxL := 7) (ret := (some .int)) (by decide +kernel) rfl (Nat.le_of_ble_eq_true rfl) ?_
  show AW g mmX8_distanceTo _ 0 [(0, some (.ref 40)), (1, some (.int (nI i)))] [] _
  rw [hZ]
  refine am_aload_n (n := 1) (i := 0) dX8_distanceTo_0 rfl rfl rfl ?_
  refine am_iload_n (n := 2) (i := 1) dX8_distanceTo_1 rfl rfl rfl ?_
  refine cdX8_distanceTo_78 (n := 5) dX8_distanceTo_2 (by first | exact ⟨rfl, rfl⟩ | assumption) (m_lengthOf g i h i24) rfl rfl (Nat.le_of_ble_eq_true rfl) (by first | assumption | exact isC_of (by decide +kernel)) rfl ?_
  rw [y1]
  have hD : dst n m = edR (wl n) (wl m) (wsz n) (wsz m) := rfl
  have hla : ∀ p, p < wsz n → 0 < wl n p := fun p => wsz_in
  have hlb : ∀ p, p < wsz m → 0 < wl m p := fun p => wsz_in
  generalize wsz n = N at *
  generalize wsz m = M at *
  have hle := edR_le (wl n) (wl m)
  generalize hed : edR (wl n) (wl m) = ed at hD hle
  have ed_00 : ∀ j, ed 0 j = j := fun j => by rw [← hed]; rfl
  have ed_i0 : ∀ i, ed i 0 = i := fun i => by rw [← hed]; exact edR_i0 _ _ i
  have ed_ss : ∀ i j, ed (i + 1) (j + 1) = min (ed i j + (if wl n i = wl m j then 0 else 1)) (min (ed i (j + 1)) (ed (i + 1) j) + 1) := fun i j => by rw [← hed]; rfl
  clear hed
  -- the outer loop
  have outer : ∀ a, a ≤ N → ∀ h1 : Hp, FrI 52 52 h h1 → (∀ j, j ≤ M → h1.1 52 j = nI (ed a j)) → AW g mmX8_distanceTo Z 28 [(0, some (.ref 40)), (1, some (.int (nI i))), (2, some (.int (nI M))), (3, some (.int (nI (a + 1))))] [] h1 := by
    refine loop_up (Wp := fun a => ∀ h1 : Hp, FrI 52 52 h h1 → (∀ j, j ≤ M → h1.1 52 j = nI (ed a j)) → AW g mmX8_distanceTo Z 28 [(0, some (.ref 40)), (1, some (.int (nI i))), (2, some (.int (nI M))), (3, some (.int (nI (a + 1))))] [] h1) N ?_ ?_
    · intro h1 F H
      refine am_iload_n (n := 29) (i := 3) dX8_distanceTo_28 rfl rfl rfl ?_
      refine am_aload_n (n := 30) (i := 0) dX8_distanceTo_29 rfl rfl rfl ?_
      refine gfX8_distanceTo_75 (n := 33) dX8_distanceTo_30 (by first | assumption | exact isC_of (by decide +kernel)) rfl ?_
      rw [F.1 40 (by omega), x1]
      refine am_icmp_gt (tgt := 144) (n := 36) dX8_distanceTo_33 (by decide) rfl (fun _ => ?_) (fun q_z => absurd (nI_lt (Nat.lt_succ_self _) (by omega)) q_z)
      refine am_aload_n (n := 145) (i := 0) dX8_distanceTo_144 rfl rfl rfl ?_
      refine gfX8_distanceTo_45 (n := 148) dX8_distanceTo_145 (by first | assumption | exact isC_of (by decide +kernel)) rfl ?_
      refine am_iload_n (n := 149) (i := 2) dX8_distanceTo_148 rfl rfl rfl ?_
      refine am_iald (n := 150) dX8_distanceTo_149 (by first | assumption | exact isC_of (by decide +kernel)) (by first | assumption | exact vp_in_nI (by omega) (by omega) | exact vp_in_iff.mpr (by decide)) rfl ?_
      rw [nI_clamp (by omega), H M (Nat.le_refl _), ← hD, ← hZ]
      refine am_iret dX8_distanceTo_150 rfl rfl ?_
      exact ⟨rfl, F⟩
    · intro a ha K h1 F H
      refine am_iload_n (n := 29) (i := 3) dX8_distanceTo_28 rfl rfl rfl ?_
      refine am_aload_n (n := 30) (i := 0) dX8_distanceTo_29 rfl rfl rfl ?_
      refine gfX8_distanceTo_75 (n := 33) dX8_distanceTo_30 (by first | assumption | exact isC_of (by decide +kernel)) rfl ?_
      rw [F.1 40 (by omega), x1]
      refine am_icmp_gt (tgt := 144) (n := 36) dX8_distanceTo_33 (by decide) rfl (fun q_z => absurd q_z (nI_nlt (show a + 1 ≤ N by omega) (by omega))) (fun _ => ?_)
      refine am_aload_n (n := 37) (i := 0) dX8_distanceTo_36 rfl rfl rfl ?_
      refine gfX8_distanceTo_45 (n := 40) dX8_distanceTo_37 (by first | assumption | exact isC_of (by decide +kernel)) rfl ?_
      refine am_iconst (n := 41) (v := 0) dX8_distanceTo_40 rfl rfl ?_
      refine am_iald (n := 42) dX8_distanceTo_41 (by first | assumption | exact isC_of (by decide +kernel)) (by first | assumption | exact vp_in_nI (by omega) (by omega) | exact vp_in_iff.mpr (by decide)) rfl ?_
      rw [show h1.1 52 (0 : Int32).toNatClampNeg = nI (ed a 0) from H 0 (Nat.zero_le _)]
      refine am_istore (n := 44) dX8_distanceTo_42 (Nat.le_of_ble_eq_true rfl) rfl rfl ?_
      refine am_aload_n (n := 45) (i := 0) dX8_distanceTo_44 rfl rfl rfl ?_
      refine gfX8_distanceTo_45 (n := 48) dX8_distanceTo_45 (by first | assumption | exact isC_of (by decide +kernel)) rfl ?_
      refine am_iconst (n := 49) (v := 0) dX8_distanceTo_48 rfl rfl ?_
      refine am_iload_n (n := 50) (i := 3) dX8_distanceTo_49 rfl rfl rfl ?_
      refine am_iast (n := 51) dX8_distanceTo_50 (by first | assumption | exact isC_of (by decide +kernel)) (by first | assumption | exact vp_in_nI (by omega) (by omega) | exact vp_in_iff.mpr (by decide)) rfl ?_
      refine am_iconst (n := 52) (v := 1) dX8_distanceTo_51 rfl rfl ?_
      refine am_istore (n := 54) dX8_distanceTo_52 (Nat.le_of_ble_eq_true rfl) rfl rfl ?_
      -- the inner loop
      refine am_loc [(0, some (.ref 40)), (1, some (.int (nI i))), (2, some (.int (nI M))), (3, some (.int (nI (a + 1)))), (4, some (.int (nI (ed a 0)))), (5, some (.int (nI (0 + 1))))] rfl ?_
      refine loop_up (Wp := fun j => ∀ h2 : Hp, FrI 52 52 h h2 → (∀ j', j' ≤ M → h2.1 52 j' = nI (if j' ≤ j then ed (a + 1) j' else ed a j')) → AW g mmX8_distanceTo Z 54 [(0, some (.ref 40)), (1, some (.int (nI i))), (2, some (.int (nI M))), (3, some (.int (nI (a + 1)))), (4, some (.int (nI (ed a j)))), (5, some (.int (nI (j + 1))))] [] h2) M ?_ ?_ 0 (Nat.zero_le _) _ (F.set _ (Nat.le_refl _) (Nat.le_refl _)) (fun j' hj' => ?_)
      · intro h2 F2 H2
        refine am_iload (n := 56) dX8_distanceTo_54 rfl rfl ?_
        refine am_iload_n (n := 57) (i := 2) dX8_distanceTo_56 rfl rfl rfl ?_
        refine am_icmp_gt (tgt := 138) (n := 60) dX8_distanceTo_57 (by decide) rfl (fun _ => ?_) (fun q_z => absurd (nI_lt (Nat.lt_succ_self _) (by omega)) q_z)
        first | refine am_iincN (n := 141) dX8_distanceTo_138 rfl rfl rfl ?_ | refine am_iinc1 (n := 141) dX8_distanceTo_138 rfl rfl rfl ?_
        refine am_goto (tgt := 28) dX8_distanceTo_141 (by decide) ?_
        exact am_loc _ rfl (K h2 F2 (fun j hj => by rw [H2 j hj, if_pos hj]))
      · intro j hj K2 h2 F2 H2
        have l1 := hle a j
        have l2 := hle a (j + 1)
        have l3 := hle (a + 1) j
        have p1 := hla a ha
        have p2 := hlb j hj
        have w1 := wl_lt n a
        have w2 := wl_lt m j
        have e1 : h2.1 52 (j + 1) = nI (ed a (j + 1)) := by rw [H2 (j + 1) (by omega), if_neg (by omega)]
        have e2 : h2.1 52 j = nI (ed (a + 1) j) := by rw [H2 j (by omega), if_pos (Nat.le_refl _)]
        have b1 : vp_in (nI (j + 1)) 11 := vp_in_nI (by omega) (by decide)
        have b2 : vp_in (nI j) 11 := vp_in_nI (by omega) (by decide)
        have b3 : vp_in (nI a) 10 := vp_in_nI (by omega) (by decide)
        have t88 : AW g mmX8_distanceTo Z 88 [(0, some (.ref 40)), (1, some (.int (nI i))), (2, some (.int (nI M))), (3, some (.int (nI (a + 1)))), (4, some (.int (nI (ed a j)))), (5, some (.int (nI (j + 1))))] [.int (nI (ed a j + (if wl n a = wl m j then 0 else 1)))] h2 := by
          refine am_istore (n := 90) dX8_distanceTo_88 (Nat.le_of_ble_eq_true rfl) rfl rfl ?_
          refine am_aload_n (n := 91) (i := 0) dX8_distanceTo_90 rfl rfl rfl ?_
          refine gfX8_distanceTo_45 (n := 94) dX8_distanceTo_91 (by first | assumption | exact isC_of (by decide +kernel)) rfl ?_
          refine am_iload (n := 96) dX8_distanceTo_94 rfl rfl ?_
          refine am_iald (n := 97) dX8_distanceTo_96 (by first | assumption | exact isC_of (by decide +kernel)) (by first | assumption | exact vp_in_nI (by omega) (by omega) | exact vp_in_iff.mpr (by decide)) rfl ?_
          rw [nI_clamp (by omega), e1]
          refine am_istore (n := 99) dX8_distanceTo_97 (Nat.le_of_ble_eq_true rfl) rfl rfl ?_
          refine am_aload_n (n := 100) (i := 0) dX8_distanceTo_99 rfl rfl rfl ?_
          refine gfX8_distanceTo_45 (n := 103) dX8_distanceTo_100 (by first | assumption | exact isC_of (by decide +kernel)) rfl ?_
          refine am_iload (n := 105) dX8_distanceTo_103 rfl rfl ?_
          refine am_iload (n := 107) dX8_distanceTo_105 rfl rfl ?_
          refine am_aload_n (n := 108) (i := 0) dX8_distanceTo_107 rfl rfl rfl ?_
          refine gfX8_distanceTo_45 (n := 111) dX8_distanceTo_108 (by first | assumption | exact isC_of (by decide +kernel)) rfl ?_
          refine am_iload (n := 113) dX8_distanceTo_111 rfl rfl ?_
          refine am_iald (n := 114) dX8_distanceTo_113 (by first | assumption | exact isC_of (by decide +kernel)) (by first | assumption | exact vp_in_nI (by omega) (by omega) | exact vp_in_iff.mpr (by decide)) rfl ?_
          rw [nI_clamp (by omega), e1]
          refine am_aload_n (n := 115) (i := 0) dX8_distanceTo_114 rfl rfl rfl ?_
          refine gfX8_distanceTo_45 (n := 118) dX8_distanceTo_115 (by first | assumption | exact isC_of (by decide +kernel)) rfl ?_
          refine am_iload (n := 120) dX8_distanceTo_118 rfl rfl ?_
          refine am_iconst (n := 121) (v := 1) dX8_distanceTo_120 rfl rfl ?_
          refine am_isub (n := 122) dX8_distanceTo_121 rfl ?_
          rw [show nI (j + 1) - 1 = nI j from nI_pred j]
          refine am_iald (n := 123) dX8_distanceTo_122 (by first | assumption | exact isC_of (by decide +kernel)) (by first | assumption | exact vp_in_nI (by omega) (by omega) | exact vp_in_iff.mpr (by decide)) rfl ?_
          rw [nI_clamp (by omega), e2]
          refine cdX8_distanceTo_96 (n := 126) dX8_distanceTo_123 (by first | exact ⟨rfl, rfl⟩ | assumption) (m_least g (nI (ed a (j + 1))) (nI (ed (a + 1) j)) h2) rfl rfl (Nat.le_of_ble_eq_true rfl) rfl ?_
          rw [lst_nI (by omega) (by omega)]
          refine am_iconst (n := 127) (v := 1) dX8_distanceTo_126 rfl rfl ?_
          refine am_iadd (n := 128) dX8_distanceTo_127 rfl ?_
          rw [nI_1]
          refine cdX8_distanceTo_96 (n := 131) dX8_distanceTo_128 (by first | exact ⟨rfl, rfl⟩ | assumption) (m_least g (nI (ed a j + (if wl n a = wl m j then 0 else 1))) (nI (min (ed a (j + 1)) (ed (a + 1) j) + 1)) h2) rfl rfl (Nat.le_of_ble_eq_true rfl) rfl ?_
          rw [lst_nI (by split <;> omega) (by omega), ← ed_ss]
          refine am_iast (n := 132) dX8_distanceTo_131 (by first | assumption | exact isC_of (by decide +kernel)) (by first | assumption | exact vp_in_nI (by omega) (by omega) | exact vp_in_iff.mpr (by decide)) rfl ?_
          first | refine am_iincN (n := 135) dX8_distanceTo_132 rfl rfl rfl ?_ | refine am_iinc1 (n := 135) dX8_distanceTo_132 rfl rfl rfl ?_
          refine am_goto (tgt := 54) dX8_distanceTo_135 (by decide) ?_
          rw [nI_clamp (by omega)]
          refine am_loc _ rfl (K2 _ (F2.set _ (Nat.le_refl _) (Nat.le_refl _)) (fun j' hj' => ?_))
          rw [setI_s]
          by_cases z : j' = j + 1
          · subst z
            rw [pk_us, if_pos (Nat.le_refl _)]
          · rw [pk_un z, H2 j' hj']
            by_cases q : j' ≤ j
            · rw [if_pos q, if_pos (by omega)]
            · rw [if_neg q, if_neg (by omega)]
        refine am_iload (n := 56) dX8_distanceTo_54 rfl rfl ?_
        refine am_iload_n (n := 57) (i := 2) dX8_distanceTo_56 rfl rfl rfl ?_
        refine am_icmp_gt (tgt := 138) (n := 60) dX8_distanceTo_57 (by decide) rfl (fun q_z => absurd q_z (nI_nlt (show j + 1 ≤ M by omega) (by omega))) (fun _ => ?_)
        refine am_iload (n := 62) dX8_distanceTo_60 rfl rfl ?_
        refine am_aload_n (n := 63) (i := 0) dX8_distanceTo_62 rfl rfl rfl ?_
        refine gfX8_distanceTo_29 (n := 66) dX8_distanceTo_63 (by first | assumption | exact isC_of (by decide +kernel)) rfl ?_
        refine am_iload_n (n := 67) (i := 3) dX8_distanceTo_66 rfl rfl rfl ?_
        refine am_iconst (n := 68) (v := 1) dX8_distanceTo_67 rfl rfl ?_
        refine am_isub (n := 69) dX8_distanceTo_68 rfl ?_
        rw [nI_pred]
        refine am_iald (n := 70) dX8_distanceTo_69 (by first | assumption | exact isC_of (by decide +kernel)) (by first | assumption | exact vp_in_nI (by omega) (by omega) | exact vp_in_iff.mpr (by decide)) rfl ?_
        rw [F2.1 47 (by omega), nI_clamp (by omega), x2 a ha]
        refine am_aload_n (n := 71) (i := 0) dX8_distanceTo_70 rfl rfl rfl ?_
        refine am_iload_n (n := 72) (i := 1) dX8_distanceTo_71 rfl rfl rfl ?_
        refine am_iload (n := 74) dX8_distanceTo_72 rfl rfl ?_
        refine am_iconst (n := 75) (v := 1) dX8_distanceTo_74 rfl rfl ?_
        refine am_isub (n := 76) dX8_distanceTo_75 rfl ?_
        rw [nI_pred]
        refine cdX8_distanceTo_82 (n := 79) dX8_distanceTo_76 (by first | exact ⟨rfl, rfl⟩ | assumption) (m_letterOf g i j h2 i24 (by omega)) rfl rfl (Nat.le_of_ble_eq_true rfl) (by first | assumption | exact isC_of (by decide +kernel)) rfl ?_
        rw [F2.1 41 (by omega), y2 j (by omega)]
        by_cases hq : wl n a = wl m j
        · rw [if_pos hq] at t88
          refine am_icmp_ne (tgt := 86) (n := 82) dX8_distanceTo_79 (by decide) rfl (fun q_z => absurd (by rw [hq]) q_z) (fun _ => ?_)
          refine am_iconst (n := 83) (v := 0) dX8_distanceTo_82 rfl rfl ?_
          refine am_goto (tgt := 87) dX8_distanceTo_83 (by decide) ?_
          refine am_iadd (n := 88) dX8_distanceTo_87 rfl ?_
          rw [show nI (ed a j) + (0 : Int32) = nI (ed a j + 0) from nI_add _ 0]
          exact t88
        · rw [if_neg hq] at t88
          refine am_icmp_ne (tgt := 86) (n := 82) dX8_distanceTo_79 (by decide) rfl (fun _ => ?_) (fun q_z => absurd q_z (fun z => hq (by have := (nI_eq (by omega) (by omega)).mp z; omega)))
          refine am_iconst (n := 87) (v := 1) dX8_distanceTo_86 rfl rfl ?_
          refine am_iadd (n := 88) dX8_distanceTo_87 rfl ?_
          rw [nI_1]
          exact t88
      · rw [setI_s]
        by_cases z : j' = 0
        · subst z
          show upd _ 0 _ 0 = _
          rw [pk_us, if_pos (Nat.le_refl _), ed_i0]
        · rw [show upd (h1.1 52) (0 : Int32).toNatClampNeg (nI (a + 1)) j' = h1.1 52 j' from pk_un z, H j' hj', if_neg (by omega)]
  -- the first row
  refine am_istore_n (n := 6) (i := 2) dX8_distanceTo_5 rfl (Nat.le_of_ble_eq_true rfl) rfl rfl ?_
  refine am_iconst (n := 7) (v := 0) dX8_distanceTo_6 rfl rfl ?_
  refine am_istore_n (n := 8) (i := 3) dX8_distanceTo_7 rfl (Nat.le_of_ble_eq_true rfl) rfl rfl ?_
  refine am_loc [(0, some (.ref 40)), (1, some (.int (nI i))), (2, some (.int (nI M))), (3, some (.int (nI 0)))] rfl ?_
  refine loop_up (Wp := fun j => ∀ h1 : Hp, FrI 52 52 h h1 → (∀ j', j' < j → h1.1 52 j' = nI j') → AW g mmX8_distanceTo Z 8 [(0, some (.ref 40)), (1, some (.int (nI i))), (2, some (.int (nI M))), (3, some (.int (nI j)))] [] h1) (M + 1) ?_ ?_ 0 (Nat.zero_le _) h FrI.rf (fun j' hj' => by omega)
  · intro h1 F H
    refine am_iload_n (n := 9) (i := 3) dX8_distanceTo_8 rfl rfl rfl ?_
    refine am_iload_n (n := 10) (i := 2) dX8_distanceTo_9 rfl rfl rfl ?_
    refine am_icmp_gt (tgt := 26) (n := 13) dX8_distanceTo_10 (by decide) rfl (fun _ => ?_) (fun q_z => absurd (nI_lt (Nat.lt_succ_self _) (by omega)) q_z)
    refine am_iconst (n := 27) (v := 1) dX8_distanceTo_26 rfl rfl ?_
    refine am_istore_n (n := 28) (i := 3) dX8_distanceTo_27 rfl (Nat.le_of_ble_eq_true rfl) rfl rfl ?_
    exact am_loc _ rfl (outer 0 (Nat.zero_le _) h1 F (fun j hj => by rw [H j (by omega), ed_00]))
  · intro j hj K h1 F H
    have b2 : vp_in (nI j) 11 := vp_in_nI (by omega) (by decide)
    refine am_iload_n (n := 9) (i := 3) dX8_distanceTo_8 rfl rfl rfl ?_
    refine am_iload_n (n := 10) (i := 2) dX8_distanceTo_9 rfl rfl rfl ?_
    refine am_icmp_gt (tgt := 26) (n := 13) dX8_distanceTo_10 (by decide) rfl (fun q_z => absurd q_z (nI_nlt (show j ≤ M by omega) (by omega))) (fun _ => ?_)
    refine am_aload_n (n := 14) (i := 0) dX8_distanceTo_13 rfl rfl rfl ?_
    refine gfX8_distanceTo_45 (n := 17) dX8_distanceTo_14 (by first | assumption | exact isC_of (by decide +kernel)) rfl ?_
    refine am_iload_n (n := 18) (i := 3) dX8_distanceTo_17 rfl rfl rfl ?_
    refine am_iload_n (n := 19) (i := 3) dX8_distanceTo_18 rfl rfl rfl ?_
    refine am_iast (n := 20) dX8_distanceTo_19 (by first | assumption | exact isC_of (by decide +kernel)) (by first | assumption | exact vp_in_nI (by omega) (by omega) | exact vp_in_iff.mpr (by decide)) rfl ?_
    first | refine am_iincN (n := 23) dX8_distanceTo_20 rfl rfl rfl ?_ | refine am_iinc1 (n := 23) dX8_distanceTo_20 rfl rfl rfl ?_
    refine am_goto (tgt := 8) dX8_distanceTo_23 (by decide) ?_
    rw [nI_clamp (by omega)]
    refine am_loc _ rfl (K _ (F.set _ (Nat.le_refl _) (Nat.le_refl _)) (fun j' hj' => ?_))
    rw [setI_s]
    by_cases z : j' = j
    · subst z
      rw [pk_us]
    · rw [pk_un z]
      exact H j' (by omega)
