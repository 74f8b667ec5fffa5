/-! The reference: hearing -/
theorem p64 {c z : Nat} (h : c / 64 ^ z = 0) : c < 64 ^ z := by
  rcases Nat.lt_or_ge c (64 ^ z) with q | q
  · exact q
  · have := Nat.div_pos q (Nat.pow_pos (by decide))
    omega
theorem p64' {c z : Nat} (h : 0 < c / 64 ^ z) : 64 ^ z ≤ c := by
  rcases Nat.lt_or_ge c (64 ^ z) with q | q
  · rw [Nat.div_eq_of_lt q] at h
    omega
  · exact q
theorem csz_eq {c s : Nat} (hs : s ≤ 5) (h1 : c < 64 ^ s) (h2 : ∀ z, z < s → 64 ^ z ≤ c) : csz c = s := by
  rcases Nat.lt_trichotomy (csz c) s with q | q | q
  · have a := p64 (csz_out (show csz c < 5 by omega))
    have b := h2 _ q
    omega
  · exact q
  · have a := p64' (csz_in q)
    omega
/-- a code in one long: its length on top -/
def lc (c : Nat) : Nat := 1073741824 * csz c + c * 64 ^ (5 - csz c)
theorem lc_facts {c : Nat} (hc : c < 2 ^ 30) : (csz c = 0 ∧ c = 0 ∧ lc c = 0) ∨ (csz c = 1 ∧ 1 ≤ c ∧ c < 64 ∧ lc c = 1073741824 + 16777216 * c) ∨ (csz c = 2 ∧ 64 ≤ c ∧ c < 4096 ∧ lc c = 2147483648 + 262144 * c) ∨ (csz c = 3 ∧ 4096 ≤ c ∧ c < 262144 ∧ lc c = 3221225472 + 4096 * c) ∨ (csz c = 4 ∧ 262144 ≤ c ∧ c < 16777216 ∧ lc c = 4294967296 + 64 * c) ∨ (csz c = 5 ∧ 16777216 ≤ c ∧ c < 1073741824 ∧ lc c = 5368709120 + c) := by
  have h5 := csz_le c
  have ho := fun (q : csz c < 5) => p64 (csz_out q)
  have hi := fun (p : Nat) (q : p < csz c) => p64' (csz_in q)
  unfold lc
  generalize csz c = z at *
  have hz : z = 0 ∨ z = 1 ∨ z = 2 ∨ z = 3 ∨ z = 4 ∨ z = 5 := by omega
  rcases hz with rfl | rfl | rfl | rfl | rfl | rfl
  · have := ho (by omega)
    left
    refine ⟨rfl, ?_⟩
    simp only [Nat.pow_zero, Nat.reduceSub, Nat.reducePow] at *
    omega
  · have := ho (by omega)
    have := hi 0 (by omega)
    right; left
    refine ⟨rfl, ?_⟩
    simp only [Nat.pow_zero, Nat.reduceSub, Nat.reducePow] at *
    omega
  · have := ho (by omega)
    have := hi 1 (by omega)
    right; right; left
    refine ⟨rfl, ?_⟩
    simp only [Nat.pow_zero, Nat.reduceSub, Nat.reducePow] at *
    omega
  · have := ho (by omega)
    have := hi 2 (by omega)
    right; right; right; left
    refine ⟨rfl, ?_⟩
    simp only [Nat.pow_zero, Nat.reduceSub, Nat.reducePow] at *
    omega
  · have := ho (by omega)
    have := hi 3 (by omega)
    right; right; right; right; left
    refine ⟨rfl, ?_⟩
    simp only [Nat.pow_zero, Nat.reduceSub, Nat.reducePow] at *
    omega
  · have := hi 4 (by omega)
    right; right; right; right; right
    refine ⟨rfl, ?_⟩
    simp only [Nat.pow_zero, Nat.reduceSub, Nat.reducePow] at *
    omega
theorem lc_lt63 {c : Nat} (hc : c < 2 ^ 30) : lc c < 2 ^ 62 := by
  have := lc_facts hc
  omega
theorem lc_inj {a b : Nat} (ha : a < 2 ^ 30) (hb : b < 2 ^ 30) (h : lc a = lc b) : a = b := by
  have := lc_facts ha
  have := lc_facts hb
  omega
theorem lc_lt {a b : Nat} (ha : a < 2 ^ 30) (hb : b < 2 ^ 30) : lc a < lc b ↔ a < b := by
  have := lc_facts ha
  have := lc_facts hb
  omega
theorem lcN_inj {a b : Nat} (ha : a < 2 ^ 30) (hb : b < 2 ^ 30) : lN (lc a) = lN (lc b) ↔ a = b := by
  have h1 := lc_lt63 ha
  have h2 := lc_lt63 hb
  rw [pk_lEQ (by omega) (by omega)]
  exact ⟨fun h => lc_inj ha hb h, fun h => by rw [h]⟩
theorem lcN_lt {a b : Nat} (ha : a < 2 ^ 30) (hb : b < 2 ^ 30) : lN (lc a) < lN (lc b) ↔ a < b := by
  have h1 := lc_lt63 ha
  have h2 := lc_lt63 hb
  rw [pk_lLT (by omega) (by omega), lc_lt ha hb]
theorem hs_lead {E : EV} {L n v : Nat} : ∀ p, 0 < (hs E L n v p).2.1 → 64 ^ ((hs E L n v p).2.1 - 1) ≤ (hs E L n v p).1 := by
  intro p
  induction p with
  | zero =>
    intro h
    exact absurd h (Nat.lt_irrefl 0)
  | succ p ih =>
    show 0 < (if _ then _ else _) → 64 ^ ((if _ then _ else _) - 1) ≤ (if _ then _ else _)
    by_cases c : hvS E n v p (hs E L n v p).2.2.2 ≠ 0 ∧ hvS E n v p (hs E L n v p).2.2.2 ≠ (hs E L n v p).2.2.1 ∧ (hs E L n v p).2.1 < L
    · rw [if_pos c, if_pos c, Nat.add_sub_cancel]
      intro _
      rcases Nat.eq_zero_or_pos (hs E L n v p).2.1 with z | z
      · rw [z, Nat.pow_zero]
        omega
      · have := ih z
        obtain ⟨m, hm⟩ : ∃ m, (hs E L n v p).2.1 = m + 1 := ⟨(hs E L n v p).2.1 - 1, by omega⟩
        rw [hm, Nat.add_sub_cancel] at this
        rw [hm, Nat.pow_succ]
        omega
    · rw [if_neg c, if_neg c]
      exact ih
theorem csz_hs {E : EV} {L n v : Nat} (hV : VE E) (hn : VW n) (hL : L ≤ 5) : csz (cw E L n v) = (hs E L n v (wsz n)).2.1 := by
  obtain ⟨i1, i2, -⟩ := hs_inv (L := L) (v := v) hV hn (wsz n) (Nat.le_refl _)
  have i3 := hs_lead (E := E) (L := L) (n := n) (v := v) (wsz n)
  unfold cw
  generalize hs E L n v (wsz n) = t at *
  refine csz_eq (by omega) i1 (fun z hz => Nat.le_trans (Nat.pow_le_pow_right (by decide) (by omega)) (i3 (by omega)))
theorem mE {S : SV} {h : Hp} (R : RZ 0 S (h.1 41)) (V : VS S) {e : Nat} {E : EV} (he : S.2.2.2[e]? = some E) : e < 4 ∧ REZ (268 + 78 * e) E (h.1 41) ∧ VE E := by
  have hl := (List.getElem?_eq_some_iff.mp he).1
  have h4 := V.2.2.2.2.1
  have := R.2.2.2.2.2 e E he
  rw [Nat.zero_add] at this
  exact ⟨by omega, this, V.2.2.2.2.2 E (List.mem_of_getElem? he)⟩
set_option maxRecDepth 100000 in
set_option maxHeartbeats 400000 in
theorem m_hasHabit (g : Gx) (e b : Nat) (E : EV) (h : Hp) (he : e < 4) (R : REZ (268 + 78 * e) E (h.1 41)) : AD g yX8_hasHabit wsX8_hasHabit rmX8_hasHabit [.ref 40, .int (nI e), .int (nI b)] h (some (.int (bI (decide (¬ nI E.2.2.1 &&& nI b = 0))))) h := by
  have c40 := isC_40
  refine AC.of (cc := cX8_hasHabit) (maxL := 3) (ret := (some .boolean)) (by decide +kernel) rfl (Nat.le_of_ble_eq_true rfl) ?_
  show AW g mmX8_hasHabit _ 0 [(0, some (.ref 40)), (1, some (.int (nI e))), (2, some (.int (nI b)))] [] _
  refine am_aload_n (n := 1) (i := 0) dX8_hasHabit_0 rfl rfl rfl ?_
  refine am_iload_n (n := 2) (i := 1) dX8_hasHabit_1 rfl rfl rfl ?_
  refine am_bipush (n := 4) (v := 52) dX8_hasHabit_2 rfl rfl ?_
  refine cdX8_hasHabit_106 (n := 7) dX8_hasHabit_4 (by first | exact ⟨rfl, rfl⟩ | assumption) (m_at g e 52 h he (by omega)) rfl rfl (Nat.le_of_ble_eq_true rfl) (by first | assumption | exact isC_of (by decide +kernel)) rfl ?_
  rw [R.2.1]
  refine am_iload_n (n := 8) (i := 2) dX8_hasHabit_7 rfl rfl rfl ?_
  refine am_iand (n := 9) dX8_hasHabit_8 rfl ?_
  by_cases q : nI E.2.2.1 &&& nI b = 0
  · rw [decide_eq_false (fun z => z q)]
    refine am_if_eq (tgt := 16) (n := 12) dX8_hasHabit_9 (by decide) rfl (fun _ => ?_) (fun q_z => absurd q q_z)
    refine am_iconst (n := 17) (v := 0) dX8_hasHabit_16 rfl rfl ?_
    refine am_iret dX8_hasHabit_17 rfl rfl ?_
    exact ⟨rfl, rfl⟩
  · rw [decide_eq_true q]
    refine am_if_eq (tgt := 16) (n := 12) dX8_hasHabit_9 (by decide) rfl (fun q_z => absurd q_z q) (fun _ => ?_)
    refine am_iconst (n := 13) (v := 1) dX8_hasHabit_12 rfl rfl ?_
    refine am_goto (tgt := 17) dX8_hasHabit_13 (by decide) ?_
    refine am_iret dX8_hasHabit_17 rfl rfl ?_
    exact ⟨rfl, rfl⟩
set_option maxRecDepth 100000 in
set_option maxHeartbeats 400000 in
theorem m_isBehindOne (g : Gx) (n p : Nat) (h : Hp) (hW : MWd n h) (hp : p < wsz n) : AD g yX8_isBehindOne wsX8_isBehindOne rmX8_isBehindOne [.ref 40, .int (nI p)] h (some (.int (bI (decide (p ≠ 0 ∧ (wl n (p - 1) = 3 ∨ wl n (p - 1) = 16 ∨ wl n (p - 1) = 19 ∨ wl n (p - 1) = 20)))))) h := by
  have c40 := isC_40
  have c47 := isC_47
  have h10 := wsz_le n
  refine AC.of (cc := cX8_isBehindOne) (maxL := 3) (ret := (some .boolean)) (by decide +kernel) rfl (Nat.le_of_ble_eq_true rfl) ?_
  show AW g mmX8_isBehindOne _ 0 [(0, some (.ref 40)), (1, some (.int (nI p)))] [] _
  refine am_iload_n (n := 1) (i := 1) dX8_isBehindOne_0 rfl rfl rfl ?_
  by_cases z : p = 0
  · rw [decide_eq_false (fun q => q.1 z)]
    refine am_if_ne (tgt := 9) (n := 4) dX8_isBehindOne_1 (by decide) rfl (fun q_z => absurd (by rw [z]; rfl) q_z) (fun _ => ?_)
    refine am_bipush (n := 6) (v := (-6)) dX8_isBehindOne_4 rfl rfl ?_
    refine am_goto (tgt := 17) dX8_isBehindOne_6 (by decide) ?_
    refine am_istore_n (n := 18) (i := 2) dX8_isBehindOne_17 rfl (Nat.le_of_ble_eq_true rfl) rfl rfl ?_
    refine am_iload_n (n := 19) (i := 2) dX8_isBehindOne_18 rfl rfl rfl ?_
    refine am_iconst (n := 20) (v := 2) dX8_isBehindOne_19 rfl rfl ?_
    refine am_icmp_eq (tgt := 41) (n := 23) dX8_isBehindOne_20 (by decide) rfl (fun q_z => absurd q_z (by decide)) (fun _ => ?_)
    refine am_iload_n (n := 24) (i := 2) dX8_isBehindOne_23 rfl rfl rfl ?_
    refine am_bipush (n := 26) (v := 15) dX8_isBehindOne_24 rfl rfl ?_
    refine am_icmp_eq (tgt := 41) (n := 29) dX8_isBehindOne_26 (by decide) rfl (fun q_z => absurd q_z (by decide)) (fun _ => ?_)
    refine am_iload_n (n := 30) (i := 2) dX8_isBehindOne_29 rfl rfl rfl ?_
    refine am_bipush (n := 32) (v := 18) dX8_isBehindOne_30 rfl rfl ?_
    refine am_icmp_eq (tgt := 41) (n := 35) dX8_isBehindOne_32 (by decide) rfl (fun q_z => absurd q_z (by decide)) (fun _ => ?_)
    refine am_iload_n (n := 36) (i := 2) dX8_isBehindOne_35 rfl rfl rfl ?_
    refine am_bipush (n := 38) (v := 19) dX8_isBehindOne_36 rfl rfl ?_
    refine am_icmp_ne (tgt := 45) (n := 41) dX8_isBehindOne_38 (by decide) rfl (fun _ => ?_) (fun q_z => absurd q_z (by decide))
    refine am_iconst (n := 46) (v := 0) dX8_isBehindOne_45 rfl rfl ?_
    refine am_iret dX8_isBehindOne_46 rfl rfl ?_
    exact ⟨rfl, rfl⟩
  · have hx := hW.2 (p - 1) (by omega)
    have h0 := wsz_in (show p - 1 < wsz n by omega)
    have h32 := wl_lt n (p - 1)
    refine am_if_ne (tgt := 9) (n := 4) dX8_isBehindOne_1 (by decide) rfl (fun _ => ?_) (fun q_z => absurd q_z (fun q => z ((nI_eq (b := 0) (by omega) (by omega)).mp q)))
    have hin : vp_in (nI (p - 1)) 10 := vp_in_nI (by omega) (by decide)
    refine am_aload_n (n := 10) (i := 0) dX8_isBehindOne_9 rfl rfl rfl ?_
    refine gfX8_isBehindOne_29 (n := 13) dX8_isBehindOne_10 (by first | assumption | exact isC_of (by decide +kernel)) rfl ?_
    refine am_iload_n (n := 14) (i := 1) dX8_isBehindOne_13 rfl rfl rfl ?_
    refine am_iconst (n := 15) (v := 1) dX8_isBehindOne_14 rfl rfl ?_
    refine am_isub (n := 16) dX8_isBehindOne_15 rfl ?_
    rw [nI_m1 (by omega)]
    refine am_iald (n := 17) dX8_isBehindOne_16 (by first | assumption | exact isC_of (by decide +kernel)) (by first | assumption | exact vp_in_nI (by omega) (by omega) | exact vp_in_iff.mpr (by decide)) rfl ?_
    rw [nI_clamp (by omega), hx]
    generalize wl n (p - 1) = w at *
    have cmp : ∀ c : Nat, c < 30 → (nI (w - 1) = nI c ↔ w = c + 1) := fun c hc => by
      rw [nI_eq (by omega) (by omega)]
      omega
    have yes : ∀ l, (w = 3 ∨ w = 16 ∨ w = 19 ∨ w = 20) → AW g mmX8_isBehindOne (ZP g (fun r h2 => r = some (.int (bI (decide (p ≠ 0 ∧ (w = 3 ∨ w = 16 ∨ w = 19 ∨ w = 20))))) ∧ h2 = h)) 41 l [] h := by
      intro l q
      rw [decide_eq_true ⟨z, q⟩]
      refine am_iconst (n := 42) (v := 1) dX8_isBehindOne_41 rfl rfl ?_
      refine am_goto (tgt := 46) dX8_isBehindOne_42 (by decide) ?_
      refine am_iret dX8_isBehindOne_46 rfl rfl ?_
      exact ⟨rfl, rfl⟩
    refine am_istore_n (n := 18) (i := 2) dX8_isBehindOne_17 rfl (Nat.le_of_ble_eq_true rfl) rfl rfl ?_
    refine am_iload_n (n := 19) (i := 2) dX8_isBehindOne_18 rfl rfl rfl ?_
    refine am_iconst (n := 20) (v := 2) dX8_isBehindOne_19 rfl rfl ?_
    by_cases q1 : w = 3
    · refine am_icmp_eq (tgt := 41) (n := 23) dX8_isBehindOne_20 (by decide) rfl (fun _ => ?_) (fun q_z => absurd ((cmp 2 (by omega)).mpr q1) q_z)
      exact yes _ (Or.inl q1)
    · refine am_icmp_eq (tgt := 41) (n := 23) dX8_isBehindOne_20 (by decide) rfl (fun q_z => absurd q_z (fun q => q1 ((cmp 2 (by omega)).mp q))) (fun _ => ?_)
      refine am_iload_n (n := 24) (i := 2) dX8_isBehindOne_23 rfl rfl rfl ?_
      refine am_bipush (n := 26) (v := 15) dX8_isBehindOne_24 rfl rfl ?_
      by_cases q2 : w = 16
      · refine am_icmp_eq (tgt := 41) (n := 29) dX8_isBehindOne_26 (by decide) rfl (fun _ => ?_) (fun q_z => absurd ((cmp 15 (by omega)).mpr q2) q_z)
        exact yes _ (Or.inr (Or.inl q2))
      · refine am_icmp_eq (tgt := 41) (n := 29) dX8_isBehindOne_26 (by decide) rfl (fun q_z => absurd q_z (fun q => q2 ((cmp 15 (by omega)).mp q))) (fun _ => ?_)
        refine am_iload_n (n := 30) (i := 2) dX8_isBehindOne_29 rfl rfl rfl ?_
        refine am_bipush (n := 32) (v := 18) dX8_isBehindOne_30 rfl rfl ?_
        by_cases q3 : w = 19
        · refine am_icmp_eq (tgt := 41) (n := 35) dX8_isBehindOne_32 (by decide) rfl (fun _ => ?_) (fun q_z => absurd ((cmp 18 (by omega)).mpr q3) q_z)
          exact yes _ (Or.inr (Or.inr (Or.inl q3)))
        · refine am_icmp_eq (tgt := 41) (n := 35) dX8_isBehindOne_32 (by decide) rfl (fun q_z => absurd q_z (fun q => q3 ((cmp 18 (by omega)).mp q))) (fun _ => ?_)
          refine am_iload_n (n := 36) (i := 2) dX8_isBehindOne_35 rfl rfl rfl ?_
          refine am_bipush (n := 38) (v := 19) dX8_isBehindOne_36 rfl rfl ?_
          by_cases q4 : w = 20
          · refine am_icmp_ne (tgt := 45) (n := 41) dX8_isBehindOne_38 (by decide) rfl (fun q_z => absurd ((cmp 19 (by omega)).mpr q4) q_z) (fun _ => ?_)
            exact yes _ (Or.inr (Or.inr (Or.inr q4)))
          · refine am_icmp_ne (tgt := 45) (n := 41) dX8_isBehindOne_38 (by decide) rfl (fun _ => ?_) (fun q_z => absurd q_z (fun q => q4 ((cmp 19 (by omega)).mp q)))
            rw [decide_eq_false (by omega)]
            refine am_iconst (n := 46) (v := 0) dX8_isBehindOne_45 rfl rfl ?_
            refine am_iret dX8_isBehindOne_46 rfl rfl ?_
            exact ⟨rfl, rfl⟩
set_option maxRecDepth 100000 in
set_option maxHeartbeats 400000 in
theorem m_byHabit (g : Gx) (e n p : Nat) (E : EV) (h : Hp) (he : e < 4) (R : REZ (268 + 78 * e) E (h.1 41)) (hV : VE E) (hW : MWd n h) (hn : VW n) (hp : p < wsz n) : AD g yX8_byHabit wsX8_byHabit rmX8_byHabit [.ref 40, .int (nI e), .int (nI p)] h (some (.int (sec (bh E.2.2.1 n p)))) h := by
  have c40 := isC_40
  have c47 := isC_47
  have h10 := wsz_le n
  have h8 := hV.2.1
  have hx := hW.2 p hp
  have h0 := wsz_in hp
  have h26 := hn.2.1 p
  have hin : vp_in (nI p) 10 := vp_in_nI (by omega) (by decide)
  have a4 := hab_4 E.2.2.1 (by omega)
  have a2 := hab_2 E.2.2.1 (by omega)
  have a1 := hab_1 E.2.2.1 (by omega)
  have hnext : p = wsz n - 1 ↔ wl n (p + 1) = 0 := by
    constructor
    · intro q
      exact hn.2.2.1 (p + 1) (by omega)
    · intro q
      rcases Nat.lt_or_ge (p + 1) (wsz n) with y | y
      · have := wsz_in y
        omega
      · omega
  have cmp : ∀ c : Nat, c < 30 → (nI (wl n p - 1) = nI c ↔ wl n p = c + 1) := fun c hc => by
    rw [nI_eq (by omega) (by omega)]
    omega
  refine AC.of (cc := cX8_byHabit) (maxL := 5) (ret := (some .int)) (by decide +kernel) rfl (Nat.le_of_ble_eq_true rfl) ?_
  show AW g mmX8_byHabit _ 0 [(0, some (.ref 40)), (1, some (.int (nI e))), (2, some (.int (nI p)))] [] _
  have t98 : ∀ l (x y : Bool), (0 < bh E.2.2.1 n p → bh E.2.2.1 n p = 1) → (bh E.2.2.1 n p = 1 ↔ x = true ∨ y = true) → lget l 3 = some (.int (bI x)) → lget l 4 = some (.int (bI y)) → AW g mmX8_byHabit (ZP g (fun r h2 => r = some (.int (sec (bh E.2.2.1 n p))) ∧ h2 = h)) 98 l [] h := by
    intro l x y h01 hxy l3 l4
    generalize bh E.2.2.1 n p = b at *
    refine am_loc [(3, some (.int (bI x))), (4, some (.int (bI y)))] (by simp only [List.map_cons, List.map_nil, l3, l4]) ?_
    cases x with
    | true =>
      rw [show b = 1 from hxy.mpr (Or.inl rfl)]
      refine am_iload_n (n := 99) (i := 3) dX8_byHabit_98 rfl rfl rfl ?_
      refine am_if_ne (tgt := 107) (n := 102) dX8_byHabit_99 (by decide) rfl (fun _ => ?_) (fun q_z => absurd q_z (show ¬ (1 : Int32) = 0 by decide))
      refine am_iconst (n := 108) (v := 0) dX8_byHabit_107 rfl rfl ?_
      refine am_goto (tgt := 113) dX8_byHabit_108 (by decide) ?_
      refine am_iret dX8_byHabit_113 rfl rfl ?_
      exact ⟨rfl, rfl⟩
    | false =>
      refine am_iload_n (n := 99) (i := 3) dX8_byHabit_98 rfl rfl rfl ?_
      refine am_if_ne (tgt := 107) (n := 102) dX8_byHabit_99 (by decide) rfl (fun q_z => absurd rfl q_z) (fun _ => ?_)
      refine am_iload (n := 104) dX8_byHabit_102 rfl rfl ?_
      cases y with
      | true =>
        rw [show b = 1 from hxy.mpr (Or.inr rfl)]
        refine am_if_eq (tgt := 111) (n := 107) dX8_byHabit_104 (by decide) rfl (fun q_z => absurd q_z (show ¬ (1 : Int32) = 0 by decide)) (fun _ => ?_)
        refine am_iconst (n := 108) (v := 0) dX8_byHabit_107 rfl rfl ?_
        refine am_goto (tgt := 113) dX8_byHabit_108 (by decide) ?_
        refine am_iret dX8_byHabit_113 rfl rfl ?_
        exact ⟨rfl, rfl⟩
      | false =>
        have hb0 : b = 0 := by
          rcases Nat.eq_zero_or_pos b with q | q
          · exact q
          · have := hxy.mp (h01 q)
            simp at this
        rw [hb0]
        refine am_if_eq (tgt := 111) (n := 107) dX8_byHabit_104 (by decide) rfl (fun _ => ?_) (fun q_z => absurd rfl q_z)
        refine am_bipush (n := 113) (v := (-6)) dX8_byHabit_111 rfl rfl ?_
        refine am_iret dX8_byHabit_113 rfl rfl ?_
        exact ⟨rfl, rfl⟩
  -- the second habit
  have t57 : ∀ l (x : Bool), (x = true ↔ (wl n p = 8 ∧ E.2.2.1 % 2 = 1 ∧ p ≠ 0 ∧ (wl n (p - 1) = 3 ∨ wl n (p - 1) = 16 ∨ wl n (p - 1) = 19 ∨ wl n (p - 1) = 20))) → (p = 0 → ¬ E.2.2.1 / 4 % 2 = 1) → lget l 0 = some (.ref 40) → lget l 1 = some (.int (nI e)) → lget l 2 = some (.int (nI p)) → lget l 3 = some (.int (bI x)) → AW g mmX8_byHabit (ZP g (fun r h2 => r = some (.int (sec (bh E.2.2.1 n p))) ∧ h2 = h)) 57 l [] h := by
    intro l x hx1 hp0 l0 l1 l2 l3
    refine am_loc [(0, some (.ref 40)), (1, some (.int (nI e))), (2, some (.int (nI p))), (3, some (.int (bI x)))] (by simp only [List.map_cons, List.map_nil, l0, l1, l2, l3]) ?_
    have hb1 : 0 < bh E.2.2.1 n p → bh E.2.2.1 n p = 1 := by
      unfold bh
      by_cases z : p = 0
      · rw [if_pos z, if_neg (hp0 z)]
        omega
      · rw [if_neg z]
        repeat' split
        all_goals omega
    have hbe : bh E.2.2.1 n p = 1 ↔ (wl n p = 8 ∧ E.2.2.1 % 2 = 1 ∧ p ≠ 0 ∧ (wl n (p - 1) = 3 ∨ wl n (p - 1) = 16 ∨ wl n (p - 1) = 19 ∨ wl n (p - 1) = 20)) ∨ (wl n p = 19 ∧ E.2.2.1 / 2 % 2 = 1 ∧ wl n (p + 1) = 0 ∧ p ≠ 0) := by
      unfold bh
      by_cases z : p = 0
      · rw [if_pos z, if_neg (hp0 z)]
        omega
      · rw [if_neg z]
        by_cases y1 : wl n p = 8 ∧ E.2.2.1 % 2 = 1 ∧ (wl n (p - 1) = 3 ∨ wl n (p - 1) = 16 ∨ wl n (p - 1) = 19 ∨ wl n (p - 1) = 20)
        · rw [if_pos y1]
          omega
        · rw [if_neg y1]
          by_cases y2 : wl n p = 19 ∧ E.2.2.1 / 2 % 2 = 1 ∧ wl n (p + 1) = 0
          · rw [if_pos y2]
            omega
          · rw [if_neg y2]
            omega
    have no : ∀ l, ¬ (wl n p = 19 ∧ E.2.2.1 / 2 % 2 = 1 ∧ wl n (p + 1) = 0 ∧ p ≠ 0) → lget l 3 = some (.int (bI x)) → AW g mmX8_byHabit (ZP g (fun r h2 => r = some (.int (sec (bh E.2.2.1 n p))) ∧ h2 = h)) 95 l [] h := by
      intro l hq l3
      refine am_loc [(3, some (.int (bI x)))] (by simp only [List.map_cons, List.map_nil, l3]) ?_
      refine am_iconst (n := 96) (v := 0) dX8_byHabit_95 rfl rfl ?_
      refine am_istore (n := 98) dX8_byHabit_96 (Nat.le_of_ble_eq_true rfl) rfl rfl ?_
      refine t98 _ x false hb1 ?_ rfl rfl
      rw [hbe, hx1]
      constructor
      · rintro (q | q)
        · exact Or.inl q
        · exact absurd q hq
      · rintro (q | q)
        · exact Or.inl q
        · cases q
    refine am_aload_n (n := 58) (i := 0) dX8_byHabit_57 rfl rfl rfl ?_
    refine am_iload_n (n := 59) (i := 1) dX8_byHabit_58 rfl rfl rfl ?_
    refine am_iconst (n := 60) (v := 2) dX8_byHabit_59 rfl rfl ?_
    refine cdX8_byHabit_109 (n := 63) dX8_byHabit_60 (by first | exact ⟨rfl, rfl⟩ | assumption) (m_hasHabit g e 2 E h he R) rfl rfl (Nat.le_of_ble_eq_true rfl) (by first | assumption | exact isC_of (by decide +kernel)) rfl ?_
    by_cases q1 : nI E.2.2.1 &&& nI 2 = 0
    · rw [decide_eq_false (fun z => z q1)]
      refine am_if_eq (tgt := 95) (n := 66) dX8_byHabit_63 (by decide) rfl (fun _ => ?_) (fun q_z => absurd rfl q_z)
      exact no _ (fun q => (a2.mp q1) q.2.1) rfl
    · rw [decide_eq_true q1]
      refine am_if_eq (tgt := 95) (n := 66) dX8_byHabit_63 (by decide) rfl (fun q_z => absurd q_z (show ¬ (1 : Int32) = 0 by decide)) (fun _ => ?_)
      refine am_aload_n (n := 67) (i := 0) dX8_byHabit_66 rfl rfl rfl ?_
      refine gfX8_byHabit_29 (n := 70) dX8_byHabit_67 (by first | assumption | exact isC_of (by decide +kernel)) rfl ?_
      refine am_iload_n (n := 71) (i := 2) dX8_byHabit_70 rfl rfl rfl ?_
      refine am_iald (n := 72) dX8_byHabit_71 (by first | assumption | exact isC_of (by decide +kernel)) (by first | assumption | exact vp_in_nI (by omega) (by omega) | exact vp_in_iff.mpr (by decide)) rfl ?_
      rw [nI_clamp (by omega), hx]
      refine am_bipush (n := 74) (v := 18) dX8_byHabit_72 rfl rfl ?_
      by_cases q2 : wl n p = 19
      · refine am_icmp_ne (tgt := 95) (n := 77) dX8_byHabit_74 (by decide) rfl (fun q_z => absurd ((cmp 18 (by omega)).mpr q2) q_z) (fun _ => ?_)
        refine am_iload_n (n := 78) (i := 2) dX8_byHabit_77 rfl rfl rfl ?_
        refine am_aload_n (n := 79) (i := 0) dX8_byHabit_78 rfl rfl rfl ?_
        refine gfX8_byHabit_75 (n := 82) dX8_byHabit_79 (by first | assumption | exact isC_of (by decide +kernel)) rfl ?_
        rw [hW.1]
        refine am_iconst (n := 83) (v := 1) dX8_byHabit_82 rfl rfl ?_
        refine am_isub (n := 84) dX8_byHabit_83 rfl ?_
        rw [nI_m1 hn.2.2.2]
        by_cases q3 : p = wsz n - 1
        · refine am_icmp_ne (tgt := 95) (n := 87) dX8_byHabit_84 (by decide) rfl (fun q_z => absurd (by rw [← q3]) q_z) (fun _ => ?_)
          refine am_iload_n (n := 88) (i := 2) dX8_byHabit_87 rfl rfl rfl ?_
          by_cases q4 : p = 0
          · refine am_if_le (tgt := 95) (n := 91) dX8_byHabit_88 (by decide) rfl (fun _ => ?_) (fun q_z => absurd (by rw [q4]; decide) q_z)
            exact no _ (fun q => q.2.2.2 q4) rfl
          · refine am_if_le (tgt := 95) (n := 91) dX8_byHabit_88 (by decide) rfl (fun q_z => absurd q_z (fun z => absurd ((nI_leI (b := 0) (by omega) (by omega)).mp z) (by omega))) (fun _ => ?_)
            refine am_iconst (n := 92) (v := 1) dX8_byHabit_91 rfl rfl ?_
            refine am_goto (tgt := 96) dX8_byHabit_92 (by decide) ?_
            refine am_istore (n := 98) dX8_byHabit_96 (Nat.le_of_ble_eq_true rfl) rfl rfl ?_
            refine t98 _ x true hb1 ?_ rfl rfl
            rw [hbe]
            have h22 : E.2.2.1 / 2 % 2 = 1 := by
              by_cases z : E.2.2.1 / 2 % 2 = 1
              · exact z
              · exact absurd (a2.mpr z) q1
            exact ⟨fun _ => Or.inr rfl, fun _ => Or.inr ⟨q2, h22, hnext.mp q3, q4⟩⟩
        · refine am_icmp_ne (tgt := 95) (n := 87) dX8_byHabit_84 (by decide) rfl (fun _ => ?_) (fun q_z => absurd q_z (fun z => q3 ((nI_eq (by omega) (by omega)).mp z)))
          exact no _ (fun q => q3 (hnext.mpr q.2.2.1)) rfl
      · refine am_icmp_ne (tgt := 95) (n := 77) dX8_byHabit_74 (by decide) rfl (fun _ => ?_) (fun q_z => absurd q_z (fun q => q2 ((cmp 18 (by omega)).mp q)))
        exact no _ (fun q => q2 q.1) rfl
  -- the first habit
  have t23 : (p = 0 → ¬ E.2.2.1 / 4 % 2 = 1) → AW g mmX8_byHabit (ZP g (fun r h2 => r = some (.int (sec (bh E.2.2.1 n p))) ∧ h2 = h)) 23 [(0, some (.ref 40)), (1, some (.int (nI e))), (2, some (.int (nI p)))] [] h := by
    intro hp0
    have no : ¬ (wl n p = 8 ∧ E.2.2.1 % 2 = 1 ∧ p ≠ 0 ∧ (wl n (p - 1) = 3 ∨ wl n (p - 1) = 16 ∨ wl n (p - 1) = 19 ∨ wl n (p - 1) = 20)) → AW g mmX8_byHabit (ZP g (fun r h2 => r = some (.int (sec (bh E.2.2.1 n p))) ∧ h2 = h)) 55 [(0, some (.ref 40)), (1, some (.int (nI e))), (2, some (.int (nI p)))] [] h := by
      intro hq
      refine am_iconst (n := 56) (v := 0) dX8_byHabit_55 rfl rfl ?_
      refine am_istore_n (n := 57) (i := 3) dX8_byHabit_56 rfl (Nat.le_of_ble_eq_true rfl) rfl rfl ?_
      exact t57 _ false ⟨fun z => (by cases z), fun z => absurd z hq⟩ hp0 rfl rfl rfl rfl
    refine am_aload_n (n := 24) (i := 0) dX8_byHabit_23 rfl rfl rfl ?_
    refine am_iload_n (n := 25) (i := 1) dX8_byHabit_24 rfl rfl rfl ?_
    refine am_iconst (n := 26) (v := 1) dX8_byHabit_25 rfl rfl ?_
    refine cdX8_byHabit_109 (n := 29) dX8_byHabit_26 (by first | exact ⟨rfl, rfl⟩ | assumption) (m_hasHabit g e 1 E h he R) rfl rfl (Nat.le_of_ble_eq_true rfl) (by first | assumption | exact isC_of (by decide +kernel)) rfl ?_
    by_cases q1 : nI E.2.2.1 &&& nI 1 = 0
    · rw [decide_eq_false (fun z => z q1)]
      refine am_if_eq (tgt := 55) (n := 32) dX8_byHabit_29 (by decide) rfl (fun _ => ?_) (fun q_z => absurd rfl q_z)
      exact no (fun q => (a1.mp q1) q.2.1)
    · have h11 : E.2.2.1 % 2 = 1 := by
        by_cases z : E.2.2.1 % 2 = 1
        · exact z
        · exact absurd (a1.mpr z) q1
      rw [decide_eq_true q1]
      refine am_if_eq (tgt := 55) (n := 32) dX8_byHabit_29 (by decide) rfl (fun q_z => absurd q_z (show ¬ (1 : Int32) = 0 by decide)) (fun _ => ?_)
      refine am_aload_n (n := 33) (i := 0) dX8_byHabit_32 rfl rfl rfl ?_
      refine gfX8_byHabit_29 (n := 36) dX8_byHabit_33 (by first | assumption | exact isC_of (by decide +kernel)) rfl ?_
      refine am_iload_n (n := 37) (i := 2) dX8_byHabit_36 rfl rfl rfl ?_
      refine am_iald (n := 38) dX8_byHabit_37 (by first | assumption | exact isC_of (by decide +kernel)) (by first | assumption | exact vp_in_nI (by omega) (by omega) | exact vp_in_iff.mpr (by decide)) rfl ?_
      rw [nI_clamp (by omega), hx]
      refine am_bipush (n := 40) (v := 7) dX8_byHabit_38 rfl rfl ?_
      by_cases q2 : wl n p = 8
      · refine am_icmp_ne (tgt := 55) (n := 43) dX8_byHabit_40 (by decide) rfl (fun q_z => absurd ((cmp 7 (by omega)).mpr q2) q_z) (fun _ => ?_)
        refine am_aload_n (n := 44) (i := 0) dX8_byHabit_43 rfl rfl rfl ?_
        refine am_iload_n (n := 45) (i := 2) dX8_byHabit_44 rfl rfl rfl ?_
        refine cdX8_byHabit_113 (n := 48) dX8_byHabit_45 (by first | exact ⟨rfl, rfl⟩ | assumption) (m_isBehindOne g n p h hW hp) rfl rfl (Nat.le_of_ble_eq_true rfl) (by first | assumption | exact isC_of (by decide +kernel)) rfl ?_
        by_cases q3 : p ≠ 0 ∧ (wl n (p - 1) = 3 ∨ wl n (p - 1) = 16 ∨ wl n (p - 1) = 19 ∨ wl n (p - 1) = 20)
        · rw [decide_eq_true q3]
          refine am_if_eq (tgt := 55) (n := 51) dX8_byHabit_48 (by decide) rfl (fun q_z => absurd q_z (show ¬ (1 : Int32) = 0 by decide)) (fun _ => ?_)
          refine am_iconst (n := 52) (v := 1) dX8_byHabit_51 rfl rfl ?_
          refine am_goto (tgt := 56) dX8_byHabit_52 (by decide) ?_
          refine am_istore_n (n := 57) (i := 3) dX8_byHabit_56 rfl (Nat.le_of_ble_eq_true rfl) rfl rfl ?_
          exact t57 _ true ⟨fun _ => ⟨q2, h11, q3⟩, fun _ => rfl⟩ hp0 rfl rfl rfl rfl
        · rw [decide_eq_false q3]
          refine am_if_eq (tgt := 55) (n := 51) dX8_byHabit_48 (by decide) rfl (fun _ => ?_) (fun q_z => absurd rfl q_z)
          exact no (fun q => q3 q.2.2)
      · refine am_icmp_ne (tgt := 55) (n := 43) dX8_byHabit_40 (by decide) rfl (fun _ => ?_) (fun q_z => absurd q_z (fun q => q2 ((cmp 7 (by omega)).mp q)))
        exact no (fun q => q2 q.1)
  refine am_iload_n (n := 1) (i := 2) dX8_byHabit_0 rfl rfl rfl ?_
  by_cases z : p = 0
  · refine am_if_ne (tgt := 23) (n := 4) dX8_byHabit_1 (by decide) rfl (fun q_z => absurd (by rw [z]; rfl) q_z) (fun _ => ?_)
    refine am_aload_n (n := 5) (i := 0) dX8_byHabit_4 rfl rfl rfl ?_
    refine am_iload_n (n := 6) (i := 1) dX8_byHabit_5 rfl rfl rfl ?_
    refine am_iconst (n := 7) (v := 4) dX8_byHabit_6 rfl rfl ?_
    refine cdX8_byHabit_109 (n := 10) dX8_byHabit_7 (by first | exact ⟨rfl, rfl⟩ | assumption) (m_hasHabit g e 4 E h he R) rfl rfl (Nat.le_of_ble_eq_true rfl) (by first | assumption | exact isC_of (by decide +kernel)) rfl ?_
    by_cases q1 : nI E.2.2.1 &&& nI 4 = 0
    · rw [decide_eq_false (fun z => z q1)]
      refine am_if_eq (tgt := 23) (n := 13) dX8_byHabit_10 (by decide) rfl (fun _ => ?_) (fun q_z => absurd rfl q_z)
      exact t23 (fun _ => a4.mp q1)
    · have h44 : E.2.2.1 / 4 % 2 = 1 := by
        by_cases z : E.2.2.1 / 4 % 2 = 1
        · exact z
        · exact absurd (a4.mpr z) q1
      rw [decide_eq_true q1]
      refine am_if_eq (tgt := 23) (n := 13) dX8_byHabit_10 (by decide) rfl (fun q_z => absurd q_z (show ¬ (1 : Int32) = 0 by decide)) (fun _ => ?_)
      rw [z] at hx h0
      have hbv : bh E.2.2.1 n p = 10 + wl n 0 := by
        unfold bh
        rw [if_pos z, if_pos h44]
      rw [hbv]
      refine am_bipush (n := 15) (v := 10) dX8_byHabit_13 rfl rfl ?_
      refine am_aload_n (n := 16) (i := 0) dX8_byHabit_15 rfl rfl rfl ?_
      refine gfX8_byHabit_29 (n := 19) dX8_byHabit_16 (by first | assumption | exact isC_of (by decide +kernel)) rfl ?_
      refine am_iconst (n := 20) (v := 0) dX8_byHabit_19 rfl rfl ?_
      refine am_iald (n := 21) dX8_byHabit_20 (by first | assumption | exact isC_of (by decide +kernel)) (by first | assumption | exact vp_in_nI (by omega) (by omega) | exact vp_in_iff.mpr (by decide)) rfl ?_
      rw [show (0 : Int32).toNatClampNeg = 0 from rfl, hx]
      refine am_iadd (n := 22) dX8_byHabit_21 rfl ?_
      rw [show (10 : Int32) + nI (wl n 0 - 1) = nI (10 + (wl n 0 - 1)) from nI_add 10 _, sec_nI (by omega), show 10 + wl n 0 - 1 = 10 + (wl n 0 - 1) by omega]
      refine am_iret dX8_byHabit_22 rfl rfl ?_
      exact ⟨rfl, rfl⟩
  · refine am_if_ne (tgt := 23) (n := 4) dX8_byHabit_1 (by decide) rfl (fun _ => ?_) (fun q_z => absurd q_z (fun q => z ((nI_eq (b := 0) (by omega) (by omega)).mp q)))
    exact t23 (fun q => absurd q z)
