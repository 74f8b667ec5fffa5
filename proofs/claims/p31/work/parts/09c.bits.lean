/-! MASKS AND THEIR COUNTS; Integer.bitCount -/
theorem bt_orF {f : Nat → Int32} {m : Nat} : ∀ {n : Nat}, bt (orF f n) m = true ↔ ∃ i, i < n ∧ bt (f i) m = true := by
  intro n
  induction n with
  | zero =>
    show bt 0 m = true ↔ _
    rw [b_0]
    constructor
    · intro h
      cases h
    · rintro ⟨i, hi, -⟩
      omega
  | succ n ih =>
    rw [orF, b_or, Bool.or_eq_true, ih]
    constructor
    · rintro (⟨i, h1, h2⟩ | h)
      · exact ⟨i, by omega, h2⟩
      · exact ⟨n, by omega, h⟩
    · rintro ⟨i, h1, h2⟩
      by_cases z : i = n
      · subst z
        exact Or.inr h2
      · exact Or.inl ⟨i, by omega, h2⟩
theorem bt_s1 {l m : Nat} (hl : l < 32) : bt (sh1 l) m = decide (m = l) := by
  unfold bt
  rw [sh1_bv l hl, BitVec.getLsbD_twoPow]
  by_cases z : m = l
  · subst z
    simp [hl]
  · have : ¬ l = m := fun q => z q.symm
    simp [z, this]
/-- a set of numbers below n -/
def msk (p : Nat → Bool) (n : Nat) : Int32 := orF (fun i => if p i = true then sh1 i else 0) n
theorem bt_msk {p : Nat → Bool} {n m : Nat} (hn : n ≤ 32) : bt (msk p n) m = true ↔ m < n ∧ p m = true := by
  unfold msk
  rw [bt_orF]
  constructor
  · rintro ⟨i, h1, h2⟩
    by_cases hp : p i = true
    · rw [if_pos hp, bt_s1 (by omega)] at h2
      have := of_decide_eq_true h2
      subst this
      exact ⟨h1, hp⟩
    · rw [if_neg hp, b_0] at h2
      cases h2
  · rintro ⟨h1, h2⟩
    exact ⟨m, h1, by rw [if_pos h2, bt_s1 (by omega)]; exact decide_eq_true rfl⟩
theorem bt_ext {x y : Int32} (h : ∀ i, i < 32 → (bt x i = true ↔ bt y i = true)) : x = y := by
  refine b_ext (fun i hi => ?_)
  have := h i hi
  cases hx : bt x i <;> cases hy : bt y i <;> simp_all
theorem mkC_msk (cs : List (List Nat)) (c n : Nat) : mkC cs c n = msk (fun m => decide (c ∈ cN cs m)) n := by
  unfold mkC msk
  refine orF_cong (fun m _ => ?_)
  by_cases h : c ∈ cN cs m
  · rw [if_pos h, if_pos (decide_eq_true h)]
  · rw [if_neg h, if_neg (fun q => h (of_decide_eq_true q))]
/-- how many bits -/
def pc (x : Int32) : Nat := fb_ct (bt x) 32
theorem bt_nI {n i : Nat} (hi : i < 32) : bt (nI n) i = n.testBit i := by
  show (BitVec.ofNat 32 n).getLsbD i = _
  rw [BitVec.getLsbD_ofNat]
  simp [hi]
theorem and_sp (u m : Nat) : u &&& m = (u % 256 &&& m % 256) + 256 * (u / 256 &&& m / 256) := by
  have h1 : (u &&& m) % 2 ^ 8 = u % 2 ^ 8 &&& m % 2 ^ 8 := Nat.and_mod_two_pow
  have h2 : (u &&& m) / 2 ^ 8 = u / 2 ^ 8 &&& m / 2 ^ 8 := Nat.and_div_two_pow
  have := Nat.div_add_mod (u &&& m) (2 ^ 8)
  rw [h1, h2] at this
  rw [← this, show (2 : Nat) ^ 8 = 256 from rfl, Nat.add_comm]
def bc1 (a : Nat) : Nat := a - (a / 2 &&& 85)
def bc2 (a : Nat) : Nat := (bc1 a &&& 51) + (bc1 a / 4 &&& 51)
def bc3 (a : Nat) : Nat := (bc2 a + bc2 a / 16) % 16
theorem bc_a1 : ∀ a, a < 256 → ∀ e, e < 2 → (a / 2 + 128 * e) &&& 85 = a / 2 &&& 85 := by decide +kernel
theorem bc_b1 : ∀ a, a < 256 → (a / 2 &&& 85) ≤ a ∧ bc1 a < 256 := by decide +kernel
theorem bc_a2 : ∀ a, a < 256 → ∀ e, e < 4 → (a / 4 + 64 * e) &&& 51 = a / 4 &&& 51 := by decide +kernel
theorem bc_b2 : ∀ a, a < 256 → bc2 a ≤ 68 ∧ bc2 a / 16 ≤ 4 ∧ bc2 a % 16 ≤ 4 := by decide +kernel
theorem bc_b3 : ∀ a, a < 256 → bc3 a ≤ 8 ∧ bc3 a = fb_ct (fun i => a.testBit i) 8 := by decide +kernel
theorem bc_a3 : ∀ a, a < 256 → a &&& 15 = a % 16 := by decide +kernel
def bcN1 (n : Nat) : Nat := n - (n / 2 &&& 1431655765)
def bcN2 (n : Nat) : Nat := (bcN1 n &&& 858993459) + (bcN1 n / 4 &&& 858993459)
def bcN3 (n : Nat) : Nat := (bcN2 n + bcN2 n / 16) &&& 252645135
def bcN (n : Nat) : Nat := (bcN3 n + bcN3 n / 256 + (bcN3 n + bcN3 n / 256) / 65536) % 64
theorem bc_s0 {m m1 m2 m3 k : Nat} {a b c d : Nat} (h0 : m % 256 = k) (e1 : m / 256 = m1) (h1 : m1 % 256 = k) (e2 : m1 / 256 = m2) (h2 : m2 % 256 = k) (e3 : m2 / 256 = m3) (h3 : m3 = k) (ha : a < 256) (hb : b < 256) (hc : c < 256) : (a + 256 * b + 65536 * c + 16777216 * d) &&& m = (a &&& k) + 256 * (b &&& k) + 65536 * (c &&& k) + 16777216 * (d &&& k) := by
  rw [and_sp, h0, e1, show (a + 256 * b + 65536 * c + 16777216 * d) % 256 = a by omega, show (a + 256 * b + 65536 * c + 16777216 * d) / 256 = b + 256 * c + 65536 * d by omega]
  rw [and_sp (b + 256 * c + 65536 * d), h1, e2, show (b + 256 * c + 65536 * d) % 256 = b by omega, show (b + 256 * c + 65536 * d) / 256 = c + 256 * d by omega]
  rw [and_sp (c + 256 * d), h2, e3, h3, show (c + 256 * d) % 256 = c by omega, show (c + 256 * d) / 256 = d by omega]
  omega
theorem bc_s1 {a b c d : Nat} (ha : a < 256) (hb : b < 256) (hc : c < 256) (hd : d < 256) : (a + 256 * b + 65536 * c + 16777216 * d) / 2 &&& 1431655765 = (a / 2 &&& 85) + 256 * (b / 2 &&& 85) + 65536 * (c / 2 &&& 85) + 16777216 * (d / 2 &&& 85) := by
  rw [show (a + 256 * b + 65536 * c + 16777216 * d) / 2 = (a / 2 + 128 * (b % 2)) + 256 * (b / 2 + 128 * (c % 2)) + 65536 * (c / 2 + 128 * (d % 2)) + 16777216 * (d / 2) by omega]
  rw [bc_s0 (m := 1431655765) (k := 85) rfl rfl rfl rfl rfl rfl rfl (by omega) (by omega) (by omega), bc_a1 a ha _ (Nat.mod_lt _ (by decide)), bc_a1 b hb _ (Nat.mod_lt _ (by decide)), bc_a1 c hc _ (Nat.mod_lt _ (by decide))]
theorem bc_s2 {a b c d : Nat} (ha : a < 256) (hb : b < 256) (hc : c < 256) (hd : d < 256) : (a + 256 * b + 65536 * c + 16777216 * d) / 4 &&& 858993459 = (a / 4 &&& 51) + 256 * (b / 4 &&& 51) + 65536 * (c / 4 &&& 51) + 16777216 * (d / 4 &&& 51) := by
  rw [show (a + 256 * b + 65536 * c + 16777216 * d) / 4 = (a / 4 + 64 * (b % 4)) + 256 * (b / 4 + 64 * (c % 4)) + 65536 * (c / 4 + 64 * (d % 4)) + 16777216 * (d / 4) by omega]
  rw [bc_s0 (m := 858993459) (k := 51) rfl rfl rfl rfl rfl rfl rfl (by omega) (by omega) (by omega), bc_a2 a ha _ (Nat.mod_lt _ (by decide)), bc_a2 b hb _ (Nat.mod_lt _ (by decide)), bc_a2 c hc _ (Nat.mod_lt _ (by decide))]
theorem bc_all {a b c d : Nat} (ha : a < 256) (hb : b < 256) (hc : c < 256) (hd : d < 256) : bcN (a + 256 * b + 65536 * c + 16777216 * d) = bc3 a + bc3 b + bc3 c + bc3 d := by
  have a1 := bc_b1 a ha; have b1 := bc_b1 b hb; have c1 := bc_b1 c hc; have d1 := bc_b1 d hd
  have a2 := bc_b2 a ha; have b2 := bc_b2 b hb; have c2 := bc_b2 c hc; have d2 := bc_b2 d hd
  have a3 := (bc_b3 a ha).1; have b3 := (bc_b3 b hb).1; have c3 := (bc_b3 c hc).1; have d3 := (bc_b3 d hd).1
  have e1 : bcN1 (a + 256 * b + 65536 * c + 16777216 * d) = bc1 a + 256 * bc1 b + 65536 * bc1 c + 16777216 * bc1 d := by
    unfold bcN1
    rw [bc_s1 ha hb hc hd]
    unfold bc1
    omega
  have e2 : bcN2 (a + 256 * b + 65536 * c + 16777216 * d) = bc2 a + 256 * bc2 b + 65536 * bc2 c + 16777216 * bc2 d := by
    unfold bcN2
    rw [e1, bc_s2 a1.2 b1.2 c1.2 d1.2, bc_s0 (m := 858993459) (k := 51) rfl rfl rfl rfl rfl rfl rfl a1.2 b1.2 c1.2]
    unfold bc2
    omega
  have e3 : bcN3 (a + 256 * b + 65536 * c + 16777216 * d) = bc3 a + 256 * bc3 b + 65536 * bc3 c + 16777216 * bc3 d := by
    unfold bcN3
    rw [e2, show (bc2 a + 256 * bc2 b + 65536 * bc2 c + 16777216 * bc2 d) + (bc2 a + 256 * bc2 b + 65536 * bc2 c + 16777216 * bc2 d) / 16 = (bc2 a + bc2 a / 16 + 16 * (bc2 b % 16)) + 256 * (bc2 b + bc2 b / 16 + 16 * (bc2 c % 16)) + 65536 * (bc2 c + bc2 c / 16 + 16 * (bc2 d % 16)) + 16777216 * (bc2 d + bc2 d / 16) by omega]
    rw [bc_s0 (m := 252645135) (k := 15) rfl rfl rfl rfl rfl rfl rfl (by omega) (by omega) (by omega), bc_a3 _ (by omega), bc_a3 _ (by omega), bc_a3 _ (by omega), bc_a3 _ (by omega)]
    unfold bc3
    omega
  unfold bcN
  rw [e3]
  generalize bc3 a = p0 at a3
  generalize bc3 b = p1 at b3
  generalize bc3 c = p2 at c3
  generalize bc3 d = p3 at d3
  have q1 : (p0 + 256 * p1 + 65536 * p2 + 16777216 * p3) / 256 = p1 + 256 * p2 + 65536 * p3 := by omega
  rw [q1]
  have q2 : (p0 + 256 * p1 + 65536 * p2 + 16777216 * p3 + (p1 + 256 * p2 + 65536 * p3)) / 65536 = p2 + p3 + 256 * p3 := by omega
  rw [q2]
  omega
theorem bc_eq {n : Nat} (hn : n < 2 ^ 32) : bcN n = fb_ct (fun i => n.testBit i) 32 := by
  have hs : n = n % 256 + 256 * (n / 256 % 256) + 65536 * (n / 65536 % 256) + 16777216 * (n / 16777216) := by omega
  have e := bc_all (show n % 256 < 256 by omega) (show n / 256 % 256 < 256 by omega) (show n / 65536 % 256 < 256 by omega) (show n / 16777216 < 256 by omega)
  rw [← hs] at e
  rw [e, (bc_b3 _ (show n % 256 < 256 by omega)).2, (bc_b3 _ (show n / 256 % 256 < 256 by omega)).2, (bc_b3 _ (show n / 65536 % 256 < 256 by omega)).2, (bc_b3 _ (show n / 16777216 < 256 by omega)).2]
  rw [show (32 : Nat) = 8 + 24 from rfl, fb_ct_split, show (24 : Nat) = 8 + 16 from rfl, fb_ct_split, show (16 : Nat) = 8 + 8 from rfl, fb_ct_split]
  have t : ∀ (u k i : Nat), i < 8 → (u / 2 ^ k % 256).testBit i = u.testBit (k + i) := by
    intro u k i hi
    rw [show (256 : Nat) = 2 ^ 8 from rfl, Nat.testBit_mod_two_pow, Nat.testBit_div_two_pow]
    simp [hi, Nat.add_comm]
  rw [fb_ct_cong (p := fun i => (n % 256).testBit i) (q := fun i => n.testBit i) (fun i hi => by have := t n 0 i hi; simpa using this)]
  rw [fb_ct_cong (p := fun i => (n / 256 % 256).testBit i) (q := fun i => n.testBit (8 + i)) (fun i hi => t n 8 i hi)]
  rw [fb_ct_cong (p := fun i => (n / 65536 % 256).testBit i) (q := fun i => n.testBit (8 + (8 + i))) (fun i hi => by have := t n 16 i hi; rw [show 8 + (8 + i) = 16 + i by omega]; exact this)]
  rw [fb_ct_cong (p := fun i => (n / 16777216).testBit i) (q := fun i => n.testBit (8 + (8 + (8 + i)))) (fun i hi => by rw [show 8 + (8 + (8 + i)) = 24 + i by omega, show (16777216 : Nat) = 2 ^ 24 from rfl, Nat.testBit_div_two_pow, Nat.add_comm])]
  omega
theorem bc_nI {n : Nat} (hn : n < 2 ^ 32) : bcN1 n < 2 ^ 32 ∧ bcN2 n < 2 ^ 32 ∧ bcN3 n < 2 ^ 31 := by
  have hs : n = n % 256 + 256 * (n / 256 % 256) + 65536 * (n / 65536 % 256) + 16777216 * (n / 16777216) := by omega
  refine ⟨Nat.lt_of_le_of_lt (Nat.sub_le _ _) hn, ?_, ?_⟩
  · unfold bcN2
    have h1 := Nat.and_le_right (n := bcN1 n) (m := 858993459)
    have h2 := Nat.and_le_right (n := bcN1 n / 4) (m := 858993459)
    omega
  · unfold bcN3
    have h1 := Nat.and_le_right (n := bcN2 n + bcN2 n / 16) (m := 252645135)
    omega
set_option maxRecDepth 100000 in
set_option maxHeartbeats 400000 in
theorem ac_bitCount (g : Gx) (x : Int32) (h : Hp) : AD g yJ6_bitCount_0f7a4 wsJ6_bitCount_0f7a4 rmJ6_bitCount_0f7a4 [.int x] h (some (.int (nI (pc x)))) h := by
  obtain ⟨n, hn, rfl⟩ := wb_of32 x
  obtain ⟨n1, n2, n3⟩ := bc_nI hn
  have hp : pc (nI n) = bcN n := by
    rw [bc_eq hn]
    exact fb_ct_cong (fun i hi => bt_nI hi)
  rw [hp]
  have hle : n / 2 &&& 1431655765 ≤ n := Nat.le_trans Nat.and_le_left (Nat.div_le_self _ _)
  refine AC.of (cc := cJ6_bitCount_0f7a4) (maxL := 1) (ret := (some .int)) (by decide +kernel) rfl (Nat.le_of_ble_eq_true rfl) ?_
  show AW g mmJ6_bitCount_0f7a4 _ 0 [(0, some (.int (nI n)))] [] _
  refine am_iload_n (n := 1) (i := 0) dJ6_bitCount_0f7a4_0 rfl rfl rfl ?_
  refine am_iload_n (n := 2) (i := 0) dJ6_bitCount_0f7a4_1 rfl rfl rfl ?_
  refine am_iconst (n := 3) (v := 1) dJ6_bitCount_0f7a4_2 rfl rfl ?_
  refine am_iushr (n := 4) dJ6_bitCount_0f7a4_3 rfl ?_
  rw [pk_ushrN hn 1 1 (by decide)]
  refine am_ldcw (n := 7) (v := 1431655765) dJ6_bitCount_0f7a4_4 (by decide +kernel) rfl ?_
  refine am_iand (n := 8) dJ6_bitCount_0f7a4_7 rfl ?_
  rw [show nI (n / 2 ^ 1) &&& 1431655765 = nI (n / 2 &&& 1431655765) from nx_and (n / 2) 1431655765]
  refine am_isub (n := 9) dJ6_bitCount_0f7a4_8 rfl ?_
  rw [pk_sub hle, show n - (n / 2 &&& 1431655765) = bcN1 n from rfl]
  refine am_istore_n (n := 10) (i := 0) dJ6_bitCount_0f7a4_9 rfl (Nat.le_of_ble_eq_true rfl) rfl rfl ?_
  refine am_iload_n (n := 11) (i := 0) dJ6_bitCount_0f7a4_10 rfl rfl rfl ?_
  refine am_ldcw (n := 14) (v := 858993459) dJ6_bitCount_0f7a4_11 (by decide +kernel) rfl ?_
  refine am_iand (n := 15) dJ6_bitCount_0f7a4_14 rfl ?_
  rw [show nI (bcN1 n) &&& 858993459 = nI (bcN1 n &&& 858993459) from nx_and (bcN1 n) 858993459]
  refine am_iload_n (n := 16) (i := 0) dJ6_bitCount_0f7a4_15 rfl rfl rfl ?_
  refine am_iconst (n := 17) (v := 2) dJ6_bitCount_0f7a4_16 rfl rfl ?_
  refine am_iushr (n := 18) dJ6_bitCount_0f7a4_17 rfl ?_
  rw [pk_ushrN n1 2 2 (by decide)]
  refine am_ldcw (n := 21) (v := 858993459) dJ6_bitCount_0f7a4_18 (by decide +kernel) rfl ?_
  refine am_iand (n := 22) dJ6_bitCount_0f7a4_21 rfl ?_
  rw [show nI (bcN1 n / 2 ^ 2) &&& 858993459 = nI (bcN1 n / 4 &&& 858993459) from nx_and (bcN1 n / 4) 858993459]
  refine am_iadd (n := 23) dJ6_bitCount_0f7a4_22 rfl ?_
  rw [nI_add, show (bcN1 n &&& 858993459) + (bcN1 n / 4 &&& 858993459) = bcN2 n from rfl]
  refine am_istore_n (n := 24) (i := 0) dJ6_bitCount_0f7a4_23 rfl (Nat.le_of_ble_eq_true rfl) rfl rfl ?_
  refine am_iload_n (n := 25) (i := 0) dJ6_bitCount_0f7a4_24 rfl rfl rfl ?_
  refine am_iload_n (n := 26) (i := 0) dJ6_bitCount_0f7a4_25 rfl rfl rfl ?_
  refine am_iconst (n := 27) (v := 4) dJ6_bitCount_0f7a4_26 rfl rfl ?_
  refine am_iushr (n := 28) dJ6_bitCount_0f7a4_27 rfl ?_
  rw [pk_ushrN n2 4 4 (by decide)]
  refine am_iadd (n := 29) dJ6_bitCount_0f7a4_28 rfl ?_
  rw [nI_add]
  refine am_ldcw (n := 32) (v := 252645135) dJ6_bitCount_0f7a4_29 (by decide +kernel) rfl ?_
  refine am_iand (n := 33) dJ6_bitCount_0f7a4_32 rfl ?_
  rw [show nI (bcN2 n + bcN2 n / 2 ^ 4) &&& 252645135 = nI (bcN3 n) from nx_and (bcN2 n + bcN2 n / 16) 252645135]
  refine am_istore_n (n := 34) (i := 0) dJ6_bitCount_0f7a4_33 rfl (Nat.le_of_ble_eq_true rfl) rfl rfl ?_
  refine am_iload_n (n := 35) (i := 0) dJ6_bitCount_0f7a4_34 rfl rfl rfl ?_
  refine am_iload_n (n := 36) (i := 0) dJ6_bitCount_0f7a4_35 rfl rfl rfl ?_
  refine am_bipush (n := 38) (v := 8) dJ6_bitCount_0f7a4_36 rfl rfl ?_
  refine am_iushr (n := 39) dJ6_bitCount_0f7a4_38 rfl ?_
  rw [pk_ushrN (by omega) 8 8 (by decide)]
  refine am_iadd (n := 40) dJ6_bitCount_0f7a4_39 rfl ?_
  rw [nI_add]
  refine am_istore_n (n := 41) (i := 0) dJ6_bitCount_0f7a4_40 rfl (Nat.le_of_ble_eq_true rfl) rfl rfl ?_
  refine am_iload_n (n := 42) (i := 0) dJ6_bitCount_0f7a4_41 rfl rfl rfl ?_
  refine am_iload_n (n := 43) (i := 0) dJ6_bitCount_0f7a4_42 rfl rfl rfl ?_
  refine am_bipush (n := 45) (v := 16) dJ6_bitCount_0f7a4_43 rfl rfl ?_
  refine am_iushr (n := 46) dJ6_bitCount_0f7a4_45 rfl ?_
  rw [pk_ushrN (by omega) 16 16 (by decide)]
  refine am_iadd (n := 47) dJ6_bitCount_0f7a4_46 rfl ?_
  rw [nI_add]
  refine am_istore_n (n := 48) (i := 0) dJ6_bitCount_0f7a4_47 rfl (Nat.le_of_ble_eq_true rfl) rfl rfl ?_
  refine am_iload_n (n := 49) (i := 0) dJ6_bitCount_0f7a4_48 rfl rfl rfl ?_
  refine am_bipush (n := 51) (v := 63) dJ6_bitCount_0f7a4_49 rfl rfl ?_
  refine am_iand (n := 52) dJ6_bitCount_0f7a4_51 rfl ?_
  rw [show nI (bcN3 n + bcN3 n / 2 ^ 8 + (bcN3 n + bcN3 n / 2 ^ 8) / 2 ^ 16) &&& 63 = nI (bcN n) from fa_mask _ 6]
  refine am_iret dJ6_bitCount_0f7a4_52 rfl rfl ?_
  exact ⟨rfl, rfl⟩
