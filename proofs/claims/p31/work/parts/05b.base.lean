/-! BASE: loops, words (a name in one number, base 32), masks -/
theorem loop_up {Wp : Nat → Prop} (N : Nat) (hend : Wp N) (hstep : ∀ i, i < N → Wp (i + 1) → Wp i) : ∀ i, i ≤ N → Wp i := by
  intro i hi
  obtain ⟨d, hd⟩ : ∃ d, d = N - i := ⟨_, rfl⟩
  induction d generalizing i with
  | zero =>
    rw [show i = N by omega]
    exact hend
  | succ d ih => exact hstep i (by omega) (ih (i + 1) (by omega) (by omega))
theorem ad_v {v v' : Option Value} {h h' : Hp} (e : v = v') (e2 : h = h') : v = v' ∧ h = h' := ⟨e, e2⟩
def bI (b : Bool) : Int32 := if b then 1 else 0
theorem bI_t {b : Bool} (h : b = true) : bI b = 1 := by rw [h]; rfl
theorem bI_f {b : Bool} (h : b = false) : bI b = 0 := by rw [h]; rfl
theorem bI_z {b : Bool} : bI b = 0 ↔ b = false := by cases b <;> decide
theorem bI_nz {b : Bool} : ¬ bI b = 0 ↔ b = true := by cases b <;> decide
/-- the letter at a place, and 1; 0 behind the end -/
def wl (n p : Nat) : Nat := n / 32 ^ p % 32
def wsz (n : Nat) : Nat := fa_first (fun p => Nat.beq (wl n p) 0) 10
theorem wl_lt (n p : Nat) : wl n p < 32 := Nat.mod_lt _ (by decide)
theorem wl_big {n p : Nat} (hn : n < 2 ^ 50) (hp : 10 ≤ p) : wl n p = 0 := by
  unfold wl
  have h1 : (32 : Nat) ^ 10 ≤ 32 ^ p := Nat.pow_le_pow_right (by decide) hp
  rw [Nat.div_eq_of_lt (Nat.lt_of_lt_of_le (by simpa using hn) h1)]
theorem wsz_le (n : Nat) : wsz n ≤ 10 := fa_first_le _ _
theorem wsz_in {n p : Nat} (h : p < wsz n) : 0 < wl n p := by
  have := fa_first_no (fun p => Nat.beq (wl n p) 0) 10 p h
  rcases Nat.eq_zero_or_pos (wl n p) with z | z
  · rw [z] at this
    cases this
  · exact z
theorem wsz_out {n : Nat} (h : wsz n < 10) : wl n (wsz n) = 0 := Nat.eq_of_beq_eq_true (fa_first_yes (fun p => Nat.beq (wl n p) 0) 10 h)
/-- the machine's way to the letter at a place -/
theorem wl_m {n p : Nat} (hn : n < 2 ^ 50) (hp : p < 10) : ((((lN n).toUInt64 >>> (((5 : Int32) * nI p).toInt64.toUInt64 &&& Int64.toUInt64 63)).toInt64 &&& 31).toInt32 - 1) = nI (wl n p) - 1 := by
  have e1 : (5 : Int32) * nI p = nI (5 * p) := (pk_mul 5 p)
  rw [e1, wb_shr (by omega) (by omega), show (31 : Int64) = lN (2 ^ 5 - 1) from rfl, wb_mask (Nat.lt_of_le_of_lt (Nat.div_le_self _ _) (by omega)) (by decide), lN_i]
  unfold wl
  rw [Nat.pow_mul]
def orF (f : Nat → Int32) : Nat → Int32
  | 0 => 0
  | n + 1 => orF f n ||| f n
def sh1 (l : Nat) : Int32 := (1 : Int32) <<< (nI l &&& 31)
/-- the letters of a name, as a set -/
def wset (n : Nat) : Int32 := orF (fun p => sh1 (wl n p - 1)) (wsz n)
theorem or_0 (x : Int32) : x ||| 0 = x := Int32.or_zero
/-- a code in one number, base 64, the last number lowest -/
def csz (c : Nat) : Nat := fa_first (fun z => Nat.beq (c / 64 ^ z) 0) 5
def cdg (c p : Nat) : Nat := c / 64 ^ (csz c - 1 - p) % 64
theorem csz_le (c : Nat) : csz c ≤ 5 := fa_first_le _ _
theorem csz_in {c p : Nat} (h : p < csz c) : 0 < c / 64 ^ p := by
  have := fa_first_no (fun z => Nat.beq (c / 64 ^ z) 0) 5 p h
  rcases Nat.eq_zero_or_pos (c / 64 ^ p) with z | z
  · rw [z] at this
    cases this
  · exact z
theorem csz_out {c : Nat} (h : csz c < 5) : c / 64 ^ csz c = 0 := Nat.eq_of_beq_eq_true (fa_first_yes (fun z => Nat.beq (c / 64 ^ z) 0) 5 h)
theorem cd_ush {c p : Nat} (hc : c < 2 ^ 30) (hp : p < 5) : ((nI c).toUInt32 >>> (((6 : Int32) * nI p).toUInt32 &&& Int32.toUInt32 31)).toInt32 = nI (c / 64 ^ p) := by
  have e1 : (6 : Int32) * nI p = nI (6 * p) := (pk_mul 6 p)
  rw [e1, pk_ushrN (by omega) _ (6 * p) (s_u (6 * p) (by omega)), Nat.pow_mul]
theorem cd_with {c x : Nat} (hc : c < 2 ^ 24) (hx : x < 64) : (nI c <<< ((6 : Int32) &&& 31)) ||| nI x = nI (64 * c + x) := by
  rw [pk_shlN _ 6 (by decide) (by omega), show c * 2 ^ 6 = 2 ^ 6 * c from Nat.mul_comm _ _, fa_or_sum c (by omega)]
theorem cd_63 {n : Nat} : nI n &&& 63 = nI (n % 64) := fa_mask n 6
theorem nI_m1 {w : Nat} (h : 0 < w) : nI w - 1 = nI (w - 1) := by
  obtain ⟨d, hd⟩ : ∃ d, w = d + 1 := ⟨w - 1, by omega⟩
  rw [hd, nI_pred, Nat.add_sub_cancel]
