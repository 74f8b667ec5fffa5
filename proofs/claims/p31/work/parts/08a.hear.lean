/-! HEARING: what an ear makes of a word -/
def VW (n : Nat) : Prop := n < 2 ^ 50 ∧ (∀ p, wl n p ≤ 26) ∧ (∀ p, wsz n ≤ p → wl n p = 0) ∧ 1 ≤ wsz n
def bh (hab n p : Nat) : Nat :=
  if p = 0 then (if hab / 4 % 2 = 1 then 10 + wl n 0 else 0)
  else if wl n p = 8 ∧ hab % 2 = 1 ∧ (wl n (p - 1) = 3 ∨ wl n (p - 1) = 16 ∨ wl n (p - 1) = 19 ∨ wl n (p - 1) = 20) then 1
  else if wl n p = 19 ∧ hab / 2 % 2 = 1 ∧ wl n (p + 1) = 0 then 1
  else 0
def hvS (E : EV) (n v p o : Nat) : Nat :=
  if bh E.2.2.1 n p = 0 then (if E.2.1 (wl n p - 1) ≠ 0 ∧ v / 2 ^ o % 2 = 1 then E.2.1 (wl n p - 1) - 1 else E.1 (wl n p - 1)) else bh E.2.2.1 n p - 1
def opn (E : EV) (n p : Nat) : Nat := if bh E.2.2.1 n p = 0 ∧ E.2.1 (wl n p - 1) ≠ 0 then 1 else 0
def hs (E : EV) (L n v : Nat) : Nat → Nat × Nat × Nat × Nat
  | 0 => (0, 0, 0, 0)
  | p + 1 => (if hvS E n v p (hs E L n v p).2.2.2 ≠ 0 ∧ hvS E n v p (hs E L n v p).2.2.2 ≠ (hs E L n v p).2.2.1 ∧ (hs E L n v p).2.1 < L then 64 * (hs E L n v p).1 + hvS E n v p (hs E L n v p).2.2.2 else (hs E L n v p).1,
      if hvS E n v p (hs E L n v p).2.2.2 ≠ 0 ∧ hvS E n v p (hs E L n v p).2.2.2 ≠ (hs E L n v p).2.2.1 ∧ (hs E L n v p).2.1 < L then (hs E L n v p).2.1 + 1 else (hs E L n v p).2.1,
      hvS E n v p (hs E L n v p).2.2.2, (hs E L n v p).2.2.2 + opn E n p)
/-- the code of a word by a way -/
def cw (E : EV) (L n v : Nat) : Nat := (hs E L n v (wsz n)).1
theorem lt_eq : ∀ w, w < 64 → ∀ c, c < 31 → (nI w - 1 = nI c ↔ w = c + 1) := by decide +kernel
theorem lt_m1 : ∀ w, w < 64 → (nI w - 1 = -1 ↔ w = 0) := by decide +kernel
theorem lt_isl : ∀ w, w < 27 → bI (decide (0 ≤ nI w - 1) && decide (nI w - 1 < 26)) = bI (decide (w ≠ 0)) := by decide +kernel
theorem hab_4 : ∀ a, a < 8 → (nI a &&& 4 = 0 ↔ ¬ a / 4 % 2 = 1) := by decide +kernel
theorem hab_2 : ∀ a, a < 8 → (nI a &&& 2 = 0 ↔ ¬ a / 2 % 2 = 1) := by decide +kernel
theorem hab_1 : ∀ a, a < 8 → (nI a &&& 1 = 0 ↔ ¬ a % 2 = 1) := by decide +kernel
theorem bh_le {hab n p : Nat} (hn : ∀ p, wl n p ≤ 26) : bh hab n p ≤ 36 := by
  have := hn 0
  unfold bh
  repeat' split
  all_goals omega
theorem hvS_le {E : EV} {n v p o : Nat} (hV : VE E) (hn : ∀ p, wl n p ≤ 26) (hp : 0 < wl n p) : hvS E n v p o ≤ 35 := by
  have h1 := bh_le (hab := E.2.2.1) (p := p) hn
  have h2 := hV.1 (wl n p - 1) (by have := hn p; omega)
  unfold hvS
  repeat' split
  all_goals omega
theorem hs_inv {E : EV} {L n v : Nat} (hV : VE E) (hn : VW n) : ∀ p, p ≤ wsz n → (hs E L n v p).1 < 64 ^ (hs E L n v p).2.1 ∧ (hs E L n v p).2.1 ≤ L ∧ (hs E L n v p).2.2.1 ≤ 35 := by
  intro p
  induction p with
  | zero =>
    intro _
    show 0 < 64 ^ 0 ∧ 0 ≤ L ∧ 0 ≤ 35
    omega
  | succ p ih =>
    intro hp
    obtain ⟨i1, i2, i3⟩ := ih (by omega)
    have hx := hvS_le (v := v) (o := (hs E L n v p).2.2.2) hV hn.2.1 (wsz_in (show p < wsz n by omega))
    show (if _ then _ else _) < 64 ^ (if _ then _ else _) ∧ (if _ then _ else _) ≤ L ∧ _
    by_cases c : hvS E n v p (hs E L n v p).2.2.2 ≠ 0 ∧ hvS E n v p (hs E L n v p).2.2.2 ≠ (hs E L n v p).2.2.1 ∧ (hs E L n v p).2.1 < L
    · rw [if_pos c, if_pos c, Nat.pow_succ]
      exact ⟨by omega, by omega, hx⟩
    · rw [if_neg c, if_neg c]
      exact ⟨i1, i2, hx⟩
theorem hs_stop {E : EV} {L n v p : Nat} (h : ¬ (hs E L n v p).2.1 < L) : ∀ d, (hs E L n v (p + d)).1 = (hs E L n v p).1 ∧ (hs E L n v (p + d)).2.1 = (hs E L n v p).2.1 := by
  intro d
  induction d with
  | zero => exact ⟨rfl, rfl⟩
  | succ d ih =>
    have c : ¬ (hvS E n v (p + d) (hs E L n v (p + d)).2.2.2 ≠ 0 ∧ hvS E n v (p + d) (hs E L n v (p + d)).2.2.2 ≠ (hs E L n v (p + d)).2.2.1 ∧ (hs E L n v (p + d)).2.1 < L) := by
      rintro ⟨-, -, q⟩
      rw [ih.2] at q
      exact h q
    rw [show p + (d + 1) = (p + d) + 1 from rfl]
    constructor
    · show (if _ then _ else _) = _
      rw [if_neg c]
      exact ih.1
    · show (if _ then _ else _) = _
      rw [if_neg c]
      exact ih.2
theorem cw_stop {E : EV} {L n v p : Nat} (hp : p ≤ wsz n) (h : ¬ (hs E L n v p).2.1 < L) : cw E L n v = (hs E L n v p).1 := by
  have := (hs_stop h (wsz n - p)).1
  rw [show p + (wsz n - p) = wsz n by omega] at this
  exact this
/-- the open letters among the first p -/
def oc (E : EV) (n p : Nat) : Nat := (hs E 0 n 0 p).2.2.2
theorem oc_succ (E : EV) (n p : Nat) : oc E n (p + 1) = oc E n p + opn E n p := rfl
theorem hs_oc (E : EV) (L n v p : Nat) : (hs E L n v p).2.2.2 = oc E n p := by
  induction p with
  | zero => rfl
  | succ p ih =>
    rw [oc_succ, ← ih]
    rfl
theorem opn_le (E : EV) (n p : Nat) : opn E n p ≤ 1 := by
  unfold opn
  split <;> omega
theorem oc_mono (E : EV) (n p d : Nat) : oc E n p ≤ oc E n (p + d) := by
  induction d with
  | zero => exact Nat.le_refl _
  | succ d ih => exact Nat.le_trans ih (by rw [show p + (d + 1) = (p + d) + 1 from rfl, oc_succ]; omega)
/-- a way's bits matter only for open letters -/
theorem hs_way {E : EV} {L n v v' : Nat} : ∀ p, (∀ o, o < oc E n p → v / 2 ^ o % 2 = v' / 2 ^ o % 2) → hs E L n v p = hs E L n v' p := by
  intro p
  induction p with
  | zero => intro _; rfl
  | succ p ih =>
    intro h
    have e := ih (fun o ho => h o (Nat.lt_of_lt_of_le ho (oc_mono E n p 1)))
    have ex : hvS E n v p (hs E L n v p).2.2.2 = hvS E n v' p (hs E L n v' p).2.2.2 := by
      rw [e, hs_oc]
      unfold hvS
      by_cases b : bh E.2.2.1 n p = 0
      · rw [if_pos b, if_pos b]
        by_cases s : E.2.1 (wl n p - 1) = 0
        · rw [if_neg (fun q => q.1 s), if_neg (fun q => q.1 s)]
        · have ho : oc E n p < oc E n (p + 1) := by
            rw [oc_succ]
            unfold opn
            rw [if_pos ⟨b, s⟩]
            omega
          rw [h _ ho]
      · rw [if_neg b, if_neg b]
    show (_, _, _, _) = (_, _, _, _)
    rw [ex, e]
def wy (o : Nat) : Nat := if o = 0 then 1 else if o = 1 then 2 else 4
/-- each of the first n values once, in their order -/
def dd (f : Nat → Nat) : Nat → List Nat
  | 0 => []
  | n + 1 => if f n ∈ dd f n then dd f n else dd f n ++ [f n]
theorem dd_mem {f : Nat → Nat} {x : Nat} : ∀ {n : Nat}, x ∈ dd f n ↔ ∃ i, i < n ∧ f i = x := by
  intro n
  induction n with
  | zero => simp [dd]
  | succ n ih =>
    unfold dd
    by_cases c : f n ∈ dd f n
    · rw [if_pos c, ih]
      constructor
      · rintro ⟨i, h1, h2⟩
        exact ⟨i, by omega, h2⟩
      · rintro ⟨i, h1, h2⟩
        by_cases z : i = n
        · subst z
          obtain ⟨j, j1, j2⟩ := ih.mp (h2 ▸ c)
          exact ⟨j, j1, j2⟩
        · exact ⟨i, by omega, h2⟩
    · rw [if_neg c, List.mem_append, ih]
      constructor
      · rintro (⟨i, h1, h2⟩ | h)
        · exact ⟨i, by omega, h2⟩
        · exact ⟨n, by omega, (List.mem_singleton.mp h).symm⟩
      · rintro ⟨i, h1, h2⟩
        by_cases z : i = n
        · subst z
          exact Or.inr (List.mem_singleton.mpr h2.symm)
        · exact Or.inl ⟨i, by omega, h2⟩
theorem dd_le (f : Nat → Nat) : ∀ n, (dd f n).length ≤ n := by
  intro n
  induction n with
  | zero => exact Nat.le_refl _
  | succ n ih =>
    unfold dd
    split
    · omega
    · rw [List.length_append]
      simp
      exact ih
theorem dd_same {f : Nat → Nat} {n : Nat} (h : ∃ i, i < n ∧ f i = f n) : dd f (n + 1) = dd f n := by
  rw [dd, if_pos (dd_mem.mpr h)]
/-- the codes of a word -/
def codes (E : EV) (L n : Nat) : List Nat := dd (cw E L n) 4
theorem codes_wy (E : EV) (L n : Nat) : dd (cw E L n) (wy (oc E n (wsz n))) = codes E L n := by
  unfold codes wy
  have key : ∀ v v', (∀ o, o < oc E n (wsz n) → v / 2 ^ o % 2 = v' / 2 ^ o % 2) → cw E L n v = cw E L n v' := fun v v' h => by
    unfold cw
    rw [hs_way (wsz n) h]
  by_cases c0 : oc E n (wsz n) = 0
  · rw [if_pos c0]
    have e : ∀ v, cw E L n 0 = cw E L n v := fun v => key 0 v (fun o ho => by omega)
    rw [dd_same (n := 3) ⟨0, by omega, e 3⟩, dd_same (n := 2) ⟨0, by omega, e 2⟩, dd_same (n := 1) ⟨0, by omega, e 1⟩]
  · rw [if_neg c0]
    by_cases c1 : oc E n (wsz n) = 1
    · rw [if_pos c1]
      have e2 : cw E L n 0 = cw E L n 2 := key 0 2 (fun o ho => by rw [show o = 0 by omega])
      have e3 : cw E L n 1 = cw E L n 3 := key 1 3 (fun o ho => by rw [show o = 0 by omega])
      rw [dd_same (n := 3) ⟨1, by omega, e3⟩, dd_same (n := 2) ⟨0, by omega, e2⟩]
    · rw [if_neg c1]
