/-! EARS: what an ear is -/
abbrev EV : Type := (Nat → Nat) × (Nat → Nat) × Nat × List (Nat × Nat × Int32 × Int32)
def sec (s : Nat) : Int32 := if s = 0 then -6 else nI (s - 1)
def isEar (k : Nat) : Prop := isC k 1 0 ∧ isC (k + 1) 8 26 ∧ isC (k + 2) 8 26 ∧ isC (k + 3) 8 6 ∧ isC (k + 4) 8 6 ∧ isC (k + 5) 8 6 ∧ isC (k + 6) 8 6
def VE (E : EV) : Prop := (∀ l, l < 26 → E.1 l ≤ 9 ∧ E.2.1 l ≤ 10 ∧ E.2.1 l ≠ E.1 l + 1) ∧ E.2.2.1 ≤ 7 ∧ E.2.2.2.length ≤ 6 ∧ ∀ q ∈ E.2.2.2, q.1 ≤ 9 ∧ q.2.1 ≤ 9
def RE (k : Nat) (E : EV) (h : Hp) : Prop := (∀ l, l < 26 → h.1 (k + 1) l = nI (E.1 l) ∧ h.1 (k + 2) l = sec (E.2.1 l)) ∧ h.1 k 2 = nI E.2.2.1 ∧ h.1 k 3 = nI E.2.2.2.length ∧ ∀ j q, E.2.2.2[j]? = some q → h.1 (k + 3) j = nI q.1 ∧ h.1 (k + 4) j = nI q.2.1 ∧ h.1 (k + 5) j = q.2.2.1 ∧ h.1 (k + 6) j = q.2.2.2
/-- only the cells from lo to hi have changed, and only numbers -/
def FrI (lo hi : Nat) (h h' : Hp) : Prop := (∀ c, (c < lo ∨ hi < c) → h'.1 c = h.1 c) ∧ h'.2 = h.2
theorem FrI.rf {lo hi : Nat} {h : Hp} : FrI lo hi h h := ⟨fun _ _ => rfl, rfl⟩
theorem FrI.tr {lo hi : Nat} {h h1 h2 : Hp} (a : FrI lo hi h h1) (b : FrI lo hi h1 h2) : FrI lo hi h h2 := ⟨fun c hc => (b.1 c hc).trans (a.1 c hc), b.2.trans a.2⟩
theorem setI_1 (h : Hp) (k : Nat) (r : Nat → Int32) (c : Nat) : (setI h k r).1 c = if c = k then r else h.1 c := rfl
theorem setI_2 (h : Hp) (k : Nat) (r : Nat → Int32) : (setI h k r).2 = h.2 := rfl
theorem setI_s (h : Hp) (k : Nat) (r : Nat → Int32) : (setI h k r).1 k = r := by rw [setI_1, if_pos rfl]
theorem setI_n (h : Hp) {k c : Nat} (r : Nat → Int32) (hc : c ≠ k) : (setI h k r).1 c = h.1 c := by rw [setI_1, if_neg hc]
theorem FrI.set {lo hi k : Nat} {h h1 : Hp} (a : FrI lo hi h h1) (r : Nat → Int32) (h1k : lo ≤ k) (h2k : k ≤ hi) : FrI lo hi h (setI h1 k r) := ⟨fun c hc => (setI_n _ _ (show c ≠ k by omega)).trans (a.1 c hc), a.2⟩
theorem FrI.wide {lo hi lo' hi' : Nat} {h h' : Hp} (a : FrI lo hi h h') (h1 : lo' ≤ lo) (h2 : hi ≤ hi') : FrI lo' hi' h h' := ⟨fun c hc => a.1 c (by omega), a.2⟩
theorem RE.kept {k : Nat} {E : EV} {h h' : Hp} (r : RE k E h) (f : ∀ c, k ≤ c → c ≤ k + 6 → h'.1 c = h.1 c) : RE k E h' := by
  obtain ⟨r1, r2, r3, r4⟩ := r
  refine ⟨fun l hl => ?_, ?_, ?_, fun j q hj => ?_⟩
  · rw [f (k + 1) (by omega) (by omega), f (k + 2) (by omega) (by omega)]
    exact r1 l hl
  · rw [f k (by omega) (by omega)]
    exact r2
  · rw [f k (by omega) (by omega)]
    exact r3
  · rw [f (k + 3) (by omega) (by omega), f (k + 4) (by omega) (by omega), f (k + 5) (by omega) (by omega), f (k + 6) (by omega) (by omega)]
    exact r4 j q hj
theorem sec_0 : sec 0 = -6 := rfl
theorem sec_nI {s : Nat} (h : 0 < s) : sec s = nI (s - 1) := by
  unfold sec
  rw [if_neg (by omega)]
theorem sec_none {s : Nat} (hs : s ≤ 10) : sec s = -6 ↔ s = 0 := by
  constructor
  · intro e
    rcases Nat.eq_zero_or_pos s with z | z
    · exact z
    · rw [sec_nI z] at e
      have := congrArg Int32.toInt e
      rw [nI_toInt (by omega)] at this
      have e2 : (-6 : Int32).toInt = -6 := by decide
      omega
  · rintro rfl
    rfl
theorem sec_eq {s a : Nat} (hs : s ≤ 10) (ha : a ≤ 9) : sec s = nI a ↔ s = a + 1 := by
  rcases Nat.eq_zero_or_pos s with z | z
  · subst z
    constructor
    · intro e
      have := congrArg Int32.toInt e
      rw [nI_toInt (by omega)] at this
      have e2 : (sec 0).toInt = -6 := by decide
      omega
    · intro e
      omega
  · rw [sec_nI z, nI_eq (by omega) (by omega)]
    omega
def lof (f : Nat → Nat) (c : Nat) : Int32 := orF (fun l => if f l = c then sh1 l else 0) 26
def lws (s : Nat → Nat) : Int32 := orF (fun l => if s l = 0 then 0 else sh1 l) 26
def firstN (l : Nat) : Nat := ([0, 1, 2, 3, 0, 1, 2, 0, 0, 2, 2, 4, 5, 5, 0, 1, 2, 6, 2, 3, 0, 1, 0, 2, 0, 2] : List Nat).getD l 0
theorem firstKN : ∀ l, l < 26 → firstK l = nI (firstN l) ∧ firstN l ≤ 9 := by decide +kernel
def E0 : EV := (firstN, fun _ => 0, 0, [])
def pushM (ms : List (Nat × Nat × Int32 × Int32)) (x : Nat × Nat × Int32 × Int32) : List (Nat × Nat × Int32 × Int32) := if ms.length < 6 then ms ++ [x] else ms.tail ++ [x]
def mgF (f : Nat → Nat) (a b : Nat) (l : Nat) : Nat := if f l = b then a else f l
def mgS1 (s : Nat → Nat) (a b : Nat) (l : Nat) : Nat := if s l = b + 1 then a + 1 else s l
def mgS (f s : Nat → Nat) (a b : Nat) (l : Nat) : Nat := if mgS1 s a b l = mgF f a b l + 1 then 0 else mgS1 s a b l
def mgM (f s : Nat → Nat) (a b : Nat) : Nat → Int32 := fun l => if s l = b + 1 ∧ ¬ mgF f a b l = a then sh1 l else 0
def mergeE (E : EV) (a b : Nat) : EV := (mgF E.1 a b, mgS E.1 E.2.1 a b, E.2.2.1, pushM E.2.2.2 (a, b, lof E.1 b, orF (mgM E.1 E.2.1 a b) 26))
/-- the two rows of classes of an ear, within a method -/
def MidE (k : Nat) (h h1 : Hp) (F S : Nat → Nat) : Prop := (∀ c, c ≠ k + 1 → c ≠ k + 2 → h1.1 c = h.1 c) ∧ h1.2 = h.2 ∧ ∀ l, l < 26 → h1.1 (k + 1) l = nI (F l) ∧ h1.1 (k + 2) l = sec (S l)
def upN (F : Nat → Nat) (i v : Nat) : Nat → Nat := fun l => if l = i then v else F l
theorem upN_s (F : Nat → Nat) (i v : Nat) : upN F i v i = v := if_pos rfl
theorem upN_n (F : Nat → Nat) {i l : Nat} (v : Nat) (h : l ≠ i) : upN F i v l = F l := if_neg h
theorem MidE.F {k i a : Nat} {h h1 : Hp} {F S : Nat → Nat} (M : MidE k h h1 F S) : MidE k h (setI h1 (k + 1) (upd (h1.1 (k + 1)) i (nI a))) (upN F i a) S := by
  refine ⟨fun c e1 e2 => (setI_n _ _ e1).trans (M.1 c e1 e2), M.2.1, fun l hl => ?_⟩
  simp (disch := omega) only [setI_n, setI_s]
  refine ⟨?_, (M.2.2 l hl).2⟩
  by_cases z : l = i
  · subst z
    rw [upN_s, pk_us]
  · rw [upN_n _ _ z, pk_un z]
    exact (M.2.2 l hl).1
theorem MidE.S {k i v : Nat} {h h1 : Hp} {F S : Nat → Nat} (M : MidE k h h1 F S) : MidE k h (setI h1 (k + 2) (upd (h1.1 (k + 2)) i (sec v))) F (upN S i v) := by
  refine ⟨fun c e1 e2 => (setI_n _ _ e2).trans (M.1 c e1 e2), M.2.1, fun l hl => ?_⟩
  simp (disch := omega) only [setI_n, setI_s]
  refine ⟨(M.2.2 l hl).1, ?_⟩
  by_cases z : l = i
  · subst z
    rw [upN_s, pk_us]
  · rw [upN_n _ _ z, pk_un z]
    exact (M.2.2 l hl).2
theorem MidE.to {k : Nat} {h h1 : Hp} {F S F' S' : Nat → Nat} (M : MidE k h h1 F S) (e : ∀ l, l < 26 → F l = F' l ∧ S l = S' l) : MidE k h h1 F' S' :=
  ⟨M.1, M.2.1, fun l hl => by rw [← (e l hl).1, ← (e l hl).2]; exact M.2.2 l hl⟩
theorem MidE.fr {k : Nat} {h h1 : Hp} {F S : Nat → Nat} (M : MidE k h h1 F S) : FrI k (k + 6) h h1 := ⟨fun c hc => M.1 c (by omega) (by omega), M.2.1⟩
theorem MidE.re {k : Nat} {E : EV} {h h1 : Hp} {F S : Nat → Nat} (M : MidE k h h1 F S) (r : RE k E h) : RE k (F, S, E.2.2.1, E.2.2.2) h1 := by
  obtain ⟨r1, r2, r3, r4⟩ := r
  refine ⟨M.2.2, ?_, ?_, fun j q hj => ?_⟩
  · rw [M.1 k (by omega) (by omega)]
    exact r2
  · rw [M.1 k (by omega) (by omega)]
    exact r3
  · rw [M.1 (k + 3) (by omega) (by omega), M.1 (k + 4) (by omega) (by omega), M.1 (k + 5) (by omega) (by omega), M.1 (k + 6) (by omega) (by omega)]
    exact r4 j q hj
theorem MidE.of {k : Nat} {E : EV} {h : Hp} (r : RE k E h) : MidE k h h E.1 E.2.1 := ⟨fun _ _ _ => rfl, rfl, r.1⟩
/-- another world, of which only this is known -/
theorem am_abs {g : Gx} {M : MI} {Z : Zt} {pc : Nat} {l : Lo} {st : List Value} {h : Hp} (Q : Hp → Prop) (hq : Q h) (kk : ∀ h1, Q h1 → AW g M Z pc l st h1) : AW g M Z pc l st h := kk h hq
def spF (q : Nat × Nat × Int32 × Int32) (f : Nat → Nat) (l : Nat) : Nat := if bt q.2.2.1 l = true ∧ f l = q.1 then q.2.1 else f l
def spS1 (q : Nat × Nat × Int32 × Int32) (s : Nat → Nat) (l : Nat) : Nat := if bt q.2.2.2 l = true ∧ s l = q.1 + 1 then q.2.1 + 1 else s l
def spS (q : Nat × Nat × Int32 × Int32) (f s : Nat → Nat) (l : Nat) : Nat := if spS1 q s l = spF q f l + 1 then 0 else spS1 q s l
def splitE (E : EV) (q : Nat × Nat × Int32 × Int32) (ms : List (Nat × Nat × Int32 × Int32)) : EV := (spF q E.1, spS q E.1 E.2.1, E.2.2.1, ms)
theorem sh1_bv (l : Nat) (hl : l < 32) : (sh1 l).toBitVec = BitVec.twoPow 32 l := nf_sh l hl
theorem bt_sh1 (m : Int32) (l : Nat) (hl : l < 32) : (m &&& sh1 l) = 0 ↔ bt m l = false := by
  constructor
  · intro e
    have h1 : bt (m &&& sh1 l) l = false := by rw [e]; exact b_0 l
    rw [b_and] at h1
    have h2 : bt (sh1 l) l = true := by
      unfold bt
      rw [sh1_bv l hl]
      simp [hl]
    rw [h2, Bool.and_true] at h1
    exact h1
  · intro e
    refine b_ext fun i hi => ?_
    rw [b_and, b_0]
    have h2 : bt (sh1 l) i = decide (i = l) := by
      unfold bt
      rw [sh1_bv l hl, BitVec.getLsbD_twoPow]
      by_cases z : i = l
      · subst z
        simp [hl]
      · have : ¬ l = i := fun q => z q.symm
        simp [z, this]
    rw [h2]
    by_cases z : i = l
    · subst z
      rw [e]
      rfl
    · simp [z]
