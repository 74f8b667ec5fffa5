/-! WHAT THE READING CALLS ANSWER -/
theorem sw_f {x : Int32} {n : Nat} (hn : n < 2 ^ 31) (h : ∀ i, i ≤ n → ¬ x = nI i) : inR x 0 n = false := by
  cases q : inR x 0 n with
  | false => rfl
  | true =>
    obtain ⟨v, -, v2, e⟩ := inR_t (by omega) hn q
    exact absurd e (h v v2)
theorem nI_toInt' {n : Nat} (h : n < 2 ^ 31) : (nI n).toInt = (n : Int) := Int32.toInt_ofNat_of_lt h
theorem sw_far {x : Int32} {n : Nat} (hn : n < 2 ^ 31) (h : ∀ i, i ≤ n → ¬ x = nI i) : x.toInt < 0 ∨ (n : Int) < x.toInt := by
  have q := sw_f hn h
  unfold inR at q
  rw [Bool.and_eq_false_iff] at q
  rcases q with q | q
  · have q := of_decide_eq_false q
    left
    rw [Int32.le_iff_toInt_le, nI_toInt' (by omega)] at q
    omega
  · have q := of_decide_eq_false q
    right
    rw [Int32.le_iff_toInt_le, nI_toInt' hn] at q
    omega
theorem inN_pred (x : Int32) {n : Nat} (hn : n < 2 ^ 31) : (decide (0 ≤ x) && decide (x ≤ nI n - 1)) = inN x n := by
  unfold inN
  rcases Nat.eq_zero_or_pos n with z | z
  · subst z
    rw [Bool.eq_iff_iff, Bool.and_eq_true, Bool.and_eq_true, decide_eq_true_eq, decide_eq_true_eq, decide_eq_true_eq]
    constructor
    · intro ⟨a, b⟩
      rw [Int32.le_iff_toInt_le] at a b
      have e1 : (nI 0 - 1 : Int32).toInt = -1 := by decide
      have e2 : (0 : Int32).toInt = 0 := by decide
      omega
    · intro ⟨a, b⟩
      rw [Int32.le_iff_toInt_le] at a
      rw [Int32.lt_iff_toInt_lt] at b
      have e1 : (nI 0 : Int32).toInt = 0 := by decide
      have e2 : (0 : Int32).toInt = 0 := by decide
      omega
  · rw [nI_m1 z]
    congr 1
    rw [Bool.eq_iff_iff, decide_eq_true_eq, decide_eq_true_eq, Int32.le_iff_toInt_le, Int32.lt_iff_toInt_lt, nI_toInt' (by omega), nI_toInt' (by omega)]
    omega
def nmS (m : Nat) (w : Int32) : Int32 := if w = 0 then nI (wsz m) else if inR w 1 10 = true then (if wl m (tn w - 1) = 0 then -6 else nI (wl m (tn w - 1) - 1)) else if w = 11 then wset m else -2
def sp_name (x w : Int32) (G : GS) : Int32 × GS := (if inN x G.1.2.2.1.length = true then nmS (G.1.2.2.1.getD (tn x) 0) w else -1, G)
def ofS (E : EV) (l : Nat) (w : Int32) : Int32 := if w = 0 then nI (E.1 l) else if w = 1 then sec (E.2.1 l) else if w = 2 then lof E.1 (E.1 l) else -2
/-- of one ear, which must be there -/
def sp_E (x : Int32) (f : EV → Int32) (G : GS) : Int32 × GS := (match eN G.1.2.2.2 x with | none => -1 | some E => f E, G)
theorem sp_E_t {e : Nat} {E : EV} {G : GS} (f : EV → Int32) (h4 : G.1.2.2.2.length ≤ 4) (he : e < G.1.2.2.2.length) (hx : G.1.2.2.2[e]? = some E) : sp_E (nI e) f G = (f E, G) := by
  unfold sp_E
  rw [eN_i h4 he, hx]
theorem sp_E_f {x : Int32} {G : GS} (f : EV → Int32) (h : inN x G.1.2.2.2.length = false) : sp_E x f G = (-1, G) := by
  unfold sp_E
  rw [eN_f h]
def sp_of (x l w : Int32) (G : GS) : Int32 × GS := sp_E x (fun E => if isLtr l = true then ofS E (tn l) w else -1) G
def oeS (cs : List (List Nat)) (E : EV) (w : Int32) : Int32 :=
  if w = 0 then nI E.2.2.1 else if w = 1 then nI E.2.2.2.length else if w = 2 then nI (dl cs).length else if w = 3 then nI (fuM cs) else if w = 4 then svM cs else if w = 5 then prs cs else if w = 6 then lws E.2.1 else if w = 7 then lof E.1 0 else -2
def sp_ofEar (x w : Int32) (G : GS) : Int32 × GS := sp_E x (fun E => oeS (csOf G.1 E) E w) G
def plS (ds : List Nat) (c : Nat) (p : Int32) : Int32 := if p = 6 then nI (ix c ds) else if p = 5 then nI (csz c) else if tn p < csz c then nI (cdg c (tn p)) else -6
def cdS (cs : List (List Nat)) (i : Nat) (k p : Int32) : Int32 := if inN k (cN cs i).length = true then (if inR p 0 6 = true then plS (dl cs) ((cN cs i).getD (tn k) 0) p else -2) else -1
def sp_code (x n k p : Int32) (G : GS) : Int32 × GS := sp_E x (fun E => if inN n G.1.2.2.1.length = true then cdS (csOf G.1 E) (tn n) k p else -1) G
/-- the code that has so many below it -/
def byR (ds : List Nat) (r : Nat) : Nat := (ds.find? (fun c => Nat.beq (fb_ct (fun o => decide (ds.getD o 0 < c)) ds.length) r)).getD 0
theorem byR_eq {ds : List Nat} (hN : ND ds) {d r : Nat} (hd : d < ds.length) (h : rkD ds d = r) : byR ds r = ds.getD d 0 := by
  unfold byR
  cases q : ds.find? (fun c => Nat.beq (fb_ct (fun o => decide (ds.getD o 0 < c)) ds.length) r) with
  | none =>
    have := List.find?_eq_none.mp q (ds.getD d 0) (List.mem_of_getElem? (gD_at hd))
    have h2 : Nat.beq (rkD ds d) r = true := by rw [h]; exact Nat.beq_refl r
    exact absurd h2 this
  | some c =>
    have h1 := List.find?_some q
    have h2 := List.mem_of_find?_eq_some q
    obtain ⟨e, he⟩ := List.getElem?_of_mem h2
    have hel := (List.getElem?_eq_some_iff.mp he).1
    have hc := gD_of he
    have h3 : rkD ds e = r := by
      unfold rkD
      rw [hc]
      exact Nat.eq_of_beq_eq_true h1
    rw [rkD_inj hN hd hel (by rw [h, h3]), hc]
    rfl
def drS (cs : List (List Nat)) (d o : Int32) : Int32 := if inN d (dl cs).length = true then (if o = 0 then mkC cs ((dl cs).getD (tn d) 0) cs.length else if o = 1 then mkC cs (byR (dl cs) (tn d)) cs.length else -2) else -1
def sp_drawer (x d o : Int32) (G : GS) : Int32 × GS := sp_E x (fun E => drS (csOf G.1 E) d o) G
def ctS (G : GS) (w : Int32) : Int32 :=
  if w = 0 then nI G.1.2.2.1.length else if w = 1 then nI G.1.2.2.2.length else if w = 2 then nI G.1.1 else if w = 3 then nI G.1.2.1 else if w = 4 then nI G.2.2.2.length else if w = 5 then nI G.2.1.length else if w = 6 then lin G.1.2.2.1 else -2
def sp_count (w : Int32) (G : GS) : Int32 × GS := (ctS G w, G)
def sp_alike (x a b : Int32) (G : GS) : Int32 × GS := sp_E x (fun E => if inN a G.1.2.2.1.length = true ∧ inN b G.1.2.2.1.length = true then bI (com (csOf G.1 E) (tn a) (tn b)) else -1) G
def sp_distance (a b : Int32) (G : GS) : Int32 × GS := (if inN a G.1.2.2.1.length = true ∧ inN b G.1.2.2.1.length = true then nI (dst (G.1.2.2.1.getD (tn a) 0) (G.1.2.2.1.getD (tn b) 0)) else -1, G)
/-- a name that is heard like a word -/
def lkW (S : SV) (E : EV) (n i : Nat) : Bool := (codes E S.1 n).any (fun c => decide (c ∈ cN (csOf S E) i))
def dsW (S : SV) (n i : Nat) : Nat := dst n (S.2.2.1.getD i 0)
def fnd (S : SV) (E : EV) (n : Nat) (r : Int32) : Option Nat := (List.range S.2.2.1.length).find? (fun i => lkW S E n i && decide (nI (ahC (lkW S E n) (dsW S n) S.2.2.1.length i) = r))
theorem fb_ct_lt {p q : Nat → Bool} {a : Nat} : ∀ {n : Nat}, (∀ o, o < n → p o = true → q o = true) → a < n → p a = false → q a = true → fb_ct p n < fb_ct q n := by
  intro n
  induction n with
  | zero =>
    intro _ h
    omega
  | succ n ih =>
    intro h1 h2 h3 h4
    show fb_ct p n + (if p n then 1 else 0) < fb_ct q n + (if q n then 1 else 0)
    have hle : ∀ m, m ≤ n → fb_ct p m ≤ fb_ct q m := by
      intro m
      induction m with
      | zero => exact fun _ => Nat.le_refl _
      | succ m ihm =>
        intro hm
        show fb_ct p m + (if p m then 1 else 0) ≤ fb_ct q m + (if q m then 1 else 0)
        have := ihm (by omega)
        have h5 := h1 m (by omega)
        cases hp : p m <;> cases hq : q m <;> simp_all <;> omega
    rcases Nat.lt_or_ge a n with z | z
    · have := ih (fun o ho => h1 o (by omega)) z h3 h4
      have h5 := h1 n (by omega)
      cases hp : p n <;> cases hq : q n <;> simp_all <;> omega
    · have e : a = n := by omega
      subst e
      have := hle a (by omega)
      rw [h3, h4]
      show fb_ct p a + 0 < fb_ct q a + 1
      omega
theorem ahC_inj {p : Nat → Bool} {d : Nat → Nat} {n i j : Nat} (hi : i < n) (hj : j < n) (pi : p i = true) (pj : p j = true) (e : ahC p d n i = ahC p d n j) : i = j := by
  have key : ∀ a b, a < n → p a = true → (d a < d b ∨ (d a = d b ∧ a < b)) → ahC p d n a < ahC p d n b := by
    intro a b ha pa hab
    unfold ahC
    refine fb_ct_lt (a := a) (fun o _ ho => ?_) ha ?_ ?_
    · simp only [Bool.and_eq_true, Bool.or_eq_true, decide_eq_true_eq] at ho ⊢
      obtain ⟨h1, h2⟩ := ho
      exact ⟨h1, by omega⟩
    · simp
    · simp only [pa, Bool.true_and, Bool.and_eq_true, Bool.or_eq_true, decide_eq_true_eq]
      omega
  rcases Nat.lt_trichotomy (d i) (d j) with z | z | z
  · have := key i j hi pi (Or.inl z)
    omega
  · rcases Nat.lt_trichotomy i j with y | y | y
    · have := key i j hi pi (Or.inr ⟨z, y⟩)
      omega
    · exact y
    · have := key j i hj pj (Or.inr ⟨z.symm, y⟩)
      omega
  · have := key j i hj pj (Or.inl z)
    omega
theorem ahC_le (p : Nat → Bool) (d : Nat → Nat) (n i : Nat) : ahC p d n i ≤ n := fb_ct_le _ _
theorem fnd_some {S : SV} {E : EV} {n i : Nat} {r : Int32} (hn : S.2.2.1.length ≤ 24) (hi : i < S.2.2.1.length) (h1 : lkW S E n i = true) (h2 : nI (ahC (lkW S E n) (dsW S n) S.2.2.1.length i) = r) : fnd S E n r = some i := by
  unfold fnd
  cases q : (List.range S.2.2.1.length).find? (fun i => lkW S E n i && decide (nI (ahC (lkW S E n) (dsW S n) S.2.2.1.length i) = r)) with
  | none =>
    have := List.find?_eq_none.mp q i (List.mem_range.mpr hi)
    rw [h1, decide_eq_true h2] at this
    exact absurd rfl this
  | some j =>
    have h3 := List.find?_some q
    have h4 := List.mem_range.mp (List.mem_of_find?_eq_some q)
    rw [Bool.and_eq_true] at h3
    have h5 := of_decide_eq_true h3.2
    have := ahC_le (lkW S E n) (dsW S n) S.2.2.1.length i
    have := ahC_le (lkW S E n) (dsW S n) S.2.2.1.length j
    rw [ahC_inj hi h4 h1 h3.1 ((nI_eq (by omega) (by omega)).mp (h2.trans h5.symm))]
theorem fnd_none {S : SV} {E : EV} {n : Nat} {r : Int32} (h : ∀ i, i < S.2.2.1.length → lkW S E n i = true → nI (ahC (lkW S E n) (dsW S n) S.2.2.1.length i) ≠ r) : fnd S E n r = none := by
  unfold fnd
  rw [List.find?_eq_none]
  intro i hi q
  rw [Bool.and_eq_true] at q
  exact h i (List.mem_range.mp hi) q.1 (of_decide_eq_true q.2)
def fdS (S : SV) (n : Nat) (w : Int32) (o : Option Nat) : Int32 := match o with
  | none => -1
  | some i => if w = 0 then nI i else if w = 1 then nI (dsW S n i) else -2
def sp_find (x r w : Int32) (G : GS) : Int32 × GS := if flt G.2.2.2 = -6 then sp_E x (fun E => fdS G.1 (pw G.2.2.2) w (fnd G.1 E (pw G.2.2.2) r)) G else (-3, G)
def sp_ifMerged (x a b w : Int32) (G : GS) : Int32 × GS := sp_E x (fun E => if canM a b = true then (if inR w 0 1 = true then (if w = 0 then nI (dl (csOf G.1 (mergeE E (tn a) (tn b)))).length else prs (csOf G.1 (mergeE E (tn a) (tn b)))) else -2) else -2) G
def bmS (S : SV) (E : EV) (a b : Nat) (t : Int32 × Int32 × Int32) : Int32 × Int32 × Int32 :=
  if lof E.1 a = 0 ∨ lof E.1 b = 0 then t else if t.2.2 = -6 ∨ prs (csOf S (mergeE E a b)) < t.2.2 then (nI a, nI b, prs (csOf S (mergeE E a b))) else t
def bmI (S : SV) (E : EV) (a : Nat) (t : Int32 × Int32 × Int32) : Nat → Int32 × Int32 × Int32
  | 0 => t
  | k + 1 => bmS S E a (a + 1 + k) (bmI S E a t k)
def bmO (S : SV) (E : EV) : Nat → Int32 × Int32 × Int32
  | 0 => (-6, -6, -6)
  | k + 1 => bmI S E (k + 1) (bmO S E k) (8 - k)
theorem bmI_0 {S : SV} {E : EV} {a : Nat} {t : Int32 × Int32 × Int32} (h : lof E.1 a = 0) : ∀ k, bmI S E a t k = t
  | 0 => rfl
  | k + 1 => by
    show bmS S E a (a + 1 + k) (bmI S E a t k) = t
    rw [bmI_0 h k]
    unfold bmS
    rw [if_pos (Or.inl h)]
def bmA (t : Int32 × Int32 × Int32) (w : Int32) : Int32 := if w = 0 then t.1 else if w = 1 then t.2.1 else t.2.2
def sp_bestMerger (x w : Int32) (G : GS) : Int32 × GS := sp_E x (fun E => if inR w 0 2 = true then bmA (bmO G.1 E 9) w else -2) G
def qrF (cs ds : List (List Nat)) : Nat → Int32
  | 0 => 0
  | k + 1 => qrF cs ds k + nI (pc (lkM cs k &&& (lkM ds k ^^^ (-1))))
def sp_quarrel (x y : Int32) (G : GS) : Int32 × GS := sp_E x (fun E => (sp_E y (fun F => qrF (csOf G.1 E) (csOf G.1 F) G.1.2.2.1.length / 2) G).1) G
def dfS (S : SV) (k : Nat) (t : Int32 × Int32) : Int32 × Int32 := if t.2 < prs (csOf S (S.2.2.2.getD k E0)) then (nI k, prs (csOf S (S.2.2.2.getD k E0))) else t
def dfF (S : SV) : Nat → Int32 × Int32
  | 0 => (-6, -6)
  | k + 1 => dfS S k (dfF S k)
def sp_deafest (G : GS) : Int32 × GS := ((dfF G.1 G.1.2.2.2.length).1, G)
def sp_put (n : Nat) (G : GS) : Int32 × GS := if cin n = 0 then (-2, G) else if 80 < G.2.2.2.length + cin n then (-4, G) else (nI (G.2.2.2.length + cin n), (G.1, G.2.1, G.2.2.1, G.2.2.2 ++ bD n (cin n)))
def sp_wipe (G : GS) : Int32 × GS := (nI G.2.2.2.length, (G.1, G.2.1, G.2.2.1, []))
def sp_fault (G : GS) : Int32 × GS := (flt G.2.2.2, G)
def sp_undo (G : GS) : Int32 × GS := match G.2.1.getLast? with
  | none => (-5, G)
  | some S => (nI (G.2.1.length - 1), (S, G.2.1.dropLast, G.2.2))
def sp_save (s : Int32) (G : GS) : Int32 × GS := if s = 0 then (nI G.1.2.2.1.length, (G.1, G.2.1, (some G.1, G.2.2.1.2), G.2.2.2)) else if s = 1 then (nI G.1.2.2.1.length, (G.1, G.2.1, (G.2.2.1.1, some G.1), G.2.2.2)) else (-2, G)
def rsS (G : GS) (o : Option SV) : Int32 × GS := match o with
  | none => (-5, G)
  | some S => (nI S.2.2.1.length, recG G S)
def sp_restore (s : Int32) (G : GS) : Int32 × GS := if s = 0 then rsS G G.2.2.1.1 else if s = 1 then rsS G G.2.2.1.2 else (-2, G)
