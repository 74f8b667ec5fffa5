/-! STATES AND DRAWERS -/
abbrev SV : Type := Nat × Nat × List Nat × List EV
def isSt (b : Nat) : Prop := isC b 4 0 ∧ isC (b + 1) 9 24 ∧ isC (b + 2) 11 4 ∧ ∀ e, e < 4 → isEar (b + 10 * (e + 1))
def VS (S : SV) : Prop := (1 ≤ S.1 ∧ S.1 ≤ 5) ∧ (1 ≤ S.2.1 ∧ S.2.1 ≤ 24) ∧ S.2.2.1.length ≤ 24 ∧ (∀ w ∈ S.2.2.1, VW w) ∧ S.2.2.2.length ≤ 4 ∧ ∀ E ∈ S.2.2.2, VE E
def RS (b : Nat) (S : SV) (h : Hp) : Prop := h.1 b 0 = nI S.1 ∧ h.1 b 1 = nI S.2.1 ∧ h.1 b 2 = nI S.2.2.1.length ∧ h.1 b 4 = nI S.2.2.2.length ∧ (∀ i w, S.2.2.1[i]? = some w → h.2.1 (b + 1) i = lN w) ∧ ∀ e E, S.2.2.2[e]? = some E → RE (b + 10 * (e + 1)) E h
/-- only the cells from lo to hi have changed -/
def Fr (lo hi : Nat) (h h' : Hp) : Prop := (∀ c, (c < lo ∨ hi < c) → h'.1 c = h.1 c ∧ h'.2.1 c = h.2.1 c) ∧ h'.2.2 = h.2.2
theorem FrI.toFr {lo hi : Nat} {h h' : Hp} (f : FrI lo hi h h') : Fr lo hi h h' := ⟨fun c hc => ⟨f.1 c hc, by rw [f.2]⟩, by rw [f.2]⟩
theorem Fr.rf {lo hi : Nat} {h : Hp} : Fr lo hi h h := ⟨fun _ _ => ⟨rfl, rfl⟩, rfl⟩
theorem Fr.tr {lo hi : Nat} {h h1 h2 : Hp} (a : Fr lo hi h h1) (b : Fr lo hi h1 h2) : Fr lo hi h h2 := ⟨fun c hc => ⟨(b.1 c hc).1.trans (a.1 c hc).1, (b.1 c hc).2.trans (a.1 c hc).2⟩, b.2.trans a.2⟩
theorem Fr.wide {lo hi lo' hi' : Nat} {h h' : Hp} (a : Fr lo hi h h') (h1 : lo' ≤ lo) (h2 : hi ≤ hi') : Fr lo' hi' h h' := ⟨fun c hc => a.1 c (by omega), a.2⟩
theorem RS.kept {b : Nat} {S : SV} {h h' : Hp} (r : RS b S h) (hV : VS S) (f : ∀ c, b ≤ c → c ≤ b + 46 → h'.1 c = h.1 c ∧ h'.2.1 c = h.2.1 c) : RS b S h' := by
  obtain ⟨r1, r2, r3, r4, r5, r6⟩ := r
  have f0 := (f b (by omega) (by omega)).1
  refine ⟨by rw [f0]; exact r1, by rw [f0]; exact r2, by rw [f0]; exact r3, by rw [f0]; exact r4, fun i w hi => ?_, fun e E he => ?_⟩
  · rw [(f (b + 1) (by omega) (by omega)).2]
    exact r5 i w hi
  · have hl := (List.getElem?_eq_some_iff.mp he).1
    have := hV.2.2.2.2.1
    exact (r6 e E he).kept (fun c c1 c2 => (f c (by omega) (by omega)).1)
def ix (c : Nat) : List Nat → Nat
  | [] => 0
  | a :: r => if a = c then 0 else ix c r + 1
theorem ix_le (c : Nat) (l : List Nat) : ix c l ≤ l.length := by
  induction l with
  | nil => exact Nat.le_refl _
  | cons a r ih =>
    unfold ix
    split
    · exact Nat.zero_le _
    · simp only [List.length_cons]
      omega
theorem ix_not {c : Nat} {l : List Nat} (h : c ∉ l) : ix c l = l.length := by
  induction l with
  | nil => rfl
  | cons a r ih =>
    unfold ix
    rw [if_neg (fun q : a = c => h (by rw [q]; exact List.mem_cons_self)), ih (fun q => h (List.mem_cons_of_mem _ q))]
    rfl
theorem ix_in {c : Nat} {l : List Nat} (h : c ∈ l) : l[ix c l]? = some c := by
  induction l with
  | nil => cases h
  | cons a r ih =>
    unfold ix
    by_cases z : a = c
    · rw [if_pos z, z]
      rfl
    · rw [if_neg z, List.getElem?_cons_succ]
      rcases List.mem_cons.mp h with q | q
      · exact absurd q.symm z
      · exact ih q
theorem ix_lt {c : Nat} {l : List Nat} (h : c ∈ l) : ix c l < l.length := (List.getElem?_eq_some_iff.mp (ix_in h)).1
theorem ix_before {c : Nat} {l : List Nat} : ∀ {j : Nat}, j < ix c l → l[j]? ≠ some c := by
  induction l with
  | nil => intro j h; cases h
  | cons a r ih =>
    intro j h
    unfold ix at h
    by_cases z : a = c
    · rw [if_pos z] at h
      cases h
    · rw [if_neg z] at h
      cases j with
      | zero =>
        intro q
        exact z (Option.some.inj q)
      | succ j =>
        rw [List.getElem?_cons_succ]
        exact ih (by omega)
theorem ix_app {c : Nat} {l m : List Nat} (h : c ∈ l) : ix c (l ++ m) = ix c l := by
  induction l with
  | nil => cases h
  | cons a r ih =>
    rw [List.cons_append]
    unfold ix
    by_cases z : a = c
    · rw [if_pos z, if_pos z]
    · rw [if_neg z, if_neg z]
      rcases List.mem_cons.mp h with q | q
      · exact absurd q.symm z
      · rw [ih q]
theorem ix_app_not {c : Nat} {l : List Nat} (h : c ∉ l) : ix c (l ++ [c]) = l.length := by
  induction l with
  | nil =>
    show ix c [c] = 0
    unfold ix
    rw [if_pos rfl]
  | cons a r ih =>
    rw [List.cons_append]
    unfold ix
    rw [if_neg (fun q : a = c => h (by rw [q]; exact List.mem_cons_self)), ih (fun q => h (List.mem_cons_of_mem _ q))]
    rfl
def addD (acc : List Nat) (x : Nat) : List Nat := if x ∈ acc then acc else acc ++ [x]
def dls (xs : List Nat) : List Nat := xs.foldl addD []
theorem dls_app (xs : List Nat) (x : Nat) : dls (xs ++ [x]) = addD (dls xs) x := by
  unfold dls
  rw [List.foldl_append]
  rfl
theorem mem_addD {acc : List Nat} {x y : Nat} : y ∈ addD acc x ↔ y ∈ acc ∨ y = x := by
  unfold addD
  by_cases h : x ∈ acc
  · rw [if_pos h]
    exact ⟨Or.inl, fun q => q.elim id (fun e => e ▸ h)⟩
  · rw [if_neg h, List.mem_append, List.mem_singleton]
theorem ix_addD {acc : List Nat} (x : Nat) : ix x (addD acc x) = ix x acc := by
  unfold addD
  by_cases h : x ∈ acc
  · rw [if_pos h]
  · rw [if_neg h, ix_app_not h, ix_not h]
theorem ix_addD_in {acc : List Nat} {y : Nat} (x : Nat) (h : y ∈ acc) : ix y (addD acc x) = ix y acc := by
  unfold addD
  split
  · rfl
  · exact ix_app h
theorem addD_len (acc : List Nat) (x : Nat) : (addD acc x).length ≤ acc.length + 1 := by
  unfold addD
  split
  · omega
  · rw [List.length_append]
    exact Nat.le_refl _
theorem dls_fold (xs : List Nat) : ∀ acc, (∀ y, y ∈ xs.foldl addD acc ↔ y ∈ acc ∨ y ∈ xs) ∧ (xs.foldl addD acc).length ≤ acc.length + xs.length ∧ (∀ y, y ∈ acc → ix y (xs.foldl addD acc) = ix y acc) := by
  induction xs with
  | nil => intro acc; exact ⟨fun y => by simp, Nat.le_refl _, fun _ _ => rfl⟩
  | cons a r ih =>
    intro acc
    obtain ⟨i1, i2, i3⟩ := ih (addD acc a)
    have := addD_len acc a
    refine ⟨fun y => ?_, ?_, fun y hy => ?_⟩
    · rw [List.foldl_cons, i1 y, mem_addD, List.mem_cons, or_assoc]
    · rw [List.foldl_cons, List.length_cons]
      omega
    · rw [List.foldl_cons, i3 y (mem_addD.mpr (Or.inl hy)), ix_addD_in a hy]
theorem mem_dls {xs : List Nat} {y : Nat} : y ∈ dls xs ↔ y ∈ xs := by
  have := (dls_fold xs []).1 y
  unfold dls
  rw [this]
  simp
theorem dls_len (xs : List Nat) : (dls xs).length ≤ xs.length := by
  have := (dls_fold xs []).2.1
  simpa [dls] using this
theorem ix_dls_app {xs ys : List Nat} {y : Nat} (h : y ∈ xs) : ix y (dls (xs ++ ys)) = ix y (dls xs) := by
  unfold dls
  rw [List.foldl_append]
  exact (dls_fold ys _).2.2 y (mem_dls.mpr h)
/-- no drawer twice -/
def ND (acc : List Nat) : Prop := ∀ (d c : Nat), acc[d]? = some c → ix c acc = d
theorem ND.add {acc : List Nat} (h : ND acc) (x : Nat) : ND (addD acc x) := by
  unfold addD
  by_cases hx : x ∈ acc
  · rw [if_pos hx]
    exact h
  · rw [if_neg hx]
    intro d c hd
    by_cases hl : d < acc.length
    · rw [List.getElem?_append_left hl] at hd
      rw [ix_app (List.mem_of_getElem? hd)]
      exact h d c hd
    · have hd2 := (List.getElem?_eq_some_iff.mp hd).1
      rw [List.length_append] at hd2
      simp at hd2
      have : d = acc.length := by omega
      subst this
      rw [List.getElem?_append_right (Nat.le_refl _), Nat.sub_self, List.getElem?_cons_zero] at hd
      rw [← Option.some.inj hd]
      exact ix_app_not hx
theorem ND_dls (xs : List Nat) : ND (dls xs) := by
  have key : ∀ (xs acc : List Nat), ND acc → ND (xs.foldl addD acc) := by
    intro xs
    induction xs with
    | nil => intro acc h; exact h
    | cons a r ih => intro acc h; exact ih _ (h.add a)
  exact key xs [] (fun d c h => by cases h)
/-- the drawers of all codes -/
def dl (cs : List (List Nat)) : List Nat := dls cs.flatten
def cN (cs : List (List Nat)) (m : Nat) : List Nat := cs.getD m []
/-- the names that have a code, as a set -/
def mkC (cs : List (List Nat)) (c : Nat) (n : Nat) : Int32 := orF (fun m => if c ∈ cN cs m then sh1 m else 0) n
def isDr (k : Nat) : Prop := isC k 0 0 ∧ isC (k + 1) 8 24 ∧ isC (k + 2) 8 96 ∧ isC (k + 3) 8 96 ∧ isC (k + 4) 8 96 ∧ isC (k + 5) 8 4
def RD (k : Nat) (cs : List (List Nat)) (h : Hp) : Prop := h.1 k 0 = nI cs.length ∧ (∀ i l, cs[i]? = some l → h.1 (k + 1) i = nI l.length ∧ ∀ (j c : Nat), l[j]? = some c → h.1 (k + 2) (4 * i + j) = nI (ix c (dl cs))) ∧ h.1 k 3 = nI (dl cs).length ∧ ∀ (d c : Nat), (dl cs)[d]? = some c → h.1 (k + 3) d = nI c ∧ h.1 (k + 4) d = mkC cs c cs.length
def VC (cs : List (List Nat)) : Prop := cs.length ≤ 24 ∧ ∀ l ∈ cs, l.length ≤ 4 ∧ 1 ≤ l.length ∧ (∀ c ∈ l, c < 2 ^ 30) ∧ ∀ j c, l[j]? = some c → c ∉ l.take j
theorem orF_0 {f : Nat → Int32} : ∀ {n : Nat}, (∀ m, m < n → f m = 0) → orF f n = 0 := by
  intro n
  induction n with
  | zero => intro _; rfl
  | succ n ih =>
    intro h
    rw [orF, ih (fun m hm => h m (by omega)), h n (by omega)]
    rfl
theorem orF_cong {f g : Nat → Int32} : ∀ {n : Nat}, (∀ m, m < n → f m = g m) → orF f n = orF g n := by
  intro n
  induction n with
  | zero => intro _; rfl
  | succ n ih =>
    intro h
    rw [orF, orF, ih (fun m hm => h m (by omega)), h n (by omega)]
theorem flat_len {cs : List (List Nat)} (h : ∀ l ∈ cs, l.length ≤ 4) : cs.flatten.length ≤ 4 * cs.length := by
  induction cs with
  | nil => exact Nat.le_refl _
  | cons a r ih =>
    rw [List.flatten_cons, List.length_append, List.length_cons]
    have := h a List.mem_cons_self
    have := ih (fun l hl => h l (List.mem_cons_of_mem _ hl))
    omega
theorem dl_len {cs : List (List Nat)} (h : VC cs) : (dl cs).length ≤ 96 := by
  have h1 := dls_len cs.flatten
  have h2 := flat_len (fun l hl => (h.2 l hl).1)
  have := h.1
  unfold dl
  omega
theorem mem_dl {cs : List (List Nat)} {c : Nat} : c ∈ dl cs ↔ ∃ (i : Nat) (l : List Nat), cs[i]? = some l ∧ c ∈ l := by
  unfold dl
  rw [mem_dls, List.mem_flatten]
  constructor
  · rintro ⟨l, hl, hc⟩
    obtain ⟨i, hi⟩ := List.getElem?_of_mem hl
    exact ⟨i, l, hi, hc⟩
  · rintro ⟨i, l, hi, hc⟩
    exact ⟨l, List.mem_of_getElem? hi, hc⟩
theorem cN_of {cs : List (List Nat)} {i : Nat} {l : List Nat} (h : cs[i]? = some l) : cN cs i = l := by
  unfold cN
  rw [List.getD_eq_getElem?_getD, h]
  rfl
theorem dd_fresh (f : Nat → Nat) : ∀ n j c, (dd f n)[j]? = some c → c ∉ (dd f n).take j := by
  intro n
  induction n with
  | zero => intro j c h; cases h
  | succ n ih =>
    intro j c h
    unfold dd at h ⊢
    by_cases hm : f n ∈ dd f n
    · rw [if_pos hm] at h ⊢
      exact ih j c h
    · rw [if_neg hm] at h ⊢
      by_cases hl : j < (dd f n).length
      · rw [List.getElem?_append_left hl] at h
        rw [List.take_append_of_le_length (Nat.le_of_lt hl)]
        exact ih j c h
      · have hd2 := (List.getElem?_eq_some_iff.mp h).1
        rw [List.length_append] at hd2
        simp at hd2
        have : j = (dd f n).length := by omega
        subst this
        rw [List.getElem?_append_right (Nat.le_refl _), Nat.sub_self, List.getElem?_cons_zero] at h
        rw [← Option.some.inj h, List.take_append_of_le_length (Nat.le_refl _), List.take_length]
        exact hm
theorem dd_pos (f : Nat → Nat) (n : Nat) : 1 ≤ (dd f (n + 1)).length := by
  have : f 0 ∈ dd f (n + 1) := dd_mem.mpr ⟨0, by omega, rfl⟩
  rcases Nat.eq_zero_or_pos (dd f (n + 1)).length with z | z
  · rw [List.eq_nil_of_length_eq_zero z] at this
    cases this
  · exact z
/-- the codes of all names -/
def csOf (S : SV) (E : EV) : List (List Nat) := S.2.2.1.map (codes E S.1)
theorem VC_of {S : SV} {E : EV} (hS : VS S) (hE : VE E) : VC (csOf S E) := by
  refine ⟨by unfold csOf; rw [List.length_map]; exact hS.2.2.1, fun l hl => ?_⟩
  obtain ⟨w, hw, rfl⟩ := List.mem_map.mp hl
  refine ⟨dd_le _ 4, dd_pos _ 3, fun c hc => ?_, fun j c hj => dd_fresh _ 4 j c hj⟩
  obtain ⟨v, -, e⟩ := dd_mem.mp hc
  rw [← e]
  exact cw_lt hE (hS.2.2.2.1 w hw) hS.1.2
/-- the numbers of a code: looked up, or put behind -/
def drH (k : Nat) (acc : List Nat) (c : Nat) (h : Hp) : Hp := if c ∈ acc then h else setI (setI (setI h k (upd (h.1 k) 3 (nI (acc.length + 1)))) (k + 3) (upd (h.1 (k + 3)) acc.length (nI c))) (k + 4) (upd (h.1 (k + 4)) acc.length 0)
theorem drH_spec {k c : Nat} {acc : List Nat} {h : Hp} (nm : Nat → Int32) (h3 : h.1 k 3 = nI acc.length) (hcd : ∀ (d x : Nat), acc[d]? = some x → h.1 (k + 3) d = nI x ∧ h.1 (k + 4) d = nm x) (h0 : c ∉ acc → nm c = 0) :
    (drH k acc c h).1 k 3 = nI (addD acc c).length ∧ (∀ (d x : Nat), (addD acc c)[d]? = some x → (drH k acc c h).1 (k + 3) d = nI x ∧ (drH k acc c h).1 (k + 4) d = nm x) ∧ (drH k acc c h).1 k 0 = h.1 k 0 ∧ (drH k acc c h).1 (k + 1) = h.1 (k + 1) ∧ (drH k acc c h).1 (k + 2) = h.1 (k + 2) ∧ (drH k acc c h).1 (k + 5) = h.1 (k + 5) ∧ FrI k (k + 5) h (drH k acc c h) := by
  unfold drH addD
  by_cases hm : c ∈ acc
  · simp only [if_pos hm]
    exact ⟨h3, hcd, trivial, trivial, trivial, trivial, FrI.rf⟩
  · simp only [if_neg hm]
    refine ⟨?_, fun d x hd => ?_, ?_, ?_, ?_, ?_, ((FrI.rf.set _ (by omega) (by omega)).set _ (by omega) (by omega)).set _ (by omega) (by omega)⟩
    · simp (disch := omega) only [setI_n, setI_s, pk_us, List.length_append]
      rfl
    · simp (disch := omega) only [setI_n, setI_s]
      by_cases hl : d < acc.length
      · rw [List.getElem?_append_left hl] at hd
        rw [pk_un (by omega), pk_un (by omega)]
        exact hcd d x hd
      · have hd2 := (List.getElem?_eq_some_iff.mp hd).1
        rw [List.length_append] at hd2
        simp at hd2
        have : d = acc.length := by omega
        subst this
        rw [List.getElem?_append_right (Nat.le_refl _), Nat.sub_self, List.getElem?_cons_zero] at hd
        rw [← Option.some.inj hd, pk_us, pk_us, h0 hm]
        exact ⟨rfl, rfl⟩
    · simp (disch := omega) only [setI_n, setI_s, pk_un]
    · simp (disch := omega) only [setI_n]
    · simp (disch := omega) only [setI_n]
    · simp (disch := omega) only [setI_n]
