/-! WHAT EACH CALL ANSWERS AND DOES: one function for class and reference -/
def inR (x : Int32) (a b : Nat) : Bool := decide (nI a ≤ x) && decide (x ≤ nI b)
def tn (x : Int32) : Nat := x.toNatClampNeg
theorem tn_nI {n : Nat} (h : n < 2 ^ 31) : tn (nI n) = n := nI_clamp h
theorem inR_t {x : Int32} {a b : Nat} (ha : a < 2 ^ 31) (hb : b < 2 ^ 31) (h : inR x a b = true) : ∃ v, a ≤ v ∧ v ≤ b ∧ x = nI v := by
  unfold inR at h
  rw [Bool.and_eq_true] at h
  have h0 := of_decide_eq_true h.1
  have h1 := of_decide_eq_true h.2
  have hx : ¬ x < 0 := Int32.not_lt.mpr (Int32.le_trans (nI_pos' ha) h0)
  obtain ⟨j, hj, rfl⟩ := nI_of hx
  exact ⟨j, (nI_leI ha hj).mp h0, (nI_leI hj hb).mp h1, rfl⟩
theorem inR_i {v a b : Nat} (hb : b < 2 ^ 31) (h1 : a ≤ v) (h2 : v ≤ b) : inR (nI v) a b = true := by
  unfold inR
  rw [decide_eq_true (nI_le h1 (by omega)), decide_eq_true (nI_le h2 hb)]
  rfl
def isLtr (x : Int32) : Bool := decide (0 ≤ x) && decide (x < 26)
theorem isLtr_t {x : Int32} (h : isLtr x = true) : ∃ l, l < 26 ∧ x = nI l := inN_t (n := 26) (by decide) h
theorem isLtr_i {l : Nat} (h : l < 26) : isLtr (nI l) = true := inN_i h (by decide)
def canM (a b : Int32) : Bool := inR a 0 9 && inR b 0 9 && decide (a ≠ b)
def eN (es : List EV) (x : Int32) : Option EV := if inN x es.length = true then es[tn x]? else none
def withE (S : SV) (es : List EV) : SV := (S.1, S.2.1, S.2.2.1, es)
def recG (G : GS) (S : SV) : GS := (S, pushP G.2.1 G.1, G.2.2)
def hearE (E : EV) (l k : Nat) : EV := (upN E.1 l k, if E.2.1 l = k + 1 then upN E.2.1 l 0 else E.2.1, E.2.2)
def sp_set (s v : Int32) (G : GS) : Int32 × GS :=
  if s = 0 ∧ inR v 1 5 = true then (nI G.1.1, recG G (tn v, G.1.2))
  else if s = 1 ∧ inR v 1 24 = true then (nI G.1.2.1, recG G (G.1.1, tn v, G.1.2.2))
  else (-2, G)
def sp_add (G : GS) : Int32 × GS :=
  if ¬ flt G.2.2.2 = -6 then (-3, G)
  else if G.1.2.2.1.contains (pw G.2.2.2) = true then (-5, G)
  else if G.1.2.1 ≤ G.1.2.2.1.length then (-4, G)
  else (nI G.1.2.2.1.length, ((G.1.1, G.1.2.1, G.1.2.2.1 ++ [pw G.2.2.2], G.1.2.2.2), pushP G.2.1 G.1, G.2.2.1, []))
def sp_drop (x : Int32) (G : GS) : Int32 × GS :=
  if inN x G.1.2.2.1.length = true then (nI (G.1.2.2.1.length - 1), recG G (G.1.1, G.1.2.1, G.1.2.2.1.eraseIdx (tn x), G.1.2.2.2)) else (-1, G)
def sp_ear (a : Int32) (G : GS) : Int32 × GS :=
  if inN a G.1.2.2.2.length = false ∧ ¬ a = -6 then (-1, G)
  else if 4 ≤ G.1.2.2.2.length then (-4, G)
  else (nI G.1.2.2.2.length, recG G (withE G.1 (G.1.2.2.2 ++ [(eN G.1.2.2.2 a).getD E0])))
def sp_hear (e l k : Int32) (G : GS) : Int32 × GS := match eN G.1.2.2.2 e with
  | none => (-1, G)
  | some E => if isLtr l = false then (-1, G) else if inR k 0 9 = false then (-2, G) else (nI (E.1 (tn l)), recG G (withE G.1 (G.1.2.2.2.set (tn e) (hearE E (tn l) (tn k)))))
def sp_second (e l k : Int32) (G : GS) : Int32 × GS := match eN G.1.2.2.2 e with
  | none => (-1, G)
  | some E => if isLtr l = false then (-1, G) else if inR k 0 9 = false ∧ ¬ k = -6 then (-2, G) else if k = nI (E.1 (tn l)) then (-5, G) else (sec (E.2.1 (tn l)), recG G (withE G.1 (G.1.2.2.2.set (tn e) (E.1, upN E.2.1 (tn l) (if k = -6 then 0 else tn k + 1), E.2.2))))
def sp_habits (e b : Int32) (G : GS) : Int32 × GS := match eN G.1.2.2.2 e with
  | none => (-1, G)
  | some E => if inR b 0 7 = false then (-2, G) else (nI E.2.2.1, recG G (withE G.1 (G.1.2.2.2.set (tn e) (E.1, E.2.1, tn b, E.2.2.2))))
def sp_merge (e a b : Int32) (G : GS) : Int32 × GS := match eN G.1.2.2.2 e with
  | none => (-1, G)
  | some E => if canM a b = false then (-2, G) else (nI (pc (lof (mergeE E (tn a) (tn b)).1 (tn a))), recG G (withE G.1 (G.1.2.2.2.set (tn e) (mergeE E (tn a) (tn b)))))
def sp_split (e : Int32) (G : GS) : Int32 × GS := match eN G.1.2.2.2 e with
  | none => (-1, G)
  | some E => match E.2.2.2.getLast? with
    | none => (-5, G)
    | some q => (nI q.2.1, recG G (withE G.1 (G.1.2.2.2.set (tn e) (splitE E q E.2.2.2.dropLast))))
theorem eN_t {es : List EV} {x : Int32} {E : EV} (hn : es.length ≤ 4) (h : eN es x = some E) : ∃ e, e < es.length ∧ x = nI e ∧ es[e]? = some E := by
  unfold eN at h
  by_cases c : inN x es.length = true
  · rw [if_pos c] at h
    obtain ⟨e, he, rfl⟩ := inN_t (by omega) c
    rw [tn_nI (by omega)] at h
    exact ⟨e, he, rfl, h⟩
  · rw [if_neg c] at h
    cases h
theorem eN_i {es : List EV} {e : Nat} (hn : es.length ≤ 4) (he : e < es.length) : eN es (nI e) = es[e]? := by
  unfold eN
  rw [if_pos (inN_i he (by omega)), tn_nI (by omega)]
theorem eN_f {es : List EV} {x : Int32} (h : inN x es.length = false) : eN es x = none := by
  unfold eN
  rw [if_neg (by rw [h]; decide)]
/-! validity of the new states -/
theorem VE0 : VE E0 := ⟨fun l hl => ⟨(firstKN l hl).2, Nat.zero_le _, Nat.succ_ne_zero _ ∘ Eq.symm⟩, by decide, by decide, fun q h => by cases h⟩
theorem VE_hear {E : EV} {l k : Nat} (h : VE E) (hk : k ≤ 9) : VE (hearE E l k) := by
  refine ⟨fun x hx => ?_, h.2.1, h.2.2.1, h.2.2.2⟩
  obtain ⟨a, b, c⟩ := h.1 x hx
  unfold hearE
  show upN E.1 l k x ≤ 9 ∧ (if E.2.1 l = k + 1 then upN E.2.1 l 0 else E.2.1) x ≤ 10 ∧ (if E.2.1 l = k + 1 then upN E.2.1 l 0 else E.2.1) x ≠ upN E.1 l k x + 1
  by_cases q : E.2.1 l = k + 1
  · rw [if_pos q]
    by_cases z : x = l
    · subst z
      rw [upN_s, upN_s]
      exact ⟨hk, by omega, by omega⟩
    · rw [upN_n _ _ z, upN_n _ _ z]
      exact ⟨a, b, c⟩
  · rw [if_neg q]
    by_cases z : x = l
    · subst z
      rw [upN_s]
      exact ⟨hk, b, q⟩
    · rw [upN_n _ _ z]
      exact ⟨a, b, c⟩
theorem pushM_len {ms : List (Nat × Nat × Int32 × Int32)} (x) (h : ms.length ≤ 6) : (pushM ms x).length ≤ 6 := by
  unfold pushM
  split
  · rw [List.length_append]
    show ms.length + 1 ≤ 6
    omega
  · rw [List.length_append, List.length_tail]
    show ms.length - 1 + 1 ≤ 6
    omega
theorem pushM_mem {ms : List (Nat × Nat × Int32 × Int32)} {x q} (h : q ∈ pushM ms x) : q ∈ ms ∨ q = x := by
  unfold pushM at h
  split at h
  · rcases List.mem_append.mp h with z | z
    · exact Or.inl z
    · exact Or.inr (List.mem_singleton.mp z)
  · rcases List.mem_append.mp h with z | z
    · exact Or.inl (List.mem_of_mem_tail z)
    · exact Or.inr (List.mem_singleton.mp z)
theorem VE_merge {E : EV} {a b : Nat} (h : VE E) (ha : a ≤ 9) (hb : b ≤ 9) : VE (mergeE E a b) := by
  refine ⟨fun x hx => ?_, h.2.1, pushM_len _ h.2.2.1, fun q hq => ?_⟩
  · obtain ⟨p, q, r⟩ := h.1 x hx
    show mgF E.1 a b x ≤ 9 ∧ mgS E.1 E.2.1 a b x ≤ 10 ∧ mgS E.1 E.2.1 a b x ≠ mgF E.1 a b x + 1
    have h1 : mgF E.1 a b x ≤ 9 := by unfold mgF; split <;> omega
    have h2 : mgS1 E.2.1 a b x ≤ 10 := by unfold mgS1; split <;> omega
    refine ⟨h1, ?_, ?_⟩
    · unfold mgS
      split <;> omega
    · unfold mgS
      split <;> omega
  · rcases pushM_mem hq with z | z
    · exact h.2.2.2 q z
    · rw [z]
      exact ⟨ha, hb⟩
theorem VE_split {E : EV} {q : Nat × Nat × Int32 × Int32} {ms : List (Nat × Nat × Int32 × Int32)} (h : VE E) (hq : q ∈ E.2.2.2) (hm : ∀ x ∈ ms, x ∈ E.2.2.2) (hl : ms.length ≤ 6) : VE (splitE E q ms) := by
  have hq9 := h.2.2.2 q hq
  refine ⟨fun x hx => ?_, h.2.1, hl, fun y hy => h.2.2.2 y (hm y hy)⟩
  obtain ⟨a, b, c⟩ := h.1 x hx
  show spF q E.1 x ≤ 9 ∧ spS q E.1 E.2.1 x ≤ 10 ∧ spS q E.1 E.2.1 x ≠ spF q E.1 x + 1
  have h1 : spF q E.1 x ≤ 9 := by unfold spF; split <;> omega
  have h2 : spS1 q E.2.1 x ≤ 10 := by unfold spS1; split <;> omega
  refine ⟨h1, ?_, ?_⟩
  · unfold spS
    split <;> omega
  · unfold spS
    split <;> omega
theorem VE_second {E : EV} {l s : Nat} (h : VE E) (hs : s ≤ 10) (hn : s ≠ E.1 l + 1) : VE (E.1, upN E.2.1 l s, E.2.2) := by
  refine ⟨fun x hx => ?_, h.2.1, h.2.2.1, h.2.2.2⟩
  obtain ⟨a, b, c⟩ := h.1 x hx
  show E.1 x ≤ 9 ∧ upN E.2.1 l s x ≤ 10 ∧ upN E.2.1 l s x ≠ E.1 x + 1
  by_cases z : x = l
  · subst z
    rw [upN_s]
    exact ⟨a, hs, hn⟩
  · rw [upN_n _ _ z]
    exact ⟨a, b, c⟩
theorem VS_ears {S : SV} {es : List EV} (h : VS S) (hl : es.length ≤ 4) (he : ∀ E ∈ es, VE E) : VS (withE S es) := ⟨h.1, h.2.1, h.2.2.1, h.2.2.2.1, hl, he⟩
theorem VS_setE {S : SV} {e : Nat} {E : EV} (h : VS S) (hE : VE E) : VS (withE S (S.2.2.2.set e E)) := by
  refine VS_ears h (by rw [List.length_set]; exact h.2.2.2.2.1) (fun F hF => ?_)
  rcases List.mem_or_eq_of_mem_set hF with z | z
  · exact h.2.2.2.2.2 F z
  · rw [z]
    exact hE
theorem RS.ear {b e : Nat} {S : SV} {E : EV} {h h' : Hp} (r : RS b S h) (hV : VS S) (f : FrI (b + 10 * (e + 1)) (b + 10 * (e + 1) + 6) h h') (re : RE (b + 10 * (e + 1)) E h') : RS b (withE S (S.2.2.2.set e E)) h' := by
  obtain ⟨r1, r2, r3, r4, r5, r6⟩ := r
  have f0 := f.1 b (by omega)
  refine ⟨by rw [f0]; exact r1, by rw [f0]; exact r2, by rw [f0]; exact r3, ?_, fun i w hw => by rw [f.2]; exact r5 i w hw, fun e' E' he' => ?_⟩
  · rw [f0]
    show h.1 b 4 = nI (S.2.2.2.set e E).length
    rw [List.length_set]
    exact r4
  · have he' : (S.2.2.2.set e E)[e']? = some E' := he'
    by_cases z : e' = e
    · subst z
      rw [List.getElem?_set] at he'
      rw [if_pos rfl] at he'
      split at he'
      · rw [← Option.some.inj he']
        exact re
      · cases he'
    · rw [List.getElem?_set_ne (fun q => z q.symm)] at he'
      exact (r6 e' E' he').kept (fun c c1 c2 => f.1 c (by omega))
