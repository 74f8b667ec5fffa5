/-! THE REFERENCE: what it holds -/
theorem nI_mul (a b : Nat) : nI a * nI b = nI (a * b) := (Int32.ofNat_mul a b).symm
theorem ix_name (i : Nat) : (4 : Int32) + 11 * nI i = nI (4 + 11 * i) := by
  rw [show (11 : Int32) = nI 11 from rfl, show (4 : Int32) = nI 4 from rfl, nI_mul, nI_add]
theorem ix_ltr (i p : Nat) : (4 : Int32) + 11 * nI i + 1 + nI p = nI (4 + 11 * i + 1 + p) := by
  rw [ix_name, nI_1, nI_add]
theorem ix_ear (e w : Nat) : (268 : Int32) + 78 * nI e + nI w = nI (268 + 78 * e + w) := by
  rw [show (78 : Int32) = nI 78 from rfl, show (268 : Int32) = nI 268 from rfl, nI_mul, nI_add, nI_add]
/-- an ear in a row of numbers -/
def REZ (k : Nat) (E : EV) (r : Nat → Int32) : Prop := (∀ l, l < 26 → r (k + l) = nI (E.1 l) ∧ r (k + 26 + l) = nI (E.2.1 l)) ∧ r (k + 52) = nI E.2.2.1 ∧ r (k + 53) = nI E.2.2.2.length ∧ ∀ j q, E.2.2.2[j]? = some q → r (k + 54 + 4 * j) = nI q.1 ∧ r (k + 54 + 4 * j + 1) = nI q.2.1 ∧ r (k + 54 + 4 * j + 2) = q.2.2.1 ∧ r (k + 54 + 4 * j + 3) = q.2.2.2
/-- a state in a row of numbers -/
def RZ (o : Nat) (S : SV) (r : Nat → Int32) : Prop := r o = nI S.1 ∧ r (o + 1) = nI S.2.1 ∧ r (o + 2) = nI S.2.2.1.length ∧ r (o + 3) = nI S.2.2.2.length ∧ (∀ i w, S.2.2.1[i]? = some w → r (o + 4 + 11 * i) = nI (wsz w) ∧ ∀ p, p < 10 → r (o + 4 + 11 * i + 1 + p) = nI (wl w p - 1)) ∧ ∀ e E, S.2.2.2[e]? = some E → REZ (o + 268 + 78 * e) E r
theorem REZ.to {k k' : Nat} {E : EV} {r r' : Nat → Int32} (x : REZ k E r) (hV : VE E) (f : ∀ j, j < 78 → r' (k' + j) = r (k + j)) : REZ k' E r' := by
  obtain ⟨x1, x2, x3, x4⟩ := x
  have h6 := hV.2.2.1
  refine ⟨fun l hl => ⟨(f l (by omega)).trans (x1 l hl).1, ?_⟩, (f 52 (by omega)).trans x2, (f 53 (by omega)).trans x3, fun j q hj => ?_⟩
  · have := f (26 + l) (by omega)
    rw [← Nat.add_assoc, ← Nat.add_assoc] at this
    exact this.trans (x1 l hl).2
  · have hjl := (List.getElem?_eq_some_iff.mp hj).1
    obtain ⟨y1, y2, y3, y4⟩ := x4 j q hj
    refine ⟨?_, ?_, ?_, ?_⟩
    · rw [← y1, Nat.add_assoc, Nat.add_assoc]
      exact f _ (by omega)
    · rw [← y2, Nat.add_assoc, Nat.add_assoc, Nat.add_assoc, Nat.add_assoc]
      exact f _ (by omega)
    · rw [← y3, Nat.add_assoc, Nat.add_assoc, Nat.add_assoc, Nat.add_assoc]
      exact f _ (by omega)
    · rw [← y4, Nat.add_assoc, Nat.add_assoc, Nat.add_assoc, Nat.add_assoc]
      exact f _ (by omega)
theorem RZ.to {o o' : Nat} {S : SV} {r r' : Nat → Int32} (x : RZ o S r) (hV : VS S) (f : ∀ j, j < 580 → r' (o' + j) = r (o + j)) : RZ o' S r' := by
  obtain ⟨x1, x2, x3, x4, x5, x6⟩ := x
  have h24 := hV.2.2.1
  have h4 := hV.2.2.2.2.1
  refine ⟨(f 0 (by omega)).trans x1, (f 1 (by omega)).trans x2, (f 2 (by omega)).trans x3, (f 3 (by omega)).trans x4, fun i w hi => ?_, fun e E he => ?_⟩
  · have hil := (List.getElem?_eq_some_iff.mp hi).1
    obtain ⟨y1, y2⟩ := x5 i w hi
    refine ⟨?_, fun p hp => ?_⟩
    · rw [← y1, Nat.add_assoc, Nat.add_assoc]
      exact f _ (by omega)
    · rw [← y2 p hp, show o' + 4 + 11 * i + 1 + p = o' + (4 + 11 * i + 1 + p) by omega, show o + 4 + 11 * i + 1 + p = o + (4 + 11 * i + 1 + p) by omega]
      exact f _ (by omega)
  · have hel := (List.getElem?_eq_some_iff.mp he).1
    refine (x6 e E he).to (hV.2.2.2.2.2 E (List.mem_of_getElem? he)) (fun j hj => ?_)
    rw [show o' + 268 + 78 * e + j = o' + (268 + 78 * e + j) by omega, show o + 268 + 78 * e + j = o + (268 + 78 * e + j) by omega]
    exact f _ (by omega)
def PZ (past : List SV) (h : Hp) : Prop := h.1 40 3 = nI past.length ∧ past.length ≤ 6 ∧ ∀ (j : Nat) (S : SV), past[j]? = some S → RZ (580 * j) S (h.1 43) ∧ VS S
def LZ (sl : Option SV × Option SV) (h : Hp) : Prop := h.1 45 0 = bI sl.1.isSome ∧ h.1 45 1 = bI sl.2.isSome ∧ (∀ S, sl.1 = some S → RZ 0 S (h.1 44) ∧ VS S) ∧ ∀ S, sl.2 = some S → RZ 580 S (h.1 44) ∧ VS S
def DZ (p : List Nat) (h : Hp) : Prop := h.1 40 7 = nI p.length ∧ ∀ (i c : Nat), p[i]? = some c → h.1 46 i = nI c
/-- the reference holds this state -/
def MG (G : GS) (h : Hp) : Prop := RZ 0 G.1 (h.1 41) ∧ VS G.1 ∧ PZ G.2.1 h ∧ LZ G.2.2.1 h ∧ DZ G.2.2.2 h ∧ VP G.2.2.2
def CM (g : Gx) (y : MethodName) (ws : List Cond) (rm : Room) (as : List Value) (h : Hp) (r : Int32 × GS) : Prop := AC g y ws rm as h (fun v h' => v = some (.int r.1) ∧ MG r.2 h' ∧ Fr 40 59 h h')
theorem MG.kept {G : GS} {h h' : Hp} (x : MG G h) (f1 : h'.1 41 = h.1 41) (f3 : h'.1 40 3 = h.1 40 3) (f7 : h'.1 40 7 = h.1 40 7) (f : ∀ c, 43 ≤ c → c ≤ 46 → h'.1 c = h.1 c) : MG G h' := by
  obtain ⟨x1, x2, x3, x4, x5, x6⟩ := x
  refine ⟨by rw [f1]; exact x1, x2, ⟨by rw [f3]; exact x3.1, x3.2.1, fun j S hS => by rw [f 43 (by omega) (by omega)]; exact x3.2.2 j S hS⟩, ⟨by rw [f 45 (by omega) (by omega)]; exact x4.1, by rw [f 45 (by omega) (by omega)]; exact x4.2.1, fun S hS => by rw [f 44 (by omega) (by omega)]; exact x4.2.2.1 S hS, fun S hS => by rw [f 44 (by omega) (by omega)]; exact x4.2.2.2 S hS⟩, ⟨by rw [f7]; exact x5.1, fun i c hc => by rw [f 46 (by omega) (by omega)]; exact x5.2 i c hc⟩, x6⟩
/-- the state that is now changes -/
theorem MG.now {G : GS} {S : SV} {h h' : Hp} (x : MG G h) (r : RZ 0 S (h'.1 41)) (v : VS S) (f3 : h'.1 40 3 = h.1 40 3) (f7 : h'.1 40 7 = h.1 40 7) (f : ∀ c, 43 ≤ c → c ≤ 46 → h'.1 c = h.1 c) : MG (S, G.2) h' := by
  obtain ⟨x1, x2, x3, x4, x5, x6⟩ := x
  refine ⟨r, v, ⟨by rw [f3]; exact x3.1, x3.2.1, fun j S hS => by rw [f 43 (by omega) (by omega)]; exact x3.2.2 j S hS⟩, ⟨by rw [f 45 (by omega) (by omega)]; exact x4.1, by rw [f 45 (by omega) (by omega)]; exact x4.2.1, fun S hS => by rw [f 44 (by omega) (by omega)]; exact x4.2.2.1 S hS, fun S hS => by rw [f 44 (by omega) (by omega)]; exact x4.2.2.2 S hS⟩, ⟨by rw [f7]; exact x5.1, fun i c hc => by rw [f 46 (by omega) (by omega)]; exact x5.2 i c hc⟩, x6⟩
theorem MG.fm {G : GS} {h h' : Hp} (x : MG G h) (f : FM h h') : MG G h' := x.kept (f 41 (by omega) (by omega)).1 (by rw [(f 40 (by omega) (by omega)).1]) (by rw [(f 40 (by omega) (by omega)).1]) (fun c c1 c2 => (f c (by omega) (by omega)).1)
theorem XI.fr {G : GS} {h h' : Hp} (x : XI G h) (f : Fr 40 59 h h') : XI G h' := x.kept (fun c hc => f.1 c (by omega)) f.2
/-- scratch of the reference -/
def FrS (h h' : Hp) : Prop := Fr 40 59 h h' ∧ h'.1 41 = h.1 41 ∧ h'.1 40 3 = h.1 40 3 ∧ h'.1 40 7 = h.1 40 7 ∧ ∀ c, 42 ≤ c → (c ≤ 46 ∨ c = 53) → h'.1 c = h.1 c
theorem FrS.rf {h : Hp} : FrS h h := ⟨Fr.rf, rfl, rfl, rfl, fun _ _ _ => rfl⟩
theorem FrS.tr {h h1 h2 : Hp} (a : FrS h h1) (b : FrS h1 h2) : FrS h h2 := ⟨a.1.tr b.1, b.2.1.trans a.2.1, b.2.2.1.trans a.2.2.1, b.2.2.2.1.trans a.2.2.2.1, fun c c1 c2 => (b.2.2.2.2 c c1 c2).trans (a.2.2.2.2 c c1 c2)⟩
theorem MG.s {G : GS} {h h' : Hp} (x : MG G h) (f : FrS h h') : MG G h' := x.kept f.2.1 f.2.2.1 f.2.2.2.1 (fun c c1 c2 => f.2.2.2.2 c (by omega) (Or.inl c2))
/-- a scratch row is written -/
theorem FrS.I {h h1 : Hp} (a : FrS h h1) (k : Nat) (r : Nat → Int32) (h1k : 47 ≤ k) (h2k : k ≤ 52) : FrS h (setI h1 k r) :=
  a.tr ⟨Fr.rf.sI r (by omega) (by omega), setI_n _ _ (by omega), by rw [setI_n _ _ (by omega)], by rw [setI_n _ _ (by omega)], fun c c1 c2 => setI_n _ _ (by omega)⟩
theorem FrS.J {h h1 : Hp} (a : FrS h h1) (k : Nat) (r : Nat → Int64) (h1k : 40 ≤ k) (h2k : k ≤ 59) : FrS h (setJ h1 k r) :=
  a.tr ⟨Fr.rf.sJ r (by omega) (by omega), rfl, rfl, rfl, fun c c1 c2 => rfl⟩
/-- a scratch field is written -/
theorem FrS.F {h h1 : Hp} (a : FrS h h1) (j : Nat) (v : Int32) (hj : 9 ≤ j) : FrS h (setI h1 40 (upd (h1.1 40) j v)) :=
  a.tr ⟨Fr.rf.sI _ (by omega) (by omega), setI_n _ _ (by omega), by rw [setI_s, pk_un (by omega)], by rw [setI_s, pk_un (by omega)], fun c c1 c2 => setI_n _ _ (by omega)⟩
