/-! THE ABSTRACT MACHINE: one world for every method; references are numbers of cells, 'ad' gives their addresses -/
abbrev Hp : Type := (Nat → Nat → Int32) × (Nat → Nat → Int64) × (Nat → Nat → Nat)
abbrev Gx : Type := Launch × (Nat → Nat) × va_G × (Nat → ClassId)
abbrev MI : Type := List Cond × ByteArray × String × Nat × Option FieldType × Room
abbrev Zt : Type := Nat × Nat × (List Frame → Array Value → State → State → Prop)
abbrev Lo : Type := List (Nat × Option Value)
/-- the cells: number, kind, length -/
def cellsEar (k : Nat) : List (Nat × Nat × Nat) := [(k, 1, 0), (k + 1, 8, 26), (k + 2, 8, 26), (k + 3, 8, 6), (k + 4, 8, 6), (k + 5, 8, 6), (k + 6, 8, 6)]
def cellsState (b : Nat) : List (Nat × Nat × Nat) := [(b, 4, 0), (b + 1, 9, 24), (b + 2, 11, 4)] ++ (List.range 4).flatMap (fun e => cellsEar (b + 10 * (e + 1)))
def tbl : List (Nat × Nat × Nat) := [(0, 5, 0), (1, 12, 6), (2, 12, 2), (3, 10, 2), (4, 3, 0), (5, 7, 80), (6, 0, 0), (7, 8, 24), (8, 8, 96), (9, 8, 96), (10, 8, 96), (11, 8, 4), (12, 0, 0), (13, 8, 24), (14, 8, 96), (15, 8, 96), (16, 8, 96), (17, 8, 4), (18, 2, 0), (19, 8, 11), (20, 8, 24)] ++ cellsEar 30 ++ [(40, 9, 24), (41, 8, 2)] ++ (List.range 9).flatMap (fun s => cellsState (100 * (s + 1)))
def LX : List Nat := tbl.map (fun t => t.1)
/-- the law's own row of distances (cell 42) is there only where it has an address -/
def tblA : List (Nat × Nat × Nat) := tbl ++ [(42, 8, 22)]
def kd (k : Nat) : Nat := match tblA.find? (fun t => Nat.beq t.1 k) with
  | some t => t.2.1
  | none => 99
def ln (k : Nat) : Nat := match tblA.find? (fun t => Nat.beq t.1 k) with
  | some t => t.2.2
  | none => 0
def isC (k c n : Nat) : Prop := (k, c, n) ∈ tbl
theorem tbl_ok : ∀ t ∈ tbl, kd t.1 = t.2.1 ∧ ln t.1 = t.2.2 := by decide +kernel
theorem LX_nodup : va_nd LX = true := by decide +kernel
theorem isC.kd {k c n : Nat} (h : isC k c n) : kd k = c := (tbl_ok _ h).1
theorem kd_42 : kd 42 = 8 := by decide +kernel
theorem ln_42 : ln 42 = 22 := by decide +kernel
theorem isC.ln {k c n : Nat} (h : isC k c n) : ln k = n := (tbl_ok _ h).2
theorem isC.mem {k c n : Nat} (h : isC k c n) : k ∈ LX := List.mem_map.mpr ⟨_, h, rfl⟩
def LXg (g : Gx) : List Nat := if g.2.1 42 = 0 then LX else LX ++ [42]
theorem LXg_nodup (g : Gx) : va_nd (LXg g) = true := by
  unfold LXg
  split
  · exact LX_nodup
  · decide +kernel
theorem LX_sub (g : Gx) {k : Nat} (h : k ∈ LX) : k ∈ LXg g := by
  unfold LXg
  split
  · exact h
  · exact List.mem_append_left _ h
theorem isC.at {k c n : Nat} (h : isC k c n) (g : Gx) : ∃ q : Nat, (LXg g)[q]? = some k := List.getElem?_of_mem (LX_sub g h.mem)
def isD (g : Gx) : Prop := ¬ g.2.1 42 = 0
theorem isD.at {g : Gx} (h : isD g) : ∃ q : Nat, (LXg g)[q]? = some 42 := by
  refine List.getElem?_of_mem ?_
  unfold LXg
  rw [if_neg h]
  exact List.mem_append_right _ List.mem_cons_self
def cv (g : Gx) (v : Value) : Value := match v with
  | .ref k => .ref (g.2.1 k)
  | w => w
theorem cv_cat (g : Gx) (v : Value) : (cv g v).category = v.category := by cases v <;> rfl
/-- an object's fields, by its kind -/
def fl (h : Hp) (k : Nat) (c : Nat) : List Value := match c with
  | 0 => [.int (h.1 k 0), .ref (k + 1), .ref (k + 2), .int (h.1 k 3), .ref (k + 3), .ref (k + 4), .ref (k + 5)]
  | 1 => [.ref (k + 1), .ref (k + 2), .int (h.1 k 2), .int (h.1 k 3), .ref (k + 3), .ref (k + 4), .ref (k + 5), .ref (k + 6)]
  | 2 => [.ref (k + 1), .ref (k + 2)]
  | 3 => [.ref (k + 1), .int (h.1 k 1)]
  | 4 => [.int (h.1 k 0), .int (h.1 k 1), .int (h.1 k 2), .ref (k + 1), .int (h.1 k 4), .ref (k + 2)]
  | 5 => [.ref 100, .ref 1, .int (h.1 k 2), .ref 2, .ref 3, .ref 4, .ref 6, .ref 12, .ref 30, .ref 18]
  | _ => []
/-- an array's class, length and contents, by its kind -/
def ar (g : Gx) (h : Hp) (k : Nat) (c : Nat) : va_E := match c with
  | 7 => .inl (g.2.2.2 0, ln k, .inl (h.1 k))
  | 8 => .inl (g.2.2.2 1, ln k, .inl (h.1 k))
  | 9 => .inl (g.2.2.2 2, ln k, .inr (.inl (h.2.1 k)))
  | 10 => .inl (g.2.2.2 3, ln k, .inl (h.1 k))
  | 11 => .inl (g.2.2.2 4, ln k, .inr (.inr (.inr (.inr (fun j => some (g.2.1 (k + 8 + 10 * j)))))))
  | _ => .inl (g.2.2.2 5, ln k, .inr (.inr (.inr (.inr (fun j => some (g.2.1 (h.2.2 k j)))))))
def cellE (g : Gx) (h : Hp) (k : Nat) : va_E := if kd k < 7 then .inr (kd k, (fl h k (kd k)).map (cv g)) else ar g h k (kd k)
def wsOf (g : Gx) (h : Hp) : va_W := (LXg g).map (fun k => (g.2.1 k, cellE g h k))
def tysOf (g : Gx) : List (ClassId × FieldType) := [(g.2.2.2 0, .char), (g.2.2.2 1, .int), (g.2.2.2 2, .long), (g.2.2.2 3, .boolean), (g.2.2.2 4, .object "ConsonantIndex$Ear"), (g.2.2.2 5, .object "ConsonantIndex$State")]
def AA (g : Gx) : Nat → Prop := fun q => ∃ k, k ∈ LXg g ∧ q = g.2.1 k
def ginj (g : Gx) : Prop := ∀ i, i ∈ LXg g → ∀ j, j ∈ LXg g → g.2.1 i = g.2.1 j → i = j
def firstK (j : Nat) : Int32 := ([0, 1, 2, 3, 0, 1, 2, 0, 0, 2, 2, 4, 5, 5, 0, 1, 2, 6, 2, 3, 0, 1, 0, 2, 0, 2] : List Int32).getD j 0
def SZ (g : Gx) (U : State) (H : Heap) : Prop := va_Z "ConsonantIndex$Ear" "FIRSTS_AT_FIRST" "[I" (.ref (g.2.1 60)) (AA g) U H ∧ va_T .int (g.2.1 60) 26 (fun j => .int (firstK j)) (AA g) U H
def setI (h : Hp) (k : Nat) (r : Nat → Int32) : Hp := (va_up h.1 k r, h.2.1, h.2.2)
def setJ (h : Hp) (k : Nat) (r : Nat → Int64) : Hp := (h.1, va_up h.2.1 k r, h.2.2)
def setP (h : Hp) (k : Nat) (r : Nat → Nat) : Hp := (h.1, h.2.1, va_up h.2.2 k r)
theorem fl_congr {h h' : Hp} {k : Nat} (e : h'.1 k = h.1 k) (c : Nat) : fl h' k c = fl h k c := by
  unfold fl
  rw [e]
theorem cellE_congr {g : Gx} {h h' : Hp} {k : Nat} (e1 : h'.1 k = h.1 k) (e2 : h'.2.1 k = h.2.1 k) (e3 : h'.2.2 k = h.2.2 k) : cellE g h' k = cellE g h k := by
  unfold cellE ar
  rw [fl_congr e1, e1, e2, e3]
theorem ws_get {g : Gx} {h : Hp} {k q : Nat} (hq : (LXg g)[q]? = some k) : (wsOf g h)[q]? = some (g.2.1 k, cellE g h k) := by
  simp [wsOf, hq]
theorem ws_set {g : Gx} {h h' : Hp} {k q : Nat} {e : va_E} (hq : (LXg g)[q]? = some k) (he : cellE g h' k = e) (ho : ∀ j, j ≠ k → cellE g h' j = cellE g h j) : (wsOf g h).set q (g.2.1 k, e) = wsOf g h' := by
  apply List.ext_getElem?
  intro i
  rw [List.getElem?_set]
  by_cases hi : q = i
  · subst hi
    have hl : q < (wsOf g h).length := by
      rw [wsOf, List.length_map]
      exact (List.getElem?_eq_some_iff.mp hq).1
    rw [if_pos rfl, if_pos hl, ws_get hq, he]
  · rw [if_neg hi]
    cases hx : (LXg g)[i]? with
    | none => simp [wsOf, hx]
    | some j =>
      rw [ws_get hx, ws_get hx, ho j]
      intro hjk
      subst hjk
      exact hi (by
        exact va_nd_inj (LXg g) (LXg_nodup g) q i _ hq hx)
theorem ws_D {g : Gx} (hg : ginj g) (h : Hp) : va_D (AA g) (wsOf g h) := by
  have key : ∀ (i : Nat) (p : Nat × va_E), (wsOf g h)[i]? = some p → ∃ k, (LXg g)[i]? = some k ∧ p.1 = g.2.1 k := by
    intro i p hp
    cases hx : (LXg g)[i]? with
    | none => simp [wsOf, hx] at hp
    | some j =>
      rw [ws_get hx] at hp
      cases hp
      exact ⟨j, rfl, rfl⟩
  refine ⟨fun i j p q hp hq hpq => ?_, fun k q hq => ?_⟩
  · obtain ⟨a, a1, a2⟩ := key i p hp
    obtain ⟨b, b1, b2⟩ := key j q hq
    have hab : a = b := hg a (List.mem_of_getElem? a1) b (List.mem_of_getElem? b1) (by rw [← a2, ← b2]; exact hpq)
    subst hab
    exact va_nd_inj (LXg g) (LXg_nodup g) i j _ a1 b1
  · obtain ⟨a, a1, a2⟩ := key k q hq
    exact ⟨a, List.mem_of_getElem? a1, a2⟩
/-- locals -/
def lget : Lo → Nat → Option Value
  | [], _ => none
  | q :: r, i => bif Nat.beq q.1 i then q.2 else lget r i
def okst (l : Lo) (i : Nat) : Bool := match i with
  | 0 => true
  | k + 1 => match lget l k with
    | some v => Nat.beq v.category 1
    | none => true
def la : Nat → List Value → Lo
  | _, [] => []
  | i, v :: vs => (i, some v) :: la (if v.category = 2 then i + 2 else i + 1) vs
def LM (g : Gx) (ls : Array Slot) (nL : Nat) (l : Lo) : Prop := ls.size = nL ∧ lv_wf ls ∧ ∀ i v, lget l i = some v → ls[i]? = some (.val (cv g v))
def cnc (g : Gx) (nL : Nat) (l : Lo) : List (Nat × Value) := (List.range nL).filterMap (fun j => (lget l j).map (fun v => (j, cv g v)))
theorem lget_self (l : Lo) (i : Nat) (v : Option Value) : lget ((i, v) :: l) i = v := by simp [lget]
theorem lget_ne (l : Lo) {i j : Nat} (v : Option Value) (h : i ≠ j) : lget ((i, v) :: l) j = lget l j := by
  have : Nat.beq i j = false := by
    cases hb : Nat.beq i j with
    | false => rfl
    | true => exact absurd (Nat.eq_of_beq_eq_true hb) h
  simp [lget, this]
theorem mem_cnc {g : Gx} {nL : Nat} {l : Lo} {q : Nat × Value} : q ∈ cnc g nL l ↔ q.1 < nL ∧ ∃ v, lget l q.1 = some v ∧ q.2 = cv g v := by
  unfold cnc
  rw [List.mem_filterMap]
  constructor
  · rintro ⟨j, hj, hq⟩
    cases hx : lget l j with
    | none => rw [hx] at hq; cases hq
    | some v =>
      rw [hx] at hq
      cases hq
      exact ⟨List.mem_range.mp hj, v, hx, rfl⟩
  · rintro ⟨h1, v, h2, h3⟩
    refine ⟨q.1, List.mem_range.mpr h1, ?_⟩
    rw [h2]
    show some (q.1, cv g v) = some q
    rw [← h3]
theorem LM.lt {g : Gx} {ls : Array Slot} {nL : Nat} {l : Lo} (h : LM g ls nL l) {i : Nat} {v : Value} (hi : lget l i = some v) : i < nL := by
  rw [← h.1]
  exact lv_lt (h.2.2 i v hi)
theorem LM.conc {g : Gx} {ls : Array Slot} {nL : Nat} {l : Lo} (h : LM g ls nL l) : lv_has ls nL (cnc g nL l) := by
  refine ⟨h.1, h.2.1, fun q hq => ?_⟩
  obtain ⟨-, v, h2, h3⟩ := mem_cnc.mp hq
  rw [h3]
  exact h.2.2 _ _ h2
theorem LM.st1 {g : Gx} {ls ls' : Array Slot} {nL i : Nat} {l : Lo} {v : Value} (h : LM g ls nL l) (hok : okst l i = true) (h' : lv_has ls' nL ((i, cv g v) :: (cnc g nL l).filter (fun q => !(q.1 == i) && !(q.1 + 1 == i && q.2.category == 2)))) : LM g ls' nL ((i, some v) :: l) := by
  refine ⟨h'.1, h'.2.1, fun j w hj => ?_⟩
  by_cases hij : i = j
  · subst hij
    rw [lget_self] at hj
    cases hj
    exact h'.2.2 _ List.mem_cons_self
  · rw [lget_ne _ _ hij] at hj
    refine h'.2.2 (j, cv g w) (List.mem_cons_of_mem _ (List.mem_filter.mpr ⟨mem_cnc.mpr ⟨h.lt hj, w, hj, rfl⟩, ?_⟩))
    have e1 : (j == i) = false := by simp; exact fun q => hij q.symm
    have e2 : (j + 1 == i && (cv g w).category == 2) = false := by
      by_cases hz : j + 1 = i
      · subst hz
        simp only [okst, hj] at hok
        have := Nat.eq_of_beq_eq_true hok
        rw [cv_cat, this]
        simp
      · have : (j + 1 == i) = false := by simp; exact hz
        rw [this]
        rfl
    show (!(j == i) && !(j + 1 == i && (cv g w).category == 2)) = true
    rw [e1, e2]
    rfl
theorem LM.st2 {g : Gx} {ls ls' : Array Slot} {nL i : Nat} {l : Lo} {v : Value} (h : LM g ls nL l) (hok : okst l i = true) (h' : lv_has ls' nL ((i, cv g v) :: (cnc g nL l).filter (fun q => !(q.1 == i) && (!(q.1 == i + 1) && !(q.1 + 1 == i && q.2.category == 2))))) : LM g ls' nL ((i, some v) :: (i + 1, none) :: l) := by
  refine ⟨h'.1, h'.2.1, fun j w hj => ?_⟩
  by_cases hij : i = j
  · subst hij
    rw [lget_self] at hj
    cases hj
    exact h'.2.2 _ List.mem_cons_self
  · rw [lget_ne _ _ hij] at hj
    by_cases hij2 : i + 1 = j
    · subst hij2
      rw [lget_self] at hj
      cases hj
    · rw [lget_ne _ _ hij2] at hj
      refine h'.2.2 (j, cv g w) (List.mem_cons_of_mem _ (List.mem_filter.mpr ⟨mem_cnc.mpr ⟨h.lt hj, w, hj, rfl⟩, ?_⟩))
      have e1 : (j == i) = false := by simp; exact fun q => hij q.symm
      have e3 : (j == i + 1) = false := by simp; exact fun q => hij2 q.symm
      have e2 : (j + 1 == i && (cv g w).category == 2) = false := by
        by_cases hz : j + 1 = i
        · subst hz
          simp only [okst, hj] at hok
          have := Nat.eq_of_beq_eq_true hok
          rw [cv_cat, this]
          simp
        · have : (j + 1 == i) = false := by simp; exact hz
          rw [this]
          rfl
      show (!(j == i) && (!(j == i + 1) && !(j + 1 == i && (cv g w).category == 2))) = true
      rw [e1, e2, e3]
      rfl
theorem la_args (g : Gx) (vs : List Value) : ∀ (s i : Nat) (v : Value), lget (la s vs) i = some v → (i, cv g v) ∈ lv_args s (vs.map (cv g)) := by
  induction vs with
  | nil => intro s i v h; cases h
  | cons a r ih =>
    intro s i v h
    show (i, cv g v) ∈ (s, cv g a) :: lv_args (if (cv g a).category = 2 then s + 2 else s + 1) (r.map (cv g))
    rw [cv_cat]
    by_cases hs : s = i
    · subst hs
      rw [la, lget_self] at h
      cases h
      exact List.mem_cons_self
    · rw [la, lget_ne _ _ hs] at h
      exact List.mem_cons_of_mem _ (ih _ _ _ h)
theorem lg_sl_len (g : Gx) (vs : List Value) : (lg_sl (vs.map (cv g))).length = (lg_sl vs).length := by
  induction vs with
  | nil => rfl
  | cons a r ih =>
    unfold lg_sl at ih ⊢
    simp only [List.map_cons, List.flatMap_cons, List.length_append, cv_cat, ih]
    split <;> rfl
/-- what stands at a method's frame -/
def FX (g : Gx) (M : MI) (p : Program) (s : State) (m : MethodId) (args : Array Value) (meth : Method) (c : Code) : Prop :=
  p.tables.exec = Jvm.exec ∧ c.code = M.2.1 ∧ c.maxLocals = M.2.2.2.1 ∧ meth.sig.returnType = M.2.2.2.2.1 ∧ meth.locks = false ∧ s.vm.findClass M.2.2.1 = some m.cls ∧ (∀ w ∈ M.1, w.before args s = true) ∧ va_K g.2.2.1 vwCl (tysOf g) s ∧ ginj g ∧ SZ g s s.heap
def WD (g : Gx) (h : Hp) (U : State) : Prop := va_P g.2.2.1 vwCl (wsOf g h) U.heap ∧ va_K g.2.2.1 vwCl (tysOf g) U ∧ SZ g U U.heap
def QC (g : Gx) (P : Option Value → Hp → Prop) : Array Value → State → Outcome → State → Prop := fun _ st oc t => (∃ (r : Option Value) (h' : Hp), oc = .returned (r.map (cv g)) ∧ P r h' ∧ va_P g.2.2.1 vwCl (wsOf g h') t.heap) ∧ va_F (AA g) st t
/-- a contract: called with these values in this world, it returns, with P of answer and world -/
def AC (g : Gx) (y : MethodName) (ws : List Cond) (rm : Room) (as : List Value) (h : Hp) (P : Option Value → Hp → Prop) : Prop :=
  ginj g → Met g.1 y ws rm (va_Pc (as.map (cv g)) (WD g h)) (QC g P) 0 0 (AA g)
/-- the machine at a place, with these locals, this stack, this world, comes to its end -/
def AW (g : Gx) (M : MI) (Z : Zt) (pc : Nat) (l : Lo) (st : List Value) (h : Hp) : Prop :=
  ∀ (p : Program) (e : Env) (s : State) (m : MethodId) (args : Array Value) (below : List Frame) (meth : Method) (c : Code) (H : Heap) (locs : List Loc) (ls : Array Slot),
    FX g M p s m args meth c → va_P g.2.2.1 vwCl (wsOf g h) H → va_S (AA g) s.heap H locs → LM g ls M.2.2.2.1 l →
    W p g.1 e M.2.2.2.2.2 s m args below meth c H locs Z.1 Z.2.1 (Z.2.2 below args s) (F0 m pc ls (st.map (cv g)))
def ZP (g : Gx) (P : Option Value → Hp → Prop) : Zt := (0, 0, fun below args s => MQ below (QC g P) args s 0 0 (AA g))
section AM
variable {g : Gx} {M : MI} {Z : Zt} {pc n tgt : Nat} {l : Lo} {st : List Value} {h : Hp}

theorem am_iadd {x y : Int32} (hd : decode M.2.1 pc = .ok (.iadd, 1)) (hn : pc + 1 = n) (kk : AW g M Z n l (.int (x + y) :: st) h) : AW g M Z pc l (.int y :: .int x :: st) h := by
  subst hn
  intro p e s m args below meth c H locs ls F hP hS hL
  exact lv_iadd F.1 F.2.1 hd (kk p e s m args below meth c H locs ls F hP hS hL)
theorem am_isub {x y : Int32} (hd : decode M.2.1 pc = .ok (.isub, 1)) (hn : pc + 1 = n) (kk : AW g M Z n l (.int (x - y) :: st) h) : AW g M Z pc l (.int y :: .int x :: st) h := by
  subst hn
  intro p e s m args below meth c H locs ls F hP hS hL
  exact lv_isub F.1 F.2.1 hd (kk p e s m args below meth c H locs ls F hP hS hL)
theorem am_imul {x y : Int32} (hd : decode M.2.1 pc = .ok (.imul, 1)) (hn : pc + 1 = n) (kk : AW g M Z n l (.int (x * y) :: st) h) : AW g M Z pc l (.int y :: .int x :: st) h := by
  subst hn
  intro p e s m args below meth c H locs ls F hP hS hL
  exact lv_imul F.1 F.2.1 hd (kk p e s m args below meth c H locs ls F hP hS hL)
theorem am_iand {x y : Int32} (hd : decode M.2.1 pc = .ok (.iand, 1)) (hn : pc + 1 = n) (kk : AW g M Z n l (.int (x &&& y) :: st) h) : AW g M Z pc l (.int y :: .int x :: st) h := by
  subst hn
  intro p e s m args below meth c H locs ls F hP hS hL
  exact lv_iand F.1 F.2.1 hd (kk p e s m args below meth c H locs ls F hP hS hL)
theorem am_ior {x y : Int32} (hd : decode M.2.1 pc = .ok (.ior, 1)) (hn : pc + 1 = n) (kk : AW g M Z n l (.int (x ||| y) :: st) h) : AW g M Z pc l (.int y :: .int x :: st) h := by
  subst hn
  intro p e s m args below meth c H locs ls F hP hS hL
  exact lv_ior F.1 F.2.1 hd (kk p e s m args below meth c H locs ls F hP hS hL)
theorem am_ixor {x y : Int32} (hd : decode M.2.1 pc = .ok (.ixor, 1)) (hn : pc + 1 = n) (kk : AW g M Z n l (.int (x ^^^ y) :: st) h) : AW g M Z pc l (.int y :: .int x :: st) h := by
  subst hn
  intro p e s m args below meth c H locs ls F hP hS hL
  exact lv_ixor F.1 F.2.1 hd (kk p e s m args below meth c H locs ls F hP hS hL)
theorem am_ishl {x y : Int32} (hd : decode M.2.1 pc = .ok (.ishl, 1)) (hn : pc + 1 = n) (kk : AW g M Z n l (.int (x <<< (y &&& 31)) :: st) h) : AW g M Z pc l (.int y :: .int x :: st) h := by
  subst hn
  intro p e s m args below meth c H locs ls F hP hS hL
  exact lv_ishl F.1 F.2.1 hd (kk p e s m args below meth c H locs ls F hP hS hL)
theorem am_ishr {x y : Int32} (hd : decode M.2.1 pc = .ok (.ishr, 1)) (hn : pc + 1 = n) (kk : AW g M Z n l (.int (x >>> (y &&& 31)) :: st) h) : AW g M Z pc l (.int y :: .int x :: st) h := by
  subst hn
  intro p e s m args below meth c H locs ls F hP hS hL
  exact lv_ishr F.1 F.2.1 hd (kk p e s m args below meth c H locs ls F hP hS hL)
theorem am_iushr {x y : Int32} (hd : decode M.2.1 pc = .ok (.iushr, 1)) (hn : pc + 1 = n) (kk : AW g M Z n l (.int ((x.toUInt32 >>> (y.toUInt32 &&& Int32.toUInt32 31)).toInt32) :: st) h) : AW g M Z pc l (.int y :: .int x :: st) h := by
  subst hn
  intro p e s m args below meth c H locs ls F hP hS hL
  exact lv_iushr F.1 F.2.1 hd rfl (kk p e s m args below meth c H locs ls F hP hS hL)
theorem am_idiv {x y : Int32} (hd : decode M.2.1 pc = .ok (.idiv, 1)) (hne : ¬ y = 0) (hn : pc + 1 = n) (kk : AW g M Z n l (.int (x / y) :: st) h) : AW g M Z pc l (.int y :: .int x :: st) h := by
  subst hn
  intro p e s m args below meth c H locs ls F hP hS hL
  exact lv_idiv F.1 F.2.1 hd hne (kk p e s m args below meth c H locs ls F hP hS hL)
theorem am_ladd {x y : Int64} (hd : decode M.2.1 pc = .ok (.ladd, 1)) (hn : pc + 1 = n) (kk : AW g M Z n l (.long (x + y) :: st) h) : AW g M Z pc l (.long y :: .long x :: st) h := by
  subst hn
  intro p e s m args below meth c H locs ls F hP hS hL
  exact lv_ladd F.1 F.2.1 hd (kk p e s m args below meth c H locs ls F hP hS hL)
theorem am_land {x y : Int64} (hd : decode M.2.1 pc = .ok (.land, 1)) (hn : pc + 1 = n) (kk : AW g M Z n l (.long (x &&& y) :: st) h) : AW g M Z pc l (.long y :: .long x :: st) h := by
  subst hn
  intro p e s m args below meth c H locs ls F hP hS hL
  exact lv_land F.1 F.2.1 hd (kk p e s m args below meth c H locs ls F hP hS hL)
theorem am_lor {x y : Int64} (hd : decode M.2.1 pc = .ok (.lor, 1)) (hn : pc + 1 = n) (kk : AW g M Z n l (.long (x ||| y) :: st) h) : AW g M Z pc l (.long y :: .long x :: st) h := by
  subst hn
  intro p e s m args below meth c H locs ls F hP hS hL
  exact lv_lor F.1 F.2.1 hd (kk p e s m args below meth c H locs ls F hP hS hL)
theorem am_lmul {x y : Int64} (hd : decode M.2.1 pc = .ok (.lmul, 1)) (hn : pc + 1 = n) (kk : AW g M Z n l (.long (x * y) :: st) h) : AW g M Z pc l (.long y :: .long x :: st) h := by
  subst hn
  intro p e s m args below meth c H locs ls F hP hS hL
  exact lv_lmul F.1 F.2.1 hd (kk p e s m args below meth c H locs ls F hP hS hL)
theorem am_ldiv {x y : Int64} (hd : decode M.2.1 pc = .ok (.ldiv, 1)) (hne : ¬ y = 0) (hn : pc + 1 = n) (kk : AW g M Z n l (.long (x / y) :: st) h) : AW g M Z pc l (.long y :: .long x :: st) h := by
  subst hn
  intro p e s m args below meth c H locs ls F hP hS hL
  exact lv_ldiv F.1 F.2.1 hd hne (kk p e s m args below meth c H locs ls F hP hS hL)
theorem am_lshl {x : Int64} {y : Int32} (hd : decode M.2.1 pc = .ok (.lshl, 1)) (hn : pc + 1 = n) (kk : AW g M Z n l (.long (x <<< (y.toInt64 &&& 63)) :: st) h) : AW g M Z pc l (.int y :: .long x :: st) h := by
  subst hn
  intro p e s m args below meth c H locs ls F hP hS hL
  exact lv_lshl F.1 F.2.1 hd rfl (kk p e s m args below meth c H locs ls F hP hS hL)
theorem am_lshr {x : Int64} {y : Int32} (hd : decode M.2.1 pc = .ok (.lshr, 1)) (hn : pc + 1 = n) (kk : AW g M Z n l (.long (x >>> (y.toInt64 &&& 63)) :: st) h) : AW g M Z pc l (.int y :: .long x :: st) h := by
  subst hn
  intro p e s m args below meth c H locs ls F hP hS hL
  exact lv_lshr F.1 F.2.1 hd rfl (kk p e s m args below meth c H locs ls F hP hS hL)
theorem am_lushr {x : Int64} {y : Int32} (hd : decode M.2.1 pc = .ok (.lushr, 1)) (hn : pc + 1 = n) (kk : AW g M Z n l (.long ((x.toUInt64 >>> (y.toInt64.toUInt64 &&& Int64.toUInt64 63)).toInt64) :: st) h) : AW g M Z pc l (.int y :: .long x :: st) h := by
  subst hn
  intro p e s m args below meth c H locs ls F hP hS hL
  exact lv_lushr F.1 F.2.1 hd rfl (kk p e s m args below meth c H locs ls F hP hS hL)
theorem am_lcmp {x y : Int64} (hd : decode M.2.1 pc = .ok (.lcmp, 1)) (hn : pc + 1 = n) (kk : AW g M Z n l (.int (lg_cmp x y) :: st) h) : AW g M Z pc l (.long y :: .long x :: st) h := by
  subst hn
  intro p e s m args below meth c H locs ls F hP hS hL
  exact W.lcmp F.1 F.2.1 hd (kk p e s m args below meth c H locs ls F hP hS hL)
theorem am_i2l {x : Int32} (hd : decode M.2.1 pc = .ok (.i2l, 1)) (hn : pc + 1 = n) (kk : AW g M Z n l (.long x.toInt64 :: st) h) : AW g M Z pc l (.int x :: st) h := by
  subst hn
  intro p e s m args below meth c H locs ls F hP hS hL
  exact lv_i2l F.1 F.2.1 hd rfl (kk p e s m args below meth c H locs ls F hP hS hL)
theorem am_l2i {x : Int64} (hd : decode M.2.1 pc = .ok (.l2i, 1)) (hn : pc + 1 = n) (kk : AW g M Z n l (.int x.toInt32 :: st) h) : AW g M Z pc l (.long x :: st) h := by
  subst hn
  intro p e s m args below meth c H locs ls F hP hS hL
  exact lv_l2i F.1 F.2.1 hd rfl (kk p e s m args below meth c H locs ls F hP hS hL)
theorem am_i2c {x : Int32} (hd : decode M.2.1 pc = .ok (.i2c, 1)) (hn : pc + 1 = n) (kk : AW g M Z n l (.int ((x.toUInt32 % 65536).toInt32) :: st) h) : AW g M Z pc l (.int x :: st) h := by
  subst hn
  intro p e s m args below meth c H locs ls F hP hS hL
  exact lv_i2c F.1 F.2.1 hd rfl (kk p e s m args below meth c H locs ls F hP hS hL)
theorem am_iconst {k : Int} {v : Int32} (hd : decode M.2.1 pc = .ok (.iconst k, 1)) (hv : Int32.ofInt k = v) (hn : pc + 1 = n) (kk : AW g M Z n l (.int v :: st) h) : AW g M Z pc l ( st) h := by
  subst hn
  intro p e s m args below meth c H locs ls F hP hS hL
  exact lv_iconst F.1 F.2.1 hd hv (kk p e s m args below meth c H locs ls F hP hS hL)
theorem am_bipush {k : Int} {v : Int32} (hd : decode M.2.1 pc = .ok (.bipush k, 2)) (hv : (Int8.ofInt k).toInt32 = v) (hn : pc + 2 = n) (kk : AW g M Z n l (.int v :: st) h) : AW g M Z pc l ( st) h := by
  subst hn
  intro p e s m args below meth c H locs ls F hP hS hL
  exact lv_bipush F.1 F.2.1 hd hv (kk p e s m args below meth c H locs ls F hP hS hL)
theorem am_sipush {k : Int} {v : Int32} (hd : decode M.2.1 pc = .ok (.sipush k, 3)) (hv : (Int16.ofInt k).toInt32 = v) (hn : pc + 3 = n) (kk : AW g M Z n l (.int v :: st) h) : AW g M Z pc l ( st) h := by
  subst hn
  intro p e s m args below meth c H locs ls F hP hS hL
  exact lv_sipush F.1 F.2.1 hd hv (kk p e s m args below meth c H locs ls F hP hS hL)
theorem am_lconst {k : Fin 2} {v : Int64} (hd : decode M.2.1 pc = .ok (.lconst k, 1)) (hv : Int64.ofNat (k : Nat) = v) (hn : pc + 1 = n) (kk : AW g M Z n l (.long v :: st) h) : AW g M Z pc l ( st) h := by
  subst hn
  intro p e s m args below meth c H locs ls F hP hS hL
  exact lv_lconst F.1 F.2.1 hd hv (kk p e s m args below meth c H locs ls F hP hS hL)
theorem am_null  (hd : decode M.2.1 pc = .ok (.aconst_null, 1)) (hn : pc + 1 = n) (kk : AW g M Z n l (.null :: st) h) : AW g M Z pc l ( st) h := by
  subst hn
  intro p e s m args below meth c H locs ls F hP hS hL
  exact lv_null F.1 F.2.1 hd (kk p e s m args below meth c H locs ls F hP hS hL)
theorem am_dup {v : Value} (hd : decode M.2.1 pc = .ok (.dup, 1)) (hv : v.category = 1) (hn : pc + 1 = n) (kk : AW g M Z n l (v :: v :: st) h) : AW g M Z pc l (v :: st) h := by
  subst hn
  intro p e s m args below meth c H locs ls F hP hS hL
  exact lv_dup F.1 F.2.1 hd (by rw [cv_cat]; exact hv) (kk p e s m args below meth c H locs ls F hP hS hL)
theorem am_dup2 {v w : Value} (hd : decode M.2.1 pc = .ok (.dup2, 1)) (hv : v.category = 1) (hw : w.category = 1) (hn : pc + 1 = n) (kk : AW g M Z n l (v :: w :: v :: w :: st) h) : AW g M Z pc l (v :: w :: st) h := by
  subst hn
  intro p e s m args below meth c H locs ls F hP hS hL
  exact lv_dup2_11 F.1 F.2.1 hd (by rw [cv_cat]; exact hv) (by rw [cv_cat]; exact hw) (kk p e s m args below meth c H locs ls F hP hS hL)
theorem am_ldc2 {index : Nat} {v : Int64} (hd : decode M.2.1 pc = .ok (.ldc2_w index, 3)) (hw : Cond.constantLong M.2.2.1 index v ∈ M.1) (hn : pc + 3 = n) (kk : AW g M Z n l (.long v :: st) h) : AW g M Z pc l st h := by
  subst hn
  intro p e s m args below meth c H locs ls F hP hS hL
  exact lv_ldc2 F.1 F.2.1 F.2.2.2.2.2.1 (F.2.2.2.2.2.2.1 _ hw) hd (kk p e s m args below meth c H locs ls F hP hS hL)
theorem am_ldcw {index : Nat} {v : Int32} (hd : decode M.2.1 pc = .ok (.ldc_w index, 3)) (hw : Cond.constant M.2.2.1 index v ∈ M.1) (hn : pc + 3 = n) (kk : AW g M Z n l (.int v :: st) h) : AW g M Z pc l st h := by
  subst hn
  intro p e s m args below meth c H locs ls F hP hS hL
  exact lv_ldcw F.1 F.2.1 F.2.2.2.2.2.1 (F.2.2.2.2.2.2.1 _ hw) hd (kk p e s m args below meth c H locs ls F hP hS hL)
theorem am_goto {off : Int} (hd : decode M.2.1 pc = .ok (.goto off, 3)) (ht : (pc : Int) + off = (tgt : Int)) (kk : AW g M Z tgt l st h) : AW g M Z pc l st h := by
  intro p e s m args below meth c H locs ls F hP hS hL
  exact lv_goto F.1 F.2.1 hd ht (kk p e s m args below meth c H locs ls F hP hS hL)
theorem am_if_eq {x : Int32} {off : Int} (hd : decode M.2.1 pc = .ok (.ifCond .eq off, 3)) (ht : (pc : Int) + off = (tgt : Int)) (hn : pc + 3 = n) (kt : x = 0 → AW g M Z tgt l st h) (kf : ¬ x = 0 → AW g M Z n l st h) : AW g M Z pc l (.int x :: st) h := by
  subst hn
  intro p e s m args below meth c H locs ls F hP hS hL
  exact lv_if_eq F.1 F.2.1 hd ht (fun q => kt q p e s m args below meth c H locs ls F hP hS hL) (fun q => kf q p e s m args below meth c H locs ls F hP hS hL)
theorem am_if_ne {x : Int32} {off : Int} (hd : decode M.2.1 pc = .ok (.ifCond .ne off, 3)) (ht : (pc : Int) + off = (tgt : Int)) (hn : pc + 3 = n) (kt : ¬ x = 0 → AW g M Z tgt l st h) (kf : x = 0 → AW g M Z n l st h) : AW g M Z pc l (.int x :: st) h := by
  subst hn
  intro p e s m args below meth c H locs ls F hP hS hL
  exact lv_if_ne F.1 F.2.1 hd ht (fun q => kt q p e s m args below meth c H locs ls F hP hS hL) (fun q => kf q p e s m args below meth c H locs ls F hP hS hL)
theorem am_if_lt {x : Int32} {off : Int} (hd : decode M.2.1 pc = .ok (.ifCond .lt off, 3)) (ht : (pc : Int) + off = (tgt : Int)) (hn : pc + 3 = n) (kt : x < 0 → AW g M Z tgt l st h) (kf : ¬ x < 0 → AW g M Z n l st h) : AW g M Z pc l (.int x :: st) h := by
  subst hn
  intro p e s m args below meth c H locs ls F hP hS hL
  exact lv_if_lt F.1 F.2.1 hd ht (fun q => kt q p e s m args below meth c H locs ls F hP hS hL) (fun q => kf q p e s m args below meth c H locs ls F hP hS hL)
theorem am_if_ge {x : Int32} {off : Int} (hd : decode M.2.1 pc = .ok (.ifCond .ge off, 3)) (ht : (pc : Int) + off = (tgt : Int)) (hn : pc + 3 = n) (kt : 0 ≤ x → AW g M Z tgt l st h) (kf : ¬ 0 ≤ x → AW g M Z n l st h) : AW g M Z pc l (.int x :: st) h := by
  subst hn
  intro p e s m args below meth c H locs ls F hP hS hL
  exact lv_if_ge F.1 F.2.1 hd ht (fun q => kt q p e s m args below meth c H locs ls F hP hS hL) (fun q => kf q p e s m args below meth c H locs ls F hP hS hL)
theorem am_if_gt {x : Int32} {off : Int} (hd : decode M.2.1 pc = .ok (.ifCond .gt off, 3)) (ht : (pc : Int) + off = (tgt : Int)) (hn : pc + 3 = n) (kt : 0 < x → AW g M Z tgt l st h) (kf : ¬ 0 < x → AW g M Z n l st h) : AW g M Z pc l (.int x :: st) h := by
  subst hn
  intro p e s m args below meth c H locs ls F hP hS hL
  exact lv_if_gt F.1 F.2.1 hd ht (fun q => kt q p e s m args below meth c H locs ls F hP hS hL) (fun q => kf q p e s m args below meth c H locs ls F hP hS hL)
theorem am_if_le {x : Int32} {off : Int} (hd : decode M.2.1 pc = .ok (.ifCond .le off, 3)) (ht : (pc : Int) + off = (tgt : Int)) (hn : pc + 3 = n) (kt : x ≤ 0 → AW g M Z tgt l st h) (kf : ¬ x ≤ 0 → AW g M Z n l st h) : AW g M Z pc l (.int x :: st) h := by
  subst hn
  intro p e s m args below meth c H locs ls F hP hS hL
  exact lv_if_le F.1 F.2.1 hd ht (fun q => kt q p e s m args below meth c H locs ls F hP hS hL) (fun q => kf q p e s m args below meth c H locs ls F hP hS hL)
theorem am_icmp_eq {x y : Int32} {off : Int} (hd : decode M.2.1 pc = .ok (.if_icmp .eq off, 3)) (ht : (pc : Int) + off = (tgt : Int)) (hn : pc + 3 = n) (kt : x = y → AW g M Z tgt l st h) (kf : ¬ x = y → AW g M Z n l st h) : AW g M Z pc l (.int y :: .int x :: st) h := by
  subst hn
  intro p e s m args below meth c H locs ls F hP hS hL
  exact lv_icmp_eq F.1 F.2.1 hd ht (fun q => kt q p e s m args below meth c H locs ls F hP hS hL) (fun q => kf q p e s m args below meth c H locs ls F hP hS hL)
theorem am_icmp_ne {x y : Int32} {off : Int} (hd : decode M.2.1 pc = .ok (.if_icmp .ne off, 3)) (ht : (pc : Int) + off = (tgt : Int)) (hn : pc + 3 = n) (kt : ¬ x = y → AW g M Z tgt l st h) (kf : x = y → AW g M Z n l st h) : AW g M Z pc l (.int y :: .int x :: st) h := by
  subst hn
  intro p e s m args below meth c H locs ls F hP hS hL
  exact lv_icmp_ne F.1 F.2.1 hd ht (fun q => kt q p e s m args below meth c H locs ls F hP hS hL) (fun q => kf q p e s m args below meth c H locs ls F hP hS hL)
theorem am_icmp_lt {x y : Int32} {off : Int} (hd : decode M.2.1 pc = .ok (.if_icmp .lt off, 3)) (ht : (pc : Int) + off = (tgt : Int)) (hn : pc + 3 = n) (kt : x < y → AW g M Z tgt l st h) (kf : ¬ x < y → AW g M Z n l st h) : AW g M Z pc l (.int y :: .int x :: st) h := by
  subst hn
  intro p e s m args below meth c H locs ls F hP hS hL
  exact lv_icmp_lt F.1 F.2.1 hd ht (fun q => kt q p e s m args below meth c H locs ls F hP hS hL) (fun q => kf q p e s m args below meth c H locs ls F hP hS hL)
theorem am_icmp_ge {x y : Int32} {off : Int} (hd : decode M.2.1 pc = .ok (.if_icmp .ge off, 3)) (ht : (pc : Int) + off = (tgt : Int)) (hn : pc + 3 = n) (kt : y ≤ x → AW g M Z tgt l st h) (kf : ¬ y ≤ x → AW g M Z n l st h) : AW g M Z pc l (.int y :: .int x :: st) h := by
  subst hn
  intro p e s m args below meth c H locs ls F hP hS hL
  exact lv_icmp_ge F.1 F.2.1 hd ht (fun q => kt q p e s m args below meth c H locs ls F hP hS hL) (fun q => kf q p e s m args below meth c H locs ls F hP hS hL)
theorem am_icmp_gt {x y : Int32} {off : Int} (hd : decode M.2.1 pc = .ok (.if_icmp .gt off, 3)) (ht : (pc : Int) + off = (tgt : Int)) (hn : pc + 3 = n) (kt : y < x → AW g M Z tgt l st h) (kf : ¬ y < x → AW g M Z n l st h) : AW g M Z pc l (.int y :: .int x :: st) h := by
  subst hn
  intro p e s m args below meth c H locs ls F hP hS hL
  exact lv_icmp_gt F.1 F.2.1 hd ht (fun q => kt q p e s m args below meth c H locs ls F hP hS hL) (fun q => kf q p e s m args below meth c H locs ls F hP hS hL)
theorem am_icmp_le {x y : Int32} {off : Int} (hd : decode M.2.1 pc = .ok (.if_icmp .le off, 3)) (ht : (pc : Int) + off = (tgt : Int)) (hn : pc + 3 = n) (kt : x ≤ y → AW g M Z tgt l st h) (kf : ¬ x ≤ y → AW g M Z n l st h) : AW g M Z pc l (.int y :: .int x :: st) h := by
  subst hn
  intro p e s m args below meth c H locs ls F hP hS hL
  exact lv_icmp_le F.1 F.2.1 hd ht (fun q => kt q p e s m args below meth c H locs ls F hP hS hL) (fun q => kf q p e s m args below meth c H locs ls F hP hS hL)
theorem am_ifnonnull {k : Nat} {off : Int} (hd : decode M.2.1 pc = .ok (.ifnonnull off, 3)) (ht : (pc : Int) + off = (tgt : Int)) (kk : AW g M Z tgt l st h) : AW g M Z pc l (.ref k :: st) h := by
  intro p e s m args below meth c H locs ls F hP hS hL
  exact lv_ifnonnull F.1 F.2.1 hd ht (kk p e s m args below meth c H locs ls F hP hS hL)
theorem am_ifnonnullN {off : Int} (hd : decode M.2.1 pc = .ok (.ifnonnull off, 3)) (hn : pc + 3 = n) (kk : AW g M Z n l st h) : AW g M Z pc l (.null :: st) h := by
  subst hn
  intro p e s m args below meth c H locs ls F hP hS hL
  exact lv_ifnonnullN F.1 F.2.1 hd (kk p e s m args below meth c H locs ls F hP hS hL)
theorem am_ifnull {k : Nat} {off : Int} (hd : decode M.2.1 pc = .ok (.ifnull off, 3)) (hn : pc + 3 = n) (kk : AW g M Z n l st h) : AW g M Z pc l (.ref k :: st) h := by
  subst hn
  intro p e s m args below meth c H locs ls F hP hS hL
  exact lv_ifnull F.1 F.2.1 hd (kk p e s m args below meth c H locs ls F hP hS hL)
theorem am_ifnullN {off : Int} (hd : decode M.2.1 pc = .ok (.ifnull off, 3)) (ht : (pc : Int) + off = (tgt : Int)) (kk : AW g M Z tgt l st h) : AW g M Z pc l (.null :: st) h := by
  intro p e s m args below meth c H locs ls F hP hS hL
  exact lv_ifnullN F.1 F.2.1 hd ht (kk p e s m args below meth c H locs ls F hP hS hL)
theorem am_tableIn {dflt lo hi : Int} {offs : Array Int} {len : Nat} {x : Int32} {off : Int} (hd : decode M.2.1 pc = .ok (.tableswitch dflt lo hi offs, len)) (h1 : ¬ x.toInt < lo) (h2 : ¬ hi < x.toInt) (ho : offs[(x.toInt - lo).toNat]? = some off) (ht : (pc : Int) + off = (tgt : Int)) (kk : AW g M Z tgt l st h) : AW g M Z pc l (.int x :: st) h := by
  intro p e s m args below meth c H locs ls F hP hS hL
  exact lv_tableIn F.1 F.2.1 hd h1 h2 ho ht (kk p e s m args below meth c H locs ls F hP hS hL)
theorem am_tableOut {dflt lo hi : Int} {offs : Array Int} {len : Nat} {x : Int32} (hd : decode M.2.1 pc = .ok (.tableswitch dflt lo hi offs, len)) (h1 : x.toInt < lo ∨ hi < x.toInt) (ht : (pc : Int) + dflt = (tgt : Int)) (kk : AW g M Z tgt l st h) : AW g M Z pc l (.int x :: st) h := by
  intro p e s m args below meth c H locs ls F hP hS hL
  exact lv_tableOut F.1 F.2.1 hd h1 ht (kk p e s m args below meth c H locs ls F hP hS hL)
theorem am_lookup {dflt : Int} {ps : Array (Int × Int)} {len : Nat} {x : Int32} {off : Int} (hd : decode M.2.1 pc = .ok (.lookupswitch dflt ps, len)) (hp : (ps.toList.zip (ps.toList.drop 1)).all (fun (a, next) => a.1 < next.1) = true) (ho : Op.lookupswitch.offset ps.toList dflt x.toInt = off) (ht : (pc : Int) + off = (tgt : Int)) (kk : AW g M Z tgt l st h) : AW g M Z pc l (.int x :: st) h := by
  intro p e s m args below meth c H locs ls F hP hS hL
  exact lv_lookup F.1 F.2.1 hd hp ho ht (kk p e s m args below meth c H locs ls F hP hS hL)
theorem am_iload {i : Nat} {x : Int32} (hd : decode M.2.1 pc = .ok (.iload i, 2)) (hl : lget l i = some (.int x)) (hn : pc + 2 = n) (kk : AW g M Z n l (.int x :: st) h) : AW g M Z pc l st h := by
  subst hn
  intro p e s m args below meth c H locs ls F hP hS hL
  exact lv_iload F.1 F.2.1 hd (hL.2.2 _ _ hl) (kk p e s m args below meth c H locs ls F hP hS hL)
theorem am_iload_n {i : Nat} {k : Fin 4} {x : Int32} (hd : decode M.2.1 pc = .ok (.iload_n k, 1)) (hi : (k : Nat) = i) (hl : lget l i = some (.int x)) (hn : pc + 1 = n) (kk : AW g M Z n l (.int x :: st) h) : AW g M Z pc l st h := by
  subst hn
  intro p e s m args below meth c H locs ls F hP hS hL
  exact lv_iload_n F.1 F.2.1 hd hi (hL.2.2 _ _ hl) (kk p e s m args below meth c H locs ls F hP hS hL)
theorem am_lload {i : Nat} {x : Int64} (hd : decode M.2.1 pc = .ok (.lload i, 2)) (hl : lget l i = some (.long x)) (hn : pc + 2 = n) (kk : AW g M Z n l (.long x :: st) h) : AW g M Z pc l st h := by
  subst hn
  intro p e s m args below meth c H locs ls F hP hS hL
  exact lv_lload F.1 F.2.1 hd (hL.2.2 _ _ hl) (kk p e s m args below meth c H locs ls F hP hS hL)
theorem am_lload_n {i : Nat} {k : Fin 4} {x : Int64} (hd : decode M.2.1 pc = .ok (.lload_n k, 1)) (hi : (k : Nat) = i) (hl : lget l i = some (.long x)) (hn : pc + 1 = n) (kk : AW g M Z n l (.long x :: st) h) : AW g M Z pc l st h := by
  subst hn
  intro p e s m args below meth c H locs ls F hP hS hL
  exact lv_lload_n F.1 F.2.1 hd hi (hL.2.2 _ _ hl) (kk p e s m args below meth c H locs ls F hP hS hL)
theorem am_aload {i : Nat} {x : Nat} (hd : decode M.2.1 pc = .ok (.aload i, 2)) (hl : lget l i = some (.ref x)) (hn : pc + 2 = n) (kk : AW g M Z n l (.ref x :: st) h) : AW g M Z pc l st h := by
  subst hn
  intro p e s m args below meth c H locs ls F hP hS hL
  exact lv_aload F.1 F.2.1 hd (hL.2.2 _ _ hl) (kk p e s m args below meth c H locs ls F hP hS hL)
theorem am_aload_n {i : Nat} {k : Fin 4} {x : Nat} (hd : decode M.2.1 pc = .ok (.aload_n k, 1)) (hi : (k : Nat) = i) (hl : lget l i = some (.ref x)) (hn : pc + 1 = n) (kk : AW g M Z n l (.ref x :: st) h) : AW g M Z pc l st h := by
  subst hn
  intro p e s m args below meth c H locs ls F hP hS hL
  exact lv_aload_n F.1 F.2.1 hd hi (hL.2.2 _ _ hl) (kk p e s m args below meth c H locs ls F hP hS hL)
theorem am_istore {i : Nat} {x : Int32} (hd : decode M.2.1 pc = .ok (.istore i, 2)) (hi2 : i < M.2.2.2.1) (hok : okst l i = true) (hn : pc + 2 = n) (kk : AW g M Z n ((i, some (.int x)) :: l) st h) : AW g M Z pc l (.int x :: st) h := by
  subst hn
  intro p e s m args below meth c H locs ls F hP hS hL
  exact lv_istore F.1 F.2.1 hd hL.conc hi2 rfl (fun ls' hl' => kk p e s m args below meth c H locs ls' F hP hS (hL.st1 (v := .int x) hok hl'))
theorem am_istore_n {i : Nat} {k : Fin 4} {x : Int32} (hd : decode M.2.1 pc = .ok (.istore_n k, 1)) (hi : (k : Nat) = i) (hi2 : i < M.2.2.2.1) (hok : okst l i = true) (hn : pc + 1 = n) (kk : AW g M Z n ((i, some (.int x)) :: l) st h) : AW g M Z pc l (.int x :: st) h := by
  subst hn
  intro p e s m args below meth c H locs ls F hP hS hL
  exact lv_istore_n F.1 F.2.1 hd hi hL.conc hi2 rfl (fun ls' hl' => kk p e s m args below meth c H locs ls' F hP hS (hL.st1 (v := .int x) hok hl'))
theorem am_lstore {i : Nat} {x : Int64} (hd : decode M.2.1 pc = .ok (.lstore i, 2)) (hi2 : i + 1 < M.2.2.2.1) (hok : okst l i = true) (hn : pc + 2 = n) (kk : AW g M Z n ((i, some (.long x)) :: (i + 1, none) :: l) st h) : AW g M Z pc l (.long x :: st) h := by
  subst hn
  intro p e s m args below meth c H locs ls F hP hS hL
  exact lv_lstore F.1 F.2.1 hd hL.conc hi2 rfl (fun ls' hl' => kk p e s m args below meth c H locs ls' F hP hS (hL.st2 (v := .long x) hok hl'))
theorem am_lstore_n {i : Nat} {k : Fin 4} {x : Int64} (hd : decode M.2.1 pc = .ok (.lstore_n k, 1)) (hi : (k : Nat) = i) (hi2 : i + 1 < M.2.2.2.1) (hok : okst l i = true) (hn : pc + 1 = n) (kk : AW g M Z n ((i, some (.long x)) :: (i + 1, none) :: l) st h) : AW g M Z pc l (.long x :: st) h := by
  subst hn
  intro p e s m args below meth c H locs ls F hP hS hL
  exact lv_lstore_n F.1 F.2.1 hd hi hL.conc hi2 rfl (fun ls' hl' => kk p e s m args below meth c H locs ls' F hP hS (hL.st2 (v := .long x) hok hl'))
theorem am_astore {i : Nat} {x : Nat} (hd : decode M.2.1 pc = .ok (.astore i, 2)) (hi2 : i < M.2.2.2.1) (hok : okst l i = true) (hn : pc + 2 = n) (kk : AW g M Z n ((i, some (.ref x)) :: l) st h) : AW g M Z pc l (.ref x :: st) h := by
  subst hn
  intro p e s m args below meth c H locs ls F hP hS hL
  exact lv_astore F.1 F.2.1 hd hL.conc hi2 rfl (fun ls' hl' => kk p e s m args below meth c H locs ls' F hP hS (hL.st1 (v := .ref x) hok hl'))
theorem am_astore_n {i : Nat} {k : Fin 4} {x : Nat} (hd : decode M.2.1 pc = .ok (.astore_n k, 1)) (hi : (k : Nat) = i) (hi2 : i < M.2.2.2.1) (hok : okst l i = true) (hn : pc + 1 = n) (kk : AW g M Z n ((i, some (.ref x)) :: l) st h) : AW g M Z pc l (.ref x :: st) h := by
  subst hn
  intro p e s m args below meth c H locs ls F hP hS hL
  exact lv_astore_n F.1 F.2.1 hd hi hL.conc hi2 rfl (fun ls' hl' => kk p e s m args below meth c H locs ls' F hP hS (hL.st1 (v := .ref x) hok hl'))
theorem am_iinc {i : Nat} {a : Int} {x v : Int32} (hd : decode M.2.1 pc = .ok (.iinc i a, 3)) (hl : lget l i = some (.int x)) (hv : x + Int32.ofInt a = v) (hok : okst l i = true) (hn : pc + 3 = n) (kk : AW g M Z n ((i, some (.int v)) :: l) st h) : AW g M Z pc l st h := by
  subst hn
  intro p e s m args below meth c H locs ls F hP hS hL
  obtain ⟨q, hq⟩ := List.getElem?_of_mem ((mem_cnc (g := g) (nL := M.2.2.2.1) (l := l) (q := (i, Value.int x))).mpr ⟨hL.lt hl, _, hl, rfl⟩)
  exact lv_iinc (v := v) F.1 F.2.1 hd hL.conc hq hv (hL.lt hl) rfl (fun ls' hl' => kk p e s m args below meth c H locs ls' F hP hS (hL.st1 (v := .int v) hok hl'))
/-- fewer locals, in any order -/
theorem am_loc (l' : Lo) (hl : l'.map (fun q => lget l q.1) = l'.map (fun q => q.2)) (kk : AW g M Z pc l' st h) : AW g M Z pc l st h := by
  intro p e s m args below meth c H locs ls F hP hS hL
  refine kk p e s m args below meth c H locs ls F hP hS ⟨hL.1, hL.2.1, fun i v hi => hL.2.2 i v ?_⟩
  have key : ∀ (l' : Lo), l'.map (fun q => lget l q.1) = l'.map (fun q => q.2) → lget l' i = some v → lget l i = some v := by
    intro l'
    induction l' with
    | nil => intro _ h; cases h
    | cons a r ih =>
      intro hm hi
      simp only [List.map_cons, List.cons.injEq] at hm
      by_cases hz : a.1 = i
      · have e : lget (a :: r) i = a.2 := by rw [← hz]; exact lget_self r a.1 a.2
        rw [e] at hi
        rw [← hz, hm.1, hi]
      · have e : lget (a :: r) i = lget r i := lget_ne r a.2 hz
        rw [e] at hi
        exact ih hm.2 hi
  exact key l' hl hi
/-- the same with another name for the world, the stack, the place -/
theorem am_eq {pc' : Nat} {l' : Lo} {st' : List Value} {h' : Hp} (e1 : pc' = pc) (e2 : l' = l) (e3 : st' = st) (e4 : h' = h) (kk : AW g M Z pc' l' st' h') : AW g M Z pc l st h := by
  subst e1; subst e2; subst e3; subst e4
  exact kk
/-- fields -/
theorem am_get {own C : String} {T : u_T} {N c j k idx : Nat} {v : Value} (hd : decode M.2.1 pc = .ok (.getfield idx, 3)) (hc : isC k c 0) (hc7 : c < 7) (hcl : vwCl[c]? = some (C, T, N)) (hj : j < N) (hown : M.2.2.1 = own) (hw : Cond.fieldLink own idx (T j).1 (T j).2.1 (T j).2.2.1 ∈ M.1) (hin : ∀ w ∈ u_ws C T N, w ∈ M.1) (hv : (fl h k c)[j]? = some v) (hn : pc + 3 = n) (kk : AW g M Z n l (v :: st) h) : AW g M Z pc l (.ref k :: st) h := by
  subst hn
  subst hown
  intro p e s m args below meth c' H locs ls F hP hS hL
  obtain ⟨q, hq⟩ := hc.at g
  have he := ws_get (g := g) (h := h) hq
  have hE : cellE g h k = .inr (c, (fl h k c).map (cv g)) := by
    unfold cellE
    rw [hc.kd, if_pos hc7]
  rw [hE] at he
  exact va_get (ref := (T j).1) F.1 F.2.1 F.2.2.2.2.2.2.1 hin F.2.2.2.2.2.1 F.2.2.2.2.2.2.2.1 hP q he hcl j hj (F.2.2.2.2.2.2.1 _ hw) (fun _ z => z) (v := cv g v) (by rw [List.getElem?_map, hv]; rfl) hd (kk p e s m args below meth c' H locs ls F hP hS hL)
theorem am_put {own C : String} {T : u_T} {ty0 : Nat → FieldType} {N c j k idx : Nat} {x : Int32} (hd : decode M.2.1 pc = .ok (.putfield idx, 3)) (hc : isC k c 0) (hc7 : c < 7) (hcl : vwCl[c]? = some (C, T, N)) (hj : j < N) (hown : M.2.2.1 = own) (hty : ∀ k, k < N → parseFieldDescriptor (T k).2.2.1 = some (ty0 k)) (hnm : ∀ a, a < N → ∀ b, b < N → a ≠ b → (T a).2.1 ≠ (T b).2.1) (hfin : (T j).2.2.2 = false) (hpd : parseFieldDescriptor (T j).2.2.1 = some .int) (hw : Cond.fieldLink own idx (T j).1 (T j).2.1 (T j).2.2.1 ∈ M.1) (hin : ∀ w ∈ u_ws C T N, w ∈ M.1) (hlen : j < (fl h k c).length) (hset : ∀ (h : Hp) (x : Int32), fl (setI h k (upd (h.1 k) j x)) k c = (fl h k c).set j (.int x)) (hn : pc + 3 = n) (kk : AW g M Z n l st (setI h k (upd (h.1 k) j x))) : AW g M Z pc l (.int x :: .ref k :: st) h := by
  subst hn
  subst hown
  intro p e s m args below meth c' H locs ls F hP hS hL
  obtain ⟨q, hq⟩ := hc.at g
  have he := ws_get (g := g) (h := h) hq
  have hE : ∀ h : Hp, cellE g h k = .inr (c, (fl h k c).map (cv g)) := by
    intro h
    unfold cellE
    rw [hc.kd, if_pos hc7]
  rw [hE] at he
  have hws : (wsOf g h).set q (g.2.1 k, .inr (c, ((fl h k c).map (cv g)).set j (.int x))) = wsOf g (setI h k (upd (h.1 k) j x)) := by
    refine ws_set hq ?_ (fun i hi => cellE_congr (va_up_ne _ _ hi) rfl rfl)
    rw [hE, hset, List.map_set]
    rfl
  refine va_put (ref := (T j).1) F.1 F.2.1 F.2.2.2.2.2.2.1 hin ty0 hty hnm F.2.2.2.2.2.1 F.2.2.2.2.2.2.2.1 hP (ws_D F.2.2.2.2.2.2.2.2.1 h) hS q he hcl j hj (F.2.2.2.2.2.2.1 _ hw) (fun _ z => z) hfin hpd (v := .int x) rfl rfl (by rw [List.length_map]; exact hlen) hd (fun H1 locs1 hP1 _ hS1 => ?_)
  rw [hws] at hP1
  exact kk p e s m args below meth c' H1 locs1 ls F hP1 hS1 hL
/-- arrays -/
theorem arr_at (g : Gx) (h : Hp) {k c n : Nat} (hc : isC k c n) (h7 : ¬ c < 7) : cellE g h k = ar g h k c := by
  unfold cellE
  rw [hc.kd, if_neg h7]
theorem am_iald {k N : Nat} {i : Int32} (hd : decode M.2.1 pc = .ok (.iaload, 1)) (hc : isC k 8 N) (hin : vp_in i N) (hn : pc + 1 = n) (kk : AW g M Z n l (.int (h.1 k i.toNatClampNeg) :: st) h) : AW g M Z pc l (.int i :: .ref k :: st) h := by
  subst hn
  intro p e s m args below meth c' H locs ls F hP hS hL
  obtain ⟨q, hq⟩ := hc.at g
  have he := ws_get (g := g) (h := h) hq
  rw [arr_at g h hc (by omega)] at he
  exact va_iald F.1 F.2.1 F.2.2.2.2.2.2.2.1 hP q 1 he rfl (by rw [hc.ln]; exact hin) hd (kk p e s m args below meth c' H locs ls F hP hS hL)
theorem am_cald {k N : Nat} {i : Int32} (hd : decode M.2.1 pc = .ok (.caload, 1)) (hc : isC k 7 N) (hin : vp_in i N) (hn : pc + 1 = n) (kk : AW g M Z n l (.int (h.1 k i.toNatClampNeg) :: st) h) : AW g M Z pc l (.int i :: .ref k :: st) h := by
  subst hn
  intro p e s m args below meth c' H locs ls F hP hS hL
  obtain ⟨q, hq⟩ := hc.at g
  have he := ws_get (g := g) (h := h) hq
  rw [arr_at g h hc (by omega)] at he
  exact va_cald F.1 F.2.1 F.2.2.2.2.2.2.2.1 hP q 0 he rfl (by rw [hc.ln]; exact hin) hd (kk p e s m args below meth c' H locs ls F hP hS hL)
theorem am_zald {k N : Nat} {i : Int32} (hd : decode M.2.1 pc = .ok (.baload, 1)) (hc : isC k 10 N) (hin : vp_in i N) (hn : pc + 1 = n) (kk : AW g M Z n l (.int (h.1 k i.toNatClampNeg) :: st) h) : AW g M Z pc l (.int i :: .ref k :: st) h := by
  subst hn
  intro p e s m args below meth c' H locs ls F hP hS hL
  obtain ⟨q, hq⟩ := hc.at g
  have he := ws_get (g := g) (h := h) hq
  rw [arr_at g h hc (by omega)] at he
  exact va_zald F.1 F.2.1 F.2.2.2.2.2.2.2.1 hP q 3 he rfl (by rw [hc.ln]; exact hin) hd (kk p e s m args below meth c' H locs ls F hP hS hL)
theorem am_lald {k N : Nat} {i : Int32} (hd : decode M.2.1 pc = .ok (.laload, 1)) (hc : isC k 9 N) (hin : vp_in i N) (hn : pc + 1 = n) (kk : AW g M Z n l (.long (h.2.1 k i.toNatClampNeg) :: st) h) : AW g M Z pc l (.int i :: .ref k :: st) h := by
  subst hn
  intro p e s m args below meth c' H locs ls F hP hS hL
  obtain ⟨q, hq⟩ := hc.at g
  have he := ws_get (g := g) (h := h) hq
  rw [arr_at g h hc (by omega)] at he
  exact va_lald F.1 F.2.1 F.2.2.2.2.2.2.2.1 hP q 2 he rfl (by rw [hc.ln]; exact hin) hd (kk p e s m args below meth c' H locs ls F hP hS hL)
theorem am_aldE {k N : Nat} {i : Int32} (hd : decode M.2.1 pc = .ok (.aaload, 1)) (hc : isC k 11 N) (hin : vp_in i N) (hn : pc + 1 = n) (kk : AW g M Z n l (.ref (k + 8 + 10 * i.toNatClampNeg) :: st) h) : AW g M Z pc l (.int i :: .ref k :: st) h := by
  subst hn
  intro p e s m args below meth c' H locs ls F hP hS hL
  obtain ⟨q, hq⟩ := hc.at g
  have he := ws_get (g := g) (h := h) hq
  rw [arr_at g h hc (by omega)] at he
  exact va_aldq F.1 F.2.1 F.2.2.2.2.2.2.2.1 hP q 4 he rfl (by rw [hc.ln]; exact hin) hd (kk p e s m args below meth c' H locs ls F hP hS hL)
theorem am_aldS {k N : Nat} {i : Int32} (hd : decode M.2.1 pc = .ok (.aaload, 1)) (hc : isC k 12 N) (hin : vp_in i N) (hn : pc + 1 = n) (kk : AW g M Z n l (.ref (h.2.2 k i.toNatClampNeg) :: st) h) : AW g M Z pc l (.int i :: .ref k :: st) h := by
  subst hn
  intro p e s m args below meth c' H locs ls F hP hS hL
  obtain ⟨q, hq⟩ := hc.at g
  have he := ws_get (g := g) (h := h) hq
  rw [arr_at g h hc (by omega)] at he
  exact va_aldq F.1 F.2.1 F.2.2.2.2.2.2.2.1 hP q 5 he rfl (by rw [hc.ln]; exact hin) hd (kk p e s m args below meth c' H locs ls F hP hS hL)
theorem am_iast {k N : Nat} {i : Int32} {x : Int32} (hd : decode M.2.1 pc = .ok (.iastore, 1)) (hc : isC k 8 N) (hin : vp_in i N) (hn : pc + 1 = n) (kk : AW g M Z n l st (setI h k (upd (h.1 k) i.toNatClampNeg x))) : AW g M Z pc l (.int x :: .int i :: .ref k :: st) h := by
  subst hn
  intro p e s m args below meth c' H locs ls F hP hS hL
  obtain ⟨q, hq⟩ := hc.at g
  have he := ws_get (g := g) (h := h) hq
  rw [arr_at g h hc (by omega)] at he
  refine va_iast F.1 F.2.1 F.2.2.2.2.2.2.2.1 hP (ws_D F.2.2.2.2.2.2.2.2.1 h) hS q 1 he rfl (by rw [hc.ln]; exact hin) hd (fun H1 locs1 hP1 _ hS1 => ?_)
  have hws := ws_set (g := g) (h := h) (h' := setI h k (upd (h.1 k) i.toNatClampNeg x)) hq rfl (fun j hj => cellE_congr (va_up_ne _ _ hj) rfl rfl)
  rw [arr_at g _ hc (by omega)] at hws
  simp only [ar, setI, setJ, va_up_self] at hws
  rw [hws] at hP1
  exact kk p e s m args below meth c' H1 locs1 ls F hP1 hS1 hL
theorem am_cast {k N : Nat} {i : Int32} {x : Int32} (hd : decode M.2.1 pc = .ok (.castore, 1)) (hc : isC k 7 N) (hin : vp_in i N) (hn : pc + 1 = n) (kk : AW g M Z n l st (setI h k (upd (h.1 k) i.toNatClampNeg (vp_nar .char x)))) : AW g M Z pc l (.int x :: .int i :: .ref k :: st) h := by
  subst hn
  intro p e s m args below meth c' H locs ls F hP hS hL
  obtain ⟨q, hq⟩ := hc.at g
  have he := ws_get (g := g) (h := h) hq
  rw [arr_at g h hc (by omega)] at he
  refine va_cast F.1 F.2.1 F.2.2.2.2.2.2.2.1 hP (ws_D F.2.2.2.2.2.2.2.2.1 h) hS q 0 he rfl (by rw [hc.ln]; exact hin) hd (fun H1 locs1 hP1 _ hS1 => ?_)
  have hws := ws_set (g := g) (h := h) (h' := setI h k (upd (h.1 k) i.toNatClampNeg (vp_nar .char x))) hq rfl (fun j hj => cellE_congr (va_up_ne _ _ hj) rfl rfl)
  rw [arr_at g _ hc (by omega)] at hws
  simp only [ar, setI, setJ, va_up_self] at hws
  rw [hws] at hP1
  exact kk p e s m args below meth c' H1 locs1 ls F hP1 hS1 hL
theorem am_zast {k N : Nat} {i : Int32} {x : Int32} (hd : decode M.2.1 pc = .ok (.bastore, 1)) (hc : isC k 10 N) (hin : vp_in i N) (hn : pc + 1 = n) (kk : AW g M Z n l st (setI h k (upd (h.1 k) i.toNatClampNeg (vp_nar .boolean x)))) : AW g M Z pc l (.int x :: .int i :: .ref k :: st) h := by
  subst hn
  intro p e s m args below meth c' H locs ls F hP hS hL
  obtain ⟨q, hq⟩ := hc.at g
  have he := ws_get (g := g) (h := h) hq
  rw [arr_at g h hc (by omega)] at he
  refine va_zast F.1 F.2.1 F.2.2.2.2.2.2.2.1 hP (ws_D F.2.2.2.2.2.2.2.2.1 h) hS q 3 he rfl (by rw [hc.ln]; exact hin) hd (fun H1 locs1 hP1 _ hS1 => ?_)
  have hws := ws_set (g := g) (h := h) (h' := setI h k (upd (h.1 k) i.toNatClampNeg (vp_nar .boolean x))) hq rfl (fun j hj => cellE_congr (va_up_ne _ _ hj) rfl rfl)
  rw [arr_at g _ hc (by omega)] at hws
  simp only [ar, setI, setJ, va_up_self] at hws
  rw [hws] at hP1
  exact kk p e s m args below meth c' H1 locs1 ls F hP1 hS1 hL
theorem am_last {k N : Nat} {i : Int32} {x : Int64} (hd : decode M.2.1 pc = .ok (.lastore, 1)) (hc : isC k 9 N) (hin : vp_in i N) (hn : pc + 1 = n) (kk : AW g M Z n l st (setJ h k (vp_updL (h.2.1 k) i.toNatClampNeg x))) : AW g M Z pc l (.long x :: .int i :: .ref k :: st) h := by
  subst hn
  intro p e s m args below meth c' H locs ls F hP hS hL
  obtain ⟨q, hq⟩ := hc.at g
  have he := ws_get (g := g) (h := h) hq
  rw [arr_at g h hc (by omega)] at he
  refine va_last F.1 F.2.1 F.2.2.2.2.2.2.2.1 hP (ws_D F.2.2.2.2.2.2.2.2.1 h) hS q 2 he rfl (by rw [hc.ln]; exact hin) hd (fun H1 locs1 hP1 _ hS1 => ?_)
  have hws := ws_set (g := g) (h := h) (h' := setJ h k (vp_updL (h.2.1 k) i.toNatClampNeg x)) hq rfl (fun j hj => cellE_congr rfl (va_up_ne _ _ hj) rfl)
  rw [arr_at g _ hc (by omega)] at hws
  simp only [ar, setI, setJ, va_up_self] at hws
  rw [hws] at hP1
  exact kk p e s m args below meth c' H1 locs1 ls F hP1 hS1 hL
theorem am_astS {k N v : Nat} {i : Int32} (hd : decode M.2.1 pc = .ok (.aastore, 1)) (hc : isC k 12 N) (hv : isC v 4 0) (hin : vp_in i N) (hn : pc + 1 = n) (kk : AW g M Z n l st (setP h k (va_up (h.2.2 k) i.toNatClampNeg v))) : AW g M Z pc l (.ref v :: .int i :: .ref k :: st) h := by
  subst hn
  intro p e s m args below meth c' H locs ls F hP hS hL
  obtain ⟨q, hq⟩ := hc.at g
  obtain ⟨qv, hqv⟩ := hv.at g
  have he := ws_get (g := g) (h := h) hq
  have hev := ws_get (g := g) (h := h) hqv
  rw [arr_at g h hc (by omega)] at he
  have hE : cellE g h v = .inr (4, (fl h v 4).map (cv g)) := by
    unfold cellE
    rw [hv.kd, if_pos (by omega)]
  rw [hE] at hev
  refine va_astq F.1 F.2.1 F.2.2.2.2.2.2.2.1 hP (ws_D F.2.2.2.2.2.2.2.2.1 h) hS q 5 qv 4 (r := (RX5, TX5, 6)) he rfl hev rfl (by rw [hc.ln]; exact hin) hd (fun H1 locs1 hP1 _ hS1 => ?_)
  have hws := ws_set (g := g) (h := h) (h' := setP h k (va_up (h.2.2 k) i.toNatClampNeg v)) hq rfl (fun j hj => cellE_congr rfl rfl (va_up_ne _ _ hj))
  rw [arr_at g _ hc (by omega)] at hws
  simp only [ar, setP, va_up_self] at hws
  have hf : (fun j => some (g.2.1 (va_up (h.2.2 k) i.toNatClampNeg v j))) = va_up (fun j => some (g.2.1 (h.2.2 k j))) i.toNatClampNeg (some (g.2.1 v)) := by
    funext j
    by_cases hj : j = i.toNatClampNeg
    · subst hj
      simp [va_up_self]
    · simp [va_up_ne _ _ hj]
  rw [hf] at hws
  rw [hws] at hP1
  exact kk p e s m args below meth c' H1 locs1 ls F hP1 hS1 hL
theorem am_alen {k c N : Nat} {v : Int32} (hd : decode M.2.1 pc = .ok (.arraylength, 1)) (hc : isC k c N) (h7 : c = 7 ∨ c = 8 ∨ c = 9 ∨ c = 10 ∨ c = 11 ∨ c = 12) (hv : Int32.ofNat N = v) (hn : pc + 1 = n) (kk : AW g M Z n l (.int v :: st) h) : AW g M Z pc l (.ref k :: st) h := by
  subst hn
  intro p e s m args below meth c' H locs ls F hP hS hL
  obtain ⟨q, hq⟩ := hc.at g
  have he := ws_get (g := g) (h := h) hq
  rw [arr_at g h hc (by omega)] at he
  have K := kk p e s m args below meth c' H locs ls F hP hS hL
  rcases h7 with rfl | rfl | rfl | rfl | rfl | rfl
  · exact va_alen F.1 F.2.1 F.2.2.2.2.2.2.2.1 hP q 0 he rfl (by show Int32.ofNat (ln k) = v; rw [hc.ln]; exact hv) hd K
  · exact va_alen F.1 F.2.1 F.2.2.2.2.2.2.2.1 hP q 1 he rfl (by show Int32.ofNat (ln k) = v; rw [hc.ln]; exact hv) hd K
  · exact va_alen F.1 F.2.1 F.2.2.2.2.2.2.2.1 hP q 2 he rfl (by show Int32.ofNat (ln k) = v; rw [hc.ln]; exact hv) hd K
  · exact va_alen F.1 F.2.1 F.2.2.2.2.2.2.2.1 hP q 3 he rfl (by show Int32.ofNat (ln k) = v; rw [hc.ln]; exact hv) hd K
  · exact va_alen F.1 F.2.1 F.2.2.2.2.2.2.2.1 hP q 4 he rfl (by show Int32.ofNat (ln k) = v; rw [hc.ln]; exact hv) hd K
  · exact va_alen F.1 F.2.1 F.2.2.2.2.2.2.2.1 hP q 5 he rfl (by show Int32.ofNat (ln k) = v; rw [hc.ln]; exact hv) hd K
/-- the static array -/
theorem am_gets {idx : Nat} (hd : decode M.2.1 pc = .ok (.getstatic idx, 3)) (hw : Cond.fieldLink M.2.2.1 idx "ConsonantIndex$Ear" "FIRSTS_AT_FIRST" "[I" ∈ M.1) (hn : pc + 3 = n) (kk : AW g M Z n l (.ref 60 :: st) h) : AW g M Z pc l st h := by
  subst hn
  intro p e s m args below meth c' H locs ls F hP hS hL
  exact va_gets F.1 F.2.1 F.2.2.2.2.2.2.2.2.2.1 hS F.2.2.2.2.2.1 (F.2.2.2.2.2.2.1 _ hw) (fun _ z => z) hd (kk p e s m args below meth c' H locs ls F hP hS hL)
theorem am_ti {i : Int32} (hd : decode M.2.1 pc = .ok (.iaload, 1)) (hin : vp_in i 26) (hn : pc + 1 = n) (kk : AW g M Z n l (.int (firstK i.toNatClampNeg) :: st) h) : AW g M Z pc l (.int i :: .ref 60 :: st) h := by
  subst hn
  intro p e s m args below meth c' H locs ls F hP hS hL
  exact va_ti F.1 F.2.1 F.2.2.2.2.2.2.2.2.2.2 hS hin rfl hd (kk p e s m args below meth c' H locs ls F hP hS hL)
/-- ends -/
theorem am_hq {P : Option Value → Hp → Prop} {r : Option Value} {s : State} {H : Heap} {locs : List Loc} {args : Array Value} (hp : P r h) (hP : va_P g.2.2.1 vwCl (wsOf g h) H) (hS : va_S (AA g) s.heap H locs) : ∀ t : State, t.heap = H → s.WarmedH t.vm → QC g P args s (.returned (r.map (cv g))) t :=
  fun t ht _ => ⟨⟨r, h, rfl, hp, by rw [ht]; exact hP⟩, hS.F ht⟩
theorem am_iret {P : Option Value → Hp → Prop} {ty : FieldType} {x : Int32} (hd : decode M.2.1 pc = .ok (.ireturn, 1)) (hr : M.2.2.2.2.1 = some ty) (hnw : narrow ty (.int x) = .int x) (hp : P (some (.int x)) h) : AW g M (ZP g P) pc l [.int x] h := by
  intro p e s m args below meth c' H locs ls F hP hS hL
  exact W.zret F.1 F.2.1 (F.2.2.2.1.trans hr) hnw (am_hq hp hP hS) hS.2.2 hd F.2.2.2.2.1
theorem am_lret {P : Option Value → Hp → Prop} {x : Int64} (hd : decode M.2.1 pc = .ok (.lreturn, 1)) (hr : M.2.2.2.2.1 = some .long) (hp : P (some (.long x)) h) : AW g M (ZP g P) pc l [.long x] h := by
  intro p e s m args below meth c' H locs ls F hP hS hL
  exact W.lret F.1 F.2.1 (F.2.2.2.1.trans hr) (am_hq hp hP hS) hS.2.2 hd F.2.2.2.2.1
theorem am_vret {P : Option Value → Hp → Prop} (hd : decode M.2.1 pc = .ok (.return_, 1)) (hr : M.2.2.2.2.1 = none) (hp : P none h) : AW g M (ZP g P) pc l [] h := by
  intro p e s m args below meth c' H locs ls F hP hS hL
  exact W.vret F.1 F.2.1 (F.2.2.2.1.trans hr) (am_hq hp hP hS) hS.2.2 hd F.2.2.2.2.1
theorem am_aret {P : Option Value → Hp → Prop} {k : Nat} {C : String} (hd : decode M.2.1 pc = .ok (.areturn, 1)) (hr : M.2.2.2.2.1 = some (.object C)) (hp : P (some (.ref k)) h) : AW g M (ZP g P) pc l [.ref k] h := by
  intro p e s m args below meth c' H locs ls F hP hS hL
  exact W.aret F.1 F.2.1 (F.2.2.2.1.trans hr) (Or.inl ⟨_, rfl⟩) (Or.inr ⟨_, rfl⟩) (am_hq hp hP hS) hS.2.2 hd F.2.2.2.2.1
theorem am_aretN {P : Option Value → Hp → Prop} {C : String} (hd : decode M.2.1 pc = .ok (.areturn, 1)) (hr : M.2.2.2.2.1 = some (.object C)) (hp : P (some .null) h) : AW g M (ZP g P) pc l [.null] h := by
  intro p e s m args below meth c' H locs ls F hP hS hL
  exact W.aret F.1 F.2.1 (F.2.2.2.1.trans hr) (Or.inl ⟨_, rfl⟩) (Or.inl rfl) (am_hq hp hP hS) hS.2.2 hd F.2.2.2.2.1
end AM
/-- a contract out of its body -/
theorem AC.of {g : Gx} {y : MethodName} {ws ws' : List Cond} {rm : Room} {cc : ByteArray} {maxL : Nat} {ret : Option FieldType} {as : List Value} {h : Hp} {P : Option Value → Hp → Prop} (hy : plainName y.cls = true) (hw : ws = Cond.code y cc maxL ret :: ws') (hlen : (lg_sl as).length ≤ maxL)
    (body : AW g (ws, cc, y.cls, maxL, ret, rm) (ZP g P) 0 (la 0 as) [] h) : AC g y ws rm as h P := by
  intro hg
  refine Met.ofW (cc := cc) (maxL := maxL) (ret := ret) hy hw ?_
  intro p e s m args below meth c s₁ B hml hv
  obtain ⟨rfl, hP, hK, hZ⟩ := hv
  have hts := atoms_spec (ws := ws) B.pre
  have hown : s.vm.findClass y.cls = some m.cls := findClass_of_methodNamed B.named
  have hl := lv_entry (as.map (cv g)) (n := maxL) (by rw [lg_sl_len]; exact hlen)
  rw [lg_entry_eq]
  generalize (lg_sl (as.map (cv g)) ++ List.replicate (maxL - (lg_sl (as.map (cv g))).length) Slot.unset).toArray = ls at hl ⊢
  exact body p e s m _ below meth c s.heap [] ls ⟨B.exec, B.bytes, hml, B.returns, B.notSynchronized, hown, hts, hK, hg, hZ⟩ hP va_S.rf ⟨hl.1, hl.2.1, fun i v hi => hl.2.2 _ (la_args g as 0 i v hi)⟩

