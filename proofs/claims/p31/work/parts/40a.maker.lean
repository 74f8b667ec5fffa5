/-! THE MAKERS: constructors make cells; here a world is a list of cells at their addresses -/
def gI (g : Gx) : Gx := (g.1, fun q => q, g.2.2)
def NW (s : State) : Prop := va_Nw (.methodLinkNest RX7 33 yX4_init RX7) s ∧ va_Nw (.methodLinkNest RX7 40 yX1_init RX7) s ∧ va_Nw (.methodLinkNest RX7 57 yX3_init RX7) s ∧ va_AO RX5 s ∧ va_AO RX2 s
theorem NW.warm {s U : State} (hW : s.WarmedH U.vm) (h : NW s) : NW U := ⟨va_Nw.warmM hW h.1, va_Nw.warmM hW h.2.1, va_Nw.warmM hW h.2.2.1, va_AO.moved hW.alike h.2.2.2.1, va_AO.moved hW.alike h.2.2.2.2⟩
theorem NW.calling {U : State} (gg : JFrame) (mk : MethodId) (a : Array Value) (h : NW U) : NW (U.calling gg mk a) := ⟨va_Nw.same (u := U) (U := U.calling gg mk a) rfl rfl h.1, va_Nw.same (u := U) (U := U.calling gg mk a) rfl rfl h.2.1, va_Nw.same (u := U) (U := U.calling gg mk a) rfl rfl h.2.2.1, va_AO.moved (u := U) (U := U.calling gg mk a) (Vm.Alike.refl U.vm) h.2.2.2.1, va_AO.moved (u := U) (U := U.calling gg mk a) (Vm.Alike.refl U.vm) h.2.2.2.2⟩
def SZA (g : Gx) (A : Nat → Prop) (U : State) (H : Heap) : Prop := va_Z "ConsonantIndex$Ear" "FIRSTS_AT_FIRST" "[I" (.ref (g.2.1 60)) A U H ∧ va_T .int (g.2.1 60) 26 (fun j => .int (firstK j)) A U H
theorem va_P_mem {D : va_G} {cl : List vw_C} {ws ws' : va_W} {H : Heap} (h : va_P D cl ws H) (hm : ∀ q, q ∈ ws' → q ∈ ws) : va_P D cl ws' H := by
  intro k q hk
  obtain ⟨i, hi⟩ := List.getElem?_of_mem (hm q (List.mem_of_getElem? hk))
  exact h i q hi
theorem va_P_at {D : va_G} {cl : List vw_C} {ws : va_W} {H : Heap} (h : va_P D cl ws H) {q : Nat × va_E} (hq : q ∈ ws) : va_at D cl q H := by
  obtain ⟨i, hi⟩ := List.getElem?_of_mem hq
  exact h i q hi
theorem va_P_of {D : va_G} {cl : List vw_C} {ws : va_W} {H : Heap} (h : ∀ q, q ∈ ws → va_at D cl q H) : va_P D cl ws H := fun _ q hk => h q (List.mem_of_getElem? hk)
theorem va_D_iff {A : Nat → Prop} {ws : va_W} : va_D A ws ↔ (ws.map Prod.fst).Nodup ∧ ∀ q, q ∈ ws → A q.1 := by
  constructor
  · intro h
    refine ⟨List.pairwise_iff_getElem.mpr (fun i j hi hj hij he => ?_), fun q hq => ?_⟩
    · rw [List.length_map] at hi hj
      rw [List.getElem_map, List.getElem_map] at he
      have := h.1 i j _ _ (List.getElem?_eq_getElem hi) (List.getElem?_eq_getElem hj) he
      omega
    · obtain ⟨i, hi⟩ := List.getElem?_of_mem hq
      exact h.2 i q hi
  · intro h
    refine ⟨fun i j p q hi hj e => ?_, fun k q hk => h.2 q (List.mem_of_getElem? hk)⟩
    have hn := List.pairwise_iff_getElem.mp h.1
    obtain ⟨l1, e1⟩ := List.getElem?_eq_some_iff.mp hi
    obtain ⟨l2, e2⟩ := List.getElem?_eq_some_iff.mp hj
    rcases Nat.lt_trichotomy i j with z | z | z
    · exact absurd (by rw [List.getElem_map, List.getElem_map, e1, e2]; exact e) (hn i j (by rw [List.length_map]; exact l1) (by rw [List.length_map]; exact l2) z)
    · exact z
    · exact absurd (by rw [List.getElem_map, List.getElem_map, e1, e2]; exact e.symm) (hn j i (by rw [List.length_map]; exact l2) (by rw [List.length_map]; exact l1) z)
theorem va_RA_nm {U : State} {cA : ClassId} {ty : FieldType} (h : va_RA U cA ty) : U.vm.findClass ("[" ++ ty.toString) = some cA := by
  cases ty with
  | object C =>
    obtain ⟨kA, comp, h1, h2, h3, h4⟩ := h
    exact h4
  | _ => exact h
/-- what stands at a maker's frame -/
def FK (g : Gx) (M : MI) (nm : String) (A : Nat → Prop) (p : Program) (s : State) (m : MethodId) (args : Array Value) (meth : Method) (c : Code) : Prop :=
  p.tables.exec = Jvm.exec ∧ c.code = M.2.1 ∧ c.maxLocals = M.2.2.2.1 ∧ meth.sig.returnType = M.2.2.2.2.1 ∧ meth.locks = false ∧ s.vm.findClass M.2.2.1 = some m.cls ∧ (∀ w ∈ M.1, w.before args s = true) ∧ va_K g.2.2.1 vwCl (tysOf g) s ∧ meth.name = nm ∧ (∀ q, s.heap.size ≤ q → A q) ∧ NW s ∧ SZA g A s s.heap
abbrev Mq : Type := List Frame → Array Value → State → State → Prop
def CW (g : Gx) (M : MI) (nm : String) (A : Nat → Prop) (Q : Mq) (k n pc : Nat) (l : Lo) (st : List Value) (ws : va_W) : Prop :=
  ∀ (p : Program) (e : Env) (s : State) (m : MethodId) (args : Array Value) (below : List Frame) (meth : Method) (c : Code) (H : Heap) (locs : List Loc) (ls : Array Slot),
    FK g M nm A p s m args meth c → va_P g.2.2.1 vwCl ws H → va_D A ws → va_S A s.heap H locs → LM (gI g) ls M.2.2.2.1 l →
    W p g.1 e M.2.2.2.2.2 s m args below meth c H locs k n (Q below args s) (F0 m pc ls st)
def WC (g : Gx) (wc : va_W) (sz : Nat) (U : State) : Prop := U.heap.size = sz ∧ va_P g.2.2.1 vwCl wc U.heap ∧ va_D (fun _ => True) wc ∧ va_K g.2.2.1 vwCl (tysOf g) U ∧ NW U ∧ SZA g (va_A wc sz) U U.heap
def QB (g : Gx) (wc : va_W) (sz : Nat) (w : va_W) (t : State) : Prop := va_P g.2.2.1 vwCl w t.heap ∧ va_D (va_A wc sz) w
/-- a maker's contract: called with these cells it ends, with R of the cells that are there then -/
def CC (g : Gx) (y : MethodName) (ws : List Cond) (rm : Room) (as : List Value) (wc : va_W) (mc ms : Nat) (R : va_W → Prop) : Prop :=
  ∀ sz : Nat, Met g.1 y ws rm (va_Pc as (WC g wc sz)) (va_Qv R (QB g wc sz) (va_A wc sz)) mc ms (va_A wc sz)
def QV (g : Gx) (wc : va_W) (sz : Nat) (R : va_W → Prop) (mc ms : Nat) : Mq := fun below args s => MQ below (va_Qv R (QB g wc sz) (va_A wc sz)) args s mc ms (va_A wc sz)
theorem gI_cv (g : Gx) (v : Value) : cv (gI g) v = v := by cases v <;> rfl
theorem gI_map (g : Gx) (vs : List Value) : vs.map (cv (gI g)) = vs := by
  induction vs with
  | nil => rfl
  | cons a r ih => rw [List.map_cons, ih, gI_cv]
theorem CC.of {g : Gx} {y : MethodName} {ws ws' : List Cond} {rm : Room} {cc : ByteArray} {maxL mc ms : Nat} {as : List Value} {wc : va_W} {R : va_W → Prop} (hy : plainName y.cls = true) (hw : ws = Cond.code y cc maxL none :: ws') (hlen : (lg_sl as).length ≤ maxL)
    (body : ∀ sz, CW g (ws, cc, y.cls, maxL, none, rm) y.name (va_A wc sz) (QV g wc sz R mc ms) 0 0 0 (la 0 as) [] wc) : CC g y ws rm as wc mc ms R := by
  intro sz
  refine Met.ofW (cc := cc) (maxL := maxL) (ret := none) hy hw ?_
  intro p e s m args below meth c s₁ B hml hv
  obtain ⟨rfl, hsz, hP, hD, hK, hN, hZ⟩ := hv
  have hts := atoms_spec (ws := ws) B.pre
  have hown : s.vm.findClass y.cls = some m.cls := findClass_of_methodNamed B.named
  have hl := lv_entry as (n := maxL) hlen
  rw [lg_entry_eq]
  generalize (lg_sl as ++ List.replicate (maxL - (lg_sl as).length) Slot.unset).toArray = ls at hl ⊢
  subst hsz
  refine body s.heap.size p e s m _ below meth c s.heap [] ls ⟨B.exec, B.bytes, hml, B.returns, B.notSynchronized, hown, hts, hK, (name_of_methodNamed B.named B.method).1, fun q hq => Or.inr hq, hN, hZ⟩ hP hD.self va_S.rf ⟨hl.1, hl.2.1, fun i v hi => ?_⟩
  have h1 := la_args (gI g) as 0 i v hi
  rw [gI_map] at h1
  exact hl.2.2 _ h1
section CWS
variable {g : Gx} {M : MI} {nm : String} {A : Nat → Prop} {Q : Mq} {k n pc n1 tgt : Nat} {l : Lo} {st : List Value} {ws : va_W}
theorem cw_aload_n {i : Nat} {j : Fin 4} {x : Nat} (hd : decode M.2.1 pc = .ok (.aload_n j, 1)) (hi : (j : Nat) = i) (hl : lget l i = some (.ref x)) (hn : pc + 1 = n1) (kk : CW g M nm A Q k n n1 l (.ref x :: st) ws) : CW g M nm A Q k n pc l st ws := by
  subst hn
  intro p e s m args below meth c H locs ls F hP hD hS hL
  exact lv_aload_n (x := x) F.1 F.2.1 hd hi (hL.2.2 _ _ hl) (kk p e s m args below meth c H locs ls F hP hD hS hL)
theorem cw_iload_n {i : Nat} {j : Fin 4} {x : Int32} (hd : decode M.2.1 pc = .ok (.iload_n j, 1)) (hi : (j : Nat) = i) (hl : lget l i = some (.int x)) (hn : pc + 1 = n1) (kk : CW g M nm A Q k n n1 l (.int x :: st) ws) : CW g M nm A Q k n pc l st ws := by
  subst hn
  intro p e s m args below meth c H locs ls F hP hD hS hL
  exact lv_iload_n F.1 F.2.1 hd hi (hL.2.2 _ _ hl) (kk p e s m args below meth c H locs ls F hP hD hS hL)
theorem cw_istore_n {i : Nat} {j : Fin 4} {x : Int32} (hd : decode M.2.1 pc = .ok (.istore_n j, 1)) (hi : (j : Nat) = i) (hi2 : i < M.2.2.2.1) (hok : okst l i = true) (hn : pc + 1 = n1) (kk : CW g M nm A Q k n n1 ((i, some (.int x)) :: l) st ws) : CW g M nm A Q k n pc l (.int x :: st) ws := by
  subst hn
  intro p e s m args below meth c H locs ls F hP hD hS hL
  exact lv_istore_n F.1 F.2.1 hd hi hL.conc hi2 rfl (fun ls' hl' => kk p e s m args below meth c H locs ls' F hP hD hS (hL.st1 (v := .int x) hok hl'))
theorem cw_astore_n {i : Nat} {j : Fin 4} {x : Nat} (hd : decode M.2.1 pc = .ok (.astore_n j, 1)) (hi : (j : Nat) = i) (hi2 : i < M.2.2.2.1) (hok : okst l i = true) (hn : pc + 1 = n1) (kk : CW g M nm A Q k n n1 ((i, some (.ref x)) :: l) st ws) : CW g M nm A Q k n pc l (.ref x :: st) ws := by
  subst hn
  intro p e s m args below meth c H locs ls F hP hD hS hL
  exact lv_astore_n F.1 F.2.1 hd hi hL.conc hi2 rfl (fun ls' hl' => kk p e s m args below meth c H locs ls' F hP hD hS (hL.st1 (v := .ref x) hok hl'))
theorem cw_iinc {i : Nat} {a : Int} {x v : Int32} (hd : decode M.2.1 pc = .ok (.iinc i a, 3)) (hl : lget l i = some (.int x)) (hv : x + Int32.ofInt a = v) (hok : okst l i = true) (hn : pc + 3 = n1) (kk : CW g M nm A Q k n n1 ((i, some (.int v)) :: l) st ws) : CW g M nm A Q k n pc l st ws := by
  subst hn
  intro p e s m args below meth c H locs ls F hP hD hS hL
  obtain ⟨q, hq⟩ := List.getElem?_of_mem ((mem_cnc (g := gI g) (nL := M.2.2.2.1) (l := l) (q := (i, Value.int x))).mpr ⟨hL.lt hl, _, hl, rfl⟩)
  exact lv_iinc (v := v) F.1 F.2.1 hd hL.conc hq hv (hL.lt hl) rfl (fun ls' hl' => kk p e s m args below meth c H locs ls' F hP hD hS (hL.st1 (v := .int v) hok hl'))
theorem cw_iconst {z : Int} {v : Int32} (hd : decode M.2.1 pc = .ok (.iconst z, 1)) (hv : Int32.ofInt z = v) (hn : pc + 1 = n1) (kk : CW g M nm A Q k n n1 l (.int v :: st) ws) : CW g M nm A Q k n pc l st ws := by
  subst hn
  intro p e s m args below meth c H locs ls F hP hD hS hL
  exact lv_iconst F.1 F.2.1 hd hv (kk p e s m args below meth c H locs ls F hP hD hS hL)
theorem cw_bipush {z : Int} {v : Int32} (hd : decode M.2.1 pc = .ok (.bipush z, 2)) (hv : (Int8.ofInt z).toInt32 = v) (hn : pc + 2 = n1) (kk : CW g M nm A Q k n n1 l (.int v :: st) ws) : CW g M nm A Q k n pc l st ws := by
  subst hn
  intro p e s m args below meth c H locs ls F hP hD hS hL
  exact lv_bipush F.1 F.2.1 hd hv (kk p e s m args below meth c H locs ls F hP hD hS hL)
theorem cw_sipush {z : Int} {v : Int32} (hd : decode M.2.1 pc = .ok (.sipush z, 3)) (hv : (Int16.ofInt z).toInt32 = v) (hn : pc + 3 = n1) (kk : CW g M nm A Q k n n1 l (.int v :: st) ws) : CW g M nm A Q k n pc l st ws := by
  subst hn
  intro p e s m args below meth c H locs ls F hP hD hS hL
  exact lv_sipush F.1 F.2.1 hd hv (kk p e s m args below meth c H locs ls F hP hD hS hL)
theorem cw_dup {v : Value} (hd : decode M.2.1 pc = .ok (.dup, 1)) (hv : v.category = 1) (hn : pc + 1 = n1) (kk : CW g M nm A Q k n n1 l (v :: v :: st) ws) : CW g M nm A Q k n pc l (v :: st) ws := by
  subst hn
  intro p e s m args below meth c H locs ls F hP hD hS hL
  exact lv_dup F.1 F.2.1 hd hv (kk p e s m args below meth c H locs ls F hP hD hS hL)
theorem cw_goto {off : Int} (hd : decode M.2.1 pc = .ok (.goto off, 3)) (ht : (pc : Int) + off = (tgt : Int)) (kk : CW g M nm A Q k n tgt l st ws) : CW g M nm A Q k n pc l st ws := by
  intro p e s m args below meth c H locs ls F hP hD hS hL
  exact lv_goto F.1 F.2.1 hd ht (kk p e s m args below meth c H locs ls F hP hD hS hL)
theorem cw_icmp_ge {x y : Int32} {off : Int} (hd : decode M.2.1 pc = .ok (.if_icmp .ge off, 3)) (ht : (pc : Int) + off = (tgt : Int)) (hn : pc + 3 = n1) (kt : y ≤ x → CW g M nm A Q k n tgt l st ws) (kf : ¬ y ≤ x → CW g M nm A Q k n n1 l st ws) : CW g M nm A Q k n pc l (.int y :: .int x :: st) ws := by
  subst hn
  intro p e s m args below meth c H locs ls F hP hD hS hL
  exact lv_icmp_ge F.1 F.2.1 hd ht (fun q => kt q p e s m args below meth c H locs ls F hP hD hS hL) (fun q => kf q p e s m args below meth c H locs ls F hP hD hS hL)
theorem cw_objInit {index a : Nat} (hd : decode M.2.1 pc = .ok (.invokespecial index, 3)) (h1 : Cond.methodLink M.2.2.1 index objectInit ∈ M.1) (h2 : Cond.instanceMethod objectInit ∈ M.1) (h3 : Cond.code objectInit ⟨#[0xb1]⟩ 1 none ∈ M.1) (hf : 1 ≤ M.2.2.2.2.2.frames) (hlo : (st.map fun v => v.category).sum + 12 ≤ M.2.2.2.2.2.locals) (hn : pc + 3 = n1) (kk : CW g M nm A Q k n n1 l st ws) : CW g M nm A Q k n pc l (.ref a :: st) ws := by
  subst hn
  intro p e s m args below meth c H locs ls F hP hD hS hL
  have hw := F.2.2.2.2.2.2.1
  refine W.objInit F.1 F.2.1 F.2.2.2.2.2.1 (hw _ h1) (hw _ h2) (hw _ h3) rfl (by rw [F.2.2.1]; exact hL.1) rfl hd hf (by show 2 * 0 + _ + _ ≤ _; omega) ?_
  exact W.eq (g2 := F0 m (pc + 3) ls st) rfl (kk p e s m args below meth c H locs ls F hP hD hS hL)
theorem va_P_front {D : va_G} {cl : List vw_C} {ws : va_W} {q : Nat × va_E} {H : Heap} (h : va_P D cl (ws ++ [q]) H) : va_P D cl (q :: ws) H := va_P_mem h (fun x hx => by
  rcases List.mem_cons.mp hx with z | z
  · exact List.mem_append_right _ (List.mem_singleton.mpr z)
  · exact List.mem_append_left _ z)
theorem va_D_perm {A : Nat → Prop} {ws ws' : va_W} (h : va_D A ws) (hp : (ws.map Prod.fst).Perm (ws'.map Prod.fst)) : va_D A ws' := by
  rw [va_D_iff] at h ⊢
  refine ⟨hp.nodup_iff.mp h.1, fun q hq => ?_⟩
  have h1 : q.1 ∈ ws.map Prod.fst := hp.mem_iff.mpr (List.mem_map.mpr ⟨q, hq, rfl⟩)
  obtain ⟨x, hx, e⟩ := List.mem_map.mp h1
  rw [← e]
  exact h.2 x hx
theorem va_D_front {A : Nat → Prop} {ws : va_W} {q : Nat × va_E} (h : va_D A (ws ++ [q])) : va_D A (q :: ws) := va_D_perm h (List.Perm.map _ List.perm_append_comm)
theorem cw_new {C own : String} {T : u_T} {ty : Nat → FieldType} {N ci index k' n' : Nat} {fs : List Value} (hd : decode M.2.1 pc = .ok (.new index, 3)) (hown : M.2.2.1 = own) (h1 : Cond.classLink own index C ∈ M.1) (h2 : Cond.instantiable C N ∈ M.1) (h3 : Cond.initialized C ∈ M.1) (hin : ∀ w ∈ u_ws C T N, w ∈ M.1) (hty : ∀ k, k < N → parseFieldDescriptor (T k).2.2.1 = some (ty k)) (hc : vwCl[ci]? = some (C, T, N)) (hfs : ∀ j, j < N → defaultValue (ty j) = vp_V fs j) (hk : k + 1 = k') (hn' : n + N = n') (hr1 : k' ≤ M.2.2.2.2.2.cells) (hr2 : n' ≤ M.2.2.2.2.2.slots) (hn : pc + 3 = n1)
    (kk : ∀ q, CW g M nm A Q k' n' n1 l (.ref q :: st) ((q, .inr (ci, fs)) :: ws)) : CW g M nm A Q k n pc l st ws := by
  subst hn
  subst hk
  subst hn'
  subst hown
  intro p e s m args below meth c H locs ls F hP hD hS hL
  have hw := F.2.2.2.2.2.2.1
  exact va_new (C := C) (T := T) (N := N) (ci := ci) (fs := fs) F.1 F.2.1 hw hin ty hty F.2.2.2.2.2.1 (hw _ h1) (hw _ h2) (hw _ h3) F.2.2.2.2.2.2.2.1 hP hD hS F.2.2.2.2.2.2.2.2.2.1 hc hfs hr1 hr2 hd (fun q H1 hP1 hD1 hS1 => kk q p e s m args below meth c H1 locs ls F (va_P_front hP1) (va_D_front hD1) hS1 hL)
theorem cw_newa {t N' k' n' : Nat} {atype : ArrayType} {ty : FieldType} {cI : ClassId} {a0 : vp_A} {x : Int32} (hd : decode M.2.1 pc = .ok (.newarray atype, 2)) (h1 : Cond.arrayClass (newarray.typeOf atype) ∈ M.1) (hty : newarray.typeOf atype = ty) (ht : (tysOf g)[t]? = some (cI, ty)) (ha : ∀ cA : ClassId, vp_cell cA a0 = arrV cA N' (fun _ => defaultValue ty)) (hneg : ¬ x < 0) (hN : x.toNatClampNeg = N') (hb : N' * componentBytes ty ≤ 536870912) (hk : k + 1 = k') (hn' : n + N' = n') (hr1 : k' ≤ M.2.2.2.2.2.cells) (hr2 : n' ≤ M.2.2.2.2.2.slots) (hn : pc + 2 = n1)
    (kk : ∀ q, CW g M nm A Q k' n' n1 l (.ref q :: st) ((q, .inl (cI, a0)) :: ws)) : CW g M nm A Q k n pc l (.int x :: st) ws := by
  subst hn
  subst hk
  subst hn'
  intro p e s m args below meth c H locs ls F hP hD hS hL
  have hw := F.2.2.2.2.2.2.1
  refine va_newa (a0 := a0) F.1 F.2.1 (hw _ h1) hty F.2.2.2.2.2.2.2.1 hP hD hS F.2.2.2.2.2.2.2.2.2.1 ha hneg hN hb hr1 hr2 hd (fun q cA H1 hK1 hP1 hD1 hS1 => ?_)
  have e1 := va_RA_nm (hK1.2 (tysOf g).length (cA, ty) (by rw [List.getElem?_append_right (Nat.le_refl _), Nat.sub_self]; rfl)).2
  have e2 := va_RA_nm (F.2.2.2.2.2.2.2.1.2 t _ ht).2
  have e3 : cA = cI := Option.some.inj (e1.symm.trans e2)
  subst e3
  exact kk q p e s m args below meth c H1 locs ls F (va_P_front hP1) (va_D_front hD1) hS1 hL
theorem cw_newq {t N' k' n' index : Nat} {C own : String} {cI : ClassId} {x : Int32} (hd : decode M.2.1 pc = .ok (.anewarray index, 3)) (hown : M.2.2.1 = own) (h1 : Cond.classLink own index C ∈ M.1) (hao : ∀ s, NW s → va_AO C s) (ht : (tysOf g)[t]? = some (cI, .object C)) (hneg : ¬ x < 0) (hN : x.toNatClampNeg = N') (hb : N' * 4 ≤ 536870912) (hk : k + 1 = k') (hn' : n + N' = n') (hr1 : k' ≤ M.2.2.2.2.2.cells) (hr2 : n' ≤ M.2.2.2.2.2.slots) (hn : pc + 3 = n1)
    (kk : ∀ q, CW g M nm A Q k' n' n1 l (.ref q :: st) ((q, .inl (cI, N', .inr (.inr (.inr (.inr (fun _ => none)))))) :: ws)) : CW g M nm A Q k n pc l (.int x :: st) ws := by
  subst hn
  subst hk
  subst hn'
  subst hown
  intro p e s m args below meth c H locs ls F hP hD hS hL
  have hw := F.2.2.2.2.2.2.1
  refine va_newq (C := C) F.1 F.2.1 F.2.2.2.2.2.1 (hw _ h1) (hao s F.2.2.2.2.2.2.2.2.2.2.1) F.2.2.2.2.2.2.2.1 hP hD hS F.2.2.2.2.2.2.2.2.2.1 hneg hN hb hr1 hr2 hd (fun q cA H1 hK1 hP1 hD1 hS1 => ?_)
  have e1 := va_RA_nm (hK1.2 (tysOf g).length (cA, .object C) (by rw [List.getElem?_append_right (Nat.le_refl _), Nat.sub_self]; rfl)).2
  have e2 := va_RA_nm (F.2.2.2.2.2.2.2.1.2 t _ ht).2
  have e3 : cA = cI := Option.some.inj (e1.symm.trans e2)
  subst e3
  exact kk q p e s m args below meth c H1 locs ls F (va_P_front hP1) (va_D_front hD1) hS1 hL
theorem cw_get {own C : String} {T : u_T} {N ci j index q0 a : Nat} {fs : List Value} {v : Value} (hd : decode M.2.1 pc = .ok (.getfield index, 3)) (hown : M.2.2.1 = own) (hin : ∀ w ∈ u_ws C T N, w ∈ M.1) (he : ws[q0]? = some (a, .inr (ci, fs))) (hc : vwCl[ci]? = some (C, T, N)) (hj : j < N) (hw : Cond.fieldLink own index (T j).1 (T j).2.1 (T j).2.2.1 ∈ M.1) (hv : fs[j]? = some v) (hn : pc + 3 = n1) (kk : CW g M nm A Q k n n1 l (v :: st) ws) : CW g M nm A Q k n pc l (.ref a :: st) ws := by
  subst hn
  subst hown
  intro p e s m args below meth c H locs ls F hP hD hS hL
  exact va_get (C := C) (T := T) (N := N) (ci := ci) F.1 F.2.1 F.2.2.2.2.2.2.1 hin F.2.2.2.2.2.1 F.2.2.2.2.2.2.2.1 hP q0 he hc j hj (F.2.2.2.2.2.2.1 _ hw) (fun _ z => z) hv hd (kk p e s m args below meth c H locs ls F hP hD hS hL)
theorem cw_put {own C : String} {T : u_T} {ty0 : Nat → FieldType} {N ci j index q0 a : Nat} {fs : List Value} {ty : FieldType} {v : Value} {ws' : va_W} (hd : decode M.2.1 pc = .ok (.putfield index, 3)) (hown : M.2.2.1 = own) (hin : ∀ w ∈ u_ws C T N, w ∈ M.1) (hty : ∀ k, k < N → parseFieldDescriptor (T k).2.2.1 = some (ty0 k)) (hnm : ∀ a, a < N → ∀ b, b < N → a ≠ b → (T a).2.1 ≠ (T b).2.1) (he : ws[q0]? = some (a, .inr (ci, fs))) (hc : vwCl[ci]? = some (C, T, N)) (hj : j < N) (hw : Cond.fieldLink own index (T j).1 (T j).2.1 (T j).2.2.1 ∈ M.1) (hfin : (T j).2.2.2 = false ∨ ((T j).2.2.2 = true ∧ nm = "<init>" ∧ (T j).1 = own)) (hpd : parseFieldDescriptor (T j).2.2.1 = some ty) (hnw : narrow ty v = v) (hfit : fits ty v = true) (hl : j < fs.length) (hws : ws.set q0 (a, .inr (ci, fs.set j v)) = ws') (hn : pc + 3 = n1) (kk : CW g M nm A Q k n n1 l st ws') : CW g M nm A Q k n pc l (v :: .ref a :: st) ws := by
  subst hn
  subst hown
  subst hws
  intro p e s m args below meth c H locs ls F hP hD hS hL
  have hw' := F.2.2.2.2.2.2.1
  rcases hfin with hf | ⟨hf, hi, hde⟩
  · exact va_put (C := C) (T := T) (N := N) (ci := ci) F.1 F.2.1 hw' hin ty0 hty hnm F.2.2.2.2.2.1 F.2.2.2.2.2.2.2.1 hP hD hS q0 he hc j hj (hw' _ hw) (fun _ z => z) hf hpd hnw hfit hl hd (fun H1 locs1 hP1 hD1 hS1 => kk p e s m args below meth c H1 locs1 ls F hP1 hD1 hS1 hL)
  · exact va_putF (C := C) (T := T) (N := N) (ci := ci) F.1 F.2.1 hw' hin ty0 hty hnm F.2.2.2.2.2.1 F.2.2.2.2.2.2.2.1 hP hD hS q0 he hc j hj (hw' _ hw) (fun _ z => z) hf (F.2.2.2.2.2.2.2.2.1.trans hi) hde hpd hnw hfit hl hd (fun H1 locs1 hP1 hD1 hS1 => kk p e s m args below meth c H1 locs1 ls F hP1 hD1 hS1 hL)
theorem cw_aast {t q0 a N ci v : Nat} {cA : ClassId} {r : vw_C} {vs : List Value} {f : Nat → Option Nat} {i : Int32} {ws' : va_W} (hd : decode M.2.1 pc = .ok (.aastore, 1)) (he : ws[q0]? = some (a, .inl (cA, N, .inr (.inr (.inr (.inr f)))))) (ht : (tysOf g)[t]? = some (cA, .object r.1)) (hv : (v, .inr (ci, vs)) ∈ ws) (hc : vwCl[ci]? = some r) (hin : vp_in i N) (hws : ws.set q0 (a, .inl (cA, N, .inr (.inr (.inr (.inr (va_up f i.toNatClampNeg (some v))))))) = ws') (hn : pc + 1 = n1) (kk : CW g M nm A Q k n n1 l st ws') : CW g M nm A Q k n pc l (.ref v :: .int i :: .ref a :: st) ws := by
  subst hn
  subst hws
  intro p e s m args below meth c H locs ls F hP hD hS hL
  obtain ⟨qk, hqk⟩ := List.getElem?_of_mem hv
  exact va_astq F.1 F.2.1 F.2.2.2.2.2.2.2.1 hP hD hS q0 t qk ci he ht hqk hc hin hd (fun H1 locs1 hP1 hD1 hS1 => kk p e s m args below meth c H1 locs1 ls F hP1 hD1 hS1 hL)
theorem cw_iast {t q0 a N : Nat} {cA : ClassId} {f : Nat → Int32} {i x : Int32} {ws' : va_W} (hd : decode M.2.1 pc = .ok (.iastore, 1)) (he : ws[q0]? = some (a, .inl (cA, N, .inl f))) (ht : (tysOf g)[t]? = some (cA, .int)) (hin : vp_in i N) (hws : ws.set q0 (a, .inl (cA, N, .inl (upd f i.toNatClampNeg x))) = ws') (hn : pc + 1 = n1) (kk : CW g M nm A Q k n n1 l st ws') : CW g M nm A Q k n pc l (.int x :: .int i :: .ref a :: st) ws := by
  subst hn
  subst hws
  intro p e s m args below meth c H locs ls F hP hD hS hL
  exact va_iast F.1 F.2.1 F.2.2.2.2.2.2.2.1 hP hD hS q0 t he ht hin hd (fun H1 locs1 hP1 hD1 hS1 => kk p e s m args below meth c H1 locs1 ls F hP1 hD1 hS1 hL)
theorem cw_alen {t q0 a : Nat} {cA : ClassId} {x : vp_A} {ty : FieldType} {v : Int32} (hd : decode M.2.1 pc = .ok (.arraylength, 1)) (he : ws[q0]? = some (a, .inl (cA, x))) (ht : (tysOf g)[t]? = some (cA, ty)) (hv : Int32.ofNat x.1 = v) (hn : pc + 1 = n1) (kk : CW g M nm A Q k n n1 l (.int v :: st) ws) : CW g M nm A Q k n pc l (.ref a :: st) ws := by
  subst hn
  intro p e s m args below meth c H locs ls F hP hD hS hL
  exact va_alen F.1 F.2.1 F.2.2.2.2.2.2.2.1 hP q0 t he ht hv hd (kk p e s m args below meth c H locs ls F hP hD hS hL)
theorem cw_gets {index : Nat} (hd : decode M.2.1 pc = .ok (.getstatic index, 3)) (hw : Cond.fieldLink M.2.2.1 index "ConsonantIndex$Ear" "FIRSTS_AT_FIRST" "[I" ∈ M.1) (hn : pc + 3 = n1) (kk : CW g M nm A Q k n n1 l (.ref (g.2.1 60) :: st) ws) : CW g M nm A Q k n pc l st ws := by
  subst hn
  intro p e s m args below meth c H locs ls F hP hD hS hL
  exact va_gets F.1 F.2.1 F.2.2.2.2.2.2.2.2.2.2.2.1 hS F.2.2.2.2.2.1 (F.2.2.2.2.2.2.1 _ hw) (fun _ z => z) hd (kk p e s m args below meth c H locs ls F hP hD hS hL)
theorem cw_ti {i : Int32} (hd : decode M.2.1 pc = .ok (.iaload, 1)) (hin : vp_in i 26) (hn : pc + 1 = n1) (kk : CW g M nm A Q k n n1 l (.int (firstK i.toNatClampNeg) :: st) ws) : CW g M nm A Q k n pc l (.int i :: .ref (g.2.1 60) :: st) ws := by
  subst hn
  intro p e s m args below meth c H locs ls F hP hD hS hL
  exact va_ti F.1 F.2.1 F.2.2.2.2.2.2.2.2.2.2.2.2 hS hin rfl hd (kk p e s m args below meth c H locs ls F hP hD hS hL)
theorem cw_vret {wc : va_W} {sz : Nat} {R : va_W → Prop} (hd : decode M.2.1 pc = .ok (.return_, 1)) (hr : M.2.2.2.2.1 = none) (hR : R ws) : CW g M nm (va_A wc sz) (QV g wc sz R k n) k n pc l [] ws := by
  intro p e s m args below meth c H locs ls F hP hD hS hL
  exact W.vret F.1 F.2.1 (F.2.2.2.1.trans hr) (fun t ht _ => ⟨⟨ws, rfl, hR, by rw [ht]; exact hP, hD⟩, hS.F ht⟩) hS.2.2 hd F.2.2.2.2.1
/-- the same cells in another order, the same contents in other words -/
theorem cw_to {ws' : va_W} (h1 : ∀ H, va_P g.2.2.1 vwCl ws H → va_P g.2.2.1 vwCl ws' H) (h2 : (ws.map Prod.fst).Perm (ws'.map Prod.fst)) (kk : CW g M nm A Q k n pc l st ws') : CW g M nm A Q k n pc l st ws := by
  intro p e s m args below meth c H locs ls F hP hD hS hL
  exact kk p e s m args below meth c H locs ls F (h1 H hP) (va_D_perm hD h2) hS hL
/-- behind a call -/
theorem cw_of_run {wc rest : va_W} {R : va_W → Prop} {mc ms : Nat} {p : Program} {e : Env} {s : State} {m : MethodId} {args a : Array Value} {below : List Frame} {meth : Method} {c : Code} {H : Heap} {locs : List Loc} {ls : Array Slot} {st0 : List Value}
    (hr : va_Run p g.1 e M.2.2.2.2.2 s m args below meth c H locs k n mc ms (F0 m pc ls st0) st (va_Qv R (QB g wc H.size) (va_A wc H.size) a) (va_A wc H.size)) (F : FK g M nm A p s m args meth c) (hP : va_P g.2.2.1 vwCl (wc ++ rest) H) (hD : va_D A (wc ++ rest)) (hS : va_S A s.heap H locs) (hL : LM (gI g) ls M.2.2.2.1 l)
    (kk : ∀ w, R w → CW g M nm A Q (k + mc) (n + ms) (pc + 3) l st (rest ++ w)) :
    W p g.1 e M.2.2.2.2.2 s m args below meth c H locs k n (Q below args s) (F0 m pc ls st0) := by
  have hDi := va_D_iff.mp hD
  have hf : ∀ q, va_A wc H.size q → A q := by
    intro q hq
    rcases hq with ⟨i, e0, hi⟩ | hq
    · exact hDi.2 (q, e0) (List.mem_append_left _ (List.mem_of_getElem? hi))
    · exact F.2.2.2.2.2.2.2.2.2.1 q (Nat.le_trans hS.1 hq)
  refine va_callv hr hS (fun q _ h => hf q h) hf (fun w t H1 locs1 ht hvm hw hB hz hk1 hS1 => ?_)
  obtain ⟨hP1, hD1⟩ := hB
  rw [ht] at hP1
  rw [List.map_append, List.nodup_append] at hDi
  have apart : ∀ q, q ∈ rest → q.1 < H.size ∧ ¬ va_A wc H.size q.1 := by
    intro q hq
    have hlt := (va_P_at hP (List.mem_append_right wc hq)).lt
    refine ⟨hlt, fun z => ?_⟩
    rcases z with ⟨i, e0, hi⟩ | z
    · exact hDi.1.2.2 q.1 (List.mem_map.mpr ⟨(q.1, e0), List.mem_of_getElem? hi, rfl⟩) q.1 (List.mem_map.mpr ⟨q, hq, rfl⟩) rfl
    · omega
  have hD1i := va_D_iff.mp hD1
  refine kk w hw p e s m args below meth c H1 locs1 ls F (va_P_of (fun q hq => ?_)) (va_D_iff.mpr ⟨?_, fun q hq => ?_⟩) hS1 hL
  · rcases List.mem_append.mp hq with z | z
    · exact (va_P_at hP (List.mem_append_right wc z)).kept (hk1 q.1 (apart q z).1 (apart q z).2)
    · exact va_P_at hP1 z
  · rw [List.map_append, List.nodup_append]
    refine ⟨hDi.1.2.1, hD1i.1, fun a ha b hb hab => ?_⟩
    obtain ⟨x, hx, rfl⟩ := List.mem_map.mp ha
    obtain ⟨y, hy, rfl⟩ := List.mem_map.mp hb
    exact (apart x hx).2 (by rw [hab]; exact hD1i.2 y hy)
  · rcases List.mem_append.mp hq with z | z
    · exact hDi.2 q (List.mem_append_right _ z)
    · exact hf _ (hD1i.2 q z)
theorem cw_fb {as : List Value} {wc : va_W} {sz : Nat} : FrameBlind (va_Pc as (WC g wc sz)) := fun a U gg mk q => ⟨q.1, q.2.1, q.2.2.1, q.2.2.2.1, va_K.moved (u := U) (U := U.calling gg mk a) (Vm.Alike.refl U.vm) q.2.2.2.2.1, q.2.2.2.2.2.1.calling gg mk a, va_Z.moved (u := U) (U := U.calling gg mk a) (Vm.Alike.refl U.vm) q.2.2.2.2.2.2.1, va_T.moved (u := U) (U := U.calling gg mk a) (Vm.Alike.refl U.vm) q.2.2.2.2.2.2.2⟩
theorem cw_wc {wc rest : va_W} {p : Program} {s : State} {m : MethodId} {args : Array Value} {meth : Method} {c : Code} {H : Heap} {locs : List Loc} (F : FK g M nm A p s m args meth c) (hP : va_P g.2.2.1 vwCl (wc ++ rest) H) (hD : va_D A (wc ++ rest)) (hS : va_S A s.heap H locs) (U : State) (hU : U.heap = H) (hW : s.WarmedH U.vm) : WC g wc H.size U := by
  have hDi := va_D_iff.mp hD
  have hf : ∀ q, va_A wc H.size q → A q := by
    intro q hq
    rcases hq with ⟨i, e0, hi⟩ | hq
    · exact hDi.2 (q, e0) (List.mem_append_left _ (List.mem_of_getElem? hi))
    · exact F.2.2.2.2.2.2.2.2.2.1 q (Nat.le_trans hS.1 hq)
  have hq : ∀ a : Nat, a < s.heap.size → ¬ A a → H[a]? = s.heap[a]? := fun a h1 h2 => hS.2.1 a h1 h2
  refine ⟨by rw [hU], by rw [hU]; exact va_P_mem hP (fun q hq => List.mem_append_left _ hq), va_D_iff.mpr ⟨?_, fun _ _ => trivial⟩, va_K.moved hW.alike F.2.2.2.2.2.2.2.1, F.2.2.2.2.2.2.2.2.2.2.1.warm hW, ?_, ?_⟩
  · have h1 := hDi.1
    rw [List.map_append, List.nodup_append] at h1
    exact h1.1
  · rw [hU]
    exact va_Z.moved hW.alike ((va_Z.kept F.2.2.2.2.2.2.2.2.2.2.2.1 hq).narrow hf)
  · rw [hU]
    exact va_T.moved hW.alike ((va_T.kept F.2.2.2.2.2.2.2.2.2.2.2.2 hq).narrow hf)
theorem cw_callI {y : MethodName} {own : String} {index nA maxL mc ms k' n' b : Nat} {bytes : ByteArray} {ws0 ws' : List Cond} {rm : Room} {As : List Value} {wc rest : va_W} {R : va_W → Prop} {st0 : List Value}
    (hd : decode M.2.1 pc = .ok (.invokespecial index, 3)) (hown : M.2.2.1 = own) (hT : GoodIn M.1 ws0) (hw : ws0 = Cond.code y bytes maxL none :: ws') (h1 : Cond.initialized y.cls ∈ M.1) (h2 : Cond.methodLink own index y ∈ M.1) (h3 : Cond.instanceMethod y ∈ M.1) (hy1 : y.name = "<init>")
    (hdd : y.cls ≠ "java/lang/invoke/MethodHandle" ∧ y.cls ≠ "java/lang/invoke/VarHandle" ∧ (parseMethodDescriptor y.desc).map (fun d => d.parameters.length) = some nA)
    (hrm : rm.cells = mc ∧ rm.slots = ms) (hR : rm.frames + 1 ≤ M.2.2.2.2.2.frames ∧ 8 + (maxL + 11) + rm.locals ≤ M.2.2.2.2.2.locals)
    (hA : CC g y ws0 rm (.ref b :: As) wc mc ms R) (hws : ws = wc ++ rest) (hnA : As.length = nA) (hst : st0 = As.reverse ++ .ref b :: st) (hcat : (st.map fun v => v.category).sum ≤ 8) (hk : k + mc = k') (hn' : n + ms = n') (hr1 : k' ≤ M.2.2.2.2.2.cells) (hr2 : n' ≤ M.2.2.2.2.2.slots) (hn : pc + 3 = n1)
    (kk : ∀ w, R w → CW g M nm A Q k' n' n1 l st (rest ++ w)) : CW g M nm A Q k n pc l st0 ws := by
  subst hn
  subst hk
  subst hn'
  subst hown
  subst hst
  subst hws
  intro p e s m args below meth c H locs ls F hP hD hS hL
  have hw' := F.2.2.2.2.2.2.1
  exact cw_of_run (va_runI (As := As) (rest := st) (b := b) ⟨F.1, F.2.1, F.2.2.1, F.2.2.2.2.2.1, hw'⟩ (hA H.size) (cwI nA hw' hT hw hrm.1 hrm.2 (hw' _ h1) (hw' _ h2) (hw' _ h3) hy1 hdd hR) ⟨cw_fb, fun U hU hW => ⟨rfl, cw_wc F hP hD hS U hU hW⟩⟩ rfl hnA hL.1 rfl (lv_room hcat) hd ⟨hr1, hr2⟩) F hP hD hS hL kk
theorem cw_callIN {y : MethodName} {own host : String} {index nA maxL mc ms k' n' b : Nat} {bytes : ByteArray} {ws0 ws' : List Cond} {rm : Room} {As : List Value} {wc rest : va_W} {R : va_W → Prop} {st0 : List Value}
    (hd : decode M.2.1 pc = .ok (.invokespecial index, 3)) (hown : M.2.2.1 = own) (hT : GoodIn M.1 ws0) (hw : ws0 = Cond.code y bytes maxL none :: ws') (h1 : Cond.initialized y.cls ∈ M.1) (h2 : ∀ s, NW s → va_Nw (.methodLinkNest own index y host) s) (h3 : Cond.instanceMethod y ∈ M.1) (hy1 : y.name = "<init>")
    (hdd : y.cls ≠ "java/lang/invoke/MethodHandle" ∧ y.cls ≠ "java/lang/invoke/VarHandle" ∧ (parseMethodDescriptor y.desc).map (fun d => d.parameters.length) = some nA)
    (hrm : rm.cells = mc ∧ rm.slots = ms) (hR : rm.frames + 1 ≤ M.2.2.2.2.2.frames ∧ 8 + (maxL + 11) + rm.locals ≤ M.2.2.2.2.2.locals)
    (hA : CC g y ws0 rm (.ref b :: As) wc mc ms R) (hws : ws = wc ++ rest) (hnA : As.length = nA) (hst : st0 = As.reverse ++ .ref b :: st) (hcat : (st.map fun v => v.category).sum ≤ 8) (hk : k + mc = k') (hn' : n + ms = n') (hr1 : k' ≤ M.2.2.2.2.2.cells) (hr2 : n' ≤ M.2.2.2.2.2.slots) (hn : pc + 3 = n1)
    (kk : ∀ w, R w → CW g M nm A Q k' n' n1 l st (rest ++ w)) : CW g M nm A Q k n pc l st0 ws := by
  subst hn
  subst hk
  subst hn'
  subst hown
  subst hst
  subst hws
  intro p e s m args below meth c H locs ls F hP hD hS hL
  have hw' := F.2.2.2.2.2.2.1
  exact cw_of_run (va_runIN (As := As) (rest := st) (b := b) ⟨F.1, F.2.1, F.2.2.1, F.2.2.2.2.2.1, hw'⟩ (hA H.size) ⟨va_cnB nA hw' hT hw hrm.1 hrm.2 (h2 s F.2.2.2.2.2.2.2.2.2.2.1) (hw' _ h1) hdd hR, hy1, hw' _ h3⟩ ⟨cw_fb, fun U hU hW => ⟨rfl, cw_wc F hP hD hS U hU hW⟩⟩ rfl hnA hL.1 rfl (lv_room hcat) hd ⟨hr1, hr2⟩) F hP hD hS hL kk
theorem cw_callV {y : MethodName} {C own : String} {T : u_T} {N ci q0 index nA maxL mc ms k' n' b : Nat} {bytes : ByteArray} {ws0 ws' : List Cond} {rm : Room} {As fs : List Value} {wc rest : va_W} {R : va_W → Prop} {st0 : List Value}
    (hd : decode M.2.1 pc = .ok (.invokevirtual index, 3)) (hown : M.2.2.1 = own) (hT : GoodIn M.1 (wsV own index C y ws0)) (hw : ws0 = Cond.code y bytes maxL none :: ws') (hcl : vwCl[ci]? = some (C, T, N)) (he : ws[q0]? = some (b, .inr (ci, fs)))
    (hdd : y.cls = C ∧ y.cls ≠ "java/lang/invoke/MethodHandle" ∧ y.cls ≠ "java/lang/invoke/VarHandle" ∧ (parseMethodDescriptor y.desc).map (fun d => d.parameters.length) = some nA)
    (hrm : rm.cells = mc ∧ rm.slots = ms) (hR : rm.frames + 1 ≤ M.2.2.2.2.2.frames ∧ 8 + (maxL + 11) + rm.locals ≤ M.2.2.2.2.2.locals)
    (hA : CC g y ws0 rm (.ref b :: As) wc mc ms R) (hws : ws = wc ++ rest) (hnA : As.length = nA) (hst : st0 = As.reverse ++ .ref b :: st) (hcat : (st.map fun v => v.category).sum ≤ 8) (hk : k + mc = k') (hn' : n + ms = n') (hr1 : k' ≤ M.2.2.2.2.2.cells) (hr2 : n' ≤ M.2.2.2.2.2.slots) (hn : pc + 3 = n1)
    (kk : ∀ w, R w → CW g M nm A Q k' n' n1 l st (rest ++ w)) : CW g M nm A Q k n pc l st0 ws := by
  subst hn
  subst hk
  subst hn'
  subst hown
  subst hst
  subst hws
  intro p e s m args below meth c H locs ls F hP hD hS hL
  have hw' := F.2.2.2.2.2.2.1
  exact cw_of_run (va_runV (As := As) (rest := st) (b := b) ⟨F.1, F.2.1, F.2.2.1, F.2.2.2.2.2.1, hw'⟩ (hA H.size) (cwV nA hw' hT hw hrm.1 hrm.2 hdd hR) ⟨cw_fb, va_recv F.2.2.2.2.2.2.2.1 hP hcl he, fun U hU hW => ⟨rfl, cw_wc F hP hD hS U hU hW⟩⟩ rfl hnA hL.1 rfl (lv_room hcat) hd ⟨hr1, hr2⟩) F hP hD hS hL kk
end CWS
