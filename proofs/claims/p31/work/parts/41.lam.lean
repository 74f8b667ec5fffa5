/-! ROWS FOR THE LAW'S METHODS -/
section AML
variable {g : Gx} {M : MI} {Z : Zt} {pc n tgt : Nat} {l : Lo} {st : List Value} {h : Hp}
theorem am_irem {x y : Int32} (hd : decode M.2.1 pc = .ok (.irem, 1)) (hne : ¬ y = 0) (hn : pc + 1 = n) (kk : AW g M Z n l (.int (x - x / y * y) :: st) h) : AW g M Z pc l (.int y :: .int x :: st) h := by
  subst hn
  intro p e s m args below meth c H locs ls F hP hS hL
  exact lv_irem F.1 F.2.1 hd hne (kk p e s m args below meth c H locs ls F hP hS hL)
theorem dEq (g : Gx) (h : Hp) : cellE g h 42 = ar g h 42 8 := by
  unfold cellE
  rw [kd_42, if_neg (by omega)]
theorem am_ialdD {i : Int32} (hd : decode M.2.1 pc = .ok (.iaload, 1)) (hc : isD g) (hin : vp_in i 22) (hn : pc + 1 = n) (kk : AW g M Z n l (.int (h.1 42 i.toNatClampNeg) :: st) h) : AW g M Z pc l (.int i :: .ref 42 :: st) h := by
  subst hn
  intro p e s m args below meth c' H locs ls F hP hS hL
  obtain ⟨q, hq⟩ := hc.at
  have he := ws_get (g := g) (h := h) hq
  rw [dEq] at he
  exact va_iald F.1 F.2.1 F.2.2.2.2.2.2.2.1 hP q 1 he rfl (by rw [ln_42]; exact hin) hd (kk p e s m args below meth c' H locs ls F hP hS hL)
theorem am_iastD {i : Int32} {x : Int32} (hd : decode M.2.1 pc = .ok (.iastore, 1)) (hc : isD g) (hin : vp_in i 22) (hn : pc + 1 = n) (kk : AW g M Z n l st (setI h 42 (upd (h.1 42) i.toNatClampNeg x))) : AW g M Z pc l (.int x :: .int i :: .ref 42 :: st) h := by
  subst hn
  intro p e s m args below meth c' H locs ls F hP hS hL
  obtain ⟨q, hq⟩ := hc.at
  have he := ws_get (g := g) (h := h) hq
  rw [dEq] at he
  refine va_iast F.1 F.2.1 F.2.2.2.2.2.2.2.1 hP (ws_D F.2.2.2.2.2.2.2.2.1 h) hS q 1 he rfl (by rw [ln_42]; exact hin) hd (fun H1 locs1 hP1 _ hS1 => ?_)
  have hws := ws_set (g := g) (h := h) (h' := setI h 42 (upd (h.1 42) i.toNatClampNeg x)) hq rfl (fun j hj => cellE_congr (va_up_ne _ _ hj) rfl rfl)
  rw [dEq] at hws
  simp only [ar, setI, setJ, va_up_self] at hws
  rw [hws] at hP1
  exact kk p e s m args below meth c' H1 locs1 ls F hP1 hS1 hL
end AML
/-- the same, with an address for the law's row of distances -/
def gd (g : Gx) (a : Nat) : Gx := (g.1, fun k => if k = 42 then a else g.2.1 k, g.2.2)
theorem gd_n (g : Gx) {a k : Nat} (h : k ≠ 42) : (gd g a).2.1 k = g.2.1 k := if_neg h
theorem gd_s (g : Gx) (a : Nat) : (gd g a).2.1 42 = a := by
  show (if 42 = 42 then a else g.2.1 42) = a
  exact if_pos rfl
theorem LX_42 : ∀ k, k ∈ LX → k ≠ 42 := by decide +kernel
theorem LXg_0 {g : Gx} (h : g.2.1 42 = 0) : LXg g = LX := if_pos h
theorem LXg_d (g : Gx) {a : Nat} (h : 0 < a) : LXg (gd g a) = LX ++ [42] := if_neg (by rw [gd_s]; omega)
theorem cv_gd (g : Gx) (a : Nat) {v : Value} (h : v ≠ .ref 42) : cv (gd g a) v = cv g v := by
  cases v with
  | ref k => exact congrArg Value.ref (gd_n g (fun e => h (by rw [e])))
  | _ => rfl
theorem fl_no42 (h : Hp) (k c : Nat) (hk : k < 36 ∨ 42 < k) : ∀ v ∈ fl h k c, v ≠ .ref 42 := by
  intro v hv e
  subst e
  unfold fl at hv
  split at hv <;> simp at hv <;> omega
theorem LX_o : ∀ k, k ∈ LX → kd k < 7 → (k < 36 ∨ 42 < k) := by decide +kernel
theorem LX_k : ∀ k, k ∈ LX → kd k < 7 ∨ kd k = 7 ∨ kd k = 8 ∨ kd k = 9 ∨ kd k = 10 ∨ (kd k = 11 ∧ 100 ≤ k) ∨ (kd k = 12 ∧ k = 1 ∧ ln k = 6) ∨ (kd k = 12 ∧ k = 2 ∧ ln k = 2) := by decide +kernel
theorem fl_gd (g : Gx) (a : Nat) (h : Hp) (k c : Nat) (hk : k < 36 ∨ 42 < k) : (fl h k c).map (cv (gd g a)) = (fl h k c).map (cv g) := List.map_congr_left (fun v hv => cv_gd g a (fl_no42 h k c hk v hv))
/-- no row of states names the law's row of distances -/
def N42 (h : Hp) : Prop := (∀ j, j < 6 → h.2.2 1 j ≠ 42) ∧ ∀ j, j < 2 → h.2.2 2 j ≠ 42
theorem cellE_gd (g : Gx) (a : Nat) (h : Hp) {k : Nat} (hk : k ∈ LX) (h12 : kd k ≠ 12) : cellE (gd g a) h k = cellE g h k := by
  unfold cellE
  rcases LX_k k hk with c | c | c | c | c | ⟨c, c1⟩ | ⟨c, c1⟩ | ⟨c, c1⟩
  · rw [if_pos c, if_pos c, fl_gd g a h k _ (LX_o k hk c)]
  · rw [c]
    rfl
  · rw [c]
    rfl
  · rw [c]
    rfl
  · rw [c]
    rfl
  · rw [c, if_neg (by omega), if_neg (by omega)]
    have e : (fun j => some ((gd g a).2.1 (k + 8 + 10 * j))) = (fun j => some (g.2.1 (k + 8 + 10 * j))) := funext (fun j => by rw [gd_n g (show k + 8 + 10 * j ≠ 42 by omega)])
    show (Sum.inl ((gd g a).2.2.2 4, ln k, Sum.inr (Sum.inr (Sum.inr (Sum.inr (fun j => some ((gd g a).2.1 (k + 8 + 10 * j))))))) : va_E) = _
    rw [e]
    rfl
  · exact absurd c h12
  · exact absurd c h12
theorem at_gd {D : va_G} {cl : List vw_C} {H : Heap} {g : Gx} {a : Nat} {h : Hp} (hp : N42 h) {k : Nat} (hk : k ∈ LX) : va_at D cl (g.2.1 k, cellE g h k) H ↔ va_at D cl ((gd g a).2.1 k, cellE (gd g a) h k) H := by
  rw [gd_n g (LX_42 k hk)]
  by_cases h12 : kd k = 12
  · have hc : ∀ g' : Gx, cellE g' h k = .inl (g'.2.2.2 5, ln k, .inr (.inr (.inr (.inr (fun j => some (g'.2.1 (h.2.2 k j))))))) := by
      intro g'
      unfold cellE
      rw [h12]
      rfl
    have hj : ∀ j, j < ln k → (gd g a).2.1 (h.2.2 k j) = g.2.1 (h.2.2 k j) := by
      rcases LX_k k hk with c | c | c | c | c | ⟨c, c1⟩ | ⟨c, rfl, c1⟩ | ⟨c, rfl, c1⟩
      · omega
      · omega
      · omega
      · omega
      · omega
      · omega
      · rw [c1]
        exact fun j hj => gd_n g (hp.1 j hj)
      · rw [c1]
        exact fun j hj => gd_n g (hp.2 j hj)
    rw [hc g, hc (gd g a)]
    constructor
    · exact fun z => at_q z (fun j q => by rw [hj j q])
    · exact fun z => at_q z (fun j q => by rw [hj j q])
  · rw [cellE_gd g a h hk h12]
/-- the law's own row of distances is made: what is known of the cells then -/
theorem AA_gd {g : Gx} {a : Nat} (h0 : g.2.1 42 = 0) (ha : 0 < a) (q : Nat) : AA (gd g a) q ↔ AA g q ∨ q = a := by
  unfold AA
  rw [LXg_0 h0, LXg_d g ha]
  constructor
  · rintro ⟨k, hk, rfl⟩
    rcases List.mem_append.mp hk with z | z
    · exact Or.inl ⟨k, z, gd_n g (LX_42 k z)⟩
    · rw [List.mem_singleton] at z
      subst z
      exact Or.inr (gd_s g a)
  · rintro (⟨k, hk, rfl⟩ | rfl)
    · exact ⟨k, List.mem_append_left _ hk, (gd_n g (LX_42 k hk)).symm⟩
    · exact ⟨42, List.mem_append_right _ List.mem_cons_self, (gd_s g _).symm⟩
theorem va_Z.plus {C n d : String} {v : Value} {A B : Nat → Prop} {U : State} {H : Heap} (h : va_Z C n d v A U H) (hAB : ∀ q, q < H.size → B q → A q) : va_Z C n d v B U H := by
  obtain ⟨cf, kf, fi, f, a, cell, h1, h2, h3, h4, h5, h6, h7, h8⟩ := h
  exact ⟨cf, kf, fi, f, a, cell, h1, h2, h3, h4, h5, h6, h7, fun z => h8 (hAB a (Array.getElem?_eq_some_iff.mp h5).1 z)⟩
theorem va_T.plus {ty : FieldType} {t N : Nat} {f : Nat → Value} {A B : Nat → Prop} {U : State} {H : Heap} (h : va_T ty t N f A U H) (hAB : ∀ q, q < H.size → B q → A q) : va_T ty t N f B U H := by
  obtain ⟨cell, h1, h2, h3, h4, h5, h6, h7⟩ := h
  exact ⟨cell, h1, h2, h3, h4, h5, h6, fun z => h7 (hAB t (Array.getElem?_eq_some_iff.mp h1).1 z)⟩
def ZD0 (g : Gx) (P : Option Value → Hp → Prop) : Zt := (0, 0, fun below args s t => MQ below (QC g P) args s 1 22 (fun q => AA g q ∨ s.heap.size ≤ q) t)
def ZD (g : Gx) (P : Option Value → Hp → Prop) (a : Nat) : Zt := (1, 22, fun below args s t => s.heap.size ≤ a → MQ below (QC g P) args s 1 22 (fun q => AA g q ∨ s.heap.size ≤ q) t)
set_option maxHeartbeats 400000 in
theorem am_newd {g : Gx} {M : MI} {P : Option Value → Hp → Prop} {pc n : Nat} {l : Lo} {h : Hp} (hd : decode M.2.1 pc = .ok (.newarray .int, 2)) (hw : Cond.arrayClass .int ∈ M.1) (h0 : g.2.1 42 = 0) (hR : 0 + 1 ≤ M.2.2.2.2.2.cells ∧ 0 + 22 ≤ M.2.2.2.2.2.slots) (hp : N42 h) (hl : ∀ i v, lget l i = some v → v ≠ .ref 42) (hn : pc + 2 = n)
    (kk : ∀ a, 0 < a → AW (gd g a) M (ZD g P a) n l [.ref 42] (setI h 42 (fun _ => 0))) : AW g M (ZD0 g P) pc l [.int 22] h := by
  subst hn
  intro p e s m args below meth c H locs ls F hP hS hL
  have hK := F.2.2.2.2.2.2.2.1
  have hg := F.2.2.2.2.2.2.2.2.1
  have hZ := F.2.2.2.2.2.2.2.2.2
  have hlt : ∀ k, k ∈ LX → g.2.1 k < H.size := fun k hk => by
    obtain ⟨q, hq⟩ := List.getElem?_of_mem (LX_sub g hk)
    exact (hP q _ (ws_get hq)).lt
  have hpos : 0 < H.size := Nat.lt_of_le_of_lt (Nat.zero_le _) (hlt 0 (isC_of (by decide +kernel) : isC 0 5 0).mem)
  refine va_newaK (atype := .int) (N := 22) (rest := []) (h := H.size) F.1 F.2.1 (F.2.2.2.2.2.2.1 _ hw) rfl hd rfl (by decide) (by decide) (by decide) hR.1 hR.2 rfl (fun H1 cA e1 z1 o1 hAr hNm => ?_)
  have e2 := va_RA_nm (hK.2 1 (g.2.2.2 1, .int) rfl).2
  have e3 : cA = g.2.2.2 1 := Option.some.inj (hNm.symm.trans e2)
  subst e3
  have hAA := AA_gd (g := g) h0 hpos
  have hP1 : va_P g.2.2.1 vwCl (wsOf g h) H1 := hP.kept (fun k x hx => o1 x.1 (hP k x hx).lt)
  have hP2 : va_P (gd g H.size).2.2.1 vwCl (wsOf (gd g H.size) (setI h 42 (fun _ => 0))) H1 := va_P_of (fun q hq => by
    unfold wsOf at hq
    rw [LXg_d g hpos] at hq
    obtain ⟨k, hk, rfl⟩ := List.mem_map.mp hq
    rcases List.mem_append.mp hk with z | z
    · have e4 : cellE (gd g H.size) (setI h 42 (fun _ => 0)) k = cellE (gd g H.size) h k := cellE_congr (va_up_ne _ _ (LX_42 k z)) rfl rfl
      rw [e4]
      exact (at_gd hp z).mp (va_P_at hP1 (List.mem_map.mpr ⟨k, LX_sub g z, rfl⟩))
    · rw [List.mem_singleton] at z
      subst z
      rw [dEq, gd_s]
      show va_at _ _ (_, .inl (g.2.2.2 1, ln 42, .inl ((setI h 42 (fun _ => 0)).1 42))) H1
      rw [ln_42, setI_s]
      exact e1)
  have hgi : ginj (gd g H.size) := by
    intro i hi j hj he
    rw [LXg_d g hpos] at hi hj
    rcases List.mem_append.mp hi with zi | zi <;> rcases List.mem_append.mp hj with zj | zj
    · rw [gd_n g (LX_42 i zi), gd_n g (LX_42 j zj)] at he
      exact hg i (LX_sub g zi) j (LX_sub g zj) he
    · rw [List.mem_singleton] at zj
      subst zj
      rw [gd_n g (LX_42 i zi), gd_s] at he
      have := hlt i zi
      omega
    · rw [List.mem_singleton] at zi
      subst zi
      rw [gd_n g (LX_42 j zj), gd_s] at he
      have := hlt j zj
      omega
    · rw [List.mem_singleton] at zi zj
      rw [zi, zj]
  have hnar : ∀ q, q < s.heap.size → AA (gd g H.size) q → AA g q := fun q h1 h2 => by
    rcases (hAA q).mp h2 with z | z
    · exact z
    · have := hS.1
      omega
  have hSZ : SZ (gd g H.size) s s.heap := by
    unfold SZ
    rw [gd_n g (by decide)]
    exact ⟨hZ.1.plus hnar, hZ.2.plus hnar⟩
  have K := kk H.size hpos p e s m args below meth c H1 locs ls ⟨F.1, F.2.1, F.2.2.1, F.2.2.2.1, F.2.2.2.2.1, F.2.2.2.2.2.1, F.2.2.2.2.2.2.1, hK, hgi, hSZ⟩ hP2 ⟨Nat.le_trans hS.1 (by omega), fun q h1 h2 => (o1 q (Nat.lt_of_lt_of_le h1 hS.1)).trans (hS.2.1 q h1 (fun z => h2 ((hAA q).mpr (Or.inl z)))), fun q hq => (hAA _).mpr (Or.inl (hS.2.2 q hq))⟩ ⟨hL.1, hL.2.1, fun i v hi => by rw [cv_gd g _ (hl i v hi)]; exact hL.2.2 i v hi⟩
  have e5 : ([Value.ref 42].map (cv (gd g H.size))) = [.ref H.size] := by
    show [Value.ref ((gd g H.size).2.1 42)] = _
    rw [gd_s]
  rw [e5] at K
  intro T hT X
  obtain ⟨t, a1, a2⟩ := K T hT X
  exact ⟨t, a1, a2 hS.1⟩
theorem am_iretD {g : Gx} {M : MI} {P : Option Value → Hp → Prop} {pc a : Nat} {l : Lo} {h : Hp} {ty : FieldType} {x : Int32} (h0 : g.2.1 42 = 0) (ha : 0 < a) (hd : decode M.2.1 pc = .ok (.ireturn, 1)) (hr : M.2.2.2.2.1 = some ty) (hnw : narrow ty (.int x) = .int x) (hp : N42 h) (hq : P (some (.int x)) h) : AW (gd g a) M (ZD g P a) pc l [.int x] h := by
  intro p e s m args below meth c' H locs ls F hP hS hL
  by_cases hf : s.heap.size ≤ a
  · have hAA := AA_gd (g := g) h0 ha
    have hPw : va_P g.2.2.1 vwCl (wsOf g h) H := va_P_of (fun q hq => by
      unfold wsOf at hq
      rw [LXg_0 h0] at hq
      obtain ⟨k, hk, rfl⟩ := List.mem_map.mp hq
      refine (at_gd (a := a) hp hk).mpr (va_P_at hP (List.mem_map.mpr ⟨k, LX_sub _ hk, rfl⟩)))
    have hQ : ∀ t : State, t.heap = H → s.WarmedH t.vm → QC g P args s (.returned (some (.int x))) t := fun t ht _ => ⟨⟨some (.int x), h, rfl, hq, by rw [ht]; exact hPw⟩, by rw [ht]; exact hS.1, fun q h1 h2 => by
      rw [ht]
      refine hS.2.1 q h1 (fun z => ?_)
      rcases (hAA q).mp z with w | w
      · exact h2 w
      · omega⟩
    have K : W p (gd g a).1 e M.2.2.2.2.2 s m args below meth c' H locs 1 22 (MQ below (QC g P) args s 1 22 (fun q => AA g q ∨ s.heap.size ≤ q)) (F0 m pc ls [.int x]) := W.zret F.1 F.2.1 (F.2.2.2.1.trans hr) hnw hQ (fun q hq => by
      rcases (hAA q.base).mp (hS.2.2 q hq) with w | w
      · exact Or.inl w
      · exact Or.inr (by omega)) hd F.2.2.2.2.1
    intro T hT X
    obtain ⟨t, b1, b2⟩ := K T hT X
    exact ⟨t, b1, fun _ => b2⟩
  · exact fun T _ _ => ⟨_, Steps.refl _, fun q => absurd q hf⟩
/-- a contract of a method that makes a row of 22 ints -/
def ACd (g : Gx) (y : MethodName) (ws : List Cond) (rm : Room) (as : List Value) (h : Hp) (P : Option Value → Hp → Prop) : Prop :=
  ginj g → ∀ sz : Nat, Met g.1 y ws rm (va_Pc (as.map (cv g)) (fun U => WD g h U ∧ U.heap.size = sz)) (QC g P) 1 22 (fun q => AA g q ∨ sz ≤ q)
theorem ACd.of {g : Gx} {y : MethodName} {ws ws' : List Cond} {rm : Room} {cc : ByteArray} {maxL : Nat} {ret : Option FieldType} {as : List Value} {h : Hp} {P : Option Value → Hp → Prop} (hy : plainName y.cls = true) (hw : ws = Cond.code y cc maxL ret :: ws') (hlen : (lg_sl as).length ≤ maxL)
    (body : AW g (ws, cc, y.cls, maxL, ret, rm) (ZD0 g P) 0 (la 0 as) [] h) : ACd g y ws rm as h P := by
  intro hg sz
  refine Met.ofW (cc := cc) (maxL := maxL) (ret := ret) hy hw ?_
  intro p e s m args below meth c s₁ B hml hv
  obtain ⟨rfl, ⟨hP, hK, hZ⟩, hsz⟩ := hv
  have hts := atoms_spec (ws := ws) B.pre
  have hown : s.vm.findClass y.cls = some m.cls := findClass_of_methodNamed B.named
  have hl := lv_entry (as.map (cv g)) (n := maxL) (by rw [lg_sl_len]; exact hlen)
  rw [lg_entry_eq]
  generalize (lg_sl (as.map (cv g)) ++ List.replicate (maxL - (lg_sl (as.map (cv g))).length) Slot.unset).toArray = ls at hl ⊢
  subst hsz
  exact body p e s m _ below meth c s.heap [] ls ⟨B.exec, B.bytes, hml, B.returns, B.notSynchronized, hown, hts, hK, hg, hZ⟩ hP va_S.rf ⟨hl.1, hl.2.1, fun i v hi => hl.2.2 _ (la_args g as 0 i v hi)⟩
/-- the script, in a static method that reads it -/
def LC (g : Gx) (L : Nat) (xs : Nat → Int32) (s : State) : Prop := va_X (g.2.1 61) L xs s s.heap ∧ g.2.1 61 < s.heap.size ∧ ¬ AA g (g.2.1 61)
def ZC (g : Gx) (L : Nat) (xs : Nat → Int32) (P : Option Value → Hp → Prop) : Zt := (0, 0, fun below args s t => LC g L xs s → MQ below (QC g P) args s 0 0 (AA g) t)
section SC
variable {g : Gx} {M : MI} {P : Option Value → Hp → Prop} {L : Nat} {xs : Nat → Int32} {pc n : Nat} {l : Lo} {st : List Value} {h : Hp}
theorem am_sldC {j : Nat} (hd : decode M.2.1 pc = .ok (.iaload, 1)) (hj : j < L) (hL : L < 2 ^ 31) (hn : pc + 1 = n) (kk : AW g M (ZC g L xs P) n l (.int (xs j) :: st) h) : AW g M (ZC g L xs P) pc l (.int (nI j) :: .ref 61 :: st) h := by
  subst hn
  intro p e s m args below meth c H locs ls F hP hS hl
  by_cases hf : LC g L xs s
  · refine va_sld (b := g.2.1 61) (i := nI j) F.1 F.2.1 hf.1 hf.2.1 hf.2.2 hS (vp_in_nI hj (by omega)) hd ?_
    rw [nI_clamp (by omega)]
    exact kk p e s m args below meth c H locs ls F hP hS hl
  · exact fun T _ _ => ⟨_, Steps.refl _, fun q => absurd q hf⟩
theorem am_slenC (hd : decode M.2.1 pc = .ok (.arraylength, 1)) (hn : pc + 1 = n) (kk : AW g M (ZC g L xs P) n l (.int (nI L) :: st) h) : AW g M (ZC g L xs P) pc l (.ref 61 :: st) h := by
  subst hn
  intro p e s m args below meth c H locs ls F hP hS hl
  by_cases hf : LC g L xs s
  · exact va_slen (b := g.2.1 61) F.1 F.2.1 hf.1 hf.2.1 hf.2.2 hS hd (kk p e s m args below meth c H locs ls F hP hS hl)
  · exact fun T _ _ => ⟨_, Steps.refl _, fun q => absurd q hf⟩
theorem am_iretC {ty : FieldType} {x : Int32} (hd : decode M.2.1 pc = .ok (.ireturn, 1)) (hr : M.2.2.2.2.1 = some ty) (hnw : narrow ty (.int x) = .int x) (hp : P (some (.int x)) h) : AW g M (ZC g L xs P) pc l [.int x] h := by
  intro p e s m args below meth c' H locs ls F hP hS hL T hT X
  obtain ⟨t, b1, b2⟩ := am_iret (M := M) (P := P) (l := l) hd hr hnw hp p e s m args below meth c' H locs ls F hP hS hL T hT X
  exact ⟨t, b1, fun _ => b2⟩
theorem am_ldc {Z : Zt} {index : Nat} {v : Int32} (hd : decode M.2.1 pc = .ok (.ldc index, 2)) (hw : Cond.constant M.2.2.1 index v ∈ M.1) (hn : pc + 2 = n) (kk : AW g M Z n l (.int v :: st) h) : AW g M Z pc l st h := by
  subst hn
  intro p e s m args below meth c H locs ls F hP hS hL
  exact lv_ldc F.1 F.2.1 F.2.2.2.2.2.1 (F.2.2.2.2.2.2.1 _ hw) hd (kk p e s m args below meth c H locs ls F hP hS hL)
end SC
def ACs (g : Gx) (L : Nat) (xs : Nat → Int32) (y : MethodName) (ws : List Cond) (rm : Room) (as : List Value) (h : Hp) (P : Option Value → Hp → Prop) : Prop :=
  ginj g → Met g.1 y ws rm (va_Pc (as.map (cv g)) (fun U => WD g h U ∧ LC g L xs U)) (QC g P) 0 0 (AA g)
theorem ACs.of {g : Gx} {L : Nat} {xs : Nat → Int32} {y : MethodName} {ws ws' : List Cond} {rm : Room} {cc : ByteArray} {maxL : Nat} {ret : Option FieldType} {as : List Value} {h : Hp} {P : Option Value → Hp → Prop} (hy : plainName y.cls = true) (hw : ws = Cond.code y cc maxL ret :: ws') (hlen : (lg_sl as).length ≤ maxL)
    (body : AW g (ws, cc, y.cls, maxL, ret, rm) (ZC g L xs P) 0 (la 0 as) [] h) : ACs g L xs y ws rm as h P := by
  intro hg
  refine Met.ofW (cc := cc) (maxL := maxL) (ret := ret) hy hw ?_
  intro p e s m args below meth c s₁ B hml hv
  obtain ⟨rfl, ⟨hP, hK, hZ⟩, hLC⟩ := hv
  have hts := atoms_spec (ws := ws) B.pre
  have hown : s.vm.findClass y.cls = some m.cls := findClass_of_methodNamed B.named
  have hl := lv_entry (as.map (cv g)) (n := maxL) (by rw [lg_sl_len]; exact hlen)
  rw [lg_entry_eq]
  generalize (lg_sl (as.map (cv g)) ++ List.replicate (maxL - (lg_sl (as.map (cv g))).length) Slot.unset).toArray = ls at hl ⊢
  intro T hT X
  obtain ⟨t, b1, b2⟩ := body p e s m _ below meth c s.heap [] ls ⟨B.exec, B.bytes, hml, B.returns, B.notSynchronized, hown, hts, hK, hg, hZ⟩ hP va_S.rf ⟨hl.1, hl.2.1, fun i v hi => hl.2.2 _ (la_args g as 0 i v hi)⟩ T hT X
  exact ⟨t, b1, b2 hLC⟩
set_option maxHeartbeats 400000 in
theorem ac_L_cell (g : Gx) (L k : Nat) (xs : Nat → Int32) (h : Hp) (hL : L < 2 ^ 31) (hk : k < 2 ^ 30) : ACs g L xs yL_cell wsL_cell rmL_cell [.ref 61, .int (nI k)] h (fun v h' => (∃ j, j < 2 ^ 31 ∧ v = some (.int (nI j))) ∧ h' = h) := by
  refine ACs.of (cc := cL_cell) (maxL := 2) (ret := (some .int)) (by decide +kernel) rfl (Nat.le_of_ble_eq_true rfl) ?_
  show AW g mmL_cell _ 0 [(0, some (.ref 61)), (1, some (.int (nI k)))] [] _
  have fin : ∀ x : Int32, AW g mmL_cell (ZC g L xs (fun v h' => (∃ j, j < 2 ^ 31 ∧ v = some (.int (nI j))) ∧ h' = h)) 23 [(0, some (.ref 61)), (1, some (.int (nI k)))] [.int x] h := by
    intro x
    refine am_ldc (n := 25) (v := 2147483647) dL_cell_23 (by decide +kernel) rfl ?_
    refine am_iand (n := 26) dL_cell_25 rfl ?_
    obtain ⟨j, hj, e⟩ := pk_andE x (m := 2147483647) 31 (by decide)
    rw [e]
    exact am_iretC dL_cell_26 rfl rfl ⟨⟨j, hj, rfl⟩, rfl⟩
  refine am_iload_n (n := 1) (i := 1) dL_cell_0 rfl rfl rfl ?_
  refine am_aload_n (n := 2) (i := 0) dL_cell_1 rfl rfl rfl ?_
  refine am_slenC (n := 3) dL_cell_2 rfl ?_
  refine am_icmp_ge (tgt := 12) (n := 6) dL_cell_3 (by decide) rfl (fun _ => ?_) (fun c => ?_)
  · refine am_ldc (n := 14) (v := 1013904223) dL_cell_12 (by decide +kernel) rfl ?_
    refine am_iload_n (n := 15) (i := 1) dL_cell_14 rfl rfl rfl ?_
    refine am_bipush (n := 17) (v := 29) dL_cell_15 rfl rfl ?_
    refine am_iadd (n := 18) dL_cell_17 rfl ?_
    refine am_imul (n := 19) dL_cell_18 rfl ?_
    refine am_sipush (n := 22) (v := 5021) dL_cell_19 rfl rfl ?_
    refine am_iadd (n := 23) dL_cell_22 rfl ?_
    exact fin _
  · have hkL : k < L := Nat.not_le.mp (fun q => c (nI_le q (by omega)))
    refine am_aload_n (n := 7) (i := 0) dL_cell_6 rfl rfl rfl ?_
    refine am_iload_n (n := 8) (i := 1) dL_cell_7 rfl rfl rfl ?_
    refine am_sldC (n := 9) dL_cell_8 hkL hL rfl ?_
    refine am_goto (tgt := 23) dL_cell_9 (by decide) ?_
    exact fin _
