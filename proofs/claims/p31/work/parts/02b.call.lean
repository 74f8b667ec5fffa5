/-! CALLS in the abstract machine -/
theorem AC.cond {g : Gx} {U : State} {h : Hp} (gg : JFrame) (mk : MethodId) (a : Array Value) (q : WD g h U) : WD g h (U.calling gg mk a) :=
  ⟨q.1, va_K.moved (u := U) (U := U.calling gg mk a) (Vm.Alike.refl U.vm) q.2.1, va_Z.moved (u := U) (U := U.calling gg mk a) (Vm.Alike.refl U.vm) q.2.2.1, va_T.moved (u := U) (U := U.calling gg mk a) (Vm.Alike.refl U.vm) q.2.2.2⟩
section AMC
variable {g : Gx} {M : MI} {Z : Zt} {pc n tgt : Nat} {l : Lo} {st : List Value} {h : Hp}
theorem am_fb {as : List Value} : FrameBlind (va_Pc (as.map (cv g)) (WD g h)) := fun a U gg mk q => ⟨q.1, AC.cond gg mk a q.2⟩
theorem am_wd {p : Program} {s : State} {m : MethodId} {args : Array Value} {meth : Method} {c : Code} {H : Heap} {locs : List Loc} (F : FX g M p s m args meth c) (hP : va_P g.2.2.1 vwCl (wsOf g h) H) (hS : va_S (AA g) s.heap H locs) (U : State) (hU : U.heap = H) (hW : s.WarmedH U.vm) : WD g h U := by
  have hq : ∀ a : Nat, a < s.heap.size → ¬ AA g a → H[a]? = s.heap[a]? := fun a h1 h2 => hS.2.1 a h1 h2
  refine ⟨by rw [hU]; exact hP, va_K.moved hW.alike F.2.2.2.2.2.2.2.1, ?_, ?_⟩
  · rw [hU]
    exact va_Z.moved hW.alike (va_Z.kept F.2.2.2.2.2.2.2.2.2.1 hq)
  · rw [hU]
    exact va_T.moved hW.alike (va_T.kept F.2.2.2.2.2.2.2.2.2.2 hq)
theorem am_of_run {P : Option Value → Hp → Prop} {p : Program} {e : Env} {s : State} {m : MethodId} {args a : Array Value} {below : List Frame} {meth : Method} {c : Code} {H : Heap} {locs : List Loc} {ls : Array Slot} {st0 : List Value}
    (hr : va_Run p g.1 e M.2.2.2.2.2 s m args below meth c H locs Z.1 Z.2.1 0 0 (F0 m pc ls st0) (st.map (cv g)) (QC g P a) (AA g)) (F : FX g M p s m args meth c) (hS : va_S (AA g) s.heap H locs) (hL : LM g ls M.2.2.2.1 l)
    (kk : ∀ (r : Option Value) (h' : Hp), P r h' → AW g M Z (pc + 3) l (r.toList ++ st) h') :
    W p g.1 e M.2.2.2.2.2 s m args below meth c H locs Z.1 Z.2.1 (Z.2.2 below args s) (F0 m pc ls st0) := by
  intro T hT X
  obtain ⟨v, st₀, t, T', L, h0, X', hLL, e1, e2, ⟨⟨r, h', hv, hp, hP'⟩, hF⟩, hst⟩ := hr T hT X
  cases hv
  have hz : H.size ≤ t.heap.size := by rw [← h0]; exact hF.1
  have hk : ∀ q : Nat, q < H.size → ¬ AA g q → t.heap[q]? = H[q]? := by
    intro q h1 h2
    rw [← h0]
    exact hF.2 q (by rw [h0]; exact h1) h2
  have hS' : va_S (AA g) s.heap T'.heap (locs ++ L) := by
    rw [e1]
    refine ⟨Nat.le_trans hS.1 hz, fun q h1 h2 => ?_, fun q hq => ?_⟩
    · rw [hk q (Nat.lt_of_lt_of_le h1 hS.1) h2]
      exact hS.2.1 q h1 h2
    · rcases List.mem_append.mp hq with z | z
      · exact hS.2.2 q z
      · exact hLL q z
  obtain ⟨t2, a1, b1⟩ := kk r h' hp p e s m args below meth c T'.heap (locs ++ L) ls F (by rw [e1]; exact hP') hS' hL T' rfl X'
  refine ⟨t2, hst t2 ?_, b1⟩
  have es : (r.map (cv g)).toList ++ st.map (cv g) = (r.toList ++ st).map (cv g) := by cases r <;> simp
  rw [es]
  exact a1
theorem am_callV {y : MethodName} {C own : String} {T : u_T} {N ci b index nA maxL : Nat} {bytes : ByteArray} {ret : Option FieldType} {ws ws' : List Cond} {rm : Room} {As : List Value} {P : Option Value → Hp → Prop} {st0 : List Value}
    (hd : decode M.2.1 pc = .ok (.invokevirtual index, 3)) (hown : M.2.2.1 = own) (hT : GoodIn M.1 (wsV own index C y ws)) (hw : ws = Cond.code y bytes maxL ret :: ws') (hcl : vwCl[ci]? = some (C, T, N)) (h7 : ci < 7)
    (hdd : y.cls = C ∧ y.cls ≠ "java/lang/invoke/MethodHandle" ∧ y.cls ≠ "java/lang/invoke/VarHandle" ∧ (parseMethodDescriptor y.desc).map (fun d => d.parameters.length) = some nA)
    (hrm : rm.cells = 0 ∧ rm.slots = 0) (hR : rm.frames + 1 ≤ M.2.2.2.2.2.frames ∧ 8 + (maxL + 11) + rm.locals ≤ M.2.2.2.2.2.locals) (hcs : Z.1 ≤ M.2.2.2.2.2.cells ∧ Z.2.1 ≤ M.2.2.2.2.2.slots)
    (hA : AC g y ws rm (.ref b :: As) h P) (hnA : As.length = nA) (hst : st0 = As.reverse ++ .ref b :: st) (hcat : (st.map fun v => v.category).sum ≤ 8) (hc : isC b ci 0) (hn : pc + 3 = n)
    (kk : ∀ (r : Option Value) (h' : Hp), P r h' → AW g M Z n l (r.toList ++ st) h') : AW g M Z pc l st0 h := by
  subst hn
  subst hown
  subst hst
  intro p e s m args below meth c H locs ls F hP hS hL
  obtain ⟨q, hq⟩ := hc.at g
  have he := ws_get (g := g) (h := h) hq
  have hE : cellE g h b = .inr (ci, (fl h b ci).map (cv g)) := by
    unfold cellE
    rw [hc.kd, if_pos h7]
  rw [hE] at he
  have hcat' : ((st.map (cv g)).map fun v => v.category).sum ≤ 8 := by
    rw [List.map_map, show ((fun v : Value => v.category) ∘ cv g) = (fun v => v.category) from funext (fun v => cv_cat g v)]
    exact hcat
  have hr := va_runV (l := g.1) (e := e) (R := M.2.2.2.2.2) (s := s) (below := below) (meth := meth) (H := H) (locs := locs) (cells := Z.1) (slots := Z.2.1) (As := As.map (cv g)) (rest := st.map (cv g)) (b := g.2.1 b) (g := F0 m pc ls ((As.reverse ++ .ref b :: st).map (cv g))) (Ts := M.1) (own := M.2.2.1) (nL := M.2.2.2.1) (index := index)
    ⟨F.1, F.2.1, F.2.2.1, F.2.2.2.2.2.1, F.2.2.2.2.2.2.1⟩ (hA F.2.2.2.2.2.2.2.2.1) (cwV nA F.2.2.2.2.2.2.1 hT hw hrm.1 hrm.2 hdd hR)
    ⟨am_fb (as := .ref b :: As), va_recv F.2.2.2.2.2.2.2.1 hP hcl he, fun U hU hW => ⟨rfl, am_wd F hP hS U hU hW⟩⟩ rfl (by rw [List.length_map]; exact hnA) hL.1 (by simp [cv]) (lv_room hcat') hd ⟨by simpa using hcs.1, by simpa using hcs.2⟩
  exact am_of_run hr F hS hL kk
theorem am_callS {y : MethodName} {own : String} {index nA maxL : Nat} {bytes : ByteArray} {ret : Option FieldType} {ws ws' : List Cond} {rm : Room} {As : List Value} {P : Option Value → Hp → Prop} {st0 : List Value}
    (hd : decode M.2.1 pc = .ok (.invokestatic index, 3)) (hown : M.2.2.1 = own) (hT : GoodIn M.1 (va_wsS own index y ws)) (hw : ws = Cond.code y bytes maxL ret :: ws')
    (hdd : y.cls ≠ "java/lang/invoke/MethodHandle" ∧ y.cls ≠ "java/lang/invoke/VarHandle" ∧ (parseMethodDescriptor y.desc).map (fun d => d.parameters.length) = some nA)
    (hrm : rm.cells = 0 ∧ rm.slots = 0) (hR : rm.frames + 1 ≤ M.2.2.2.2.2.frames ∧ 8 + (maxL + 11) + rm.locals ≤ M.2.2.2.2.2.locals) (hcs : Z.1 ≤ M.2.2.2.2.2.cells ∧ Z.2.1 ≤ M.2.2.2.2.2.slots)
    (hA : AC g y ws rm As h P) (hnA : As.length = nA) (hst : st0 = As.reverse ++ st) (hcat : (st.map fun v => v.category).sum ≤ 8) (hn : pc + 3 = n)
    (kk : ∀ (r : Option Value) (h' : Hp), P r h' → AW g M Z n l (r.toList ++ st) h') : AW g M Z pc l st0 h := by
  subst hn
  subst hown
  subst hst
  intro p e s m args below meth c H locs ls F hP hS hL
  have hcat' : ((st.map (cv g)).map fun v => v.category).sum ≤ 8 := by
    rw [List.map_map, show ((fun v : Value => v.category) ∘ cv g) = (fun v => v.category) from funext (fun v => cv_cat g v)]
    exact hcat
  have hr := va_runS (l := g.1) (e := e) (R := M.2.2.2.2.2) (s := s) (below := below) (meth := meth) (H := H) (locs := locs) (cells := Z.1) (slots := Z.2.1) (As := As.map (cv g)) (rest := st.map (cv g)) (g := F0 m pc ls ((As.reverse ++ st).map (cv g))) (Ts := M.1) (own := M.2.2.1) (nL := M.2.2.2.1) (index := index)
    ⟨F.1, F.2.1, F.2.2.1, F.2.2.2.2.2.1, F.2.2.2.2.2.2.1⟩ (hA F.2.2.2.2.2.2.2.2.1) (va_cwS nA F.2.2.2.2.2.2.1 hT hw hrm.1 hrm.2 hdd hR)
    ⟨am_fb, fun U hU hW => ⟨rfl, am_wd F hP hS U hU hW⟩⟩ rfl (by rw [List.length_map]; exact hnA) hL.1 (by simp) (lv_room hcat') hd ⟨by simpa using hcs.1, by simpa using hcs.2⟩
  exact am_of_run hr F hS hL kk
theorem am_mmax {x y : Int32} {index : Nat} (hd : decode M.2.1 pc = .ok (.invokestatic index, 3)) (h1 : Cond.methodLink M.2.2.1 index Lib.Math.max.name ∈ M.1) (h2 : Cond.static Lib.Math.max.name ∈ M.1) (h3 : Cond.initialized "java/lang/Math" ∈ M.1) (h4 : Cond.code Lib.Math.max.name Lib.Math.max.code 2 (some .int) ∈ M.1) (hf : 1 ≤ M.2.2.2.2.2.frames) (hlo : (st.map fun v => v.category).sum + 13 ≤ M.2.2.2.2.2.locals) (hcs : Z.1 ≤ M.2.2.2.2.2.cells ∧ Z.2.1 ≤ M.2.2.2.2.2.slots) (hn : pc + 3 = n)
    (kk : AW g M Z n l (.int (if x < y then y else x) :: st) h) : AW g M Z pc l (.int y :: .int x :: st) h := by
  subst hn
  intro p e s m args below meth c H locs ls F hP hS hL
  have hcat' : ((st.map (cv g)).map fun v => v.category).sum + 13 ≤ M.2.2.2.2.2.locals := by
    rw [List.map_map, show ((fun v : Value => v.category) ∘ cv g) = (fun v => v.category) from funext (fun v => cv_cat g v)]
    exact hlo
  have hw := F.2.2.2.2.2.2.1
  exact va_mmax F.1 F.2.1 (F.2.2.1.trans hL.1.symm) F.2.2.2.2.2.1 (hw _ h1) (hw _ h2) (hw _ h3) (hw _ h4) hf hcat' hcs.1 hcs.2 hd (kk p e s m args below meth c H locs ls F hP hS hL)
theorem am_mmin {x y : Int32} {index : Nat} (hd : decode M.2.1 pc = .ok (.invokestatic index, 3)) (h1 : Cond.methodLink M.2.2.1 index Lib.Math.min.name ∈ M.1) (h2 : Cond.static Lib.Math.min.name ∈ M.1) (h3 : Cond.initialized "java/lang/Math" ∈ M.1) (h4 : Cond.code Lib.Math.min.name Lib.Math.min.code 2 (some .int) ∈ M.1) (hf : 1 ≤ M.2.2.2.2.2.frames) (hlo : (st.map fun v => v.category).sum + 13 ≤ M.2.2.2.2.2.locals) (hcs : Z.1 ≤ M.2.2.2.2.2.cells ∧ Z.2.1 ≤ M.2.2.2.2.2.slots) (hn : pc + 3 = n)
    (kk : AW g M Z n l (.int (if y < x then y else x) :: st) h) : AW g M Z pc l (.int y :: .int x :: st) h := by
  subst hn
  intro p e s m args below meth c H locs ls F hP hS hL
  have hcat' : ((st.map (cv g)).map fun v => v.category).sum + 13 ≤ M.2.2.2.2.2.locals := by
    rw [List.map_map, show ((fun v : Value => v.category) ∘ cv g) = (fun v => v.category) from funext (fun v => cv_cat g v)]
    exact hlo
  have hw := F.2.2.2.2.2.2.1
  exact va_mmin F.1 F.2.1 (F.2.2.1.trans hL.1.symm) F.2.2.2.2.2.1 (hw _ h1) (hw _ h2) (hw _ h3) (hw _ h4) hf hcat' hcs.1 hcs.2 hd (kk p e s m args below meth c H locs ls F hP hS hL)
theorem am_copyi {k0 k1 n0 n1 index : Nat} {sp dp z : Int32} (hd : decode M.2.1 pc = .ok (.invokestatic index, 3)) (h1 : Cond.methodLink M.2.2.1 index arraycopyName ∈ M.1) (h2 : Cond.native arraycopyName ∈ M.1) (h3 : Cond.static arraycopyName ∈ M.1) (h4 : Cond.initialized "java/lang/System" ∈ M.1) (hf : 1 ≤ M.2.2.2.2.2.frames) (hlo : (st.map fun v => v.category).sum + (nativeFrameWords "java/lang/System" "arraycopy" 5 + 11) ≤ M.2.2.2.2.2.locals)
    (hc0 : isC k0 8 n0) (hc1 : isC k1 8 n1) (a1 : ¬ sp < 0) (a2 : ¬ dp < 0) (a3 : ¬ z < 0) (a4 : sp.toNatClampNeg + z.toNatClampNeg ≤ n0) (a5 : dp.toNatClampNeg + z.toNatClampNeg ≤ n1) (hn : pc + 3 = n)
    (kk : AW g M Z n l st (setI h k1 (va_cpy (h.1 k0) (h.1 k1) sp.toNatClampNeg dp.toNatClampNeg z.toNatClampNeg))) : AW g M Z pc l (.int z :: .int dp :: .ref k1 :: .int sp :: .ref k0 :: st) h := by
  subst hn
  intro p e s m args below meth c H locs ls F hP hS hL
  obtain ⟨q0, hq0⟩ := hc0.at g
  obtain ⟨q1, hq1⟩ := hc1.at g
  have he0 := ws_get (g := g) (h := h) hq0
  have he1 := ws_get (g := g) (h := h) hq1
  rw [arr_at g h hc0 (by omega)] at he0
  rw [arr_at g h hc1 (by omega)] at he1
  have hcat' : ((st.map (cv g)).map fun v => v.category).sum + (nativeFrameWords "java/lang/System" "arraycopy" 5 + 11) ≤ M.2.2.2.2.2.locals := by
    rw [List.map_map, show ((fun v : Value => v.category) ∘ cv g) = (fun v => v.category) from funext (fun v => cv_cat g v)]
    exact hlo
  have hw := F.2.2.2.2.2.2.1
  refine va_copyi F.1 F.2.1 (F.2.2.1.trans hL.1.symm) F.2.2.2.2.2.1 (hw _ h1) (hw _ h2) (hw _ h3) (hw _ h4) F.2.2.2.2.2.2.2.1 hP (ws_D F.2.2.2.2.2.2.2.2.1 h) hS q0 q1 1 1 he0 he1 rfl rfl rfl a1 a2 a3 (by rw [hc0.ln]; exact a4) (by rw [hc1.ln]; exact a5) (fun _ _ => rfl) hf hcat' hd (fun H1 locs1 hP1 _ hS1 => ?_)
  have hws := ws_set (g := g) (h := h) (h' := setI h k1 (va_cpy (h.1 k0) (h.1 k1) sp.toNatClampNeg dp.toNatClampNeg z.toNatClampNeg)) hq1 rfl (fun j hj => cellE_congr (va_up_ne _ _ hj) rfl rfl)
  rw [arr_at g _ hc1 (by omega)] at hws
  simp only [ar, setI, va_up_self] at hws
  rw [hws] at hP1
  exact kk p e s m args below meth c H1 locs1 ls F hP1 hS1 hL
theorem am_copyl {k0 k1 n0 n1 index : Nat} {sp dp z : Int32} (hd : decode M.2.1 pc = .ok (.invokestatic index, 3)) (h1 : Cond.methodLink M.2.2.1 index arraycopyName ∈ M.1) (h2 : Cond.native arraycopyName ∈ M.1) (h3 : Cond.static arraycopyName ∈ M.1) (h4 : Cond.initialized "java/lang/System" ∈ M.1) (hf : 1 ≤ M.2.2.2.2.2.frames) (hlo : (st.map fun v => v.category).sum + (nativeFrameWords "java/lang/System" "arraycopy" 5 + 11) ≤ M.2.2.2.2.2.locals)
    (hc0 : isC k0 9 n0) (hc1 : isC k1 9 n1) (a1 : ¬ sp < 0) (a2 : ¬ dp < 0) (a3 : ¬ z < 0) (a4 : sp.toNatClampNeg + z.toNatClampNeg ≤ n0) (a5 : dp.toNatClampNeg + z.toNatClampNeg ≤ n1) (hn : pc + 3 = n)
    (kk : AW g M Z n l st (setJ h k1 (va_cpy (h.2.1 k0) (h.2.1 k1) sp.toNatClampNeg dp.toNatClampNeg z.toNatClampNeg))) : AW g M Z pc l (.int z :: .int dp :: .ref k1 :: .int sp :: .ref k0 :: st) h := by
  subst hn
  intro p e s m args below meth c H locs ls F hP hS hL
  obtain ⟨q0, hq0⟩ := hc0.at g
  obtain ⟨q1, hq1⟩ := hc1.at g
  have he0 := ws_get (g := g) (h := h) hq0
  have he1 := ws_get (g := g) (h := h) hq1
  rw [arr_at g h hc0 (by omega)] at he0
  rw [arr_at g h hc1 (by omega)] at he1
  have hcat' : ((st.map (cv g)).map fun v => v.category).sum + (nativeFrameWords "java/lang/System" "arraycopy" 5 + 11) ≤ M.2.2.2.2.2.locals := by
    rw [List.map_map, show ((fun v : Value => v.category) ∘ cv g) = (fun v => v.category) from funext (fun v => cv_cat g v)]
    exact hlo
  have hw := F.2.2.2.2.2.2.1
  refine va_copyl F.1 F.2.1 (F.2.2.1.trans hL.1.symm) F.2.2.2.2.2.1 (hw _ h1) (hw _ h2) (hw _ h3) (hw _ h4) F.2.2.2.2.2.2.2.1 hP (ws_D F.2.2.2.2.2.2.2.2.1 h) hS q0 q1 2 2 he0 he1 rfl rfl rfl a1 a2 a3 (by rw [hc0.ln]; exact a4) (by rw [hc1.ln]; exact a5) (fun _ _ => rfl) hf hcat' hd (fun H1 locs1 hP1 _ hS1 => ?_)
  have hws := ws_set (g := g) (h := h) (h' := setJ h k1 (va_cpy (h.2.1 k0) (h.2.1 k1) sp.toNatClampNeg dp.toNatClampNeg z.toNatClampNeg)) hq1 rfl (fun j hj => cellE_congr rfl (va_up_ne _ _ hj) rfl)
  rw [arr_at g _ hc1 (by omega)] at hws
  simp only [ar, setJ, va_up_self] at hws
  rw [hws] at hP1
  exact kk p e s m args below meth c H1 locs1 ls F hP1 hS1 hL
theorem am_iinc1 {i : Nat} {x : Int32} (hd : decode M.2.1 pc = .ok (.iinc i 1, 3)) (hl : lget l i = some (.int x)) (hok : okst l i = true) (hn : pc + 3 = n) (kk : AW g M Z n ((i, some (.int (x + 1))) :: l) st h) : AW g M Z pc l st h := am_iinc hd hl rfl hok hn kk
theorem am_iincN {i j : Nat} (hd : decode M.2.1 pc = .ok (.iinc i 1, 3)) (hl : lget l i = some (.int (nI j))) (hok : okst l i = true) (hn : pc + 3 = n) (kk : AW g M Z n ((i, some (.int (nI (j + 1)))) :: l) st h) : AW g M Z pc l st h := am_iinc hd hl (nI_1 j) hok hn kk
end AMC
