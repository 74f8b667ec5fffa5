/-! THE LAW, FROM ITS ENTRY -/
def gL (g : Gx) (b : Nat) (F1 : Nat → Nat) (a0 a1 : Nat) : Gx := (g.1, fun k => if k = 61 then b else if k = 60 then g.2.1 60 else if k = 40 then a0 else if k = 41 then a1 else if k = 42 then 0 else F1 k, g.2.2)
theorem gL_1 {g : Gx} {b : Nat} {F1 : Nat → Nat} {a0 a1 k : Nat} (h : k < 40 ∨ 100 ≤ k) : (gL g b F1 a0 a1).2.1 k = F1 k := by
  show (if k = 61 then b else if k = 60 then g.2.1 60 else if k = 40 then a0 else if k = 41 then a1 else if k = 42 then 0 else F1 k) = _
  rw [if_neg (by omega), if_neg (by omega), if_neg (by omega), if_neg (by omega), if_neg (by omega)]
theorem gL_2 {g : Gx} {b : Nat} {F1 : Nat → Nat} {a0 a1 k : Nat} (h : k < 2) : (gL g b F1 a0 a1).2.1 (40 + k) = lf [a0, a1] k := by
  match k, h with
  | 0, _ => rfl
  | 1, _ => rfl
  | z + 2, q => exact absurd q (by omega)
theorem gL_42 {g : Gx} {b : Nat} {F1 : Nat → Nat} {a0 a1 : Nat} : (gL g b F1 a0 a1).2.1 42 = 0 := rfl
theorem gL_60 {g : Gx} {b : Nat} {F1 : Nat → Nat} {a0 a1 : Nat} : (gL g b F1 a0 a1).2.1 60 = g.2.1 60 := rfl
theorem gL_61 {g : Gx} {b : Nat} {F1 : Nat → Nat} {a0 a1 : Nat} : (gL g b F1 a0 a1).2.1 61 = b := rfl
theorem NC_in : ∀ k, k ∈ NC → k < 40 ∨ 100 ≤ k := by decide +kernel
theorem NM_in : ∀ k, k ∈ NM → k < 2 := by decide +kernel
def LF0 (b L : Nat) (xs : Nat → Int32) (sz : Nat) (s : State) (args : Array Value) : Prop := args = #[Value.ref b] ∧ va_X b L xs s s.heap ∧ b < s.heap.size ∧ sz = s.heap.size
set_option maxRecDepth 100000 in
set_option maxHeartbeats 1000000 in
theorem law_go (g : Gx) (nm : String) (b L sz : Nat) (xs : Nat → Int32) (hL : L ≤ 260) (F1 : Nat → Nat) (a0 a1 : Nat) : CW g mmL_law nm (fun q => sz ≤ q) (fun below args s t => LF0 b L xs sz s args → lw_Z below args s t) 309 4225 22 [(3, some (.ref a1)), (2, some (.ref a0)), (1, some (.ref (F1 0))), (0, some (.ref b))] [] (([] ++ ciW g F1) ++ lqW g (lf [a0, a1])) := by
  intro p e s m args below meth c H locs ls F hP hD hS hl
  by_cases hf : LF0 b L xs sz s args
  · obtain ⟨h1, h2, h3, rfl⟩ := hf
    have hPc : ∀ q, q ∈ ciW g F1 → va_at g.2.2.1 vwCl q H := fun q hq => va_P_at hP (List.mem_append_left _ (List.mem_append_right _ hq))
    have hPm : ∀ q, q ∈ lqW g (lf [a0, a1]) → va_at g.2.2.1 vwCl q H := fun q hq => va_P_at hP (List.mem_append_right _ hq)
    have hall := br_all (g := gL g b F1 a0 a1) (g0 := g) rfl (fun k hk => gL_1 hk) (fun k hk => gL_2 hk) hPc hPm
    have hW : va_P (gL g b F1 a0 a1).2.2.1 vwCl (wsOf (gL g b F1 a0 a1) hI) H := va_P_of (fun q hq => by
      obtain ⟨k, hk, rfl⟩ := List.mem_map.mp hq
      obtain ⟨t, ht, rfl⟩ := List.mem_map.mp hk
      exact hall t ht)
    have hDi := va_D_iff.mp hD
    have hfst : (([] ++ ciW g F1) ++ lqW g (lf [a0, a1])).map Prod.fst = (NC ++ NM.map (fun k => 40 + k)).map (gL g b F1 a0 a1).2.1 := by
      have e1 : NC.map F1 = NC.map (gL g b F1 a0 a1).2.1 := List.map_congr_left (fun k hk => (gL_1 (NC_in k hk)).symm)
      have e2 : NM.map (lf [a0, a1]) = NM.map ((gL g b F1 a0 a1).2.1 ∘ fun k => 40 + k) := List.map_congr_left (fun k hk => (gL_2 (NM_in k hk)).symm)
      rw [List.nil_append, List.map_append, List.map_append, fst_ci, fst_lq, List.map_map, e1, e2]
    have hnd := hDi.1
    rw [hfst] at hnd
    have hgi : ginj (gL g b F1 a0 a1) := fun i hi j hj e => inj_of hnd i (LX_in i hi) j (LX_in j hj) e
    have hAA : ∀ q, AA (gL g b F1 a0 a1) q → s.heap.size ≤ q := by
      rintro q ⟨k, hk, rfl⟩
      have h4 : (gL g b F1 a0 a1).2.1 k ∈ (([] ++ ciW g F1) ++ lqW g (lf [a0, a1])).map Prod.fst := by
        rw [hfst]
        exact List.mem_map.mpr ⟨k, LX_in k hk, rfl⟩
      obtain ⟨x, hx, ex⟩ := List.mem_map.mp h4
      rw [← ex]
      exact hDi.2 x hx
    have hZ := F.2.2.2.2.2.2.2.2.2.2.2
    have hSZ : SZ (gL g b F1 a0 a1) s s.heap := by
      unfold SZ
      rw [gL_60]
      exact ⟨hZ.1.narrow hAA, hZ.2.narrow hAA⟩
    have hAA0 : ∀ q, AA (gL g b F1 a0 a1) q → s.heap.size ≤ q := hAA
    have hLM : LM (gL g b F1 a0 a1) ls 14 [(3, some (.ref 41)), (2, some (.ref 40)), (1, some (.ref 0)), (0, some (.ref 61))] := by
      refine ⟨hl.1, hl.2.1, fun i v hi => ?_⟩
      match i, hi with
      | 0, hi =>
        cases hi
        exact hl.2.2 0 (.ref b) rfl
      | 1, hi =>
        cases hi
        exact (hl.2.2 1 (.ref (F1 0)) rfl).trans (by show some (Slot.val (.ref (F1 0))) = some (Slot.val (.ref ((gL g b F1 a0 a1).2.1 0))); rw [gL_1 (by omega)])
      | 2, hi =>
        cases hi
        exact hl.2.2 2 (.ref a0) rfl
      | 3, hi =>
        cases hi
        exact hl.2.2 3 (.ref a1) rfl
      | z + 4, hi => cases hi
    have K := law_head (g := gL g b F1 a0 a1) (xs := xs) gL_42 hL p e s m args below meth c H [] ls ⟨F.1, F.2.1, F.2.2.1, F.2.2.2.1, F.2.2.2.2.1, F.2.2.2.2.2.1, F.2.2.2.2.2.2.1, F.2.2.2.2.2.2.2.1, hgi, hSZ⟩ hW ⟨hS.1, fun q a1 a2 => hS.2.1 q a1 (Nat.not_le.mpr a1), fun q hq => absurd hq List.not_mem_nil⟩ hLM
    refine va_forget (fun q hq => hS.2.2 q hq) ?_
    refine W.widen (k := 400 + 0) (n := 5000 + 22 * 0) (Nat.le_of_ble_eq_true rfl) (Nat.le_of_ble_eq_true rfl) ?_
    intro T hT X
    obtain ⟨t, a1, a2⟩ := K T hT X
    refine ⟨t, a1, fun _ => a2 ⟨?_, ?_, ?_, hAA⟩⟩
    · rw [gL_61]
      exact h1
    · rw [gL_61]
      exact h2
    · rw [gL_61]
      exact h3
  · exact fun T _ _ => ⟨_, Steps.refl _, fun q => absurd q hf⟩
theorem iwL_law_X7 : ∀ w ∈ wsX70, w ∈ wsL_law := by decide +kernel
set_option maxRecDepth 100000 in
set_option maxHeartbeats 1000000 in
theorem law_begin (g : Gx) (nm : String) (b L sz : Nat) (xs : Nat → Int32) (hL : L ≤ 260) : CW g mmL_law nm (fun q => sz ≤ q) (fun below args s t => LF0 b L xs sz s args → lw_Z below args s t) 0 0 0 [(0, some (.ref b))] [] [] := by
  refine cw_new (n1 := 3) (own := RL) (C := RX7) (T := TX7) (N := 10) (ci := 5) (fs := [.null, .null, .int 0, .null, .null, .null, .null, .null, .null, .null]) (k' := 1) (n' := 10) dL_law_0 rfl (by decide +kernel) (by decide +kernel) (by decide +kernel) iwL_law_X7 tyX7_ok rfl hfX7 rfl rfl (Nat.le_of_ble_eq_true rfl) (Nat.le_of_ble_eq_true rfl) rfl (fun q1 => ?_)
  refine cw_dup (n1 := 4) dL_law_3 rfl rfl ?_
  refine cw_callI (n1 := 7) (own := RL) (nA := 0) (k' := 307) (n' := 4199) (wc := [(q1, .inr (5, [.null, .null, .int 0, .null, .null, .null, .null, .null, .null, .null]))]) (rest := []) dL_law_4 rfl gL_law_X7_init rfl (by decide +kernel) (by decide +kernel) (by decide +kernel) rfl (by decide +kernel) ⟨rfl, rfl⟩ ⟨(Nat.le_of_ble_eq_true rfl), (Nat.le_of_ble_eq_true rfl)⟩ (cc_X7_init g q1) rfl rfl rfl (Nat.le_of_ble_eq_true rfl) rfl rfl (Nat.le_of_ble_eq_true rfl) (Nat.le_of_ble_eq_true rfl) rfl ?_
  rintro _ ⟨F1, rfl, rfl⟩
  refine cw_astore_n (n1 := 8) (i := 1) dL_law_7 rfl (Nat.le_of_ble_eq_true rfl) rfl rfl ?_
  refine cw_bipush (n1 := 10) (v := 24) dL_law_8 rfl rfl ?_
  refine cw_newa (n1 := 12) (t := 2) (ty := .long) (N' := 24) (k' := 308) (n' := 4223) (cI := g.2.2.2 2) (a0 := (24, .inr (.inl (fun _ => 0)))) (atype := .long) dL_law_10 (by decide +kernel) rfl rfl (fun _ => rfl) (by decide) (by decide +kernel) (Nat.le_of_ble_eq_true rfl) rfl rfl (Nat.le_of_ble_eq_true rfl) (Nat.le_of_ble_eq_true rfl) rfl (fun a0 => ?_)
  refine cw_astore_n (n1 := 13) (i := 2) dL_law_12 rfl (Nat.le_of_ble_eq_true rfl) rfl rfl ?_
  refine cw_iconst (n1 := 14) (v := 2) dL_law_13 rfl rfl ?_
  refine cw_newa (n1 := 16) (t := 1) (ty := .int) (N' := 2) (k' := 309) (n' := 4225) (cI := g.2.2.2 1) (a0 := (2, .inl (fun _ => 0))) (atype := .int) dL_law_14 (by decide +kernel) rfl rfl (fun _ => rfl) (by decide) (by decide +kernel) (Nat.le_of_ble_eq_true rfl) rfl rfl (Nat.le_of_ble_eq_true rfl) (Nat.le_of_ble_eq_true rfl) rfl (fun a1 => ?_)
  refine cw_astore_n (n1 := 17) (i := 3) dL_law_16 rfl (Nat.le_of_ble_eq_true rfl) rfl rfl ?_
  refine cw_aload_n (n1 := 18) (i := 3) dL_law_17 rfl rfl rfl ?_
  refine cw_iconst (n1 := 19) (v := 1) dL_law_18 rfl rfl ?_
  refine cw_bipush (n1 := 21) (v := 24) dL_law_19 rfl rfl ?_
  refine cw_iast (n1 := 22) (t := 1) (q0 := 0) (ws' := (a1, .inl (g.2.2.2 1, 2, .inl (upd (fun _ => 0) (Int32.toNatClampNeg 1) 24))) :: (a0, .inl (g.2.2.2 2, 24, .inr (.inl (fun _ => 0)))) :: ([] ++ ciW g F1)) dL_law_21 rfl rfl (vp_in_iff.mpr (by decide)) rfl rfl ?_
  refine cw_to (ws' := ([] ++ ciW g F1) ++ lqW g (lf [a0, a1])) (fun H hP => va_P_mem hP (fun q hq => ?_)) ?_ (law_go g nm b L sz xs hL F1 a0 a1)
  · rcases List.mem_append.mp hq with z | z
    · exact List.mem_cons_of_mem _ (List.mem_cons_of_mem _ z)
    · rcases List.mem_cons.mp z with rfl | z
      · exact List.mem_cons_of_mem _ List.mem_cons_self
      · rcases List.mem_cons.mp z with rfl | z
        · exact List.mem_cons_self
        · exact absurd z List.not_mem_nil
  · rw [List.map_append]
    show (a1 :: a0 :: List.map Prod.fst ([] ++ ciW g F1)).Perm (List.map Prod.fst ([] ++ ciW g F1) ++ [a0, a1])
    exact (List.Perm.swap a0 a1 _).trans (List.perm_append_comm (l₁ := [a0, a1]))
theorem start_arr {args : Array Value} {s : State} {ty : FieldType} (h : (Cond.arrayClass ty).before args s = true) (hp : ∀ (U : State) (c : ClassId), va_RA U c ty = (U.vm.findClass ("[" ++ ty.toString) = some c)) : ∃ c, ArrOfT s c ty ∧ va_RA s c ty := by
  obtain ⟨cA, kA, comp, h1, h2, h3⟩ := Cond.arrayClass_spec h
  exact ⟨cA, fun n z => ⟨fun k h => (by cases h), kA, h2, comp, h3⟩, by rw [hp]; exact h1⟩
theorem start_arrO {s : State} {C : String} (h : va_AO C s) : ∃ c, ArrOfT s c (.object C) ∧ va_RA s c (.object C) := by
  obtain ⟨comp, c, k, h1, h2, h3, h4, h5⟩ := Cond.arrayOver_spec h
  exact ⟨c, fun n z => ⟨fun k h => (by cases h), k, h3, comp, h4⟩, k, comp, h3, h4, h1, h5⟩
set_option maxRecDepth 100000 in
theorem start_SZ {args : Array Value} {s : State} (hts : ∀ w ∈ lw_tbl, w.before args s = true) (hgv : (Jvm.Cond.and given_1 narrow_1).before args s = true) {A : Nat → Prop} (hA : ∀ a : Nat, a < s.heap.size → ¬ A a) : ∃ t : Nat, va_Z "ConsonantIndex$Ear" "FIRSTS_AT_FIRST" "[I" (.ref t) A s s.heap ∧ va_T .int t 26 (fun j => .int (firstK j)) A s s.heap := by
  have hs := flat_of_before _ hgv
  have harr : (Cond.arrayOf (.static "ConsonantIndex$Ear" "FIRSTS_AT_FIRST" "[I") .int).before args s = true := hs _ (by decide +kernel)
  have hlen : (Term.length (.static "ConsonantIndex$Ear" "FIRSTS_AT_FIRST" "[I")).eval args s none [] s = some (.int 26) := va_eqt (hs (.eq (.length (.static "ConsonantIndex$Ear" "FIRSTS_AT_FIRST" "[I")) (.int 26)) (by decide +kernel))
  have hel : ∀ j : Nat, j < 26 → (Term.elem (.static "ConsonantIndex$Ear" "FIRSTS_AT_FIRST" "[I") (.int (Int32.ofNat j))).eval args s none [] s = some (.int (firstK j)) := by
    intro j hj
    match j, hj with
    | 0, _ => exact va_eqt (hs (.eq (.elem (.static "ConsonantIndex$Ear" "FIRSTS_AT_FIRST" "[I") (.int 0)) (.int 0)) (by decide +kernel))
    | 1, _ => exact va_eqt (hs (.eq (.elem (.static "ConsonantIndex$Ear" "FIRSTS_AT_FIRST" "[I") (.int 1)) (.int 1)) (by decide +kernel))
    | 2, _ => exact va_eqt (hs (.eq (.elem (.static "ConsonantIndex$Ear" "FIRSTS_AT_FIRST" "[I") (.int 2)) (.int 2)) (by decide +kernel))
    | 3, _ => exact va_eqt (hs (.eq (.elem (.static "ConsonantIndex$Ear" "FIRSTS_AT_FIRST" "[I") (.int 3)) (.int 3)) (by decide +kernel))
    | 4, _ => exact va_eqt (hs (.eq (.elem (.static "ConsonantIndex$Ear" "FIRSTS_AT_FIRST" "[I") (.int 4)) (.int 0)) (by decide +kernel))
    | 5, _ => exact va_eqt (hs (.eq (.elem (.static "ConsonantIndex$Ear" "FIRSTS_AT_FIRST" "[I") (.int 5)) (.int 1)) (by decide +kernel))
    | 6, _ => exact va_eqt (hs (.eq (.elem (.static "ConsonantIndex$Ear" "FIRSTS_AT_FIRST" "[I") (.int 6)) (.int 2)) (by decide +kernel))
    | 7, _ => exact va_eqt (hs (.eq (.elem (.static "ConsonantIndex$Ear" "FIRSTS_AT_FIRST" "[I") (.int 7)) (.int 0)) (by decide +kernel))
    | 8, _ => exact va_eqt (hs (.eq (.elem (.static "ConsonantIndex$Ear" "FIRSTS_AT_FIRST" "[I") (.int 8)) (.int 0)) (by decide +kernel))
    | 9, _ => exact va_eqt (hs (.eq (.elem (.static "ConsonantIndex$Ear" "FIRSTS_AT_FIRST" "[I") (.int 9)) (.int 2)) (by decide +kernel))
    | 10, _ => exact va_eqt (hs (.eq (.elem (.static "ConsonantIndex$Ear" "FIRSTS_AT_FIRST" "[I") (.int 10)) (.int 2)) (by decide +kernel))
    | 11, _ => exact va_eqt (hs (.eq (.elem (.static "ConsonantIndex$Ear" "FIRSTS_AT_FIRST" "[I") (.int 11)) (.int 4)) (by decide +kernel))
    | 12, _ => exact va_eqt (hs (.eq (.elem (.static "ConsonantIndex$Ear" "FIRSTS_AT_FIRST" "[I") (.int 12)) (.int 5)) (by decide +kernel))
    | 13, _ => exact va_eqt (hs (.eq (.elem (.static "ConsonantIndex$Ear" "FIRSTS_AT_FIRST" "[I") (.int 13)) (.int 5)) (by decide +kernel))
    | 14, _ => exact va_eqt (hs (.eq (.elem (.static "ConsonantIndex$Ear" "FIRSTS_AT_FIRST" "[I") (.int 14)) (.int 0)) (by decide +kernel))
    | 15, _ => exact va_eqt (hs (.eq (.elem (.static "ConsonantIndex$Ear" "FIRSTS_AT_FIRST" "[I") (.int 15)) (.int 1)) (by decide +kernel))
    | 16, _ => exact va_eqt (hs (.eq (.elem (.static "ConsonantIndex$Ear" "FIRSTS_AT_FIRST" "[I") (.int 16)) (.int 2)) (by decide +kernel))
    | 17, _ => exact va_eqt (hs (.eq (.elem (.static "ConsonantIndex$Ear" "FIRSTS_AT_FIRST" "[I") (.int 17)) (.int 6)) (by decide +kernel))
    | 18, _ => exact va_eqt (hs (.eq (.elem (.static "ConsonantIndex$Ear" "FIRSTS_AT_FIRST" "[I") (.int 18)) (.int 2)) (by decide +kernel))
    | 19, _ => exact va_eqt (hs (.eq (.elem (.static "ConsonantIndex$Ear" "FIRSTS_AT_FIRST" "[I") (.int 19)) (.int 3)) (by decide +kernel))
    | 20, _ => exact va_eqt (hs (.eq (.elem (.static "ConsonantIndex$Ear" "FIRSTS_AT_FIRST" "[I") (.int 20)) (.int 0)) (by decide +kernel))
    | 21, _ => exact va_eqt (hs (.eq (.elem (.static "ConsonantIndex$Ear" "FIRSTS_AT_FIRST" "[I") (.int 21)) (.int 1)) (by decide +kernel))
    | 22, _ => exact va_eqt (hs (.eq (.elem (.static "ConsonantIndex$Ear" "FIRSTS_AT_FIRST" "[I") (.int 22)) (.int 0)) (by decide +kernel))
    | 23, _ => exact va_eqt (hs (.eq (.elem (.static "ConsonantIndex$Ear" "FIRSTS_AT_FIRST" "[I") (.int 23)) (.int 2)) (by decide +kernel))
    | 24, _ => exact va_eqt (hs (.eq (.elem (.static "ConsonantIndex$Ear" "FIRSTS_AT_FIRST" "[I") (.int 24)) (.int 0)) (by decide +kernel))
    | 25, _ => exact va_eqt (hs (.eq (.elem (.static "ConsonantIndex$Ear" "FIRSTS_AT_FIRST" "[I") (.int 25)) (.int 2)) (by decide +kernel))
    | z + 26, q => exact absurd q (by omega)
  obtain ⟨t, ht, hT⟩ := va_Tof (f := fun j => .int (firstK j)) (N := 26) (by decide) harr hlen hel hA
  exact ⟨t, va_Zof (hts (.laysStatic "ConsonantIndex$Ear" "FIRSTS_AT_FIRST" "[I") (by decide +kernel)) (hts (.initialized "ConsonantIndex$Ear") (by decide +kernel)) ht hA, hT⟩
def pk7 {α : Type} (a0 a1 a2 a3 a4 a5 a6 : α) (k : Nat) : α := match k with
  | 0 => a0
  | 1 => a1
  | 2 => a2
  | 3 => a3
  | 4 => a4
  | 5 => a5
  | _ => a6
set_option maxRecDepth 100000 in
set_option maxHeartbeats 1000000 in
/-- from the entry, for every script of at most 260 ints, the law comes to its end with true -/
theorem whole_start {p : Program} {e : Env} {s : State} {m : MethodId} {below : List Frame} {meth : Method} {c : Code} (l : Launch) (hflags : l.flags = flags0) {b L : Nat} {xs : Nat → Int32} (hL : L ≤ 260) (C0 : lw_At p s m meth c b L xs) : W p l e room_1 s m #[Value.ref b] below meth c s.heap [] 0 0 (lw_Z below #[Value.ref b] s) (entryFrame m ([Value.ref b] : List Value).toArray 14) := by
  obtain ⟨hx, hb, hr, hml, hown, hts, hX, hbl, hlocks, hgv⟩ := C0
  have hts2 : ∀ w ∈ wsL_law, w.before #[Value.ref b] s = true := fun w hw => hts w (wsL_law_in w hw)
  obtain ⟨t, hZ, hT⟩ := start_SZ hts hgv (A := fun q => s.heap.size ≤ q) (fun a h => Nat.not_le.mpr h)
  obtain ⟨c0, i0, k0⟩ := u_known (C := RX1) (T := TX1) (N := 7) (n := 7) hts (by decide +kernel) (hts (.instantiable RX1 7) (by decide +kernel))
  obtain ⟨c1, i1, k1⟩ := u_known (C := RX2) (T := TX2) (N := 8) (n := 8) hts (by decide +kernel) (hts (.instantiable RX2 8) (by decide +kernel))
  obtain ⟨c2, i2, k2⟩ := u_known (C := RX3) (T := TX3) (N := 2) (n := 2) hts (by decide +kernel) (hts (.instantiable RX3 2) (by decide +kernel))
  obtain ⟨c3, i3, k3⟩ := u_known (C := RX4) (T := TX4) (N := 2) (n := 2) hts (by decide +kernel) (hts (.instantiable RX4 2) (by decide +kernel))
  obtain ⟨c4, i4, k4⟩ := u_known (C := RX5) (T := TX5) (N := 6) (n := 6) hts (by decide +kernel) (hts (.instantiable RX5 6) (by decide +kernel))
  obtain ⟨c5, i5, k5⟩ := u_known (C := RX7) (T := TX7) (N := 10) (n := 10) hts (by decide +kernel) (hts (.instantiable RX7 10) (by decide +kernel))
  obtain ⟨a0, p0, r0⟩ := start_arr (hts (.arrayClass .char) (by decide +kernel)) (fun _ _ => rfl)
  obtain ⟨a1, p1, r1⟩ := start_arr (hts (.arrayClass .int) (by decide +kernel)) (fun _ _ => rfl)
  obtain ⟨a2, p2, r2⟩ := start_arr (hts (.arrayClass .long) (by decide +kernel)) (fun _ _ => rfl)
  obtain ⟨a3, p3, r3⟩ := start_arr (hts (.arrayClass .boolean) (by decide +kernel)) (fun _ _ => rfl)
  have aoE : va_AO RX2 s := va_AO.of (hts (.arrayOver (.object RX2)) (by decide +kernel))
  have aoS : va_AO RX5 s := va_AO.of (hts (.arrayOver (.object RX5)) (by decide +kernel))
  obtain ⟨a4, p4, r4⟩ := start_arrO aoE
  obtain ⟨a5, p5, r5⟩ := start_arrO aoS
  have hNW : NW s := ⟨va_Nw.of rfl (hts (.methodLinkNest RX7 33 yX4_init RX7) (by decide +kernel)), va_Nw.of rfl (hts (.methodLinkNest RX7 40 yX1_init RX7) (by decide +kernel)), va_Nw.of rfl (hts (.methodLinkNest RX7 57 yX3_init RX7) (by decide +kernel)), aoS, aoE⟩
  have hK : va_K (pk7 c0 c1 c2 c3 c4 c5 c5, pk7 i0 i1 i2 i3 i4 i5 i5) vwCl [(a0, .char), (a1, .int), (a2, .long), (a3, .boolean), (a4, .object RX2), (a5, .object RX5)] s := by
    refine ⟨fun k q hq => ?_, fun k q hq => ?_⟩
    · match k, hq with
      | 0, hq => cases hq; exact k0
      | 1, hq => cases hq; exact k1
      | 2, hq => cases hq; exact k2
      | 3, hq => cases hq; exact k3
      | 4, hq => cases hq; exact k4
      | 5, hq => cases hq; exact k5
      | z + 6, hq => simp [vwCl] at hq
    · match k, hq with
      | 0, hq => cases hq; exact ⟨p0, r0⟩
      | 1, hq => cases hq; exact ⟨p1, r1⟩
      | 2, hq => cases hq; exact ⟨p2, r2⟩
      | 3, hq => cases hq; exact ⟨p3, r3⟩
      | 4, hq => cases hq; exact ⟨p4, r4⟩
      | 5, hq => cases hq; exact ⟨p5, r5⟩
      | z + 6, hq => simp at hq
  have hl := lv_entry ([.ref b]) (n := 14) (Nat.le_of_ble_eq_true rfl)
  rw [lg_entry_eq]
  generalize (lg_sl ([.ref b]) ++ List.replicate (14 - (lg_sl ([.ref b])).length) Slot.unset).toArray = ls at hl ⊢
  have K := law_begin (l, (fun _ => t), (pk7 c0 c1 c2 c3 c4 c5 c5, pk7 i0 i1 i2 i3 i4 i5 i5), pk7 a0 a1 a2 a3 a4 a5 a5) meth.name b L s.heap.size xs hL p e s m #[Value.ref b] below meth c s.heap [] ls ⟨hx, hb, hml, hr, hlocks, hown, hts2, hK, rfl, fun q h => h, hNW, hZ, hT⟩ (va_P_of (fun q h => absurd h List.not_mem_nil)) (va_D_iff.mpr ⟨List.nodup_nil, fun q h => absurd h List.not_mem_nil⟩) va_S.rf ⟨hl.1, hl.2.1, fun i v hi => ?_⟩
  · intro T hT X
    obtain ⟨t2, b1, b2⟩ := K T hT X
    exact ⟨t2, b1, b2 ⟨rfl, hX, hbl, rfl⟩⟩
  · match i, hi with
    | 0, hi =>
      cases hi
      exact hl.2.2 (0, .ref b) List.mem_cons_self
    | z + 1, hi => cases hi
