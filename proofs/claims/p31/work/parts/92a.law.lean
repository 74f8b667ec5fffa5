/-! THE LAW'S FRAME AND ITS CALLS -/
abbrev mmL_law : MI := (wsL_law, code, RL, 14, ret, room_1)
def LF (g : Gx) (L : Nat) (xs : Nat → Int32) (s : State) (args : Array Value) : Prop := args = #[Value.ref (g.2.1 61)] ∧ va_X (g.2.1 61) L xs s s.heap ∧ g.2.1 61 < s.heap.size ∧ ∀ q, AA g q → s.heap.size ≤ q
/-- the room that is used up after so many turns -/
def ZL (g : Gx) (L : Nat) (xs : Nat → Int32) (t : Nat) : Zt := (400 + t, 5000 + 22 * t, fun below args s u => LF g L xs s args → lw_Z below args s u)
theorem zl_ok {g : Gx} {L : Nat} {xs : Nat → Int32} {t : Nat} (ht : t ≤ 40) : (ZL g L xs t).1 ≤ mmL_law.2.2.2.2.2.cells ∧ (ZL g L xs t).2.1 ≤ mmL_law.2.2.2.2.2.slots := ⟨Nat.le_trans (show 400 + t ≤ 440 by omega) (Nat.le_of_ble_eq_true rfl), Nat.le_trans (show 5000 + 22 * t ≤ 6000 by omega) (Nat.le_of_ble_eq_true rfl)⟩
theorem zl_ok1 {g : Gx} {L : Nat} {xs : Nat → Int32} {t : Nat} (ht : t < 40) : (ZL g L xs t).1 + 1 ≤ mmL_law.2.2.2.2.2.cells ∧ (ZL g L xs t).2.1 + 22 ≤ mmL_law.2.2.2.2.2.slots := ⟨Nat.le_trans (show 400 + t + 1 ≤ 440 by omega) (Nat.le_of_ble_eq_true rfl), Nat.le_trans (show 5000 + 22 * t + 22 ≤ 6000 by omega) (Nat.le_of_ble_eq_true rfl)⟩
section LAW
variable {g : Gx} {L : Nat} {xs : Nat → Int32} {t pc n : Nat} {l : Lo} {st : List Value} {h : Hp}
theorem am_wide (kk : AW g mmL_law (ZL g L xs (t + 1)) pc l st h) : AW g mmL_law (ZL g L xs t) pc l st h := by
  intro p e s m args below meth c H locs ls F hP hS hl
  exact W.widen (show 400 + t ≤ 400 + (t + 1) by omega) (show 5000 + 22 * t ≤ 5000 + 22 * (t + 1) by omega) (kk p e s m args below meth c H locs ls F hP hS hl)
theorem am_end (ht : t ≤ 40) (hd : decode code pc = .ok (.ireturn, 1)) : AW g mmL_law (ZL g L xs t) pc l [.int 1] h := by
  intro p e s m args below meth c H locs ls F hP hS hl
  by_cases hf : LF g L xs s args
  · obtain ⟨h1, h2, h3, h4⟩ := hf
    refine va_forget (fun q hq => h4 _ (hS.2.2 q hq)) ?_
    refine W.widen (k := 600000) (n := 7302250) (zl_ok (g := g) (L := L) (xs := xs) ht).1 (zl_ok (g := g) (L := L) (xs := xs) ht).2 ?_
    subst h1
    intro T hT X
    obtain ⟨u, b1, b2⟩ := lw_ret (b := g.2.1 61) (below := below) (H := H) (ls := ls) (s := s) F.1 F.2.1 F.2.2.2.1 F.2.2.2.2.1 hd T hT X
    exact ⟨u, b1, fun _ => b2⟩
  · exact fun T _ _ => ⟨_, Steps.refl _, fun q => absurd q hf⟩
/-- a number of the script, or what stands for it -/
theorem caL_law_156 {k : Nat} (hd : decode code pc = .ok (.invokestatic 156, 3)) (ht : t ≤ 40) (hL : L < 2 ^ 31) (hk : k < 2 ^ 30) (hcat : (st.map fun v => v.category).sum ≤ 8) (hn : pc + 3 = n) (kk : ∀ j, j < 2 ^ 31 → AW g mmL_law (ZL g L xs t) n l (.int (nI j) :: st) h) : AW g mmL_law (ZL g L xs t) pc l (.int (nI k) :: .ref 61 :: st) h := by
  subst hn
  intro p e s m args below meth c H locs ls F hP hS hl
  by_cases hf : LF g L xs s args
  · obtain ⟨h1, h2, h3, h4⟩ := hf
    have hnb : ¬ AA g (g.2.1 61) := fun z => by have := h4 _ z; omega
    have hcat' : ((st.map (cv g)).map fun v => v.category).sum ≤ 8 := by
      rw [List.map_map, show ((fun v : Value => v.category) ∘ cv g) = (fun v => v.category) from funext (fun v => cv_cat g v)]
      exact hcat
    have hr := va_runS (l := g.1) (e := e) (R := mmL_law.2.2.2.2.2) (s := s) (below := below) (meth := meth) (H := H) (locs := locs) (cells := (ZL g L xs t).1) (slots := (ZL g L xs t).2.1) (As := [Value.ref 61, .int (nI k)].map (cv g)) (rest := st.map (cv g)) (g := F0 m pc ls ((.int (nI k) :: .ref 61 :: st).map (cv g))) (Ts := mmL_law.1) (own := mmL_law.2.2.1) (nL := mmL_law.2.2.2.1) (index := 156)
      ⟨F.1, F.2.1, F.2.2.1, F.2.2.2.2.2.1, F.2.2.2.2.2.2.1⟩ (ac_L_cell g L k xs h hL hk F.2.2.2.2.2.2.2.2.1) (va_cwS 2 F.2.2.2.2.2.2.1 gL_law_L_cell rfl rfl rfl (by decide +kernel) ⟨(Nat.le_of_ble_eq_true rfl), (Nat.le_of_ble_eq_true rfl)⟩)
      ⟨fun a U gg mk q => ⟨q.1, AC.cond gg mk a q.2.1, va_X.moved (u := U) (U := U.calling gg mk a) (Vm.Alike.refl U.vm) q.2.2.1, q.2.2.2⟩, fun U hU hW => ⟨rfl, am_wd F hP hS U hU hW, by
        rw [hU]
        exact va_X.moved hW.alike (h2.kept (hS.2.1 _ h3 hnb)), by
        rw [hU]
        exact Nat.lt_of_lt_of_le h3 hS.1, hnb⟩⟩ rfl rfl hl.1 rfl (lv_room hcat') hd ⟨by simpa using (zl_ok (g := g) (L := L) (xs := xs) ht).1, by simpa using (zl_ok (g := g) (L := L) (xs := xs) ht).2⟩
    refine am_of_run hr F hS hl ?_
    rintro r h' ⟨⟨j, hj, rfl⟩, rfl⟩
    exact kk j hj
  · exact fun T _ _ => ⟨_, Steps.refl _, fun q => absurd q hf⟩
/-- the call that makes a row -/
theorem caL_law_171 {As : List Value} {P : Option Value → Hp → Prop} {st0 : List Value} (hd : decode code pc = .ok (.invokestatic 171, 3)) (ht : t < 40) (hA : ACd g yL_distances wsL_distances rmL_distances As h P) (hnA : As.length = 3) (hst : st0 = As.reverse ++ st) (hcat : (st.map fun v => v.category).sum ≤ 8) (hn : pc + 3 = n) (kk : ∀ (r : Option Value) (h' : Hp), P r h' → AW g mmL_law (ZL g L xs (t + 1)) n l (r.toList ++ st) h') : AW g mmL_law (ZL g L xs t) pc l st0 h := by
  subst hn
  subst hst
  intro p e s m args below meth c H locs ls F hP hS hl
  by_cases hf : LF g L xs s args
  · obtain ⟨h1, h2, h3, h4⟩ := hf
    have hcat' : ((st.map (cv g)).map fun v => v.category).sum ≤ 8 := by
      rw [List.map_map, show ((fun v : Value => v.category) ∘ cv g) = (fun v => v.category) from funext (fun v => cv_cat g v)]
      exact hcat
    have hr := va_runS (l := g.1) (e := e) (R := mmL_law.2.2.2.2.2) (s := s) (below := below) (meth := meth) (H := H) (locs := locs) (cells := (ZL g L xs t).1) (slots := (ZL g L xs t).2.1) (As := As.map (cv g)) (rest := st.map (cv g)) (g := F0 m pc ls ((As.reverse ++ st).map (cv g))) (Ts := mmL_law.1) (own := mmL_law.2.2.1) (nL := mmL_law.2.2.2.1) (index := 171)
      ⟨F.1, F.2.1, F.2.2.1, F.2.2.2.2.2.1, F.2.2.2.2.2.2.1⟩ (hA F.2.2.2.2.2.2.2.2.1 H.size) (va_cwS 3 F.2.2.2.2.2.2.1 gL_law_L_distances rfl rfl rfl (by decide +kernel) ⟨(Nat.le_of_ble_eq_true rfl), (Nat.le_of_ble_eq_true rfl)⟩)
      ⟨fun a U gg mk q => ⟨q.1, AC.cond gg mk a q.2.1, q.2.2⟩, fun U hU hW => ⟨rfl, am_wd F hP hS U hU hW, by rw [hU]⟩⟩ rfl (by rw [List.length_map]; exact hnA) hl.1 (by simp) (lv_room hcat') hd (zl_ok1 (g := g) (L := L) (xs := xs) ht)
    intro T hT X
    obtain ⟨v, st₀, u, T', L', h0, X', hLL, e1, e2, ⟨⟨r, h', hv, hp, hP'⟩, hF⟩, hgo⟩ := hr T hT X
    cases hv
    have hz : H.size ≤ u.heap.size := by rw [← h0]; exact hF.1
    have hk : ∀ q : Nat, q < H.size → ¬ AA g q → u.heap[q]? = H[q]? := by
      intro q z1 z2
      rw [← h0]
      exact hF.2 q (by rw [h0]; exact z1) z2
    have X2 := Stand.forget (locs := locs) X' (fun q hq => by
      rcases hLL q hq with z | z
      · exact h4 _ z
      · exact Nat.le_trans hS.1 z)
    have hS' : va_S (AA g) s.heap T'.heap locs := by
      rw [e1]
      refine ⟨Nat.le_trans hS.1 hz, fun q z1 z2 => ?_, hS.2.2⟩
      rw [hk q (Nat.lt_of_lt_of_le z1 hS.1) z2]
      exact hS.2.1 q z1 z2
    obtain ⟨t2, a1, b1⟩ := kk r h' hp p e s m args below meth c T'.heap locs ls F (by rw [e1]; exact hP') hS' hl T' rfl X2
    refine ⟨t2, hgo t2 ?_, b1⟩
    have es : (r.map (cv g)).toList ++ st.map (cv g) = (r.toList ++ st).map (cv g) := by cases r <;> simp
    rw [es]
    exact a1
  · exact fun T _ _ => ⟨_, Steps.refl _, fun q => absurd q hf⟩
theorem caL_law_153 {b : Nat} {As : List Value} {P : Option Value → Hp → Prop} {st0 : List Value} (hd : decode code pc = .ok (.invokevirtual 153, 3)) (ht : t ≤ 40) (hA : AC g yX7_undo wsX7_undo rmX7_undo (.ref b :: As) h P) (hl : As.length = 0) (hst : st0 = As.reverse ++ .ref b :: st) (hcat : (st.map fun v => v.category).sum ≤ 8) (hc : isC b 5 0) (hn : pc + 3 = n) (kk : ∀ (r : Option Value) (h2 : Hp), P r h2 → AW g mmL_law (ZL g L xs t) n l (r.toList ++ st) h2) : AW g mmL_law (ZL g L xs t) pc l st0 h :=
  am_callV (M := mmL_law) (Z := ZL g L xs t) (C := RX7) (T := TX7) (N := 10) (ci := 5) (own := RL) (nA := 0) hd rfl gL_law_X7_undo rfl rfl (by omega) (by decide +kernel) ⟨rfl, rfl⟩ ⟨(Nat.le_of_ble_eq_true rfl), (Nat.le_of_ble_eq_true rfl)⟩ (zl_ok ht) hA hl hst hcat hc hn kk
theorem caL_law_105 {b : Nat} {As : List Value} {P : Option Value → Hp → Prop} {st0 : List Value} (hd : decode code pc = .ok (.invokevirtual 105, 3)) (ht : t ≤ 40) (hA : AC g yX7_restore wsX7_restore rmX7_restore (.ref b :: As) h P) (hl : As.length = 1) (hst : st0 = As.reverse ++ .ref b :: st) (hcat : (st.map fun v => v.category).sum ≤ 8) (hc : isC b 5 0) (hn : pc + 3 = n) (kk : ∀ (r : Option Value) (h2 : Hp), P r h2 → AW g mmL_law (ZL g L xs t) n l (r.toList ++ st) h2) : AW g mmL_law (ZL g L xs t) pc l st0 h :=
  am_callV (M := mmL_law) (Z := ZL g L xs t) (C := RX7) (T := TX7) (N := 10) (ci := 5) (own := RL) (nA := 1) hd rfl gL_law_X7_restore rfl rfl (by omega) (by decide +kernel) ⟨rfl, rfl⟩ ⟨(Nat.le_of_ble_eq_true rfl), (Nat.le_of_ble_eq_true rfl)⟩ (zl_ok ht) hA hl hst hcat hc hn kk
theorem caL_law_102 {b : Nat} {As : List Value} {P : Option Value → Hp → Prop} {st0 : List Value} (hd : decode code pc = .ok (.invokevirtual 102, 3)) (ht : t ≤ 40) (hA : AC g yX7_save wsX7_save rmX7_save (.ref b :: As) h P) (hl : As.length = 1) (hst : st0 = As.reverse ++ .ref b :: st) (hcat : (st.map fun v => v.category).sum ≤ 8) (hc : isC b 5 0) (hn : pc + 3 = n) (kk : ∀ (r : Option Value) (h2 : Hp), P r h2 → AW g mmL_law (ZL g L xs t) n l (r.toList ++ st) h2) : AW g mmL_law (ZL g L xs t) pc l st0 h :=
  am_callV (M := mmL_law) (Z := ZL g L xs t) (C := RX7) (T := TX7) (N := 10) (ci := 5) (own := RL) (nA := 1) hd rfl gL_law_X7_save rfl rfl (by omega) (by decide +kernel) ⟨rfl, rfl⟩ ⟨(Nat.le_of_ble_eq_true rfl), (Nat.le_of_ble_eq_true rfl)⟩ (zl_ok ht) hA hl hst hcat hc hn kk
theorem caL_law_56 {b : Nat} {As : List Value} {P : Option Value → Hp → Prop} {st0 : List Value} (hd : decode code pc = .ok (.invokevirtual 56, 3)) (ht : t ≤ 40) (hA : AC g yX7_deafest wsX7_deafest rmX7_deafest (.ref b :: As) h P) (hl : As.length = 0) (hst : st0 = As.reverse ++ .ref b :: st) (hcat : (st.map fun v => v.category).sum ≤ 8) (hc : isC b 5 0) (hn : pc + 3 = n) (kk : ∀ (r : Option Value) (h2 : Hp), P r h2 → AW g mmL_law (ZL g L xs t) n l (r.toList ++ st) h2) : AW g mmL_law (ZL g L xs t) pc l st0 h :=
  am_callV (M := mmL_law) (Z := ZL g L xs t) (C := RX7) (T := TX7) (N := 10) (ci := 5) (own := RL) (nA := 0) hd rfl gL_law_X7_deafest rfl rfl (by omega) (by decide +kernel) ⟨rfl, rfl⟩ ⟨(Nat.le_of_ble_eq_true rfl), (Nat.le_of_ble_eq_true rfl)⟩ (zl_ok ht) hA hl hst hcat hc hn kk
theorem caL_law_33 {b : Nat} {As : List Value} {P : Option Value → Hp → Prop} {st0 : List Value} (hd : decode code pc = .ok (.invokevirtual 33, 3)) (ht : t ≤ 40) (hA : AC g yX7_count wsX7_count rmX7_count (.ref b :: As) h P) (hl : As.length = 1) (hst : st0 = As.reverse ++ .ref b :: st) (hcat : (st.map fun v => v.category).sum ≤ 8) (hc : isC b 5 0) (hn : pc + 3 = n) (kk : ∀ (r : Option Value) (h2 : Hp), P r h2 → AW g mmL_law (ZL g L xs t) n l (r.toList ++ st) h2) : AW g mmL_law (ZL g L xs t) pc l st0 h :=
  am_callV (M := mmL_law) (Z := ZL g L xs t) (C := RX7) (T := TX7) (N := 10) (ci := 5) (own := RL) (nA := 1) hd rfl gL_law_X7_count rfl rfl (by omega) (by decide +kernel) ⟨rfl, rfl⟩ ⟨(Nat.le_of_ble_eq_true rfl), (Nat.le_of_ble_eq_true rfl)⟩ (zl_ok ht) hA hl hst hcat hc hn kk
theorem caL_law_65 {b : Nat} {As : List Value} {P : Option Value → Hp → Prop} {st0 : List Value} (hd : decode code pc = .ok (.invokevirtual 65, 3)) (ht : t ≤ 40) (hA : AC g yX7_ear wsX7_ear rmX7_ear (.ref b :: As) h P) (hl : As.length = 1) (hst : st0 = As.reverse ++ .ref b :: st) (hcat : (st.map fun v => v.category).sum ≤ 8) (hc : isC b 5 0) (hn : pc + 3 = n) (kk : ∀ (r : Option Value) (h2 : Hp), P r h2 → AW g mmL_law (ZL g L xs t) n l (r.toList ++ st) h2) : AW g mmL_law (ZL g L xs t) pc l st0 h :=
  am_callV (M := mmL_law) (Z := ZL g L xs t) (C := RX7) (T := TX7) (N := 10) (ci := 5) (own := RL) (nA := 1) hd rfl gL_law_X7_ear rfl rfl (by omega) (by decide +kernel) ⟨rfl, rfl⟩ ⟨(Nat.le_of_ble_eq_true rfl), (Nat.le_of_ble_eq_true rfl)⟩ (zl_ok ht) hA hl hst hcat hc hn kk
theorem caL_law_116 {As : List Value} {P : Option Value → Hp → Prop} {st0 : List Value} (hd : decode code pc = .ok (.invokestatic 116, 3)) (ht : t ≤ 40) (hA : AC g yL_seen wsL_seen rmL_seen As h P) (hl : As.length = 1) (hst : st0 = As.reverse ++ st) (hcat : (st.map fun v => v.category).sum ≤ 8) (hn : pc + 3 = n) (kk : ∀ (r : Option Value) (h2 : Hp), P r h2 → AW g mmL_law (ZL g L xs t) n l (r.toList ++ st) h2) : AW g mmL_law (ZL g L xs t) pc l st0 h :=
  am_callS (M := mmL_law) (Z := ZL g L xs t) (own := RL) (nA := 1) hd rfl gL_law_L_seen rfl (by decide +kernel) ⟨rfl, rfl⟩ ⟨(Nat.le_of_ble_eq_true rfl), (Nat.le_of_ble_eq_true rfl)⟩ (zl_ok ht) hA hl hst hcat hn kk
theorem caL_law_160 {As : List Value} {P : Option Value → Hp → Prop} {st0 : List Value} (hd : decode code pc = .ok (.invokestatic 160, 3)) (ht : t ≤ 40) (hA : AC g yL_acts wsL_acts rmL_acts As h P) (hl : As.length = 5) (hst : st0 = As.reverse ++ st) (hcat : (st.map fun v => v.category).sum ≤ 8) (hn : pc + 3 = n) (kk : ∀ (r : Option Value) (h2 : Hp), P r h2 → AW g mmL_law (ZL g L xs t) n l (r.toList ++ st) h2) : AW g mmL_law (ZL g L xs t) pc l st0 h :=
  am_callS (M := mmL_law) (Z := ZL g L xs t) (own := RL) (nA := 5) hd rfl gL_law_L_acts rfl (by decide +kernel) ⟨rfl, rfl⟩ ⟨(Nat.le_of_ble_eq_true rfl), (Nat.le_of_ble_eq_true rfl)⟩ (zl_ok ht) hA hl hst hcat hn kk
theorem caL_law_164 {As : List Value} {P : Option Value → Hp → Prop} {st0 : List Value} (hd : decode code pc = .ok (.invokestatic 164, 3)) (ht : t ≤ 40) (hA : AC g yL_tells wsL_tells rmL_tells As h P) (hl : As.length = 3) (hst : st0 = As.reverse ++ st) (hcat : (st.map fun v => v.category).sum ≤ 8) (hn : pc + 3 = n) (kk : ∀ (r : Option Value) (h2 : Hp), P r h2 → AW g mmL_law (ZL g L xs t) n l (r.toList ++ st) h2) : AW g mmL_law (ZL g L xs t) pc l st0 h :=
  am_callS (M := mmL_law) (Z := ZL g L xs t) (own := RL) (nA := 3) hd rfl gL_law_L_tells rfl (by decide +kernel) ⟨rfl, rfl⟩ ⟨(Nat.le_of_ble_eq_true rfl), (Nat.le_of_ble_eq_true rfl)⟩ (zl_ok ht) hA hl hst hcat hn kk
theorem caL_law_168 {As : List Value} {P : Option Value → Hp → Prop} {st0 : List Value} (hd : decode code pc = .ok (.invokestatic 168, 3)) (ht : t ≤ 40) (hA : AC g yL_refuses wsL_refuses rmL_refuses As h P) (hl : As.length = 2) (hst : st0 = As.reverse ++ st) (hcat : (st.map fun v => v.category).sum ≤ 8) (hn : pc + 3 = n) (kk : ∀ (r : Option Value) (h2 : Hp), P r h2 → AW g mmL_law (ZL g L xs t) n l (r.toList ++ st) h2) : AW g mmL_law (ZL g L xs t) pc l st0 h :=
  am_callS (M := mmL_law) (Z := ZL g L xs t) (own := RL) (nA := 2) hd rfl gL_law_L_refuses rfl (by decide +kernel) ⟨rfl, rfl⟩ ⟨(Nat.le_of_ble_eq_true rfl), (Nat.le_of_ble_eq_true rfl)⟩ (zl_ok ht) hA hl hst hcat hn kk
theorem caL_law_174 {As : List Value} {P : Option Value → Hp → Prop} {st0 : List Value} (hd : decode code pc = .ok (.invokestatic 174, 3)) (ht : t ≤ 40) (hA : AC g yL_faults wsL_faults rmL_faults As h P) (hl : As.length = 2) (hst : st0 = As.reverse ++ st) (hcat : (st.map fun v => v.category).sum ≤ 8) (hn : pc + 3 = n) (kk : ∀ (r : Option Value) (h2 : Hp), P r h2 → AW g mmL_law (ZL g L xs t) n l (r.toList ++ st) h2) : AW g mmL_law (ZL g L xs t) pc l st0 h :=
  am_callS (M := mmL_law) (Z := ZL g L xs t) (own := RL) (nA := 2) hd rfl gL_law_L_faults rfl (by decide +kernel) ⟨rfl, rfl⟩ ⟨(Nat.le_of_ble_eq_true rfl), (Nat.le_of_ble_eq_true rfl)⟩ (zl_ok ht) hA hl hst hcat hn kk
end LAW
