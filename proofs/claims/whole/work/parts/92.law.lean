/-! THE LAW'S LOOP: class and reference side by side -/
abbrev mmL_law : MI := (wsL_law, code, RL, 4, ret, room_1)
def LF (g : Gx) (L : Nat) (xs : Nat → Int32) (s : State) (args : Array Value) : Prop := args = #[Value.ref (g.2.1 61)] ∧ va_X (g.2.1 61) L xs s s.heap ∧ g.2.1 61 < s.heap.size ∧ ∀ q, AA g q → s.heap.size ≤ q
def ZL (g : Gx) (L : Nat) (xs : Nat → Int32) : Zt := (600000, 7302250, fun below args s t => LF g L xs s args → lw_Z below args s t)
theorem zl_ok {g : Gx} {L : Nat} {xs : Nat → Int32} : (ZL g L xs).1 ≤ mmL_law.2.2.2.2.2.cells ∧ (ZL g L xs).2.1 ≤ mmL_law.2.2.2.2.2.slots := ⟨Nat.le_refl 600000, Nat.le_refl 7302250⟩
section LAW
variable {g : Gx} {L : Nat} {xs : Nat → Int32} {pc n : Nat} {l : Lo} {st : List Value} {h : Hp}
theorem am_sld {j : Nat} (hd : decode code pc = .ok (.iaload, 1)) (hj : j < L) (hL : L ≤ 2560) (hn : pc + 1 = n) (kk : AW g mmL_law (ZL g L xs) n l (.int (xs j) :: st) h) : AW g mmL_law (ZL g L xs) pc l (.int (nI j) :: .ref 61 :: st) h := by
  subst hn
  intro p e s m args below meth c H locs ls F hP hS hl
  by_cases hf : LF g L xs s args
  · obtain ⟨h1, h2, h3, h4⟩ := hf
    refine va_sld (b := g.2.1 61) (i := nI j) F.1 F.2.1 h2 h3 (fun z => by have := h4 _ z; omega) hS (vp_in_nI hj (by omega)) hd ?_
    rw [nI_clamp (by omega)]
    exact kk p e s m args below meth c H locs ls F hP hS hl
  · exact fun T _ _ => ⟨_, Steps.refl _, fun q => absurd q hf⟩
theorem am_slen (hd : decode code pc = .ok (.arraylength, 1)) (hn : pc + 1 = n) (kk : AW g mmL_law (ZL g L xs) n l (.int (nI L) :: st) h) : AW g mmL_law (ZL g L xs) pc l (.ref 61 :: st) h := by
  subst hn
  intro p e s m args below meth c H locs ls F hP hS hl
  by_cases hf : LF g L xs s args
  · obtain ⟨h1, h2, h3, h4⟩ := hf
    exact va_slen (b := g.2.1 61) F.1 F.2.1 h2 h3 (fun z => by have := h4 _ z; omega) hS hd (kk p e s m args below meth c H locs ls F hP hS hl)
  · exact fun T _ _ => ⟨_, Steps.refl _, fun q => absurd q hf⟩
theorem am_end (hd : decode code pc = .ok (.ireturn, 1)) : AW g mmL_law (ZL g L xs) pc l [.int 1] h := by
  intro p e s m args below meth c H locs ls F hP hS hl
  by_cases hf : LF g L xs s args
  · obtain ⟨h1, h2, h3, h4⟩ := hf
    refine va_forget (fun q hq => h4 _ (hS.2.2 q hq)) ?_
    subst h1
    intro T hT X
    obtain ⟨t, b1, b2⟩ := lw_ret (b := g.2.1 61) (below := below) (H := H) (ls := ls) (s := s) F.1 F.2.1 F.2.2.2.1 F.2.2.2.2.1 hd T hT X
    exact ⟨t, b1, fun _ => b2⟩
  · exact fun T _ _ => ⟨_, Steps.refl _, fun q => absurd q hf⟩
/-- a number of the script, at i + k -/
theorem lw_arg {i k : Nat} {z : Int} (d0 : decode code pc = .ok (.aload_n 0, 1)) (d1 : decode code (pc + 1) = .ok (.iload_n 3, 1)) (d2 : decode code (pc + 2) = .ok (.iconst z, 1)) (d3 : decode code (pc + 3) = .ok (.iadd, 1)) (d4 : decode code (pc + 4) = .ok (.iaload, 1)) (hz : Int32.ofInt z = nI k) (l0 : lget l 0 = some (.ref 61)) (l3 : lget l 3 = some (.int (nI i))) (hk : i + k < L) (hL : L ≤ 2560) (hn : pc + 5 = n) (kk : AW g mmL_law (ZL g L xs) n l (.int (xs (i + k)) :: st) h) : AW g mmL_law (ZL g L xs) pc l st h := by
  subst hn
  refine am_aload_n (n := pc + 1) (i := 0) d0 rfl l0 rfl ?_
  refine am_iload_n (n := pc + 2) (i := 3) d1 rfl l3 rfl ?_
  refine am_iconst (n := pc + 3) (v := nI k) d2 hz rfl ?_
  refine am_iadd (n := pc + 4) d3 rfl ?_
  rw [nI_add]
  exact am_sld (n := pc + 5) d4 hk hL rfl kk
theorem caL_law_13 {b : Nat} {As : List Value} {P : Option Value → Hp → Prop} {st0 : List Value} (hd : decode code pc = .ok (.invokevirtual 13, 3)) (hA : AC g yX7_set wsX7_set rmX7_set (.ref b :: As) h P) (hl : As.length = 2) (hst : st0 = As.reverse ++ .ref b :: st) (hcat : (st.map fun v => v.category).sum ≤ 8) (hc : isC b 5 0) (hn : pc + 3 = n) (kk : ∀ (r : Option Value) (h2 : Hp), P r h2 → AW g mmL_law (ZL g L xs) n l (r.toList ++ st) h2) : AW g mmL_law (ZL g L xs) pc l st0 h :=
  am_callV (M := mmL_law) (Z := ZL g L xs) (C := RX7) (T := TX7) (N := 10) (ci := 5) (own := RL) (nA := 2) hd rfl gL_law_X7_set rfl rfl (by omega) (by decide +kernel) ⟨rfl, rfl⟩ ⟨(Nat.le_of_ble_eq_true rfl), (Nat.le_of_ble_eq_true rfl)⟩ zl_ok hA hl hst hcat hc hn kk
theorem caL_law_17 {b : Nat} {As : List Value} {P : Option Value → Hp → Prop} {st0 : List Value} (hd : decode code pc = .ok (.invokevirtual 17, 3)) (hA : AC g yX8_set wsX8_set rmX8_set (.ref b :: As) h P) (hl : As.length = 2) (hst : st0 = As.reverse ++ .ref b :: st) (hcat : (st.map fun v => v.category).sum ≤ 8) (hc : isC b 6 0) (hn : pc + 3 = n) (kk : ∀ (r : Option Value) (h2 : Hp), P r h2 → AW g mmL_law (ZL g L xs) n l (r.toList ++ st) h2) : AW g mmL_law (ZL g L xs) pc l st0 h :=
  am_callV (M := mmL_law) (Z := ZL g L xs) (C := RX8) (T := TX8) (N := 18) (ci := 6) (own := RL) (nA := 2) hd rfl gL_law_X8_set rfl rfl (by omega) (by decide +kernel) ⟨rfl, rfl⟩ ⟨(Nat.le_of_ble_eq_true rfl), (Nat.le_of_ble_eq_true rfl)⟩ zl_ok hA hl hst hcat hc hn kk
theorem caL_law_18 {b : Nat} {As : List Value} {P : Option Value → Hp → Prop} {st0 : List Value} (hd : decode code pc = .ok (.invokevirtual 18, 3)) (hA : AC g yX7_add wsX7_add rmX7_add (.ref b :: As) h P) (hl : As.length = 0) (hst : st0 = As.reverse ++ .ref b :: st) (hcat : (st.map fun v => v.category).sum ≤ 8) (hc : isC b 5 0) (hn : pc + 3 = n) (kk : ∀ (r : Option Value) (h2 : Hp), P r h2 → AW g mmL_law (ZL g L xs) n l (r.toList ++ st) h2) : AW g mmL_law (ZL g L xs) pc l st0 h :=
  am_callV (M := mmL_law) (Z := ZL g L xs) (C := RX7) (T := TX7) (N := 10) (ci := 5) (own := RL) (nA := 0) hd rfl gL_law_X7_add rfl rfl (by omega) (by decide +kernel) ⟨rfl, rfl⟩ ⟨(Nat.le_of_ble_eq_true rfl), (Nat.le_of_ble_eq_true rfl)⟩ zl_ok hA hl hst hcat hc hn kk
theorem caL_law_22 {b : Nat} {As : List Value} {P : Option Value → Hp → Prop} {st0 : List Value} (hd : decode code pc = .ok (.invokevirtual 22, 3)) (hA : AC g yX8_add wsX8_add rmX8_add (.ref b :: As) h P) (hl : As.length = 0) (hst : st0 = As.reverse ++ .ref b :: st) (hcat : (st.map fun v => v.category).sum ≤ 8) (hc : isC b 6 0) (hn : pc + 3 = n) (kk : ∀ (r : Option Value) (h2 : Hp), P r h2 → AW g mmL_law (ZL g L xs) n l (r.toList ++ st) h2) : AW g mmL_law (ZL g L xs) pc l st0 h :=
  am_callV (M := mmL_law) (Z := ZL g L xs) (C := RX8) (T := TX8) (N := 18) (ci := 6) (own := RL) (nA := 0) hd rfl gL_law_X8_add rfl rfl (by omega) (by decide +kernel) ⟨rfl, rfl⟩ ⟨(Nat.le_of_ble_eq_true rfl), (Nat.le_of_ble_eq_true rfl)⟩ zl_ok hA hl hst hcat hc hn kk
theorem caL_law_23 {b : Nat} {As : List Value} {P : Option Value → Hp → Prop} {st0 : List Value} (hd : decode code pc = .ok (.invokevirtual 23, 3)) (hA : AC g yX7_drop wsX7_drop rmX7_drop (.ref b :: As) h P) (hl : As.length = 1) (hst : st0 = As.reverse ++ .ref b :: st) (hcat : (st.map fun v => v.category).sum ≤ 8) (hc : isC b 5 0) (hn : pc + 3 = n) (kk : ∀ (r : Option Value) (h2 : Hp), P r h2 → AW g mmL_law (ZL g L xs) n l (r.toList ++ st) h2) : AW g mmL_law (ZL g L xs) pc l st0 h :=
  am_callV (M := mmL_law) (Z := ZL g L xs) (C := RX7) (T := TX7) (N := 10) (ci := 5) (own := RL) (nA := 1) hd rfl gL_law_X7_drop rfl rfl (by omega) (by decide +kernel) ⟨rfl, rfl⟩ ⟨(Nat.le_of_ble_eq_true rfl), (Nat.le_of_ble_eq_true rfl)⟩ zl_ok hA hl hst hcat hc hn kk
theorem caL_law_27 {b : Nat} {As : List Value} {P : Option Value → Hp → Prop} {st0 : List Value} (hd : decode code pc = .ok (.invokevirtual 27, 3)) (hA : AC g yX8_drop wsX8_drop rmX8_drop (.ref b :: As) h P) (hl : As.length = 1) (hst : st0 = As.reverse ++ .ref b :: st) (hcat : (st.map fun v => v.category).sum ≤ 8) (hc : isC b 6 0) (hn : pc + 3 = n) (kk : ∀ (r : Option Value) (h2 : Hp), P r h2 → AW g mmL_law (ZL g L xs) n l (r.toList ++ st) h2) : AW g mmL_law (ZL g L xs) pc l st0 h :=
  am_callV (M := mmL_law) (Z := ZL g L xs) (C := RX8) (T := TX8) (N := 18) (ci := 6) (own := RL) (nA := 1) hd rfl gL_law_X8_drop rfl rfl (by omega) (by decide +kernel) ⟨rfl, rfl⟩ ⟨(Nat.le_of_ble_eq_true rfl), (Nat.le_of_ble_eq_true rfl)⟩ zl_ok hA hl hst hcat hc hn kk
theorem caL_law_28 {b : Nat} {As : List Value} {P : Option Value → Hp → Prop} {st0 : List Value} (hd : decode code pc = .ok (.invokevirtual 28, 3)) (hA : AC g yX7_ear wsX7_ear rmX7_ear (.ref b :: As) h P) (hl : As.length = 1) (hst : st0 = As.reverse ++ .ref b :: st) (hcat : (st.map fun v => v.category).sum ≤ 8) (hc : isC b 5 0) (hn : pc + 3 = n) (kk : ∀ (r : Option Value) (h2 : Hp), P r h2 → AW g mmL_law (ZL g L xs) n l (r.toList ++ st) h2) : AW g mmL_law (ZL g L xs) pc l st0 h :=
  am_callV (M := mmL_law) (Z := ZL g L xs) (C := RX7) (T := TX7) (N := 10) (ci := 5) (own := RL) (nA := 1) hd rfl gL_law_X7_ear rfl rfl (by omega) (by decide +kernel) ⟨rfl, rfl⟩ ⟨(Nat.le_of_ble_eq_true rfl), (Nat.le_of_ble_eq_true rfl)⟩ zl_ok hA hl hst hcat hc hn kk
theorem caL_law_31 {b : Nat} {As : List Value} {P : Option Value → Hp → Prop} {st0 : List Value} (hd : decode code pc = .ok (.invokevirtual 31, 3)) (hA : AC g yX8_ear wsX8_ear rmX8_ear (.ref b :: As) h P) (hl : As.length = 1) (hst : st0 = As.reverse ++ .ref b :: st) (hcat : (st.map fun v => v.category).sum ≤ 8) (hc : isC b 6 0) (hn : pc + 3 = n) (kk : ∀ (r : Option Value) (h2 : Hp), P r h2 → AW g mmL_law (ZL g L xs) n l (r.toList ++ st) h2) : AW g mmL_law (ZL g L xs) pc l st0 h :=
  am_callV (M := mmL_law) (Z := ZL g L xs) (C := RX8) (T := TX8) (N := 18) (ci := 6) (own := RL) (nA := 1) hd rfl gL_law_X8_ear rfl rfl (by omega) (by decide +kernel) ⟨rfl, rfl⟩ ⟨(Nat.le_of_ble_eq_true rfl), (Nat.le_of_ble_eq_true rfl)⟩ zl_ok hA hl hst hcat hc hn kk
theorem caL_law_32 {b : Nat} {As : List Value} {P : Option Value → Hp → Prop} {st0 : List Value} (hd : decode code pc = .ok (.invokevirtual 32, 3)) (hA : AC g yX7_hear wsX7_hear rmX7_hear (.ref b :: As) h P) (hl : As.length = 3) (hst : st0 = As.reverse ++ .ref b :: st) (hcat : (st.map fun v => v.category).sum ≤ 8) (hc : isC b 5 0) (hn : pc + 3 = n) (kk : ∀ (r : Option Value) (h2 : Hp), P r h2 → AW g mmL_law (ZL g L xs) n l (r.toList ++ st) h2) : AW g mmL_law (ZL g L xs) pc l st0 h :=
  am_callV (M := mmL_law) (Z := ZL g L xs) (C := RX7) (T := TX7) (N := 10) (ci := 5) (own := RL) (nA := 3) hd rfl gL_law_X7_hear rfl rfl (by omega) (by decide +kernel) ⟨rfl, rfl⟩ ⟨(Nat.le_of_ble_eq_true rfl), (Nat.le_of_ble_eq_true rfl)⟩ zl_ok hA hl hst hcat hc hn kk
theorem caL_law_36 {b : Nat} {As : List Value} {P : Option Value → Hp → Prop} {st0 : List Value} (hd : decode code pc = .ok (.invokevirtual 36, 3)) (hA : AC g yX8_hear wsX8_hear rmX8_hear (.ref b :: As) h P) (hl : As.length = 3) (hst : st0 = As.reverse ++ .ref b :: st) (hcat : (st.map fun v => v.category).sum ≤ 8) (hc : isC b 6 0) (hn : pc + 3 = n) (kk : ∀ (r : Option Value) (h2 : Hp), P r h2 → AW g mmL_law (ZL g L xs) n l (r.toList ++ st) h2) : AW g mmL_law (ZL g L xs) pc l st0 h :=
  am_callV (M := mmL_law) (Z := ZL g L xs) (C := RX8) (T := TX8) (N := 18) (ci := 6) (own := RL) (nA := 3) hd rfl gL_law_X8_hear rfl rfl (by omega) (by decide +kernel) ⟨rfl, rfl⟩ ⟨(Nat.le_of_ble_eq_true rfl), (Nat.le_of_ble_eq_true rfl)⟩ zl_ok hA hl hst hcat hc hn kk
theorem caL_law_37 {b : Nat} {As : List Value} {P : Option Value → Hp → Prop} {st0 : List Value} (hd : decode code pc = .ok (.invokevirtual 37, 3)) (hA : AC g yX7_second wsX7_second rmX7_second (.ref b :: As) h P) (hl : As.length = 3) (hst : st0 = As.reverse ++ .ref b :: st) (hcat : (st.map fun v => v.category).sum ≤ 8) (hc : isC b 5 0) (hn : pc + 3 = n) (kk : ∀ (r : Option Value) (h2 : Hp), P r h2 → AW g mmL_law (ZL g L xs) n l (r.toList ++ st) h2) : AW g mmL_law (ZL g L xs) pc l st0 h :=
  am_callV (M := mmL_law) (Z := ZL g L xs) (C := RX7) (T := TX7) (N := 10) (ci := 5) (own := RL) (nA := 3) hd rfl gL_law_X7_second rfl rfl (by omega) (by decide +kernel) ⟨rfl, rfl⟩ ⟨(Nat.le_of_ble_eq_true rfl), (Nat.le_of_ble_eq_true rfl)⟩ zl_ok hA hl hst hcat hc hn kk
theorem caL_law_40 {b : Nat} {As : List Value} {P : Option Value → Hp → Prop} {st0 : List Value} (hd : decode code pc = .ok (.invokevirtual 40, 3)) (hA : AC g yX8_second wsX8_second rmX8_second (.ref b :: As) h P) (hl : As.length = 3) (hst : st0 = As.reverse ++ .ref b :: st) (hcat : (st.map fun v => v.category).sum ≤ 8) (hc : isC b 6 0) (hn : pc + 3 = n) (kk : ∀ (r : Option Value) (h2 : Hp), P r h2 → AW g mmL_law (ZL g L xs) n l (r.toList ++ st) h2) : AW g mmL_law (ZL g L xs) pc l st0 h :=
  am_callV (M := mmL_law) (Z := ZL g L xs) (C := RX8) (T := TX8) (N := 18) (ci := 6) (own := RL) (nA := 3) hd rfl gL_law_X8_second rfl rfl (by omega) (by decide +kernel) ⟨rfl, rfl⟩ ⟨(Nat.le_of_ble_eq_true rfl), (Nat.le_of_ble_eq_true rfl)⟩ zl_ok hA hl hst hcat hc hn kk
theorem caL_law_41 {b : Nat} {As : List Value} {P : Option Value → Hp → Prop} {st0 : List Value} (hd : decode code pc = .ok (.invokevirtual 41, 3)) (hA : AC g yX7_habits wsX7_habits rmX7_habits (.ref b :: As) h P) (hl : As.length = 2) (hst : st0 = As.reverse ++ .ref b :: st) (hcat : (st.map fun v => v.category).sum ≤ 8) (hc : isC b 5 0) (hn : pc + 3 = n) (kk : ∀ (r : Option Value) (h2 : Hp), P r h2 → AW g mmL_law (ZL g L xs) n l (r.toList ++ st) h2) : AW g mmL_law (ZL g L xs) pc l st0 h :=
  am_callV (M := mmL_law) (Z := ZL g L xs) (C := RX7) (T := TX7) (N := 10) (ci := 5) (own := RL) (nA := 2) hd rfl gL_law_X7_habits rfl rfl (by omega) (by decide +kernel) ⟨rfl, rfl⟩ ⟨(Nat.le_of_ble_eq_true rfl), (Nat.le_of_ble_eq_true rfl)⟩ zl_ok hA hl hst hcat hc hn kk
theorem caL_law_44 {b : Nat} {As : List Value} {P : Option Value → Hp → Prop} {st0 : List Value} (hd : decode code pc = .ok (.invokevirtual 44, 3)) (hA : AC g yX8_habits wsX8_habits rmX8_habits (.ref b :: As) h P) (hl : As.length = 2) (hst : st0 = As.reverse ++ .ref b :: st) (hcat : (st.map fun v => v.category).sum ≤ 8) (hc : isC b 6 0) (hn : pc + 3 = n) (kk : ∀ (r : Option Value) (h2 : Hp), P r h2 → AW g mmL_law (ZL g L xs) n l (r.toList ++ st) h2) : AW g mmL_law (ZL g L xs) pc l st0 h :=
  am_callV (M := mmL_law) (Z := ZL g L xs) (C := RX8) (T := TX8) (N := 18) (ci := 6) (own := RL) (nA := 2) hd rfl gL_law_X8_habits rfl rfl (by omega) (by decide +kernel) ⟨rfl, rfl⟩ ⟨(Nat.le_of_ble_eq_true rfl), (Nat.le_of_ble_eq_true rfl)⟩ zl_ok hA hl hst hcat hc hn kk
theorem caL_law_45 {b : Nat} {As : List Value} {P : Option Value → Hp → Prop} {st0 : List Value} (hd : decode code pc = .ok (.invokevirtual 45, 3)) (hA : AC g yX7_merge wsX7_merge rmX7_merge (.ref b :: As) h P) (hl : As.length = 3) (hst : st0 = As.reverse ++ .ref b :: st) (hcat : (st.map fun v => v.category).sum ≤ 8) (hc : isC b 5 0) (hn : pc + 3 = n) (kk : ∀ (r : Option Value) (h2 : Hp), P r h2 → AW g mmL_law (ZL g L xs) n l (r.toList ++ st) h2) : AW g mmL_law (ZL g L xs) pc l st0 h :=
  am_callV (M := mmL_law) (Z := ZL g L xs) (C := RX7) (T := TX7) (N := 10) (ci := 5) (own := RL) (nA := 3) hd rfl gL_law_X7_merge rfl rfl (by omega) (by decide +kernel) ⟨rfl, rfl⟩ ⟨(Nat.le_of_ble_eq_true rfl), (Nat.le_of_ble_eq_true rfl)⟩ zl_ok hA hl hst hcat hc hn kk
theorem caL_law_48 {b : Nat} {As : List Value} {P : Option Value → Hp → Prop} {st0 : List Value} (hd : decode code pc = .ok (.invokevirtual 48, 3)) (hA : AC g yX8_merge wsX8_merge rmX8_merge (.ref b :: As) h P) (hl : As.length = 3) (hst : st0 = As.reverse ++ .ref b :: st) (hcat : (st.map fun v => v.category).sum ≤ 8) (hc : isC b 6 0) (hn : pc + 3 = n) (kk : ∀ (r : Option Value) (h2 : Hp), P r h2 → AW g mmL_law (ZL g L xs) n l (r.toList ++ st) h2) : AW g mmL_law (ZL g L xs) pc l st0 h :=
  am_callV (M := mmL_law) (Z := ZL g L xs) (C := RX8) (T := TX8) (N := 18) (ci := 6) (own := RL) (nA := 3) hd rfl gL_law_X8_merge rfl rfl (by omega) (by decide +kernel) ⟨rfl, rfl⟩ ⟨(Nat.le_of_ble_eq_true rfl), (Nat.le_of_ble_eq_true rfl)⟩ zl_ok hA hl hst hcat hc hn kk
theorem caL_law_49 {b : Nat} {As : List Value} {P : Option Value → Hp → Prop} {st0 : List Value} (hd : decode code pc = .ok (.invokevirtual 49, 3)) (hA : AC g yX7_split wsX7_split rmX7_split (.ref b :: As) h P) (hl : As.length = 1) (hst : st0 = As.reverse ++ .ref b :: st) (hcat : (st.map fun v => v.category).sum ≤ 8) (hc : isC b 5 0) (hn : pc + 3 = n) (kk : ∀ (r : Option Value) (h2 : Hp), P r h2 → AW g mmL_law (ZL g L xs) n l (r.toList ++ st) h2) : AW g mmL_law (ZL g L xs) pc l st0 h :=
  am_callV (M := mmL_law) (Z := ZL g L xs) (C := RX7) (T := TX7) (N := 10) (ci := 5) (own := RL) (nA := 1) hd rfl gL_law_X7_split rfl rfl (by omega) (by decide +kernel) ⟨rfl, rfl⟩ ⟨(Nat.le_of_ble_eq_true rfl), (Nat.le_of_ble_eq_true rfl)⟩ zl_ok hA hl hst hcat hc hn kk
theorem caL_law_52 {b : Nat} {As : List Value} {P : Option Value → Hp → Prop} {st0 : List Value} (hd : decode code pc = .ok (.invokevirtual 52, 3)) (hA : AC g yX8_split wsX8_split rmX8_split (.ref b :: As) h P) (hl : As.length = 1) (hst : st0 = As.reverse ++ .ref b :: st) (hcat : (st.map fun v => v.category).sum ≤ 8) (hc : isC b 6 0) (hn : pc + 3 = n) (kk : ∀ (r : Option Value) (h2 : Hp), P r h2 → AW g mmL_law (ZL g L xs) n l (r.toList ++ st) h2) : AW g mmL_law (ZL g L xs) pc l st0 h :=
  am_callV (M := mmL_law) (Z := ZL g L xs) (C := RX8) (T := TX8) (N := 18) (ci := 6) (own := RL) (nA := 1) hd rfl gL_law_X8_split rfl rfl (by omega) (by decide +kernel) ⟨rfl, rfl⟩ ⟨(Nat.le_of_ble_eq_true rfl), (Nat.le_of_ble_eq_true rfl)⟩ zl_ok hA hl hst hcat hc hn kk
theorem caL_law_53 {b : Nat} {As : List Value} {P : Option Value → Hp → Prop} {st0 : List Value} (hd : decode code pc = .ok (.invokevirtual 53, 3)) (hA : AC g yX7_name wsX7_name rmX7_name (.ref b :: As) h P) (hl : As.length = 2) (hst : st0 = As.reverse ++ .ref b :: st) (hcat : (st.map fun v => v.category).sum ≤ 8) (hc : isC b 5 0) (hn : pc + 3 = n) (kk : ∀ (r : Option Value) (h2 : Hp), P r h2 → AW g mmL_law (ZL g L xs) n l (r.toList ++ st) h2) : AW g mmL_law (ZL g L xs) pc l st0 h :=
  am_callV (M := mmL_law) (Z := ZL g L xs) (C := RX7) (T := TX7) (N := 10) (ci := 5) (own := RL) (nA := 2) hd rfl gL_law_X7_name rfl rfl (by omega) (by decide +kernel) ⟨rfl, rfl⟩ ⟨(Nat.le_of_ble_eq_true rfl), (Nat.le_of_ble_eq_true rfl)⟩ zl_ok hA hl hst hcat hc hn kk
theorem caL_law_56 {b : Nat} {As : List Value} {P : Option Value → Hp → Prop} {st0 : List Value} (hd : decode code pc = .ok (.invokevirtual 56, 3)) (hA : AC g yX8_name wsX8_name rmX8_name (.ref b :: As) h P) (hl : As.length = 2) (hst : st0 = As.reverse ++ .ref b :: st) (hcat : (st.map fun v => v.category).sum ≤ 8) (hc : isC b 6 0) (hn : pc + 3 = n) (kk : ∀ (r : Option Value) (h2 : Hp), P r h2 → AW g mmL_law (ZL g L xs) n l (r.toList ++ st) h2) : AW g mmL_law (ZL g L xs) pc l st0 h :=
  am_callV (M := mmL_law) (Z := ZL g L xs) (C := RX8) (T := TX8) (N := 18) (ci := 6) (own := RL) (nA := 2) hd rfl gL_law_X8_name rfl rfl (by omega) (by decide +kernel) ⟨rfl, rfl⟩ ⟨(Nat.le_of_ble_eq_true rfl), (Nat.le_of_ble_eq_true rfl)⟩ zl_ok hA hl hst hcat hc hn kk
theorem caL_law_57 {b : Nat} {As : List Value} {P : Option Value → Hp → Prop} {st0 : List Value} (hd : decode code pc = .ok (.invokevirtual 57, 3)) (hA : AC g yX7_of wsX7_of rmX7_of (.ref b :: As) h P) (hl : As.length = 3) (hst : st0 = As.reverse ++ .ref b :: st) (hcat : (st.map fun v => v.category).sum ≤ 8) (hc : isC b 5 0) (hn : pc + 3 = n) (kk : ∀ (r : Option Value) (h2 : Hp), P r h2 → AW g mmL_law (ZL g L xs) n l (r.toList ++ st) h2) : AW g mmL_law (ZL g L xs) pc l st0 h :=
  am_callV (M := mmL_law) (Z := ZL g L xs) (C := RX7) (T := TX7) (N := 10) (ci := 5) (own := RL) (nA := 3) hd rfl gL_law_X7_of rfl rfl (by omega) (by decide +kernel) ⟨rfl, rfl⟩ ⟨(Nat.le_of_ble_eq_true rfl), (Nat.le_of_ble_eq_true rfl)⟩ zl_ok hA hl hst hcat hc hn kk
theorem caL_law_60 {b : Nat} {As : List Value} {P : Option Value → Hp → Prop} {st0 : List Value} (hd : decode code pc = .ok (.invokevirtual 60, 3)) (hA : AC g yX8_of wsX8_of rmX8_of (.ref b :: As) h P) (hl : As.length = 3) (hst : st0 = As.reverse ++ .ref b :: st) (hcat : (st.map fun v => v.category).sum ≤ 8) (hc : isC b 6 0) (hn : pc + 3 = n) (kk : ∀ (r : Option Value) (h2 : Hp), P r h2 → AW g mmL_law (ZL g L xs) n l (r.toList ++ st) h2) : AW g mmL_law (ZL g L xs) pc l st0 h :=
  am_callV (M := mmL_law) (Z := ZL g L xs) (C := RX8) (T := TX8) (N := 18) (ci := 6) (own := RL) (nA := 3) hd rfl gL_law_X8_of rfl rfl (by omega) (by decide +kernel) ⟨rfl, rfl⟩ ⟨(Nat.le_of_ble_eq_true rfl), (Nat.le_of_ble_eq_true rfl)⟩ zl_ok hA hl hst hcat hc hn kk
theorem caL_law_61 {b : Nat} {As : List Value} {P : Option Value → Hp → Prop} {st0 : List Value} (hd : decode code pc = .ok (.invokevirtual 61, 3)) (hA : AC g yX7_ofEar wsX7_ofEar rmX7_ofEar (.ref b :: As) h P) (hl : As.length = 2) (hst : st0 = As.reverse ++ .ref b :: st) (hcat : (st.map fun v => v.category).sum ≤ 8) (hc : isC b 5 0) (hn : pc + 3 = n) (kk : ∀ (r : Option Value) (h2 : Hp), P r h2 → AW g mmL_law (ZL g L xs) n l (r.toList ++ st) h2) : AW g mmL_law (ZL g L xs) pc l st0 h :=
  am_callV (M := mmL_law) (Z := ZL g L xs) (C := RX7) (T := TX7) (N := 10) (ci := 5) (own := RL) (nA := 2) hd rfl gL_law_X7_ofEar rfl rfl (by omega) (by decide +kernel) ⟨rfl, rfl⟩ ⟨(Nat.le_of_ble_eq_true rfl), (Nat.le_of_ble_eq_true rfl)⟩ zl_ok hA hl hst hcat hc hn kk
theorem caL_law_64 {b : Nat} {As : List Value} {P : Option Value → Hp → Prop} {st0 : List Value} (hd : decode code pc = .ok (.invokevirtual 64, 3)) (hA : AC g yX8_ofEar wsX8_ofEar rmX8_ofEar (.ref b :: As) h P) (hl : As.length = 2) (hst : st0 = As.reverse ++ .ref b :: st) (hcat : (st.map fun v => v.category).sum ≤ 8) (hc : isC b 6 0) (hn : pc + 3 = n) (kk : ∀ (r : Option Value) (h2 : Hp), P r h2 → AW g mmL_law (ZL g L xs) n l (r.toList ++ st) h2) : AW g mmL_law (ZL g L xs) pc l st0 h :=
  am_callV (M := mmL_law) (Z := ZL g L xs) (C := RX8) (T := TX8) (N := 18) (ci := 6) (own := RL) (nA := 2) hd rfl gL_law_X8_ofEar rfl rfl (by omega) (by decide +kernel) ⟨rfl, rfl⟩ ⟨(Nat.le_of_ble_eq_true rfl), (Nat.le_of_ble_eq_true rfl)⟩ zl_ok hA hl hst hcat hc hn kk
theorem caL_law_65 {b : Nat} {As : List Value} {P : Option Value → Hp → Prop} {st0 : List Value} (hd : decode code pc = .ok (.invokevirtual 65, 3)) (hA : AC g yX7_code wsX7_code rmX7_code (.ref b :: As) h P) (hl : As.length = 4) (hst : st0 = As.reverse ++ .ref b :: st) (hcat : (st.map fun v => v.category).sum ≤ 8) (hc : isC b 5 0) (hn : pc + 3 = n) (kk : ∀ (r : Option Value) (h2 : Hp), P r h2 → AW g mmL_law (ZL g L xs) n l (r.toList ++ st) h2) : AW g mmL_law (ZL g L xs) pc l st0 h :=
  am_callV (M := mmL_law) (Z := ZL g L xs) (C := RX7) (T := TX7) (N := 10) (ci := 5) (own := RL) (nA := 4) hd rfl gL_law_X7_code rfl rfl (by omega) (by decide +kernel) ⟨rfl, rfl⟩ ⟨(Nat.le_of_ble_eq_true rfl), (Nat.le_of_ble_eq_true rfl)⟩ zl_ok hA hl hst hcat hc hn kk
theorem caL_law_69 {b : Nat} {As : List Value} {P : Option Value → Hp → Prop} {st0 : List Value} (hd : decode code pc = .ok (.invokevirtual 69, 3)) (hA : AC g yX8_code wsX8_code rmX8_code (.ref b :: As) h P) (hl : As.length = 4) (hst : st0 = As.reverse ++ .ref b :: st) (hcat : (st.map fun v => v.category).sum ≤ 8) (hc : isC b 6 0) (hn : pc + 3 = n) (kk : ∀ (r : Option Value) (h2 : Hp), P r h2 → AW g mmL_law (ZL g L xs) n l (r.toList ++ st) h2) : AW g mmL_law (ZL g L xs) pc l st0 h :=
  am_callV (M := mmL_law) (Z := ZL g L xs) (C := RX8) (T := TX8) (N := 18) (ci := 6) (own := RL) (nA := 4) hd rfl gL_law_X8_code rfl rfl (by omega) (by decide +kernel) ⟨rfl, rfl⟩ ⟨(Nat.le_of_ble_eq_true rfl), (Nat.le_of_ble_eq_true rfl)⟩ zl_ok hA hl hst hcat hc hn kk
theorem caL_law_70 {b : Nat} {As : List Value} {P : Option Value → Hp → Prop} {st0 : List Value} (hd : decode code pc = .ok (.invokevirtual 70, 3)) (hA : AC g yX7_drawer wsX7_drawer rmX7_drawer (.ref b :: As) h P) (hl : As.length = 3) (hst : st0 = As.reverse ++ .ref b :: st) (hcat : (st.map fun v => v.category).sum ≤ 8) (hc : isC b 5 0) (hn : pc + 3 = n) (kk : ∀ (r : Option Value) (h2 : Hp), P r h2 → AW g mmL_law (ZL g L xs) n l (r.toList ++ st) h2) : AW g mmL_law (ZL g L xs) pc l st0 h :=
  am_callV (M := mmL_law) (Z := ZL g L xs) (C := RX7) (T := TX7) (N := 10) (ci := 5) (own := RL) (nA := 3) hd rfl gL_law_X7_drawer rfl rfl (by omega) (by decide +kernel) ⟨rfl, rfl⟩ ⟨(Nat.le_of_ble_eq_true rfl), (Nat.le_of_ble_eq_true rfl)⟩ zl_ok hA hl hst hcat hc hn kk
theorem caL_law_73 {b : Nat} {As : List Value} {P : Option Value → Hp → Prop} {st0 : List Value} (hd : decode code pc = .ok (.invokevirtual 73, 3)) (hA : AC g yX8_drawer wsX8_drawer rmX8_drawer (.ref b :: As) h P) (hl : As.length = 3) (hst : st0 = As.reverse ++ .ref b :: st) (hcat : (st.map fun v => v.category).sum ≤ 8) (hc : isC b 6 0) (hn : pc + 3 = n) (kk : ∀ (r : Option Value) (h2 : Hp), P r h2 → AW g mmL_law (ZL g L xs) n l (r.toList ++ st) h2) : AW g mmL_law (ZL g L xs) pc l st0 h :=
  am_callV (M := mmL_law) (Z := ZL g L xs) (C := RX8) (T := TX8) (N := 18) (ci := 6) (own := RL) (nA := 3) hd rfl gL_law_X8_drawer rfl rfl (by omega) (by decide +kernel) ⟨rfl, rfl⟩ ⟨(Nat.le_of_ble_eq_true rfl), (Nat.le_of_ble_eq_true rfl)⟩ zl_ok hA hl hst hcat hc hn kk
theorem caL_law_74 {b : Nat} {As : List Value} {P : Option Value → Hp → Prop} {st0 : List Value} (hd : decode code pc = .ok (.invokevirtual 74, 3)) (hA : AC g yX7_count wsX7_count rmX7_count (.ref b :: As) h P) (hl : As.length = 1) (hst : st0 = As.reverse ++ .ref b :: st) (hcat : (st.map fun v => v.category).sum ≤ 8) (hc : isC b 5 0) (hn : pc + 3 = n) (kk : ∀ (r : Option Value) (h2 : Hp), P r h2 → AW g mmL_law (ZL g L xs) n l (r.toList ++ st) h2) : AW g mmL_law (ZL g L xs) pc l st0 h :=
  am_callV (M := mmL_law) (Z := ZL g L xs) (C := RX7) (T := TX7) (N := 10) (ci := 5) (own := RL) (nA := 1) hd rfl gL_law_X7_count rfl rfl (by omega) (by decide +kernel) ⟨rfl, rfl⟩ ⟨(Nat.le_of_ble_eq_true rfl), (Nat.le_of_ble_eq_true rfl)⟩ zl_ok hA hl hst hcat hc hn kk
theorem caL_law_77 {b : Nat} {As : List Value} {P : Option Value → Hp → Prop} {st0 : List Value} (hd : decode code pc = .ok (.invokevirtual 77, 3)) (hA : AC g yX8_count wsX8_count rmX8_count (.ref b :: As) h P) (hl : As.length = 1) (hst : st0 = As.reverse ++ .ref b :: st) (hcat : (st.map fun v => v.category).sum ≤ 8) (hc : isC b 6 0) (hn : pc + 3 = n) (kk : ∀ (r : Option Value) (h2 : Hp), P r h2 → AW g mmL_law (ZL g L xs) n l (r.toList ++ st) h2) : AW g mmL_law (ZL g L xs) pc l st0 h :=
  am_callV (M := mmL_law) (Z := ZL g L xs) (C := RX8) (T := TX8) (N := 18) (ci := 6) (own := RL) (nA := 1) hd rfl gL_law_X8_count rfl rfl (by omega) (by decide +kernel) ⟨rfl, rfl⟩ ⟨(Nat.le_of_ble_eq_true rfl), (Nat.le_of_ble_eq_true rfl)⟩ zl_ok hA hl hst hcat hc hn kk
theorem caL_law_78 {b : Nat} {As : List Value} {P : Option Value → Hp → Prop} {st0 : List Value} (hd : decode code pc = .ok (.invokevirtual 78, 3)) (hA : AC g yX7_alike wsX7_alike rmX7_alike (.ref b :: As) h P) (hl : As.length = 3) (hst : st0 = As.reverse ++ .ref b :: st) (hcat : (st.map fun v => v.category).sum ≤ 8) (hc : isC b 5 0) (hn : pc + 3 = n) (kk : ∀ (r : Option Value) (h2 : Hp), P r h2 → AW g mmL_law (ZL g L xs) n l (r.toList ++ st) h2) : AW g mmL_law (ZL g L xs) pc l st0 h :=
  am_callV (M := mmL_law) (Z := ZL g L xs) (C := RX7) (T := TX7) (N := 10) (ci := 5) (own := RL) (nA := 3) hd rfl gL_law_X7_alike rfl rfl (by omega) (by decide +kernel) ⟨rfl, rfl⟩ ⟨(Nat.le_of_ble_eq_true rfl), (Nat.le_of_ble_eq_true rfl)⟩ zl_ok hA hl hst hcat hc hn kk
theorem caL_law_81 {b : Nat} {As : List Value} {P : Option Value → Hp → Prop} {st0 : List Value} (hd : decode code pc = .ok (.invokevirtual 81, 3)) (hA : AC g yX8_alike wsX8_alike rmX8_alike (.ref b :: As) h P) (hl : As.length = 3) (hst : st0 = As.reverse ++ .ref b :: st) (hcat : (st.map fun v => v.category).sum ≤ 8) (hc : isC b 6 0) (hn : pc + 3 = n) (kk : ∀ (r : Option Value) (h2 : Hp), P r h2 → AW g mmL_law (ZL g L xs) n l (r.toList ++ st) h2) : AW g mmL_law (ZL g L xs) pc l st0 h :=
  am_callV (M := mmL_law) (Z := ZL g L xs) (C := RX8) (T := TX8) (N := 18) (ci := 6) (own := RL) (nA := 3) hd rfl gL_law_X8_alike rfl rfl (by omega) (by decide +kernel) ⟨rfl, rfl⟩ ⟨(Nat.le_of_ble_eq_true rfl), (Nat.le_of_ble_eq_true rfl)⟩ zl_ok hA hl hst hcat hc hn kk
theorem caL_law_82 {b : Nat} {As : List Value} {P : Option Value → Hp → Prop} {st0 : List Value} (hd : decode code pc = .ok (.invokevirtual 82, 3)) (hA : AC g yX7_distance wsX7_distance rmX7_distance (.ref b :: As) h P) (hl : As.length = 2) (hst : st0 = As.reverse ++ .ref b :: st) (hcat : (st.map fun v => v.category).sum ≤ 8) (hc : isC b 5 0) (hn : pc + 3 = n) (kk : ∀ (r : Option Value) (h2 : Hp), P r h2 → AW g mmL_law (ZL g L xs) n l (r.toList ++ st) h2) : AW g mmL_law (ZL g L xs) pc l st0 h :=
  am_callV (M := mmL_law) (Z := ZL g L xs) (C := RX7) (T := TX7) (N := 10) (ci := 5) (own := RL) (nA := 2) hd rfl gL_law_X7_distance rfl rfl (by omega) (by decide +kernel) ⟨rfl, rfl⟩ ⟨(Nat.le_of_ble_eq_true rfl), (Nat.le_of_ble_eq_true rfl)⟩ zl_ok hA hl hst hcat hc hn kk
theorem caL_law_85 {b : Nat} {As : List Value} {P : Option Value → Hp → Prop} {st0 : List Value} (hd : decode code pc = .ok (.invokevirtual 85, 3)) (hA : AC g yX8_distance wsX8_distance rmX8_distance (.ref b :: As) h P) (hl : As.length = 2) (hst : st0 = As.reverse ++ .ref b :: st) (hcat : (st.map fun v => v.category).sum ≤ 8) (hc : isC b 6 0) (hn : pc + 3 = n) (kk : ∀ (r : Option Value) (h2 : Hp), P r h2 → AW g mmL_law (ZL g L xs) n l (r.toList ++ st) h2) : AW g mmL_law (ZL g L xs) pc l st0 h :=
  am_callV (M := mmL_law) (Z := ZL g L xs) (C := RX8) (T := TX8) (N := 18) (ci := 6) (own := RL) (nA := 2) hd rfl gL_law_X8_distance rfl rfl (by omega) (by decide +kernel) ⟨rfl, rfl⟩ ⟨(Nat.le_of_ble_eq_true rfl), (Nat.le_of_ble_eq_true rfl)⟩ zl_ok hA hl hst hcat hc hn kk
theorem caL_law_86 {b : Nat} {As : List Value} {P : Option Value → Hp → Prop} {st0 : List Value} (hd : decode code pc = .ok (.invokevirtual 86, 3)) (hA : AC g yX7_find wsX7_find rmX7_find (.ref b :: As) h P) (hl : As.length = 3) (hst : st0 = As.reverse ++ .ref b :: st) (hcat : (st.map fun v => v.category).sum ≤ 8) (hc : isC b 5 0) (hn : pc + 3 = n) (kk : ∀ (r : Option Value) (h2 : Hp), P r h2 → AW g mmL_law (ZL g L xs) n l (r.toList ++ st) h2) : AW g mmL_law (ZL g L xs) pc l st0 h :=
  am_callV (M := mmL_law) (Z := ZL g L xs) (C := RX7) (T := TX7) (N := 10) (ci := 5) (own := RL) (nA := 3) hd rfl gL_law_X7_find rfl rfl (by omega) (by decide +kernel) ⟨rfl, rfl⟩ ⟨(Nat.le_of_ble_eq_true rfl), (Nat.le_of_ble_eq_true rfl)⟩ zl_ok hA hl hst hcat hc hn kk
theorem caL_law_89 {b : Nat} {As : List Value} {P : Option Value → Hp → Prop} {st0 : List Value} (hd : decode code pc = .ok (.invokevirtual 89, 3)) (hA : AC g yX8_find wsX8_find rmX8_find (.ref b :: As) h P) (hl : As.length = 3) (hst : st0 = As.reverse ++ .ref b :: st) (hcat : (st.map fun v => v.category).sum ≤ 8) (hc : isC b 6 0) (hn : pc + 3 = n) (kk : ∀ (r : Option Value) (h2 : Hp), P r h2 → AW g mmL_law (ZL g L xs) n l (r.toList ++ st) h2) : AW g mmL_law (ZL g L xs) pc l st0 h :=
  am_callV (M := mmL_law) (Z := ZL g L xs) (C := RX8) (T := TX8) (N := 18) (ci := 6) (own := RL) (nA := 3) hd rfl gL_law_X8_find rfl rfl (by omega) (by decide +kernel) ⟨rfl, rfl⟩ ⟨(Nat.le_of_ble_eq_true rfl), (Nat.le_of_ble_eq_true rfl)⟩ zl_ok hA hl hst hcat hc hn kk
theorem caL_law_90 {b : Nat} {As : List Value} {P : Option Value → Hp → Prop} {st0 : List Value} (hd : decode code pc = .ok (.invokevirtual 90, 3)) (hA : AC g yX7_ifMerged wsX7_ifMerged rmX7_ifMerged (.ref b :: As) h P) (hl : As.length = 4) (hst : st0 = As.reverse ++ .ref b :: st) (hcat : (st.map fun v => v.category).sum ≤ 8) (hc : isC b 5 0) (hn : pc + 3 = n) (kk : ∀ (r : Option Value) (h2 : Hp), P r h2 → AW g mmL_law (ZL g L xs) n l (r.toList ++ st) h2) : AW g mmL_law (ZL g L xs) pc l st0 h :=
  am_callV (M := mmL_law) (Z := ZL g L xs) (C := RX7) (T := TX7) (N := 10) (ci := 5) (own := RL) (nA := 4) hd rfl gL_law_X7_ifMerged rfl rfl (by omega) (by decide +kernel) ⟨rfl, rfl⟩ ⟨(Nat.le_of_ble_eq_true rfl), (Nat.le_of_ble_eq_true rfl)⟩ zl_ok hA hl hst hcat hc hn kk
theorem caL_law_93 {b : Nat} {As : List Value} {P : Option Value → Hp → Prop} {st0 : List Value} (hd : decode code pc = .ok (.invokevirtual 93, 3)) (hA : AC g yX8_ifMerged wsX8_ifMerged rmX8_ifMerged (.ref b :: As) h P) (hl : As.length = 4) (hst : st0 = As.reverse ++ .ref b :: st) (hcat : (st.map fun v => v.category).sum ≤ 8) (hc : isC b 6 0) (hn : pc + 3 = n) (kk : ∀ (r : Option Value) (h2 : Hp), P r h2 → AW g mmL_law (ZL g L xs) n l (r.toList ++ st) h2) : AW g mmL_law (ZL g L xs) pc l st0 h :=
  am_callV (M := mmL_law) (Z := ZL g L xs) (C := RX8) (T := TX8) (N := 18) (ci := 6) (own := RL) (nA := 4) hd rfl gL_law_X8_ifMerged rfl rfl (by omega) (by decide +kernel) ⟨rfl, rfl⟩ ⟨(Nat.le_of_ble_eq_true rfl), (Nat.le_of_ble_eq_true rfl)⟩ zl_ok hA hl hst hcat hc hn kk
theorem caL_law_94 {b : Nat} {As : List Value} {P : Option Value → Hp → Prop} {st0 : List Value} (hd : decode code pc = .ok (.invokevirtual 94, 3)) (hA : AC g yX7_bestMerger wsX7_bestMerger rmX7_bestMerger (.ref b :: As) h P) (hl : As.length = 2) (hst : st0 = As.reverse ++ .ref b :: st) (hcat : (st.map fun v => v.category).sum ≤ 8) (hc : isC b 5 0) (hn : pc + 3 = n) (kk : ∀ (r : Option Value) (h2 : Hp), P r h2 → AW g mmL_law (ZL g L xs) n l (r.toList ++ st) h2) : AW g mmL_law (ZL g L xs) pc l st0 h :=
  am_callV (M := mmL_law) (Z := ZL g L xs) (C := RX7) (T := TX7) (N := 10) (ci := 5) (own := RL) (nA := 2) hd rfl gL_law_X7_bestMerger rfl rfl (by omega) (by decide +kernel) ⟨rfl, rfl⟩ ⟨(Nat.le_of_ble_eq_true rfl), (Nat.le_of_ble_eq_true rfl)⟩ zl_ok hA hl hst hcat hc hn kk
theorem caL_law_97 {b : Nat} {As : List Value} {P : Option Value → Hp → Prop} {st0 : List Value} (hd : decode code pc = .ok (.invokevirtual 97, 3)) (hA : AC g yX8_bestMerger wsX8_bestMerger rmX8_bestMerger (.ref b :: As) h P) (hl : As.length = 2) (hst : st0 = As.reverse ++ .ref b :: st) (hcat : (st.map fun v => v.category).sum ≤ 8) (hc : isC b 6 0) (hn : pc + 3 = n) (kk : ∀ (r : Option Value) (h2 : Hp), P r h2 → AW g mmL_law (ZL g L xs) n l (r.toList ++ st) h2) : AW g mmL_law (ZL g L xs) pc l st0 h :=
  am_callV (M := mmL_law) (Z := ZL g L xs) (C := RX8) (T := TX8) (N := 18) (ci := 6) (own := RL) (nA := 2) hd rfl gL_law_X8_bestMerger rfl rfl (by omega) (by decide +kernel) ⟨rfl, rfl⟩ ⟨(Nat.le_of_ble_eq_true rfl), (Nat.le_of_ble_eq_true rfl)⟩ zl_ok hA hl hst hcat hc hn kk
theorem caL_law_98 {b : Nat} {As : List Value} {P : Option Value → Hp → Prop} {st0 : List Value} (hd : decode code pc = .ok (.invokevirtual 98, 3)) (hA : AC g yX7_quarrel wsX7_quarrel rmX7_quarrel (.ref b :: As) h P) (hl : As.length = 2) (hst : st0 = As.reverse ++ .ref b :: st) (hcat : (st.map fun v => v.category).sum ≤ 8) (hc : isC b 5 0) (hn : pc + 3 = n) (kk : ∀ (r : Option Value) (h2 : Hp), P r h2 → AW g mmL_law (ZL g L xs) n l (r.toList ++ st) h2) : AW g mmL_law (ZL g L xs) pc l st0 h :=
  am_callV (M := mmL_law) (Z := ZL g L xs) (C := RX7) (T := TX7) (N := 10) (ci := 5) (own := RL) (nA := 2) hd rfl gL_law_X7_quarrel rfl rfl (by omega) (by decide +kernel) ⟨rfl, rfl⟩ ⟨(Nat.le_of_ble_eq_true rfl), (Nat.le_of_ble_eq_true rfl)⟩ zl_ok hA hl hst hcat hc hn kk
theorem caL_law_101 {b : Nat} {As : List Value} {P : Option Value → Hp → Prop} {st0 : List Value} (hd : decode code pc = .ok (.invokevirtual 101, 3)) (hA : AC g yX8_quarrel wsX8_quarrel rmX8_quarrel (.ref b :: As) h P) (hl : As.length = 2) (hst : st0 = As.reverse ++ .ref b :: st) (hcat : (st.map fun v => v.category).sum ≤ 8) (hc : isC b 6 0) (hn : pc + 3 = n) (kk : ∀ (r : Option Value) (h2 : Hp), P r h2 → AW g mmL_law (ZL g L xs) n l (r.toList ++ st) h2) : AW g mmL_law (ZL g L xs) pc l st0 h :=
  am_callV (M := mmL_law) (Z := ZL g L xs) (C := RX8) (T := TX8) (N := 18) (ci := 6) (own := RL) (nA := 2) hd rfl gL_law_X8_quarrel rfl rfl (by omega) (by decide +kernel) ⟨rfl, rfl⟩ ⟨(Nat.le_of_ble_eq_true rfl), (Nat.le_of_ble_eq_true rfl)⟩ zl_ok hA hl hst hcat hc hn kk
theorem caL_law_102 {b : Nat} {As : List Value} {P : Option Value → Hp → Prop} {st0 : List Value} (hd : decode code pc = .ok (.invokevirtual 102, 3)) (hA : AC g yX7_deafest wsX7_deafest rmX7_deafest (.ref b :: As) h P) (hl : As.length = 0) (hst : st0 = As.reverse ++ .ref b :: st) (hcat : (st.map fun v => v.category).sum ≤ 8) (hc : isC b 5 0) (hn : pc + 3 = n) (kk : ∀ (r : Option Value) (h2 : Hp), P r h2 → AW g mmL_law (ZL g L xs) n l (r.toList ++ st) h2) : AW g mmL_law (ZL g L xs) pc l st0 h :=
  am_callV (M := mmL_law) (Z := ZL g L xs) (C := RX7) (T := TX7) (N := 10) (ci := 5) (own := RL) (nA := 0) hd rfl gL_law_X7_deafest rfl rfl (by omega) (by decide +kernel) ⟨rfl, rfl⟩ ⟨(Nat.le_of_ble_eq_true rfl), (Nat.le_of_ble_eq_true rfl)⟩ zl_ok hA hl hst hcat hc hn kk
theorem caL_law_105 {b : Nat} {As : List Value} {P : Option Value → Hp → Prop} {st0 : List Value} (hd : decode code pc = .ok (.invokevirtual 105, 3)) (hA : AC g yX8_deafest wsX8_deafest rmX8_deafest (.ref b :: As) h P) (hl : As.length = 0) (hst : st0 = As.reverse ++ .ref b :: st) (hcat : (st.map fun v => v.category).sum ≤ 8) (hc : isC b 6 0) (hn : pc + 3 = n) (kk : ∀ (r : Option Value) (h2 : Hp), P r h2 → AW g mmL_law (ZL g L xs) n l (r.toList ++ st) h2) : AW g mmL_law (ZL g L xs) pc l st0 h :=
  am_callV (M := mmL_law) (Z := ZL g L xs) (C := RX8) (T := TX8) (N := 18) (ci := 6) (own := RL) (nA := 0) hd rfl gL_law_X8_deafest rfl rfl (by omega) (by decide +kernel) ⟨rfl, rfl⟩ ⟨(Nat.le_of_ble_eq_true rfl), (Nat.le_of_ble_eq_true rfl)⟩ zl_ok hA hl hst hcat hc hn kk
theorem caL_law_108 {b : Nat} {As : List Value} {P : Option Value → Hp → Prop} {st0 : List Value} (hd : decode code pc = .ok (.invokevirtual 108, 3)) (hA : AC g yX7_put wsX7_put rmX7_put (.ref b :: As) h P) (hl : As.length = 1) (hst : st0 = As.reverse ++ .ref b :: st) (hcat : (st.map fun v => v.category).sum ≤ 8) (hc : isC b 5 0) (hn : pc + 3 = n) (kk : ∀ (r : Option Value) (h2 : Hp), P r h2 → AW g mmL_law (ZL g L xs) n l (r.toList ++ st) h2) : AW g mmL_law (ZL g L xs) pc l st0 h :=
  am_callV (M := mmL_law) (Z := ZL g L xs) (C := RX7) (T := TX7) (N := 10) (ci := 5) (own := RL) (nA := 1) hd rfl gL_law_X7_put rfl rfl (by omega) (by decide +kernel) ⟨rfl, rfl⟩ ⟨(Nat.le_of_ble_eq_true rfl), (Nat.le_of_ble_eq_true rfl)⟩ zl_ok hA hl hst hcat hc hn kk
theorem caL_law_112 {b : Nat} {As : List Value} {P : Option Value → Hp → Prop} {st0 : List Value} (hd : decode code pc = .ok (.invokevirtual 112, 3)) (hA : AC g yX8_put wsX8_put rmX8_put (.ref b :: As) h P) (hl : As.length = 1) (hst : st0 = As.reverse ++ .ref b :: st) (hcat : (st.map fun v => v.category).sum ≤ 8) (hc : isC b 6 0) (hn : pc + 3 = n) (kk : ∀ (r : Option Value) (h2 : Hp), P r h2 → AW g mmL_law (ZL g L xs) n l (r.toList ++ st) h2) : AW g mmL_law (ZL g L xs) pc l st0 h :=
  am_callV (M := mmL_law) (Z := ZL g L xs) (C := RX8) (T := TX8) (N := 18) (ci := 6) (own := RL) (nA := 1) hd rfl gL_law_X8_put rfl rfl (by omega) (by decide +kernel) ⟨rfl, rfl⟩ ⟨(Nat.le_of_ble_eq_true rfl), (Nat.le_of_ble_eq_true rfl)⟩ zl_ok hA hl hst hcat hc hn kk
theorem caL_law_113 {b : Nat} {As : List Value} {P : Option Value → Hp → Prop} {st0 : List Value} (hd : decode code pc = .ok (.invokevirtual 113, 3)) (hA : AC g yX7_wipe wsX7_wipe rmX7_wipe (.ref b :: As) h P) (hl : As.length = 0) (hst : st0 = As.reverse ++ .ref b :: st) (hcat : (st.map fun v => v.category).sum ≤ 8) (hc : isC b 5 0) (hn : pc + 3 = n) (kk : ∀ (r : Option Value) (h2 : Hp), P r h2 → AW g mmL_law (ZL g L xs) n l (r.toList ++ st) h2) : AW g mmL_law (ZL g L xs) pc l st0 h :=
  am_callV (M := mmL_law) (Z := ZL g L xs) (C := RX7) (T := TX7) (N := 10) (ci := 5) (own := RL) (nA := 0) hd rfl gL_law_X7_wipe rfl rfl (by omega) (by decide +kernel) ⟨rfl, rfl⟩ ⟨(Nat.le_of_ble_eq_true rfl), (Nat.le_of_ble_eq_true rfl)⟩ zl_ok hA hl hst hcat hc hn kk
theorem caL_law_116 {b : Nat} {As : List Value} {P : Option Value → Hp → Prop} {st0 : List Value} (hd : decode code pc = .ok (.invokevirtual 116, 3)) (hA : AC g yX8_wipe wsX8_wipe rmX8_wipe (.ref b :: As) h P) (hl : As.length = 0) (hst : st0 = As.reverse ++ .ref b :: st) (hcat : (st.map fun v => v.category).sum ≤ 8) (hc : isC b 6 0) (hn : pc + 3 = n) (kk : ∀ (r : Option Value) (h2 : Hp), P r h2 → AW g mmL_law (ZL g L xs) n l (r.toList ++ st) h2) : AW g mmL_law (ZL g L xs) pc l st0 h :=
  am_callV (M := mmL_law) (Z := ZL g L xs) (C := RX8) (T := TX8) (N := 18) (ci := 6) (own := RL) (nA := 0) hd rfl gL_law_X8_wipe rfl rfl (by omega) (by decide +kernel) ⟨rfl, rfl⟩ ⟨(Nat.le_of_ble_eq_true rfl), (Nat.le_of_ble_eq_true rfl)⟩ zl_ok hA hl hst hcat hc hn kk
theorem caL_law_117 {b : Nat} {As : List Value} {P : Option Value → Hp → Prop} {st0 : List Value} (hd : decode code pc = .ok (.invokevirtual 117, 3)) (hA : AC g yX7_fault wsX7_fault rmX7_fault (.ref b :: As) h P) (hl : As.length = 0) (hst : st0 = As.reverse ++ .ref b :: st) (hcat : (st.map fun v => v.category).sum ≤ 8) (hc : isC b 5 0) (hn : pc + 3 = n) (kk : ∀ (r : Option Value) (h2 : Hp), P r h2 → AW g mmL_law (ZL g L xs) n l (r.toList ++ st) h2) : AW g mmL_law (ZL g L xs) pc l st0 h :=
  am_callV (M := mmL_law) (Z := ZL g L xs) (C := RX7) (T := TX7) (N := 10) (ci := 5) (own := RL) (nA := 0) hd rfl gL_law_X7_fault rfl rfl (by omega) (by decide +kernel) ⟨rfl, rfl⟩ ⟨(Nat.le_of_ble_eq_true rfl), (Nat.le_of_ble_eq_true rfl)⟩ zl_ok hA hl hst hcat hc hn kk
theorem caL_law_120 {b : Nat} {As : List Value} {P : Option Value → Hp → Prop} {st0 : List Value} (hd : decode code pc = .ok (.invokevirtual 120, 3)) (hA : AC g yX8_fault wsX8_fault rmX8_fault (.ref b :: As) h P) (hl : As.length = 0) (hst : st0 = As.reverse ++ .ref b :: st) (hcat : (st.map fun v => v.category).sum ≤ 8) (hc : isC b 6 0) (hn : pc + 3 = n) (kk : ∀ (r : Option Value) (h2 : Hp), P r h2 → AW g mmL_law (ZL g L xs) n l (r.toList ++ st) h2) : AW g mmL_law (ZL g L xs) pc l st0 h :=
  am_callV (M := mmL_law) (Z := ZL g L xs) (C := RX8) (T := TX8) (N := 18) (ci := 6) (own := RL) (nA := 0) hd rfl gL_law_X8_fault rfl rfl (by omega) (by decide +kernel) ⟨rfl, rfl⟩ ⟨(Nat.le_of_ble_eq_true rfl), (Nat.le_of_ble_eq_true rfl)⟩ zl_ok hA hl hst hcat hc hn kk
theorem caL_law_121 {b : Nat} {As : List Value} {P : Option Value → Hp → Prop} {st0 : List Value} (hd : decode code pc = .ok (.invokevirtual 121, 3)) (hA : AC g yX7_undo wsX7_undo rmX7_undo (.ref b :: As) h P) (hl : As.length = 0) (hst : st0 = As.reverse ++ .ref b :: st) (hcat : (st.map fun v => v.category).sum ≤ 8) (hc : isC b 5 0) (hn : pc + 3 = n) (kk : ∀ (r : Option Value) (h2 : Hp), P r h2 → AW g mmL_law (ZL g L xs) n l (r.toList ++ st) h2) : AW g mmL_law (ZL g L xs) pc l st0 h :=
  am_callV (M := mmL_law) (Z := ZL g L xs) (C := RX7) (T := TX7) (N := 10) (ci := 5) (own := RL) (nA := 0) hd rfl gL_law_X7_undo rfl rfl (by omega) (by decide +kernel) ⟨rfl, rfl⟩ ⟨(Nat.le_of_ble_eq_true rfl), (Nat.le_of_ble_eq_true rfl)⟩ zl_ok hA hl hst hcat hc hn kk
theorem caL_law_124 {b : Nat} {As : List Value} {P : Option Value → Hp → Prop} {st0 : List Value} (hd : decode code pc = .ok (.invokevirtual 124, 3)) (hA : AC g yX8_undo wsX8_undo rmX8_undo (.ref b :: As) h P) (hl : As.length = 0) (hst : st0 = As.reverse ++ .ref b :: st) (hcat : (st.map fun v => v.category).sum ≤ 8) (hc : isC b 6 0) (hn : pc + 3 = n) (kk : ∀ (r : Option Value) (h2 : Hp), P r h2 → AW g mmL_law (ZL g L xs) n l (r.toList ++ st) h2) : AW g mmL_law (ZL g L xs) pc l st0 h :=
  am_callV (M := mmL_law) (Z := ZL g L xs) (C := RX8) (T := TX8) (N := 18) (ci := 6) (own := RL) (nA := 0) hd rfl gL_law_X8_undo rfl rfl (by omega) (by decide +kernel) ⟨rfl, rfl⟩ ⟨(Nat.le_of_ble_eq_true rfl), (Nat.le_of_ble_eq_true rfl)⟩ zl_ok hA hl hst hcat hc hn kk
theorem caL_law_125 {b : Nat} {As : List Value} {P : Option Value → Hp → Prop} {st0 : List Value} (hd : decode code pc = .ok (.invokevirtual 125, 3)) (hA : AC g yX7_save wsX7_save rmX7_save (.ref b :: As) h P) (hl : As.length = 1) (hst : st0 = As.reverse ++ .ref b :: st) (hcat : (st.map fun v => v.category).sum ≤ 8) (hc : isC b 5 0) (hn : pc + 3 = n) (kk : ∀ (r : Option Value) (h2 : Hp), P r h2 → AW g mmL_law (ZL g L xs) n l (r.toList ++ st) h2) : AW g mmL_law (ZL g L xs) pc l st0 h :=
  am_callV (M := mmL_law) (Z := ZL g L xs) (C := RX7) (T := TX7) (N := 10) (ci := 5) (own := RL) (nA := 1) hd rfl gL_law_X7_save rfl rfl (by omega) (by decide +kernel) ⟨rfl, rfl⟩ ⟨(Nat.le_of_ble_eq_true rfl), (Nat.le_of_ble_eq_true rfl)⟩ zl_ok hA hl hst hcat hc hn kk
theorem caL_law_128 {b : Nat} {As : List Value} {P : Option Value → Hp → Prop} {st0 : List Value} (hd : decode code pc = .ok (.invokevirtual 128, 3)) (hA : AC g yX8_save wsX8_save rmX8_save (.ref b :: As) h P) (hl : As.length = 1) (hst : st0 = As.reverse ++ .ref b :: st) (hcat : (st.map fun v => v.category).sum ≤ 8) (hc : isC b 6 0) (hn : pc + 3 = n) (kk : ∀ (r : Option Value) (h2 : Hp), P r h2 → AW g mmL_law (ZL g L xs) n l (r.toList ++ st) h2) : AW g mmL_law (ZL g L xs) pc l st0 h :=
  am_callV (M := mmL_law) (Z := ZL g L xs) (C := RX8) (T := TX8) (N := 18) (ci := 6) (own := RL) (nA := 1) hd rfl gL_law_X8_save rfl rfl (by omega) (by decide +kernel) ⟨rfl, rfl⟩ ⟨(Nat.le_of_ble_eq_true rfl), (Nat.le_of_ble_eq_true rfl)⟩ zl_ok hA hl hst hcat hc hn kk
theorem caL_law_129 {b : Nat} {As : List Value} {P : Option Value → Hp → Prop} {st0 : List Value} (hd : decode code pc = .ok (.invokevirtual 129, 3)) (hA : AC g yX7_restore wsX7_restore rmX7_restore (.ref b :: As) h P) (hl : As.length = 1) (hst : st0 = As.reverse ++ .ref b :: st) (hcat : (st.map fun v => v.category).sum ≤ 8) (hc : isC b 5 0) (hn : pc + 3 = n) (kk : ∀ (r : Option Value) (h2 : Hp), P r h2 → AW g mmL_law (ZL g L xs) n l (r.toList ++ st) h2) : AW g mmL_law (ZL g L xs) pc l st0 h :=
  am_callV (M := mmL_law) (Z := ZL g L xs) (C := RX7) (T := TX7) (N := 10) (ci := 5) (own := RL) (nA := 1) hd rfl gL_law_X7_restore rfl rfl (by omega) (by decide +kernel) ⟨rfl, rfl⟩ ⟨(Nat.le_of_ble_eq_true rfl), (Nat.le_of_ble_eq_true rfl)⟩ zl_ok hA hl hst hcat hc hn kk
theorem caL_law_132 {b : Nat} {As : List Value} {P : Option Value → Hp → Prop} {st0 : List Value} (hd : decode code pc = .ok (.invokevirtual 132, 3)) (hA : AC g yX8_restore wsX8_restore rmX8_restore (.ref b :: As) h P) (hl : As.length = 1) (hst : st0 = As.reverse ++ .ref b :: st) (hcat : (st.map fun v => v.category).sum ≤ 8) (hc : isC b 6 0) (hn : pc + 3 = n) (kk : ∀ (r : Option Value) (h2 : Hp), P r h2 → AW g mmL_law (ZL g L xs) n l (r.toList ++ st) h2) : AW g mmL_law (ZL g L xs) pc l st0 h :=
  am_callV (M := mmL_law) (Z := ZL g L xs) (C := RX8) (T := TX8) (N := 18) (ci := 6) (own := RL) (nA := 1) hd rfl gL_law_X8_restore rfl rfl (by omega) (by decide +kernel) ⟨rfl, rfl⟩ ⟨(Nat.le_of_ble_eq_true rfl), (Nat.le_of_ble_eq_true rfl)⟩ zl_ok hA hl hst hcat hc hn kk
end LAW
theorem lN_of (v : Int64) : ∃ n, n < 2 ^ 64 ∧ v = lN n := by
  refine ⟨v.toBitVec.toNat, v.toBitVec.isLt, ?_⟩
  apply Int64.toBitVec_inj.mp
  rw [lN_bv, BitVec.ofNat_toNat, BitVec.setWidth_eq]
theorem and31 (x : Int32) : ∃ v, v < 32 ∧ x &&& 31 = nI v := by
  refine ⟨(x &&& 31).toBitVec.toNat, ?_, ?_⟩
  · have e : (x &&& 31).toBitVec = x.toBitVec &&& 31#32 := rfl
    rw [e, BitVec.toNat_and]
    exact Nat.lt_of_le_of_lt Nat.and_le_right (by decide)
  · apply Int32.toBitVec_inj.mp
    show (x &&& 31).toBitVec = BitVec.ofNat 32 (x &&& 31).toBitVec.toNat
    rw [BitVec.ofNat_toNat, BitVec.setWidth_eq]
theorem len5 {i L : Nat} (hi : i ≤ 2560) (hL : L ≤ 2560) : nI L - 5 < nI i ↔ L < i + 5 := by
  rw [Int32.lt_iff_toInt_lt, nI_toInt' (by omega)]
  rcases Nat.lt_or_ge L 5 with z | z
  · have : ∀ L, L < 5 → (nI L - 5).toInt = (L : Int) - 5 := by decide
    rw [this L z]
    omega
  · rw [show (5 : Int32) = nI 5 from rfl, nI_sub z, nI_toInt' (by omega)]
    omega
set_option maxRecDepth 100000 in
set_option maxHeartbeats 400000 in
theorem law_0 {g : Gx} {L : Nat} {xs : Nat → Int32} {i : Nat} {G : GS} {h : Hp} (hi : i + 5 ≤ L) (hL : L ≤ 2560) (hX : XI G h) (hM : MG G h) (next : ∀ (G' : GS) (h' : Hp), XI G' h' → MG G' h' → AW g mmL_law (ZL g L xs) 1054 [(3, some (.int (nI i))), (2, some (.ref 40)), (1, some (.ref 0)), (0, some (.ref 61))] [] h') : AW g mmL_law (ZL g L xs) 160 [(3, some (.int (nI i))), (2, some (.ref 40)), (1, some (.ref 0)), (0, some (.ref 61))] [] h := by
  refine am_aload_n (n := 161) (i := 1) dL_law_160 rfl rfl rfl ?_
  refine lw_arg (n := 166) (i := i) (k := 1) dL_law_161 dL_law_162 dL_law_163 dL_law_164 dL_law_165 rfl rfl rfl (by omega) hL rfl ?_
  refine lw_arg (n := 171) (i := i) (k := 2) dL_law_166 dL_law_167 dL_law_168 dL_law_169 dL_law_170 rfl rfl rfl (by omega) hL rfl ?_
  refine caL_law_13 (n := 174) dL_law_171 (cx_set g (xs (i + 1)) (xs (i + 2)) _ h hX) rfl rfl (Nat.le_of_ble_eq_true rfl) isC_0 rfl ?_
  rintro r h1 ⟨rfl, X1, f1⟩
  refine am_aload_n (n := 175) (i := 2) dL_law_174 rfl rfl rfl ?_
  refine lw_arg (n := 180) (i := i) (k := 1) dL_law_175 dL_law_176 dL_law_177 dL_law_178 dL_law_179 rfl rfl rfl (by omega) hL rfl ?_
  refine lw_arg (n := 185) (i := i) (k := 2) dL_law_180 dL_law_181 dL_law_182 dL_law_183 dL_law_184 rfl rfl rfl (by omega) hL rfl ?_
  refine caL_law_17 (n := 188) dL_law_185 (cm_set g (xs (i + 1)) (xs (i + 2)) _ h1 (hM.fm f1)) rfl rfl (Nat.le_of_ble_eq_true rfl) isC_40 rfl ?_
  rintro r h2 ⟨rfl, M2, f2⟩
  refine am_icmp_eq (tgt := 1054) (n := 191) dL_law_188 (by decide) rfl (fun _ => ?_) (fun q => absurd rfl q)
  exact next _ _ (X1.fr f2) M2
set_option maxRecDepth 100000 in
set_option maxHeartbeats 400000 in
theorem law_1 {g : Gx} {L : Nat} {xs : Nat → Int32} {i : Nat} {G : GS} {h : Hp} (hi : i + 5 ≤ L) (hL : L ≤ 2560) (hX : XI G h) (hM : MG G h) (next : ∀ (G' : GS) (h' : Hp), XI G' h' → MG G' h' → AW g mmL_law (ZL g L xs) 1054 [(3, some (.int (nI i))), (2, some (.ref 40)), (1, some (.ref 0)), (0, some (.ref 61))] [] h') : AW g mmL_law (ZL g L xs) 193 [(3, some (.int (nI i))), (2, some (.ref 40)), (1, some (.ref 0)), (0, some (.ref 61))] [] h := by
  refine am_aload_n (n := 194) (i := 1) dL_law_193 rfl rfl rfl ?_
  refine caL_law_18 (n := 197) dL_law_194 (cx_add g _ h hX) rfl rfl (Nat.le_of_ble_eq_true rfl) isC_0 rfl ?_
  rintro r h1 ⟨rfl, X1, f1⟩
  refine am_aload_n (n := 198) (i := 2) dL_law_197 rfl rfl rfl ?_
  refine caL_law_22 (n := 201) dL_law_198 (cm_add g _ h1 (hM.fm f1)) rfl rfl (Nat.le_of_ble_eq_true rfl) isC_40 rfl ?_
  rintro r h2 ⟨rfl, M2, f2⟩
  refine am_icmp_eq (tgt := 1054) (n := 204) dL_law_201 (by decide) rfl (fun _ => ?_) (fun q => absurd rfl q)
  exact next _ _ (X1.fr f2) M2
set_option maxRecDepth 100000 in
set_option maxHeartbeats 400000 in
theorem law_2 {g : Gx} {L : Nat} {xs : Nat → Int32} {i : Nat} {G : GS} {h : Hp} (hi : i + 5 ≤ L) (hL : L ≤ 2560) (hX : XI G h) (hM : MG G h) (next : ∀ (G' : GS) (h' : Hp), XI G' h' → MG G' h' → AW g mmL_law (ZL g L xs) 1054 [(3, some (.int (nI i))), (2, some (.ref 40)), (1, some (.ref 0)), (0, some (.ref 61))] [] h') : AW g mmL_law (ZL g L xs) 206 [(3, some (.int (nI i))), (2, some (.ref 40)), (1, some (.ref 0)), (0, some (.ref 61))] [] h := by
  refine am_aload_n (n := 207) (i := 1) dL_law_206 rfl rfl rfl ?_
  refine lw_arg (n := 212) (i := i) (k := 1) dL_law_207 dL_law_208 dL_law_209 dL_law_210 dL_law_211 rfl rfl rfl (by omega) hL rfl ?_
  refine caL_law_23 (n := 215) dL_law_212 (cx_drop g (xs (i + 1)) _ h hX) rfl rfl (Nat.le_of_ble_eq_true rfl) isC_0 rfl ?_
  rintro r h1 ⟨rfl, X1, f1⟩
  refine am_aload_n (n := 216) (i := 2) dL_law_215 rfl rfl rfl ?_
  refine lw_arg (n := 221) (i := i) (k := 1) dL_law_216 dL_law_217 dL_law_218 dL_law_219 dL_law_220 rfl rfl rfl (by omega) hL rfl ?_
  refine caL_law_27 (n := 224) dL_law_221 (cm_drop g (xs (i + 1)) _ h1 (hM.fm f1)) rfl rfl (Nat.le_of_ble_eq_true rfl) isC_40 rfl ?_
  rintro r h2 ⟨rfl, M2, f2⟩
  refine am_icmp_eq (tgt := 1054) (n := 227) dL_law_224 (by decide) rfl (fun _ => ?_) (fun q => absurd rfl q)
  exact next _ _ (X1.fr f2) M2
set_option maxRecDepth 100000 in
set_option maxHeartbeats 400000 in
theorem law_3 {g : Gx} {L : Nat} {xs : Nat → Int32} {i : Nat} {G : GS} {h : Hp} (hi : i + 5 ≤ L) (hL : L ≤ 2560) (hX : XI G h) (hM : MG G h) (next : ∀ (G' : GS) (h' : Hp), XI G' h' → MG G' h' → AW g mmL_law (ZL g L xs) 1054 [(3, some (.int (nI i))), (2, some (.ref 40)), (1, some (.ref 0)), (0, some (.ref 61))] [] h') : AW g mmL_law (ZL g L xs) 229 [(3, some (.int (nI i))), (2, some (.ref 40)), (1, some (.ref 0)), (0, some (.ref 61))] [] h := by
  refine am_aload_n (n := 230) (i := 1) dL_law_229 rfl rfl rfl ?_
  refine lw_arg (n := 235) (i := i) (k := 1) dL_law_230 dL_law_231 dL_law_232 dL_law_233 dL_law_234 rfl rfl rfl (by omega) hL rfl ?_
  refine caL_law_28 (n := 238) dL_law_235 (cx_ear g (xs (i + 1)) _ h hX) rfl rfl (Nat.le_of_ble_eq_true rfl) isC_0 rfl ?_
  rintro r h1 ⟨rfl, X1, f1⟩
  refine am_aload_n (n := 239) (i := 2) dL_law_238 rfl rfl rfl ?_
  refine lw_arg (n := 244) (i := i) (k := 1) dL_law_239 dL_law_240 dL_law_241 dL_law_242 dL_law_243 rfl rfl rfl (by omega) hL rfl ?_
  refine caL_law_31 (n := 247) dL_law_244 (cm_ear g (xs (i + 1)) _ h1 (hM.fm f1)) rfl rfl (Nat.le_of_ble_eq_true rfl) isC_40 rfl ?_
  rintro r h2 ⟨rfl, M2, f2⟩
  refine am_icmp_eq (tgt := 1054) (n := 250) dL_law_247 (by decide) rfl (fun _ => ?_) (fun q => absurd rfl q)
  exact next _ _ (X1.fr f2) M2
set_option maxRecDepth 100000 in
set_option maxHeartbeats 400000 in
theorem law_4 {g : Gx} {L : Nat} {xs : Nat → Int32} {i : Nat} {G : GS} {h : Hp} (hi : i + 5 ≤ L) (hL : L ≤ 2560) (hX : XI G h) (hM : MG G h) (next : ∀ (G' : GS) (h' : Hp), XI G' h' → MG G' h' → AW g mmL_law (ZL g L xs) 1054 [(3, some (.int (nI i))), (2, some (.ref 40)), (1, some (.ref 0)), (0, some (.ref 61))] [] h') : AW g mmL_law (ZL g L xs) 252 [(3, some (.int (nI i))), (2, some (.ref 40)), (1, some (.ref 0)), (0, some (.ref 61))] [] h := by
  refine am_aload_n (n := 253) (i := 1) dL_law_252 rfl rfl rfl ?_
  refine lw_arg (n := 258) (i := i) (k := 1) dL_law_253 dL_law_254 dL_law_255 dL_law_256 dL_law_257 rfl rfl rfl (by omega) hL rfl ?_
  refine lw_arg (n := 263) (i := i) (k := 2) dL_law_258 dL_law_259 dL_law_260 dL_law_261 dL_law_262 rfl rfl rfl (by omega) hL rfl ?_
  refine lw_arg (n := 268) (i := i) (k := 3) dL_law_263 dL_law_264 dL_law_265 dL_law_266 dL_law_267 rfl rfl rfl (by omega) hL rfl ?_
  refine caL_law_32 (n := 271) dL_law_268 (cx_hear g (xs (i + 1)) (xs (i + 2)) (xs (i + 3)) _ h hX) rfl rfl (Nat.le_of_ble_eq_true rfl) isC_0 rfl ?_
  rintro r h1 ⟨rfl, X1, f1⟩
  refine am_aload_n (n := 272) (i := 2) dL_law_271 rfl rfl rfl ?_
  refine lw_arg (n := 277) (i := i) (k := 1) dL_law_272 dL_law_273 dL_law_274 dL_law_275 dL_law_276 rfl rfl rfl (by omega) hL rfl ?_
  refine lw_arg (n := 282) (i := i) (k := 2) dL_law_277 dL_law_278 dL_law_279 dL_law_280 dL_law_281 rfl rfl rfl (by omega) hL rfl ?_
  refine lw_arg (n := 287) (i := i) (k := 3) dL_law_282 dL_law_283 dL_law_284 dL_law_285 dL_law_286 rfl rfl rfl (by omega) hL rfl ?_
  refine caL_law_36 (n := 290) dL_law_287 (cm_hear g (xs (i + 1)) (xs (i + 2)) (xs (i + 3)) _ h1 (hM.fm f1)) rfl rfl (Nat.le_of_ble_eq_true rfl) isC_40 rfl ?_
  rintro r h2 ⟨rfl, M2, f2⟩
  refine am_icmp_eq (tgt := 1054) (n := 293) dL_law_290 (by decide) rfl (fun _ => ?_) (fun q => absurd rfl q)
  exact next _ _ (X1.fr f2) M2
set_option maxRecDepth 100000 in
set_option maxHeartbeats 400000 in
theorem law_5 {g : Gx} {L : Nat} {xs : Nat → Int32} {i : Nat} {G : GS} {h : Hp} (hi : i + 5 ≤ L) (hL : L ≤ 2560) (hX : XI G h) (hM : MG G h) (next : ∀ (G' : GS) (h' : Hp), XI G' h' → MG G' h' → AW g mmL_law (ZL g L xs) 1054 [(3, some (.int (nI i))), (2, some (.ref 40)), (1, some (.ref 0)), (0, some (.ref 61))] [] h') : AW g mmL_law (ZL g L xs) 295 [(3, some (.int (nI i))), (2, some (.ref 40)), (1, some (.ref 0)), (0, some (.ref 61))] [] h := by
  refine am_aload_n (n := 296) (i := 1) dL_law_295 rfl rfl rfl ?_
  refine lw_arg (n := 301) (i := i) (k := 1) dL_law_296 dL_law_297 dL_law_298 dL_law_299 dL_law_300 rfl rfl rfl (by omega) hL rfl ?_
  refine lw_arg (n := 306) (i := i) (k := 2) dL_law_301 dL_law_302 dL_law_303 dL_law_304 dL_law_305 rfl rfl rfl (by omega) hL rfl ?_
  refine lw_arg (n := 311) (i := i) (k := 3) dL_law_306 dL_law_307 dL_law_308 dL_law_309 dL_law_310 rfl rfl rfl (by omega) hL rfl ?_
  refine caL_law_37 (n := 314) dL_law_311 (cx_second g (xs (i + 1)) (xs (i + 2)) (xs (i + 3)) _ h hX) rfl rfl (Nat.le_of_ble_eq_true rfl) isC_0 rfl ?_
  rintro r h1 ⟨rfl, X1, f1⟩
  refine am_aload_n (n := 315) (i := 2) dL_law_314 rfl rfl rfl ?_
  refine lw_arg (n := 320) (i := i) (k := 1) dL_law_315 dL_law_316 dL_law_317 dL_law_318 dL_law_319 rfl rfl rfl (by omega) hL rfl ?_
  refine lw_arg (n := 325) (i := i) (k := 2) dL_law_320 dL_law_321 dL_law_322 dL_law_323 dL_law_324 rfl rfl rfl (by omega) hL rfl ?_
  refine lw_arg (n := 330) (i := i) (k := 3) dL_law_325 dL_law_326 dL_law_327 dL_law_328 dL_law_329 rfl rfl rfl (by omega) hL rfl ?_
  refine caL_law_40 (n := 333) dL_law_330 (cm_second g (xs (i + 1)) (xs (i + 2)) (xs (i + 3)) _ h1 (hM.fm f1)) rfl rfl (Nat.le_of_ble_eq_true rfl) isC_40 rfl ?_
  rintro r h2 ⟨rfl, M2, f2⟩
  refine am_icmp_eq (tgt := 1054) (n := 336) dL_law_333 (by decide) rfl (fun _ => ?_) (fun q => absurd rfl q)
  exact next _ _ (X1.fr f2) M2
set_option maxRecDepth 100000 in
set_option maxHeartbeats 400000 in
theorem law_6 {g : Gx} {L : Nat} {xs : Nat → Int32} {i : Nat} {G : GS} {h : Hp} (hi : i + 5 ≤ L) (hL : L ≤ 2560) (hX : XI G h) (hM : MG G h) (next : ∀ (G' : GS) (h' : Hp), XI G' h' → MG G' h' → AW g mmL_law (ZL g L xs) 1054 [(3, some (.int (nI i))), (2, some (.ref 40)), (1, some (.ref 0)), (0, some (.ref 61))] [] h') : AW g mmL_law (ZL g L xs) 338 [(3, some (.int (nI i))), (2, some (.ref 40)), (1, some (.ref 0)), (0, some (.ref 61))] [] h := by
  refine am_aload_n (n := 339) (i := 1) dL_law_338 rfl rfl rfl ?_
  refine lw_arg (n := 344) (i := i) (k := 1) dL_law_339 dL_law_340 dL_law_341 dL_law_342 dL_law_343 rfl rfl rfl (by omega) hL rfl ?_
  refine lw_arg (n := 349) (i := i) (k := 2) dL_law_344 dL_law_345 dL_law_346 dL_law_347 dL_law_348 rfl rfl rfl (by omega) hL rfl ?_
  refine caL_law_41 (n := 352) dL_law_349 (cx_habits g (xs (i + 1)) (xs (i + 2)) _ h hX) rfl rfl (Nat.le_of_ble_eq_true rfl) isC_0 rfl ?_
  rintro r h1 ⟨rfl, X1, f1⟩
  refine am_aload_n (n := 353) (i := 2) dL_law_352 rfl rfl rfl ?_
  refine lw_arg (n := 358) (i := i) (k := 1) dL_law_353 dL_law_354 dL_law_355 dL_law_356 dL_law_357 rfl rfl rfl (by omega) hL rfl ?_
  refine lw_arg (n := 363) (i := i) (k := 2) dL_law_358 dL_law_359 dL_law_360 dL_law_361 dL_law_362 rfl rfl rfl (by omega) hL rfl ?_
  refine caL_law_44 (n := 366) dL_law_363 (cm_habits g (xs (i + 1)) (xs (i + 2)) _ h1 (hM.fm f1)) rfl rfl (Nat.le_of_ble_eq_true rfl) isC_40 rfl ?_
  rintro r h2 ⟨rfl, M2, f2⟩
  refine am_icmp_eq (tgt := 1054) (n := 369) dL_law_366 (by decide) rfl (fun _ => ?_) (fun q => absurd rfl q)
  exact next _ _ (X1.fr f2) M2
set_option maxRecDepth 100000 in
set_option maxHeartbeats 400000 in
theorem law_7 {g : Gx} {L : Nat} {xs : Nat → Int32} {i : Nat} {G : GS} {h : Hp} (hi : i + 5 ≤ L) (hL : L ≤ 2560) (hX : XI G h) (hM : MG G h) (next : ∀ (G' : GS) (h' : Hp), XI G' h' → MG G' h' → AW g mmL_law (ZL g L xs) 1054 [(3, some (.int (nI i))), (2, some (.ref 40)), (1, some (.ref 0)), (0, some (.ref 61))] [] h') : AW g mmL_law (ZL g L xs) 371 [(3, some (.int (nI i))), (2, some (.ref 40)), (1, some (.ref 0)), (0, some (.ref 61))] [] h := by
  refine am_aload_n (n := 372) (i := 1) dL_law_371 rfl rfl rfl ?_
  refine lw_arg (n := 377) (i := i) (k := 1) dL_law_372 dL_law_373 dL_law_374 dL_law_375 dL_law_376 rfl rfl rfl (by omega) hL rfl ?_
  refine lw_arg (n := 382) (i := i) (k := 2) dL_law_377 dL_law_378 dL_law_379 dL_law_380 dL_law_381 rfl rfl rfl (by omega) hL rfl ?_
  refine lw_arg (n := 387) (i := i) (k := 3) dL_law_382 dL_law_383 dL_law_384 dL_law_385 dL_law_386 rfl rfl rfl (by omega) hL rfl ?_
  refine caL_law_45 (n := 390) dL_law_387 (cx_merge g (xs (i + 1)) (xs (i + 2)) (xs (i + 3)) _ h hX) rfl rfl (Nat.le_of_ble_eq_true rfl) isC_0 rfl ?_
  rintro r h1 ⟨rfl, X1, f1⟩
  refine am_aload_n (n := 391) (i := 2) dL_law_390 rfl rfl rfl ?_
  refine lw_arg (n := 396) (i := i) (k := 1) dL_law_391 dL_law_392 dL_law_393 dL_law_394 dL_law_395 rfl rfl rfl (by omega) hL rfl ?_
  refine lw_arg (n := 401) (i := i) (k := 2) dL_law_396 dL_law_397 dL_law_398 dL_law_399 dL_law_400 rfl rfl rfl (by omega) hL rfl ?_
  refine lw_arg (n := 406) (i := i) (k := 3) dL_law_401 dL_law_402 dL_law_403 dL_law_404 dL_law_405 rfl rfl rfl (by omega) hL rfl ?_
  refine caL_law_48 (n := 409) dL_law_406 (cm_merge g (xs (i + 1)) (xs (i + 2)) (xs (i + 3)) _ h1 (hM.fm f1)) rfl rfl (Nat.le_of_ble_eq_true rfl) isC_40 rfl ?_
  rintro r h2 ⟨rfl, M2, f2⟩
  refine am_icmp_eq (tgt := 1054) (n := 412) dL_law_409 (by decide) rfl (fun _ => ?_) (fun q => absurd rfl q)
  exact next _ _ (X1.fr f2) M2
set_option maxRecDepth 100000 in
set_option maxHeartbeats 400000 in
theorem law_8 {g : Gx} {L : Nat} {xs : Nat → Int32} {i : Nat} {G : GS} {h : Hp} (hi : i + 5 ≤ L) (hL : L ≤ 2560) (hX : XI G h) (hM : MG G h) (next : ∀ (G' : GS) (h' : Hp), XI G' h' → MG G' h' → AW g mmL_law (ZL g L xs) 1054 [(3, some (.int (nI i))), (2, some (.ref 40)), (1, some (.ref 0)), (0, some (.ref 61))] [] h') : AW g mmL_law (ZL g L xs) 414 [(3, some (.int (nI i))), (2, some (.ref 40)), (1, some (.ref 0)), (0, some (.ref 61))] [] h := by
  refine am_aload_n (n := 415) (i := 1) dL_law_414 rfl rfl rfl ?_
  refine lw_arg (n := 420) (i := i) (k := 1) dL_law_415 dL_law_416 dL_law_417 dL_law_418 dL_law_419 rfl rfl rfl (by omega) hL rfl ?_
  refine caL_law_49 (n := 423) dL_law_420 (cx_split g (xs (i + 1)) _ h hX) rfl rfl (Nat.le_of_ble_eq_true rfl) isC_0 rfl ?_
  rintro r h1 ⟨rfl, X1, f1⟩
  refine am_aload_n (n := 424) (i := 2) dL_law_423 rfl rfl rfl ?_
  refine lw_arg (n := 429) (i := i) (k := 1) dL_law_424 dL_law_425 dL_law_426 dL_law_427 dL_law_428 rfl rfl rfl (by omega) hL rfl ?_
  refine caL_law_52 (n := 432) dL_law_429 (cm_split g (xs (i + 1)) _ h1 (hM.fm f1)) rfl rfl (Nat.le_of_ble_eq_true rfl) isC_40 rfl ?_
  rintro r h2 ⟨rfl, M2, f2⟩
  refine am_icmp_eq (tgt := 1054) (n := 435) dL_law_432 (by decide) rfl (fun _ => ?_) (fun q => absurd rfl q)
  exact next _ _ (X1.fr f2) M2
set_option maxRecDepth 100000 in
set_option maxHeartbeats 400000 in
theorem law_9 {g : Gx} {L : Nat} {xs : Nat → Int32} {i : Nat} {G : GS} {h : Hp} (hi : i + 5 ≤ L) (hL : L ≤ 2560) (hX : XI G h) (hM : MG G h) (next : ∀ (G' : GS) (h' : Hp), XI G' h' → MG G' h' → AW g mmL_law (ZL g L xs) 1054 [(3, some (.int (nI i))), (2, some (.ref 40)), (1, some (.ref 0)), (0, some (.ref 61))] [] h') : AW g mmL_law (ZL g L xs) 437 [(3, some (.int (nI i))), (2, some (.ref 40)), (1, some (.ref 0)), (0, some (.ref 61))] [] h := by
  refine am_aload_n (n := 438) (i := 1) dL_law_437 rfl rfl rfl ?_
  refine lw_arg (n := 443) (i := i) (k := 1) dL_law_438 dL_law_439 dL_law_440 dL_law_441 dL_law_442 rfl rfl rfl (by omega) hL rfl ?_
  refine lw_arg (n := 448) (i := i) (k := 2) dL_law_443 dL_law_444 dL_law_445 dL_law_446 dL_law_447 rfl rfl rfl (by omega) hL rfl ?_
  refine caL_law_53 (n := 451) dL_law_448 (cx_name g (xs (i + 1)) (xs (i + 2)) _ h hX) rfl rfl (Nat.le_of_ble_eq_true rfl) isC_0 rfl ?_
  rintro r h1 ⟨rfl, X1, f1⟩
  refine am_aload_n (n := 452) (i := 2) dL_law_451 rfl rfl rfl ?_
  refine lw_arg (n := 457) (i := i) (k := 1) dL_law_452 dL_law_453 dL_law_454 dL_law_455 dL_law_456 rfl rfl rfl (by omega) hL rfl ?_
  refine lw_arg (n := 462) (i := i) (k := 2) dL_law_457 dL_law_458 dL_law_459 dL_law_460 dL_law_461 rfl rfl rfl (by omega) hL rfl ?_
  refine caL_law_56 (n := 465) dL_law_462 (cm_name g (xs (i + 1)) (xs (i + 2)) _ h1 (hM.fm f1)) rfl rfl (Nat.le_of_ble_eq_true rfl) isC_40 rfl ?_
  rintro r h2 ⟨rfl, M2, f2⟩
  refine am_icmp_eq (tgt := 1054) (n := 468) dL_law_465 (by decide) rfl (fun _ => ?_) (fun q => absurd rfl q)
  exact next _ _ (X1.fr f2) M2
set_option maxRecDepth 100000 in
set_option maxHeartbeats 400000 in
theorem law_10 {g : Gx} {L : Nat} {xs : Nat → Int32} {i : Nat} {G : GS} {h : Hp} (hi : i + 5 ≤ L) (hL : L ≤ 2560) (hX : XI G h) (hM : MG G h) (next : ∀ (G' : GS) (h' : Hp), XI G' h' → MG G' h' → AW g mmL_law (ZL g L xs) 1054 [(3, some (.int (nI i))), (2, some (.ref 40)), (1, some (.ref 0)), (0, some (.ref 61))] [] h') : AW g mmL_law (ZL g L xs) 470 [(3, some (.int (nI i))), (2, some (.ref 40)), (1, some (.ref 0)), (0, some (.ref 61))] [] h := by
  refine am_aload_n (n := 471) (i := 1) dL_law_470 rfl rfl rfl ?_
  refine lw_arg (n := 476) (i := i) (k := 1) dL_law_471 dL_law_472 dL_law_473 dL_law_474 dL_law_475 rfl rfl rfl (by omega) hL rfl ?_
  refine lw_arg (n := 481) (i := i) (k := 2) dL_law_476 dL_law_477 dL_law_478 dL_law_479 dL_law_480 rfl rfl rfl (by omega) hL rfl ?_
  refine lw_arg (n := 486) (i := i) (k := 3) dL_law_481 dL_law_482 dL_law_483 dL_law_484 dL_law_485 rfl rfl rfl (by omega) hL rfl ?_
  refine caL_law_57 (n := 489) dL_law_486 (cx_of g (xs (i + 1)) (xs (i + 2)) (xs (i + 3)) _ h hX) rfl rfl (Nat.le_of_ble_eq_true rfl) isC_0 rfl ?_
  rintro r h1 ⟨rfl, X1, f1⟩
  refine am_aload_n (n := 490) (i := 2) dL_law_489 rfl rfl rfl ?_
  refine lw_arg (n := 495) (i := i) (k := 1) dL_law_490 dL_law_491 dL_law_492 dL_law_493 dL_law_494 rfl rfl rfl (by omega) hL rfl ?_
  refine lw_arg (n := 500) (i := i) (k := 2) dL_law_495 dL_law_496 dL_law_497 dL_law_498 dL_law_499 rfl rfl rfl (by omega) hL rfl ?_
  refine lw_arg (n := 505) (i := i) (k := 3) dL_law_500 dL_law_501 dL_law_502 dL_law_503 dL_law_504 rfl rfl rfl (by omega) hL rfl ?_
  refine caL_law_60 (n := 508) dL_law_505 (cm_of g (xs (i + 1)) (xs (i + 2)) (xs (i + 3)) _ h1 (hM.fm f1)) rfl rfl (Nat.le_of_ble_eq_true rfl) isC_40 rfl ?_
  rintro r h2 ⟨rfl, M2, f2⟩
  refine am_icmp_eq (tgt := 1054) (n := 511) dL_law_508 (by decide) rfl (fun _ => ?_) (fun q => absurd rfl q)
  exact next _ _ (X1.fr f2) M2
set_option maxRecDepth 100000 in
set_option maxHeartbeats 400000 in
theorem law_11 {g : Gx} {L : Nat} {xs : Nat → Int32} {i : Nat} {G : GS} {h : Hp} (hi : i + 5 ≤ L) (hL : L ≤ 2560) (hX : XI G h) (hM : MG G h) (next : ∀ (G' : GS) (h' : Hp), XI G' h' → MG G' h' → AW g mmL_law (ZL g L xs) 1054 [(3, some (.int (nI i))), (2, some (.ref 40)), (1, some (.ref 0)), (0, some (.ref 61))] [] h') : AW g mmL_law (ZL g L xs) 513 [(3, some (.int (nI i))), (2, some (.ref 40)), (1, some (.ref 0)), (0, some (.ref 61))] [] h := by
  refine am_aload_n (n := 514) (i := 1) dL_law_513 rfl rfl rfl ?_
  refine lw_arg (n := 519) (i := i) (k := 1) dL_law_514 dL_law_515 dL_law_516 dL_law_517 dL_law_518 rfl rfl rfl (by omega) hL rfl ?_
  refine lw_arg (n := 524) (i := i) (k := 2) dL_law_519 dL_law_520 dL_law_521 dL_law_522 dL_law_523 rfl rfl rfl (by omega) hL rfl ?_
  refine caL_law_61 (n := 527) dL_law_524 (cx_ofEar g (xs (i + 1)) (xs (i + 2)) _ h hX) rfl rfl (Nat.le_of_ble_eq_true rfl) isC_0 rfl ?_
  rintro r h1 ⟨rfl, X1, f1⟩
  refine am_aload_n (n := 528) (i := 2) dL_law_527 rfl rfl rfl ?_
  refine lw_arg (n := 533) (i := i) (k := 1) dL_law_528 dL_law_529 dL_law_530 dL_law_531 dL_law_532 rfl rfl rfl (by omega) hL rfl ?_
  refine lw_arg (n := 538) (i := i) (k := 2) dL_law_533 dL_law_534 dL_law_535 dL_law_536 dL_law_537 rfl rfl rfl (by omega) hL rfl ?_
  refine caL_law_64 (n := 541) dL_law_538 (cm_ofEar g (xs (i + 1)) (xs (i + 2)) _ h1 (hM.fm f1)) rfl rfl (Nat.le_of_ble_eq_true rfl) isC_40 rfl ?_
  rintro r h2 ⟨rfl, M2, f2⟩
  refine am_icmp_eq (tgt := 1054) (n := 544) dL_law_541 (by decide) rfl (fun _ => ?_) (fun q => absurd rfl q)
  exact next _ _ (X1.fr f2) M2
set_option maxRecDepth 100000 in
set_option maxHeartbeats 400000 in
theorem law_12 {g : Gx} {L : Nat} {xs : Nat → Int32} {i : Nat} {G : GS} {h : Hp} (hi : i + 5 ≤ L) (hL : L ≤ 2560) (hX : XI G h) (hM : MG G h) (next : ∀ (G' : GS) (h' : Hp), XI G' h' → MG G' h' → AW g mmL_law (ZL g L xs) 1054 [(3, some (.int (nI i))), (2, some (.ref 40)), (1, some (.ref 0)), (0, some (.ref 61))] [] h') : AW g mmL_law (ZL g L xs) 546 [(3, some (.int (nI i))), (2, some (.ref 40)), (1, some (.ref 0)), (0, some (.ref 61))] [] h := by
  refine am_aload_n (n := 547) (i := 1) dL_law_546 rfl rfl rfl ?_
  refine lw_arg (n := 552) (i := i) (k := 1) dL_law_547 dL_law_548 dL_law_549 dL_law_550 dL_law_551 rfl rfl rfl (by omega) hL rfl ?_
  refine lw_arg (n := 557) (i := i) (k := 2) dL_law_552 dL_law_553 dL_law_554 dL_law_555 dL_law_556 rfl rfl rfl (by omega) hL rfl ?_
  refine lw_arg (n := 562) (i := i) (k := 3) dL_law_557 dL_law_558 dL_law_559 dL_law_560 dL_law_561 rfl rfl rfl (by omega) hL rfl ?_
  refine lw_arg (n := 567) (i := i) (k := 4) dL_law_562 dL_law_563 dL_law_564 dL_law_565 dL_law_566 rfl rfl rfl (by omega) hL rfl ?_
  refine caL_law_65 (n := 570) dL_law_567 (cx_code g (xs (i + 1)) (xs (i + 2)) (xs (i + 3)) (xs (i + 4)) _ h hX) rfl rfl (Nat.le_of_ble_eq_true rfl) isC_0 rfl ?_
  rintro r h1 ⟨rfl, X1, f1⟩
  refine am_aload_n (n := 571) (i := 2) dL_law_570 rfl rfl rfl ?_
  refine lw_arg (n := 576) (i := i) (k := 1) dL_law_571 dL_law_572 dL_law_573 dL_law_574 dL_law_575 rfl rfl rfl (by omega) hL rfl ?_
  refine lw_arg (n := 581) (i := i) (k := 2) dL_law_576 dL_law_577 dL_law_578 dL_law_579 dL_law_580 rfl rfl rfl (by omega) hL rfl ?_
  refine lw_arg (n := 586) (i := i) (k := 3) dL_law_581 dL_law_582 dL_law_583 dL_law_584 dL_law_585 rfl rfl rfl (by omega) hL rfl ?_
  refine lw_arg (n := 591) (i := i) (k := 4) dL_law_586 dL_law_587 dL_law_588 dL_law_589 dL_law_590 rfl rfl rfl (by omega) hL rfl ?_
  refine caL_law_69 (n := 594) dL_law_591 (cm_code g (xs (i + 1)) (xs (i + 2)) (xs (i + 3)) (xs (i + 4)) _ h1 (hM.fm f1)) rfl rfl (Nat.le_of_ble_eq_true rfl) isC_40 rfl ?_
  rintro r h2 ⟨rfl, M2, f2⟩
  refine am_icmp_eq (tgt := 1054) (n := 597) dL_law_594 (by decide) rfl (fun _ => ?_) (fun q => absurd rfl q)
  exact next _ _ (X1.fr f2) M2
set_option maxRecDepth 100000 in
set_option maxHeartbeats 400000 in
theorem law_13 {g : Gx} {L : Nat} {xs : Nat → Int32} {i : Nat} {G : GS} {h : Hp} (hi : i + 5 ≤ L) (hL : L ≤ 2560) (hX : XI G h) (hM : MG G h) (next : ∀ (G' : GS) (h' : Hp), XI G' h' → MG G' h' → AW g mmL_law (ZL g L xs) 1054 [(3, some (.int (nI i))), (2, some (.ref 40)), (1, some (.ref 0)), (0, some (.ref 61))] [] h') : AW g mmL_law (ZL g L xs) 599 [(3, some (.int (nI i))), (2, some (.ref 40)), (1, some (.ref 0)), (0, some (.ref 61))] [] h := by
  refine am_aload_n (n := 600) (i := 1) dL_law_599 rfl rfl rfl ?_
  refine lw_arg (n := 605) (i := i) (k := 1) dL_law_600 dL_law_601 dL_law_602 dL_law_603 dL_law_604 rfl rfl rfl (by omega) hL rfl ?_
  refine lw_arg (n := 610) (i := i) (k := 2) dL_law_605 dL_law_606 dL_law_607 dL_law_608 dL_law_609 rfl rfl rfl (by omega) hL rfl ?_
  refine lw_arg (n := 615) (i := i) (k := 3) dL_law_610 dL_law_611 dL_law_612 dL_law_613 dL_law_614 rfl rfl rfl (by omega) hL rfl ?_
  refine caL_law_70 (n := 618) dL_law_615 (cx_drawer g (xs (i + 1)) (xs (i + 2)) (xs (i + 3)) _ h hX) rfl rfl (Nat.le_of_ble_eq_true rfl) isC_0 rfl ?_
  rintro r h1 ⟨rfl, X1, f1⟩
  refine am_aload_n (n := 619) (i := 2) dL_law_618 rfl rfl rfl ?_
  refine lw_arg (n := 624) (i := i) (k := 1) dL_law_619 dL_law_620 dL_law_621 dL_law_622 dL_law_623 rfl rfl rfl (by omega) hL rfl ?_
  refine lw_arg (n := 629) (i := i) (k := 2) dL_law_624 dL_law_625 dL_law_626 dL_law_627 dL_law_628 rfl rfl rfl (by omega) hL rfl ?_
  refine lw_arg (n := 634) (i := i) (k := 3) dL_law_629 dL_law_630 dL_law_631 dL_law_632 dL_law_633 rfl rfl rfl (by omega) hL rfl ?_
  refine caL_law_73 (n := 637) dL_law_634 (cm_drawer g (xs (i + 1)) (xs (i + 2)) (xs (i + 3)) _ h1 (hM.fm f1)) rfl rfl (Nat.le_of_ble_eq_true rfl) isC_40 rfl ?_
  rintro r h2 ⟨rfl, M2, f2⟩
  refine am_icmp_eq (tgt := 1054) (n := 640) dL_law_637 (by decide) rfl (fun _ => ?_) (fun q => absurd rfl q)
  exact next _ _ (X1.fr f2) M2
set_option maxRecDepth 100000 in
set_option maxHeartbeats 400000 in
theorem law_14 {g : Gx} {L : Nat} {xs : Nat → Int32} {i : Nat} {G : GS} {h : Hp} (hi : i + 5 ≤ L) (hL : L ≤ 2560) (hX : XI G h) (hM : MG G h) (next : ∀ (G' : GS) (h' : Hp), XI G' h' → MG G' h' → AW g mmL_law (ZL g L xs) 1054 [(3, some (.int (nI i))), (2, some (.ref 40)), (1, some (.ref 0)), (0, some (.ref 61))] [] h') : AW g mmL_law (ZL g L xs) 642 [(3, some (.int (nI i))), (2, some (.ref 40)), (1, some (.ref 0)), (0, some (.ref 61))] [] h := by
  refine am_aload_n (n := 643) (i := 1) dL_law_642 rfl rfl rfl ?_
  refine lw_arg (n := 648) (i := i) (k := 1) dL_law_643 dL_law_644 dL_law_645 dL_law_646 dL_law_647 rfl rfl rfl (by omega) hL rfl ?_
  refine caL_law_74 (n := 651) dL_law_648 (cx_count g (xs (i + 1)) _ h hX) rfl rfl (Nat.le_of_ble_eq_true rfl) isC_0 rfl ?_
  rintro r h1 ⟨rfl, X1, f1⟩
  refine am_aload_n (n := 652) (i := 2) dL_law_651 rfl rfl rfl ?_
  refine lw_arg (n := 657) (i := i) (k := 1) dL_law_652 dL_law_653 dL_law_654 dL_law_655 dL_law_656 rfl rfl rfl (by omega) hL rfl ?_
  refine caL_law_77 (n := 660) dL_law_657 (cm_count g (xs (i + 1)) _ h1 (hM.fm f1)) rfl rfl (Nat.le_of_ble_eq_true rfl) isC_40 rfl ?_
  rintro r h2 ⟨rfl, M2, f2⟩
  refine am_icmp_eq (tgt := 1054) (n := 663) dL_law_660 (by decide) rfl (fun _ => ?_) (fun q => absurd rfl q)
  exact next _ _ (X1.fr f2) M2
set_option maxRecDepth 100000 in
set_option maxHeartbeats 400000 in
theorem law_15 {g : Gx} {L : Nat} {xs : Nat → Int32} {i : Nat} {G : GS} {h : Hp} (hi : i + 5 ≤ L) (hL : L ≤ 2560) (hX : XI G h) (hM : MG G h) (next : ∀ (G' : GS) (h' : Hp), XI G' h' → MG G' h' → AW g mmL_law (ZL g L xs) 1054 [(3, some (.int (nI i))), (2, some (.ref 40)), (1, some (.ref 0)), (0, some (.ref 61))] [] h') : AW g mmL_law (ZL g L xs) 665 [(3, some (.int (nI i))), (2, some (.ref 40)), (1, some (.ref 0)), (0, some (.ref 61))] [] h := by
  refine am_aload_n (n := 666) (i := 1) dL_law_665 rfl rfl rfl ?_
  refine lw_arg (n := 671) (i := i) (k := 1) dL_law_666 dL_law_667 dL_law_668 dL_law_669 dL_law_670 rfl rfl rfl (by omega) hL rfl ?_
  refine lw_arg (n := 676) (i := i) (k := 2) dL_law_671 dL_law_672 dL_law_673 dL_law_674 dL_law_675 rfl rfl rfl (by omega) hL rfl ?_
  refine lw_arg (n := 681) (i := i) (k := 3) dL_law_676 dL_law_677 dL_law_678 dL_law_679 dL_law_680 rfl rfl rfl (by omega) hL rfl ?_
  refine caL_law_78 (n := 684) dL_law_681 (cx_alike g (xs (i + 1)) (xs (i + 2)) (xs (i + 3)) _ h hX) rfl rfl (Nat.le_of_ble_eq_true rfl) isC_0 rfl ?_
  rintro r h1 ⟨rfl, X1, f1⟩
  refine am_aload_n (n := 685) (i := 2) dL_law_684 rfl rfl rfl ?_
  refine lw_arg (n := 690) (i := i) (k := 1) dL_law_685 dL_law_686 dL_law_687 dL_law_688 dL_law_689 rfl rfl rfl (by omega) hL rfl ?_
  refine lw_arg (n := 695) (i := i) (k := 2) dL_law_690 dL_law_691 dL_law_692 dL_law_693 dL_law_694 rfl rfl rfl (by omega) hL rfl ?_
  refine lw_arg (n := 700) (i := i) (k := 3) dL_law_695 dL_law_696 dL_law_697 dL_law_698 dL_law_699 rfl rfl rfl (by omega) hL rfl ?_
  refine caL_law_81 (n := 703) dL_law_700 (cm_alike g (xs (i + 1)) (xs (i + 2)) (xs (i + 3)) _ h1 (hM.fm f1)) rfl rfl (Nat.le_of_ble_eq_true rfl) isC_40 rfl ?_
  rintro r h2 ⟨rfl, M2, f2⟩
  refine am_icmp_eq (tgt := 1054) (n := 706) dL_law_703 (by decide) rfl (fun _ => ?_) (fun q => absurd rfl q)
  exact next _ _ (X1.fr f2) M2
set_option maxRecDepth 100000 in
set_option maxHeartbeats 400000 in
theorem law_16 {g : Gx} {L : Nat} {xs : Nat → Int32} {i : Nat} {G : GS} {h : Hp} (hi : i + 5 ≤ L) (hL : L ≤ 2560) (hX : XI G h) (hM : MG G h) (next : ∀ (G' : GS) (h' : Hp), XI G' h' → MG G' h' → AW g mmL_law (ZL g L xs) 1054 [(3, some (.int (nI i))), (2, some (.ref 40)), (1, some (.ref 0)), (0, some (.ref 61))] [] h') : AW g mmL_law (ZL g L xs) 708 [(3, some (.int (nI i))), (2, some (.ref 40)), (1, some (.ref 0)), (0, some (.ref 61))] [] h := by
  refine am_aload_n (n := 709) (i := 1) dL_law_708 rfl rfl rfl ?_
  refine lw_arg (n := 714) (i := i) (k := 1) dL_law_709 dL_law_710 dL_law_711 dL_law_712 dL_law_713 rfl rfl rfl (by omega) hL rfl ?_
  refine lw_arg (n := 719) (i := i) (k := 2) dL_law_714 dL_law_715 dL_law_716 dL_law_717 dL_law_718 rfl rfl rfl (by omega) hL rfl ?_
  refine caL_law_82 (n := 722) dL_law_719 (cx_distance g (xs (i + 1)) (xs (i + 2)) _ h hX) rfl rfl (Nat.le_of_ble_eq_true rfl) isC_0 rfl ?_
  rintro r h1 ⟨rfl, X1, f1⟩
  refine am_aload_n (n := 723) (i := 2) dL_law_722 rfl rfl rfl ?_
  refine lw_arg (n := 728) (i := i) (k := 1) dL_law_723 dL_law_724 dL_law_725 dL_law_726 dL_law_727 rfl rfl rfl (by omega) hL rfl ?_
  refine lw_arg (n := 733) (i := i) (k := 2) dL_law_728 dL_law_729 dL_law_730 dL_law_731 dL_law_732 rfl rfl rfl (by omega) hL rfl ?_
  refine caL_law_85 (n := 736) dL_law_733 (cm_distance g (xs (i + 1)) (xs (i + 2)) _ h1 (hM.fm f1)) rfl rfl (Nat.le_of_ble_eq_true rfl) isC_40 rfl ?_
  rintro r h2 ⟨rfl, M2, f2⟩
  refine am_icmp_eq (tgt := 1054) (n := 739) dL_law_736 (by decide) rfl (fun _ => ?_) (fun q => absurd rfl q)
  exact next _ _ (X1.fr f2) M2
set_option maxRecDepth 100000 in
set_option maxHeartbeats 400000 in
theorem law_17 {g : Gx} {L : Nat} {xs : Nat → Int32} {i : Nat} {G : GS} {h : Hp} (hi : i + 5 ≤ L) (hL : L ≤ 2560) (hX : XI G h) (hM : MG G h) (next : ∀ (G' : GS) (h' : Hp), XI G' h' → MG G' h' → AW g mmL_law (ZL g L xs) 1054 [(3, some (.int (nI i))), (2, some (.ref 40)), (1, some (.ref 0)), (0, some (.ref 61))] [] h') : AW g mmL_law (ZL g L xs) 741 [(3, some (.int (nI i))), (2, some (.ref 40)), (1, some (.ref 0)), (0, some (.ref 61))] [] h := by
  refine am_aload_n (n := 742) (i := 1) dL_law_741 rfl rfl rfl ?_
  refine lw_arg (n := 747) (i := i) (k := 1) dL_law_742 dL_law_743 dL_law_744 dL_law_745 dL_law_746 rfl rfl rfl (by omega) hL rfl ?_
  refine lw_arg (n := 752) (i := i) (k := 2) dL_law_747 dL_law_748 dL_law_749 dL_law_750 dL_law_751 rfl rfl rfl (by omega) hL rfl ?_
  refine lw_arg (n := 757) (i := i) (k := 3) dL_law_752 dL_law_753 dL_law_754 dL_law_755 dL_law_756 rfl rfl rfl (by omega) hL rfl ?_
  refine caL_law_86 (n := 760) dL_law_757 (cx_find g (xs (i + 1)) (xs (i + 2)) (xs (i + 3)) _ h hX) rfl rfl (Nat.le_of_ble_eq_true rfl) isC_0 rfl ?_
  rintro r h1 ⟨rfl, X1, f1⟩
  refine am_aload_n (n := 761) (i := 2) dL_law_760 rfl rfl rfl ?_
  refine lw_arg (n := 766) (i := i) (k := 1) dL_law_761 dL_law_762 dL_law_763 dL_law_764 dL_law_765 rfl rfl rfl (by omega) hL rfl ?_
  refine lw_arg (n := 771) (i := i) (k := 2) dL_law_766 dL_law_767 dL_law_768 dL_law_769 dL_law_770 rfl rfl rfl (by omega) hL rfl ?_
  refine lw_arg (n := 776) (i := i) (k := 3) dL_law_771 dL_law_772 dL_law_773 dL_law_774 dL_law_775 rfl rfl rfl (by omega) hL rfl ?_
  refine caL_law_89 (n := 779) dL_law_776 (cm_find g (xs (i + 1)) (xs (i + 2)) (xs (i + 3)) _ h1 (hM.fm f1)) rfl rfl (Nat.le_of_ble_eq_true rfl) isC_40 rfl ?_
  rintro r h2 ⟨rfl, M2, f2⟩
  refine am_icmp_eq (tgt := 1054) (n := 782) dL_law_779 (by decide) rfl (fun _ => ?_) (fun q => absurd rfl q)
  exact next _ _ (X1.fr f2) M2
set_option maxRecDepth 100000 in
set_option maxHeartbeats 400000 in
theorem law_18 {g : Gx} {L : Nat} {xs : Nat → Int32} {i : Nat} {G : GS} {h : Hp} (hi : i + 5 ≤ L) (hL : L ≤ 2560) (hX : XI G h) (hM : MG G h) (next : ∀ (G' : GS) (h' : Hp), XI G' h' → MG G' h' → AW g mmL_law (ZL g L xs) 1054 [(3, some (.int (nI i))), (2, some (.ref 40)), (1, some (.ref 0)), (0, some (.ref 61))] [] h') : AW g mmL_law (ZL g L xs) 784 [(3, some (.int (nI i))), (2, some (.ref 40)), (1, some (.ref 0)), (0, some (.ref 61))] [] h := by
  refine am_aload_n (n := 785) (i := 1) dL_law_784 rfl rfl rfl ?_
  refine lw_arg (n := 790) (i := i) (k := 1) dL_law_785 dL_law_786 dL_law_787 dL_law_788 dL_law_789 rfl rfl rfl (by omega) hL rfl ?_
  refine lw_arg (n := 795) (i := i) (k := 2) dL_law_790 dL_law_791 dL_law_792 dL_law_793 dL_law_794 rfl rfl rfl (by omega) hL rfl ?_
  refine lw_arg (n := 800) (i := i) (k := 3) dL_law_795 dL_law_796 dL_law_797 dL_law_798 dL_law_799 rfl rfl rfl (by omega) hL rfl ?_
  refine lw_arg (n := 805) (i := i) (k := 4) dL_law_800 dL_law_801 dL_law_802 dL_law_803 dL_law_804 rfl rfl rfl (by omega) hL rfl ?_
  refine caL_law_90 (n := 808) dL_law_805 (cx_ifMerged g (xs (i + 1)) (xs (i + 2)) (xs (i + 3)) (xs (i + 4)) _ h hX) rfl rfl (Nat.le_of_ble_eq_true rfl) isC_0 rfl ?_
  rintro r h1 ⟨rfl, X1, f1⟩
  refine am_aload_n (n := 809) (i := 2) dL_law_808 rfl rfl rfl ?_
  refine lw_arg (n := 814) (i := i) (k := 1) dL_law_809 dL_law_810 dL_law_811 dL_law_812 dL_law_813 rfl rfl rfl (by omega) hL rfl ?_
  refine lw_arg (n := 819) (i := i) (k := 2) dL_law_814 dL_law_815 dL_law_816 dL_law_817 dL_law_818 rfl rfl rfl (by omega) hL rfl ?_
  refine lw_arg (n := 824) (i := i) (k := 3) dL_law_819 dL_law_820 dL_law_821 dL_law_822 dL_law_823 rfl rfl rfl (by omega) hL rfl ?_
  refine lw_arg (n := 829) (i := i) (k := 4) dL_law_824 dL_law_825 dL_law_826 dL_law_827 dL_law_828 rfl rfl rfl (by omega) hL rfl ?_
  refine caL_law_93 (n := 832) dL_law_829 (cm_ifMerged g (xs (i + 1)) (xs (i + 2)) (xs (i + 3)) (xs (i + 4)) _ h1 (hM.fm f1)) rfl rfl (Nat.le_of_ble_eq_true rfl) isC_40 rfl ?_
  rintro r h2 ⟨rfl, M2, f2⟩
  refine am_icmp_eq (tgt := 1054) (n := 835) dL_law_832 (by decide) rfl (fun _ => ?_) (fun q => absurd rfl q)
  exact next _ _ (X1.fr f2) M2
set_option maxRecDepth 100000 in
set_option maxHeartbeats 400000 in
theorem law_19 {g : Gx} {L : Nat} {xs : Nat → Int32} {i : Nat} {G : GS} {h : Hp} (hi : i + 5 ≤ L) (hL : L ≤ 2560) (hX : XI G h) (hM : MG G h) (next : ∀ (G' : GS) (h' : Hp), XI G' h' → MG G' h' → AW g mmL_law (ZL g L xs) 1054 [(3, some (.int (nI i))), (2, some (.ref 40)), (1, some (.ref 0)), (0, some (.ref 61))] [] h') : AW g mmL_law (ZL g L xs) 837 [(3, some (.int (nI i))), (2, some (.ref 40)), (1, some (.ref 0)), (0, some (.ref 61))] [] h := by
  refine am_aload_n (n := 838) (i := 1) dL_law_837 rfl rfl rfl ?_
  refine lw_arg (n := 843) (i := i) (k := 1) dL_law_838 dL_law_839 dL_law_840 dL_law_841 dL_law_842 rfl rfl rfl (by omega) hL rfl ?_
  refine lw_arg (n := 848) (i := i) (k := 2) dL_law_843 dL_law_844 dL_law_845 dL_law_846 dL_law_847 rfl rfl rfl (by omega) hL rfl ?_
  refine caL_law_94 (n := 851) dL_law_848 (cx_bestMerger g (xs (i + 1)) (xs (i + 2)) _ h hX) rfl rfl (Nat.le_of_ble_eq_true rfl) isC_0 rfl ?_
  rintro r h1 ⟨rfl, X1, f1⟩
  refine am_aload_n (n := 852) (i := 2) dL_law_851 rfl rfl rfl ?_
  refine lw_arg (n := 857) (i := i) (k := 1) dL_law_852 dL_law_853 dL_law_854 dL_law_855 dL_law_856 rfl rfl rfl (by omega) hL rfl ?_
  refine lw_arg (n := 862) (i := i) (k := 2) dL_law_857 dL_law_858 dL_law_859 dL_law_860 dL_law_861 rfl rfl rfl (by omega) hL rfl ?_
  refine caL_law_97 (n := 865) dL_law_862 (cm_bestMerger g (xs (i + 1)) (xs (i + 2)) _ h1 (hM.fm f1)) rfl rfl (Nat.le_of_ble_eq_true rfl) isC_40 rfl ?_
  rintro r h2 ⟨rfl, M2, f2⟩
  refine am_icmp_eq (tgt := 1054) (n := 868) dL_law_865 (by decide) rfl (fun _ => ?_) (fun q => absurd rfl q)
  exact next _ _ (X1.fr f2) M2
set_option maxRecDepth 100000 in
set_option maxHeartbeats 400000 in
theorem law_20 {g : Gx} {L : Nat} {xs : Nat → Int32} {i : Nat} {G : GS} {h : Hp} (hi : i + 5 ≤ L) (hL : L ≤ 2560) (hX : XI G h) (hM : MG G h) (next : ∀ (G' : GS) (h' : Hp), XI G' h' → MG G' h' → AW g mmL_law (ZL g L xs) 1054 [(3, some (.int (nI i))), (2, some (.ref 40)), (1, some (.ref 0)), (0, some (.ref 61))] [] h') : AW g mmL_law (ZL g L xs) 870 [(3, some (.int (nI i))), (2, some (.ref 40)), (1, some (.ref 0)), (0, some (.ref 61))] [] h := by
  refine am_aload_n (n := 871) (i := 1) dL_law_870 rfl rfl rfl ?_
  refine lw_arg (n := 876) (i := i) (k := 1) dL_law_871 dL_law_872 dL_law_873 dL_law_874 dL_law_875 rfl rfl rfl (by omega) hL rfl ?_
  refine lw_arg (n := 881) (i := i) (k := 2) dL_law_876 dL_law_877 dL_law_878 dL_law_879 dL_law_880 rfl rfl rfl (by omega) hL rfl ?_
  refine caL_law_98 (n := 884) dL_law_881 (cx_quarrel g (xs (i + 1)) (xs (i + 2)) _ h hX) rfl rfl (Nat.le_of_ble_eq_true rfl) isC_0 rfl ?_
  rintro r h1 ⟨rfl, X1, f1⟩
  refine am_aload_n (n := 885) (i := 2) dL_law_884 rfl rfl rfl ?_
  refine lw_arg (n := 890) (i := i) (k := 1) dL_law_885 dL_law_886 dL_law_887 dL_law_888 dL_law_889 rfl rfl rfl (by omega) hL rfl ?_
  refine lw_arg (n := 895) (i := i) (k := 2) dL_law_890 dL_law_891 dL_law_892 dL_law_893 dL_law_894 rfl rfl rfl (by omega) hL rfl ?_
  refine caL_law_101 (n := 898) dL_law_895 (cm_quarrel g (xs (i + 1)) (xs (i + 2)) _ h1 (hM.fm f1)) rfl rfl (Nat.le_of_ble_eq_true rfl) isC_40 rfl ?_
  rintro r h2 ⟨rfl, M2, f2⟩
  refine am_icmp_eq (tgt := 1054) (n := 901) dL_law_898 (by decide) rfl (fun _ => ?_) (fun q => absurd rfl q)
  exact next _ _ (X1.fr f2) M2
set_option maxRecDepth 100000 in
set_option maxHeartbeats 400000 in
theorem law_21 {g : Gx} {L : Nat} {xs : Nat → Int32} {i : Nat} {G : GS} {h : Hp} (hi : i + 5 ≤ L) (hL : L ≤ 2560) (hX : XI G h) (hM : MG G h) (next : ∀ (G' : GS) (h' : Hp), XI G' h' → MG G' h' → AW g mmL_law (ZL g L xs) 1054 [(3, some (.int (nI i))), (2, some (.ref 40)), (1, some (.ref 0)), (0, some (.ref 61))] [] h') : AW g mmL_law (ZL g L xs) 903 [(3, some (.int (nI i))), (2, some (.ref 40)), (1, some (.ref 0)), (0, some (.ref 61))] [] h := by
  refine am_aload_n (n := 904) (i := 1) dL_law_903 rfl rfl rfl ?_
  refine caL_law_102 (n := 907) dL_law_904 (cx_deafest g _ h hX) rfl rfl (Nat.le_of_ble_eq_true rfl) isC_0 rfl ?_
  rintro r h1 ⟨rfl, X1, f1⟩
  refine am_aload_n (n := 908) (i := 2) dL_law_907 rfl rfl rfl ?_
  refine caL_law_105 (n := 911) dL_law_908 (cm_deafest g _ h1 (hM.fm f1)) rfl rfl (Nat.le_of_ble_eq_true rfl) isC_40 rfl ?_
  rintro r h2 ⟨rfl, M2, f2⟩
  refine am_icmp_eq (tgt := 1054) (n := 914) dL_law_911 (by decide) rfl (fun _ => ?_) (fun q => absurd rfl q)
  exact next _ _ (X1.fr f2) M2
set_option maxRecDepth 100000 in
set_option maxHeartbeats 400000 in
theorem law_22 {g : Gx} {L : Nat} {xs : Nat → Int32} {i : Nat} {G : GS} {h : Hp} (hi : i + 5 ≤ L) (hL : L ≤ 2560) (hX : XI G h) (hM : MG G h) (next : ∀ (G' : GS) (h' : Hp), XI G' h' → MG G' h' → AW g mmL_law (ZL g L xs) 1054 [(3, some (.int (nI i))), (2, some (.ref 40)), (1, some (.ref 0)), (0, some (.ref 61))] [] h') : AW g mmL_law (ZL g L xs) 916 [(3, some (.int (nI i))), (2, some (.ref 40)), (1, some (.ref 0)), (0, some (.ref 61))] [] h := by
  refine am_aload_n (n := 917) (i := 1) dL_law_916 rfl rfl rfl ?_
  refine lw_arg (n := 922) (i := i) (k := 1) dL_law_917 dL_law_918 dL_law_919 dL_law_920 dL_law_921 rfl rfl rfl (by omega) hL rfl ?_
  refine am_i2l (n := 923) dL_law_922 rfl ?_
  refine am_bipush (n := 925) (v := 32) dL_law_923 rfl rfl ?_
  refine am_lshl (n := 926) dL_law_925 rfl ?_
  refine lw_arg (n := 931) (i := i) (k := 2) dL_law_926 dL_law_927 dL_law_928 dL_law_929 dL_law_930 rfl rfl rfl (by omega) hL rfl ?_
  refine am_i2l (n := 932) dL_law_931 rfl ?_
  refine am_ldc2 (n := 935) (v := 4294967295) dL_law_932 (by decide +kernel) rfl ?_
  refine am_land (n := 936) dL_law_935 rfl ?_
  refine am_lor (n := 937) dL_law_936 rfl ?_
  generalize hv : ((xs (i + 1)).toInt64 <<< ((32 : Int32).toInt64 &&& 63) ||| (xs (i + 2)).toInt64 &&& 4294967295 : Int64) = v
  obtain ⟨w, hw, rfl⟩ := lN_of v
  refine caL_law_108 (n := 940) dL_law_937 (cx_put g w _ h hX hw) rfl rfl (Nat.le_of_ble_eq_true rfl) isC_0 rfl ?_
  rintro r h1 ⟨rfl, X1, f1⟩
  refine am_aload_n (n := 941) (i := 2) dL_law_940 rfl rfl rfl ?_
  refine lw_arg (n := 946) (i := i) (k := 1) dL_law_941 dL_law_942 dL_law_943 dL_law_944 dL_law_945 rfl rfl rfl (by omega) hL rfl ?_
  refine am_i2l (n := 947) dL_law_946 rfl ?_
  refine am_bipush (n := 949) (v := 32) dL_law_947 rfl rfl ?_
  refine am_lshl (n := 950) dL_law_949 rfl ?_
  refine lw_arg (n := 955) (i := i) (k := 2) dL_law_950 dL_law_951 dL_law_952 dL_law_953 dL_law_954 rfl rfl rfl (by omega) hL rfl ?_
  refine am_i2l (n := 956) dL_law_955 rfl ?_
  refine am_ldc2 (n := 959) (v := 4294967295) dL_law_956 (by decide +kernel) rfl ?_
  refine am_land (n := 960) dL_law_959 rfl ?_
  refine am_lor (n := 961) dL_law_960 rfl ?_
  rw [hv]
  refine caL_law_112 (n := 964) dL_law_961 (cm_put g w _ h1 (hM.fm f1) hw) rfl rfl (Nat.le_of_ble_eq_true rfl) isC_40 rfl ?_
  rintro r h2 ⟨rfl, M2, f2⟩
  refine am_icmp_eq (tgt := 1054) (n := 967) dL_law_964 (by decide) rfl (fun _ => ?_) (fun q => absurd rfl q)
  exact next _ _ (X1.fr f2) M2
set_option maxRecDepth 100000 in
set_option maxHeartbeats 400000 in
theorem law_23 {g : Gx} {L : Nat} {xs : Nat → Int32} {i : Nat} {G : GS} {h : Hp} (hi : i + 5 ≤ L) (hL : L ≤ 2560) (hX : XI G h) (hM : MG G h) (next : ∀ (G' : GS) (h' : Hp), XI G' h' → MG G' h' → AW g mmL_law (ZL g L xs) 1054 [(3, some (.int (nI i))), (2, some (.ref 40)), (1, some (.ref 0)), (0, some (.ref 61))] [] h') : AW g mmL_law (ZL g L xs) 969 [(3, some (.int (nI i))), (2, some (.ref 40)), (1, some (.ref 0)), (0, some (.ref 61))] [] h := by
  refine am_aload_n (n := 970) (i := 1) dL_law_969 rfl rfl rfl ?_
  refine caL_law_113 (n := 973) dL_law_970 (cx_wipe g _ h hX) rfl rfl (Nat.le_of_ble_eq_true rfl) isC_0 rfl ?_
  rintro r h1 ⟨rfl, X1, f1⟩
  refine am_aload_n (n := 974) (i := 2) dL_law_973 rfl rfl rfl ?_
  refine caL_law_116 (n := 977) dL_law_974 (cm_wipe g _ h1 (hM.fm f1)) rfl rfl (Nat.le_of_ble_eq_true rfl) isC_40 rfl ?_
  rintro r h2 ⟨rfl, M2, f2⟩
  refine am_icmp_eq (tgt := 1054) (n := 980) dL_law_977 (by decide) rfl (fun _ => ?_) (fun q => absurd rfl q)
  exact next _ _ (X1.fr f2) M2
set_option maxRecDepth 100000 in
set_option maxHeartbeats 400000 in
theorem law_24 {g : Gx} {L : Nat} {xs : Nat → Int32} {i : Nat} {G : GS} {h : Hp} (hi : i + 5 ≤ L) (hL : L ≤ 2560) (hX : XI G h) (hM : MG G h) (next : ∀ (G' : GS) (h' : Hp), XI G' h' → MG G' h' → AW g mmL_law (ZL g L xs) 1054 [(3, some (.int (nI i))), (2, some (.ref 40)), (1, some (.ref 0)), (0, some (.ref 61))] [] h') : AW g mmL_law (ZL g L xs) 982 [(3, some (.int (nI i))), (2, some (.ref 40)), (1, some (.ref 0)), (0, some (.ref 61))] [] h := by
  refine am_aload_n (n := 983) (i := 1) dL_law_982 rfl rfl rfl ?_
  refine caL_law_117 (n := 986) dL_law_983 (cx_fault g _ h hX) rfl rfl (Nat.le_of_ble_eq_true rfl) isC_0 rfl ?_
  rintro r h1 ⟨rfl, X1, f1⟩
  refine am_aload_n (n := 987) (i := 2) dL_law_986 rfl rfl rfl ?_
  refine caL_law_120 (n := 990) dL_law_987 (cm_fault g _ h1 (hM.fm f1)) rfl rfl (Nat.le_of_ble_eq_true rfl) isC_40 rfl ?_
  rintro r h2 ⟨rfl, M2, f2⟩
  refine am_icmp_eq (tgt := 1054) (n := 993) dL_law_990 (by decide) rfl (fun _ => ?_) (fun q => absurd rfl q)
  exact next _ _ (X1.fr f2) M2
set_option maxRecDepth 100000 in
set_option maxHeartbeats 400000 in
theorem law_25 {g : Gx} {L : Nat} {xs : Nat → Int32} {i : Nat} {G : GS} {h : Hp} (hi : i + 5 ≤ L) (hL : L ≤ 2560) (hX : XI G h) (hM : MG G h) (next : ∀ (G' : GS) (h' : Hp), XI G' h' → MG G' h' → AW g mmL_law (ZL g L xs) 1054 [(3, some (.int (nI i))), (2, some (.ref 40)), (1, some (.ref 0)), (0, some (.ref 61))] [] h') : AW g mmL_law (ZL g L xs) 995 [(3, some (.int (nI i))), (2, some (.ref 40)), (1, some (.ref 0)), (0, some (.ref 61))] [] h := by
  refine am_aload_n (n := 996) (i := 1) dL_law_995 rfl rfl rfl ?_
  refine caL_law_121 (n := 999) dL_law_996 (cx_undo g _ h hX) rfl rfl (Nat.le_of_ble_eq_true rfl) isC_0 rfl ?_
  rintro r h1 ⟨rfl, X1, f1⟩
  refine am_aload_n (n := 1000) (i := 2) dL_law_999 rfl rfl rfl ?_
  refine caL_law_124 (n := 1003) dL_law_1000 (cm_undo g _ h1 (hM.fm f1)) rfl rfl (Nat.le_of_ble_eq_true rfl) isC_40 rfl ?_
  rintro r h2 ⟨rfl, M2, f2⟩
  refine am_icmp_eq (tgt := 1054) (n := 1006) dL_law_1003 (by decide) rfl (fun _ => ?_) (fun q => absurd rfl q)
  exact next _ _ (X1.fr f2) M2
set_option maxRecDepth 100000 in
set_option maxHeartbeats 400000 in
theorem law_26 {g : Gx} {L : Nat} {xs : Nat → Int32} {i : Nat} {G : GS} {h : Hp} (hi : i + 5 ≤ L) (hL : L ≤ 2560) (hX : XI G h) (hM : MG G h) (next : ∀ (G' : GS) (h' : Hp), XI G' h' → MG G' h' → AW g mmL_law (ZL g L xs) 1054 [(3, some (.int (nI i))), (2, some (.ref 40)), (1, some (.ref 0)), (0, some (.ref 61))] [] h') : AW g mmL_law (ZL g L xs) 1008 [(3, some (.int (nI i))), (2, some (.ref 40)), (1, some (.ref 0)), (0, some (.ref 61))] [] h := by
  refine am_aload_n (n := 1009) (i := 1) dL_law_1008 rfl rfl rfl ?_
  refine lw_arg (n := 1014) (i := i) (k := 1) dL_law_1009 dL_law_1010 dL_law_1011 dL_law_1012 dL_law_1013 rfl rfl rfl (by omega) hL rfl ?_
  refine caL_law_125 (n := 1017) dL_law_1014 (cx_save g (xs (i + 1)) _ h hX) rfl rfl (Nat.le_of_ble_eq_true rfl) isC_0 rfl ?_
  rintro r h1 ⟨rfl, X1, f1⟩
  refine am_aload_n (n := 1018) (i := 2) dL_law_1017 rfl rfl rfl ?_
  refine lw_arg (n := 1023) (i := i) (k := 1) dL_law_1018 dL_law_1019 dL_law_1020 dL_law_1021 dL_law_1022 rfl rfl rfl (by omega) hL rfl ?_
  refine caL_law_128 (n := 1026) dL_law_1023 (cm_save g (xs (i + 1)) _ h1 (hM.fm f1)) rfl rfl (Nat.le_of_ble_eq_true rfl) isC_40 rfl ?_
  rintro r h2 ⟨rfl, M2, f2⟩
  refine am_icmp_eq (tgt := 1054) (n := 1029) dL_law_1026 (by decide) rfl (fun _ => ?_) (fun q => absurd rfl q)
  exact next _ _ (X1.fr f2) M2
set_option maxRecDepth 100000 in
set_option maxHeartbeats 400000 in
theorem law_27 {g : Gx} {L : Nat} {xs : Nat → Int32} {i : Nat} {G : GS} {h : Hp} (hi : i + 5 ≤ L) (hL : L ≤ 2560) (hX : XI G h) (hM : MG G h) (next : ∀ (G' : GS) (h' : Hp), XI G' h' → MG G' h' → AW g mmL_law (ZL g L xs) 1054 [(3, some (.int (nI i))), (2, some (.ref 40)), (1, some (.ref 0)), (0, some (.ref 61))] [] h') : AW g mmL_law (ZL g L xs) 1031 [(3, some (.int (nI i))), (2, some (.ref 40)), (1, some (.ref 0)), (0, some (.ref 61))] [] h := by
  refine am_aload_n (n := 1032) (i := 1) dL_law_1031 rfl rfl rfl ?_
  refine lw_arg (n := 1037) (i := i) (k := 1) dL_law_1032 dL_law_1033 dL_law_1034 dL_law_1035 dL_law_1036 rfl rfl rfl (by omega) hL rfl ?_
  refine caL_law_129 (n := 1040) dL_law_1037 (cx_restore g (xs (i + 1)) _ h hX) rfl rfl (Nat.le_of_ble_eq_true rfl) isC_0 rfl ?_
  rintro r h1 ⟨rfl, X1, f1⟩
  refine am_aload_n (n := 1041) (i := 2) dL_law_1040 rfl rfl rfl ?_
  refine lw_arg (n := 1046) (i := i) (k := 1) dL_law_1041 dL_law_1042 dL_law_1043 dL_law_1044 dL_law_1045 rfl rfl rfl (by omega) hL rfl ?_
  refine caL_law_132 (n := 1049) dL_law_1046 (cm_restore g (xs (i + 1)) _ h1 (hM.fm f1)) rfl rfl (Nat.le_of_ble_eq_true rfl) isC_40 rfl ?_
  rintro r h2 ⟨rfl, M2, f2⟩
  refine am_icmp_eq (tgt := 1054) (n := 1052) dL_law_1049 (by decide) rfl (fun _ => ?_) (fun q => absurd rfl q)
  exact next _ _ (X1.fr f2) M2
set_option maxRecDepth 100000 in
set_option maxHeartbeats 1000000 in
theorem law_loop {g : Gx} {L : Nat} {xs : Nat → Int32} (hL : L ≤ 2560) : ∀ (d i : Nat) (G : GS) (h : Hp), i ≤ L → L < i + d → XI G h → MG G h → AW g mmL_law (ZL g L xs) 18 [(3, some (.int (nI i))), (2, some (.ref 40)), (1, some (.ref 0)), (0, some (.ref 61))] [] h := by
  intro d
  induction d with
  | zero =>
    intro i G h h1 h2
    omega
  | succ d ih =>
    intro i G h h1 h2 hX hM
    refine am_iload_n (n := 19) (i := 3) dL_law_18 rfl rfl rfl ?_
    refine am_aload_n (n := 20) (i := 0) dL_law_19 rfl rfl rfl ?_
    refine am_slen (n := 21) dL_law_20 rfl ?_
    refine am_iconst (n := 22) (v := 5) dL_law_21 rfl rfl ?_
    refine am_isub (n := 23) dL_law_22 rfl ?_
    refine am_icmp_gt (tgt := 1060) (n := 26) dL_law_23 (by decide) rfl (fun _ => ?_) (fun c => ?_)
    · refine am_iconst (n := 1061) (v := 1) dL_law_1060 rfl rfl ?_
      exact am_end dL_law_1061
    · have hi : i + 5 ≤ L := by
        have := (not_congr (len5 (i := i) (L := L) (by omega) hL)).mp c
        omega
      refine am_aload_n (n := 27) (i := 0) dL_law_26 rfl rfl rfl ?_
      refine am_iload_n (n := 28) (i := 3) dL_law_27 rfl rfl rfl ?_
      refine am_sld (n := 29) dL_law_28 (by omega) hL rfl ?_
      refine am_bipush (n := 31) (v := 31) dL_law_29 rfl rfl ?_
      refine am_iand (n := 32) dL_law_31 rfl ?_
      have next : ∀ (G' : GS) (h' : Hp), XI G' h' → MG G' h' → AW g mmL_law (ZL g L xs) 1054 [(3, some (.int (nI i))), (2, some (.ref 40)), (1, some (.ref 0)), (0, some (.ref 61))] [] h' := by
        intro G' h' X' M'
        refine am_iinc (n := 1057) (v := nI (i + 5)) dL_law_1054 rfl (nI_add i 5) rfl rfl ?_
        refine am_goto (tgt := 18) dL_law_1057 (by decide) ?_
        refine am_loc [(3, some (.int (nI (i + 5)))), (2, some (.ref 40)), (1, some (.ref 0)), (0, some (.ref 61))] rfl ?_
        exact ih (i + 5) G' h' hi (by omega) X' M'
      obtain ⟨v, hv, e⟩ := and31 (xs i)
      rw [e]
      match v, hv with
      | 0, _ => exact am_tableIn (tgt := 160) dL_law_32 (by decide) (by decide) rfl (by decide) (law_0 hi hL hX hM next)
      | 1, _ => exact am_tableIn (tgt := 193) dL_law_32 (by decide) (by decide) rfl (by decide) (law_1 hi hL hX hM next)
      | 2, _ => exact am_tableIn (tgt := 206) dL_law_32 (by decide) (by decide) rfl (by decide) (law_2 hi hL hX hM next)
      | 3, _ => exact am_tableIn (tgt := 229) dL_law_32 (by decide) (by decide) rfl (by decide) (law_3 hi hL hX hM next)
      | 4, _ => exact am_tableIn (tgt := 252) dL_law_32 (by decide) (by decide) rfl (by decide) (law_4 hi hL hX hM next)
      | 5, _ => exact am_tableIn (tgt := 295) dL_law_32 (by decide) (by decide) rfl (by decide) (law_5 hi hL hX hM next)
      | 6, _ => exact am_tableIn (tgt := 338) dL_law_32 (by decide) (by decide) rfl (by decide) (law_6 hi hL hX hM next)
      | 7, _ => exact am_tableIn (tgt := 371) dL_law_32 (by decide) (by decide) rfl (by decide) (law_7 hi hL hX hM next)
      | 8, _ => exact am_tableIn (tgt := 414) dL_law_32 (by decide) (by decide) rfl (by decide) (law_8 hi hL hX hM next)
      | 9, _ => exact am_tableIn (tgt := 437) dL_law_32 (by decide) (by decide) rfl (by decide) (law_9 hi hL hX hM next)
      | 10, _ => exact am_tableIn (tgt := 470) dL_law_32 (by decide) (by decide) rfl (by decide) (law_10 hi hL hX hM next)
      | 11, _ => exact am_tableIn (tgt := 513) dL_law_32 (by decide) (by decide) rfl (by decide) (law_11 hi hL hX hM next)
      | 12, _ => exact am_tableIn (tgt := 546) dL_law_32 (by decide) (by decide) rfl (by decide) (law_12 hi hL hX hM next)
      | 13, _ => exact am_tableIn (tgt := 599) dL_law_32 (by decide) (by decide) rfl (by decide) (law_13 hi hL hX hM next)
      | 14, _ => exact am_tableIn (tgt := 642) dL_law_32 (by decide) (by decide) rfl (by decide) (law_14 hi hL hX hM next)
      | 15, _ => exact am_tableIn (tgt := 665) dL_law_32 (by decide) (by decide) rfl (by decide) (law_15 hi hL hX hM next)
      | 16, _ => exact am_tableIn (tgt := 708) dL_law_32 (by decide) (by decide) rfl (by decide) (law_16 hi hL hX hM next)
      | 17, _ => exact am_tableIn (tgt := 741) dL_law_32 (by decide) (by decide) rfl (by decide) (law_17 hi hL hX hM next)
      | 18, _ => exact am_tableIn (tgt := 784) dL_law_32 (by decide) (by decide) rfl (by decide) (law_18 hi hL hX hM next)
      | 19, _ => exact am_tableIn (tgt := 837) dL_law_32 (by decide) (by decide) rfl (by decide) (law_19 hi hL hX hM next)
      | 20, _ => exact am_tableIn (tgt := 870) dL_law_32 (by decide) (by decide) rfl (by decide) (law_20 hi hL hX hM next)
      | 21, _ => exact am_tableIn (tgt := 903) dL_law_32 (by decide) (by decide) rfl (by decide) (law_21 hi hL hX hM next)
      | 22, _ => exact am_tableIn (tgt := 916) dL_law_32 (by decide) (by decide) rfl (by decide) (law_22 hi hL hX hM next)
      | 23, _ => exact am_tableIn (tgt := 969) dL_law_32 (by decide) (by decide) rfl (by decide) (law_23 hi hL hX hM next)
      | 24, _ => exact am_tableIn (tgt := 982) dL_law_32 (by decide) (by decide) rfl (by decide) (law_24 hi hL hX hM next)
      | 25, _ => exact am_tableIn (tgt := 995) dL_law_32 (by decide) (by decide) rfl (by decide) (law_25 hi hL hX hM next)
      | 26, _ => exact am_tableIn (tgt := 1008) dL_law_32 (by decide) (by decide) rfl (by decide) (law_26 hi hL hX hM next)
      | 27, _ => exact am_tableIn (tgt := 1031) dL_law_32 (by decide) (by decide) rfl (by decide) (law_27 hi hL hX hM next)
      | 28, _ => exact am_tableOut (tgt := 1054) dL_law_32 (Or.inr (by decide)) (by decide) (next G h hX hM)
      | 29, _ => exact am_tableOut (tgt := 1054) dL_law_32 (Or.inr (by decide)) (by decide) (next G h hX hM)
      | 30, _ => exact am_tableOut (tgt := 1054) dL_law_32 (Or.inr (by decide)) (by decide) (next G h hX hM)
      | 31, _ => exact am_tableOut (tgt := 1054) dL_law_32 (Or.inr (by decide)) (by decide) (next G h hX hM)
      | z + 32, q => exact absurd q (by omega)
