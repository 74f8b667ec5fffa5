/-! THE CONSTRUCTORS: Ear, Drawers, Meter, Pad, the reference, State, the class -/
theorem hfX1 : ∀ j, j < 7 → defaultValue (tyX1 j) = vp_V [.int 0, .null, .null, .int 0, .null, .null, .null] j := fun j hj => match j, hj with | 0, _ => rfl | 1, _ => rfl | 2, _ => rfl | 3, _ => rfl | 4, _ => rfl | 5, _ => rfl | 6, _ => rfl | z + 7, h => absurd h (by omega)
theorem hfX2 : ∀ j, j < 8 → defaultValue (tyX2 j) = vp_V [.null, .null, .int 0, .int 0, .null, .null, .null, .null] j := fun j hj => match j, hj with | 0, _ => rfl | 1, _ => rfl | 2, _ => rfl | 3, _ => rfl | 4, _ => rfl | 5, _ => rfl | 6, _ => rfl | 7, _ => rfl | z + 8, h => absurd h (by omega)
theorem hfX3 : ∀ j, j < 2 → defaultValue (tyX3 j) = vp_V [.null, .null] j := fun j hj => match j, hj with | 0, _ => rfl | 1, _ => rfl | z + 2, h => absurd h (by omega)
theorem hfX4 : ∀ j, j < 2 → defaultValue (tyX4 j) = vp_V [.null, .int 0] j := fun j hj => match j, hj with | 0, _ => rfl | 1, _ => rfl | z + 2, h => absurd h (by omega)
theorem hfX5 : ∀ j, j < 6 → defaultValue (tyX5 j) = vp_V [.int 0, .int 0, .int 0, .null, .int 0, .null] j := fun j hj => match j, hj with | 0, _ => rfl | 1, _ => rfl | 2, _ => rfl | 3, _ => rfl | 4, _ => rfl | 5, _ => rfl | z + 6, h => absurd h (by omega)
theorem hfX7 : ∀ j, j < 10 → defaultValue (tyX7 j) = vp_V [.null, .null, .int 0, .null, .null, .null, .null, .null, .null, .null] j := fun j hj => match j, hj with | 0, _ => rfl | 1, _ => rfl | 2, _ => rfl | 3, _ => rfl | 4, _ => rfl | 5, _ => rfl | 6, _ => rfl | 7, _ => rfl | 8, _ => rfl | 9, _ => rfl | z + 10, h => absurd h (by omega)
def lf (L : List Nat) (k : Nat) : Nat := L.getD k 0
theorem cw_rev {g : Gx} {M : MI} {nm : String} {A : Nat → Prop} {Q : Mq} {k n pc : Nat} {l : Lo} {st : List Value} {ws ws' : va_W} (h : ws' = ws.reverse) (kk : CW g M nm A Q k n pc l st ws') : CW g M nm A Q k n pc l st ws := by
  subst h
  exact cw_to (fun H hP => va_P_mem hP (fun q hq => List.mem_reverse.mp hq)) ((List.reverse_perm ws).symm.map _) kk
theorem arrV_ext {cA : ClassId} {n : Nat} {f f' : Nat → Value} (h : ∀ j, j < n → f j = f' j) : arrV cA n f = arrV cA n f' := by
  unfold arrV
  rw [show (fun j : Fin n => f j.val) = (fun j : Fin n => f' j.val) from funext (fun j => h j.val j.isLt)]
theorem at_i {D : va_G} {cl : List vw_C} {a n : Nat} {cA : ClassId} {f f' : Nat → Int32} {H : Heap} (h : va_at D cl (a, .inl (cA, n, .inl f)) H) (e : ∀ j, j < n → f j = f' j) : va_at D cl (a, .inl (cA, n, .inl f')) H := by
  have h1 : H[a]? = some (arrV cA n (fun j => .int (f j))) := h
  show H[a]? = some (arrV cA n (fun j => .int (f' j)))
  rw [h1, arrV_ext (fun j hj => by rw [e j hj])]
theorem at_j {D : va_G} {cl : List vw_C} {a n : Nat} {cA : ClassId} {f f' : Nat → Int64} {H : Heap} (h : va_at D cl (a, .inl (cA, n, .inr (.inl f))) H) (e : ∀ j, j < n → f j = f' j) : va_at D cl (a, .inl (cA, n, .inr (.inl f'))) H := by
  have h1 : H[a]? = some (arrV cA n (fun j => .long (f j))) := h
  show H[a]? = some (arrV cA n (fun j => .long (f' j)))
  rw [h1, arrV_ext (fun j hj => by rw [e j hj])]
theorem at_q {D : va_G} {cl : List vw_C} {a n : Nat} {cA : ClassId} {f f' : Nat → Option Nat} {H : Heap} (h : va_at D cl (a, .inl (cA, n, .inr (.inr (.inr (.inr f))))) H) (e : ∀ j, j < n → f j = f' j) : va_at D cl (a, .inl (cA, n, .inr (.inr (.inr (.inr f'))))) H := by
  have h1 : H[a]? = some (arrV cA n (fun j => va_rf (f j))) := h
  show H[a]? = some (arrV cA n (fun j => va_rf (f' j)))
  rw [h1, arrV_ext (fun j hj => by rw [e j hj])]
def earX (g : Gx) (F : Nat → Nat) (f1 f2 : Nat → Int32) : va_W := [(F 0, .inr (1, [.ref (F 1), .ref (F 2), .int 0, .int 0, .ref (F 3), .ref (F 4), .ref (F 5), .ref (F 6)])), (F 1, .inl (g.2.2.2 1, 26, .inl f1)), (F 2, .inl (g.2.2.2 1, 26, .inl f2)), (F 3, .inl (g.2.2.2 1, 6, .inl (fun _ => 0))), (F 4, .inl (g.2.2.2 1, 6, .inl (fun _ => 0))), (F 5, .inl (g.2.2.2 1, 6, .inl (fun _ => 0))), (F 6, .inl (g.2.2.2 1, 6, .inl (fun _ => 0)))]
def earW (g : Gx) (F : Nat → Nat) : va_W := earX g F firstK (fun _ => -6)
theorem mem_ear (g : Gx) (F : Nat → Nat) : (F 0, .inr (1, [.ref (F 1), .ref (F 2), .int 0, .int 0, .ref (F 3), .ref (F 4), .ref (F 5), .ref (F 6)])) ∈ earW g F := List.mem_cons_self
def padW (g : Gx) (F : Nat → Nat) : va_W := [(F 0, .inr (3, [.ref (F 1), .int 0])), (F 1, .inl (g.2.2.2 0, 80, .inl (fun _ => 0)))]
def drW (g : Gx) (F : Nat → Nat) : va_W := [(F 0, .inr (0, [.int 0, .ref (F 1), .ref (F 2), .int 0, .ref (F 3), .ref (F 4), .ref (F 5)])), (F 1, .inl (g.2.2.2 1, 24, .inl (fun _ => 0))), (F 2, .inl (g.2.2.2 1, 96, .inl (fun _ => 0))), (F 3, .inl (g.2.2.2 1, 96, .inl (fun _ => 0))), (F 4, .inl (g.2.2.2 1, 96, .inl (fun _ => 0))), (F 5, .inl (g.2.2.2 1, 4, .inl (fun _ => 0)))]
def mtW (g : Gx) (F : Nat → Nat) : va_W := [(F 0, .inr (2, [.ref (F 1), .ref (F 2)])), (F 1, .inl (g.2.2.2 1, 11, .inl (fun _ => 0))), (F 2, .inl (g.2.2.2 1, 24, .inl (fun _ => 0)))]
def stW (g : Gx) (F : Nat → Nat) : va_W := (F 0, .inr (4, [.int 4, .int 24, .int 0, .ref (F 1), .int 0, .ref (F 2)])) :: (F 1, .inl (g.2.2.2 2, 24, .inr (.inl (fun _ => 0)))) :: (F 2, .inl (g.2.2.2 4, 4, .inr (.inr (.inr (.inr (fun j => [F 10, F 20, F 30, F 40][j]?)))))) :: (((([] ++ earW g (fun k => F (10 + k))) ++ earW g (fun k => F (20 + k))) ++ earW g (fun k => F (30 + k))) ++ earW g (fun k => F (40 + k)))
theorem mem_st (g : Gx) (F : Nat → Nat) : (F 0, .inr (4, [.int 4, .int 24, .int 0, .ref (F 1), .int 0, .ref (F 2)])) ∈ stW g F := List.mem_cons_self
def ciW (g : Gx) (F : Nat → Nat) : va_W := (F 0, .inr (5, [.ref (F 100), .ref (F 1), .int 0, .ref (F 2), .ref (F 3), .ref (F 4), .ref (F 6), .ref (F 12), .ref (F 30), .ref (F 18)])) :: (F 1, .inl (g.2.2.2 5, 6, .inr (.inr (.inr (.inr (fun j => [F 200, F 300, F 400, F 500, F 600, F 700][j]?)))))) :: (F 2, .inl (g.2.2.2 5, 2, .inr (.inr (.inr (.inr (fun j => [F 800, F 900][j]?)))))) :: (F 3, .inl (g.2.2.2 3, 2, .inl (fun _ => 0))) :: (((((((((((((([] ++ stW g (fun k => F (100 + k))) ++ padW g (fun k => F (4 + k))) ++ drW g (fun k => F (6 + k))) ++ drW g (fun k => F (12 + k))) ++ earW g (fun k => F (30 + k))) ++ mtW g (fun k => F (18 + k))) ++ stW g (fun k => F (200 + k))) ++ stW g (fun k => F (300 + k))) ++ stW g (fun k => F (400 + k))) ++ stW g (fun k => F (500 + k))) ++ stW g (fun k => F (600 + k))) ++ stW g (fun k => F (700 + k))) ++ stW g (fun k => F (800 + k))) ++ stW g (fun k => F (900 + k)))
def lqW (g : Gx) (F : Nat → Nat) : va_W := [(F 0, .inl (g.2.2.2 2, 24, .inr (.inl (fun _ => 0)))), (F 1, .inl (g.2.2.2 1, 2, .inl (upd (fun _ => 0) (Int32.toNatClampNeg 1) 24)))]
abbrev rkX2_beAsAtFirst : Room := { frames := 0, cells := 0, slots := 0, locals := 0 }
abbrev mkX2_beAsAtFirst : MI := (wsX2_beAsAtFirst, cX2_beAsAtFirst, RX2, 2, none, rkX2_beAsAtFirst)
set_option maxRecDepth 100000 in
set_option maxHeartbeats 1000000 in
theorem cc_X2_beAsAtFirst (g : Gx) (F : Nat → Nat) (f1 f2 : Nat → Int32) : CC g yX2_beAsAtFirst wsX2_beAsAtFirst rkX2_beAsAtFirst [.ref (F 0)] (earX g F f1 f2) 0 0 (fun w => ∃ f1 f2 : Nat → Int32, (∀ j, j < 26 → f1 j = firstK j ∧ f2 j = -6) ∧ w = earX g F f1 f2) := by
  refine CC.of (cc := cX2_beAsAtFirst) (maxL := 2) (by decide +kernel) rfl (Nat.le_of_ble_eq_true rfl) (fun sz => ?_)
  show CW g mkX2_beAsAtFirst _ _ _ 0 0 0 [(0, some (.ref (F 0)))] [] _
  refine cw_iconst (n1 := 1) (v := 0) dX2_beAsAtFirst_0 rfl rfl ?_
  refine cw_istore_n (n1 := 2) (i := 1) dX2_beAsAtFirst_1 rfl (Nat.le_of_ble_eq_true rfl) rfl rfl ?_
  have key : ∀ i, i ≤ 26 → (fun i => ∀ (f1' f2' : Nat → Int32) (l : Lo), (∀ j, j < i → f1' j = firstK j ∧ f2' j = -6) → lget l 0 = some (.ref (F 0)) → lget l 1 = some (.int (nI i)) → okst l 1 = true → CW g mkX2_beAsAtFirst yX2_beAsAtFirst.name (va_A (earX g F f1 f2) sz) (QV g (earX g F f1 f2) sz (fun w => ∃ f1 f2 : Nat → Int32, (∀ j, j < 26 → f1 j = firstK j ∧ f2 j = -6) ∧ w = earX g F f1 f2) 0 0) 0 0 2 l [] (earX g F f1' f2')) i := by
    refine loop_up 26 (fun f1' f2' l hf l0 l1 lk => ?_) (fun i hi ih f1' f2' l hf l0 l1 lk => ?_)
    · refine cw_iload_n (n1 := 3) (i := 1) dX2_beAsAtFirst_2 rfl l1 rfl ?_
      refine cw_bipush (n1 := 5) (v := 26) dX2_beAsAtFirst_3 rfl rfl ?_
      refine cw_icmp_ge (tgt := 33) (n1 := 8) dX2_beAsAtFirst_5 (by decide) rfl (fun _ => ?_) (fun q_z => absurd (by decide) q_z)
      refine cw_aload_n (n1 := 34) (i := 0) dX2_beAsAtFirst_33 rfl l0 rfl ?_
      refine cw_iconst (n1 := 35) (v := 0) dX2_beAsAtFirst_34 rfl rfl ?_
      refine cw_put (n1 := 38) (own := RX2) (C := RX2) (T := TX2) (N := 8) (ci := 1) (j := 2) (q0 := 0) (ty := tyX2 2) (ws' := earX g F f1' f2') dX2_beAsAtFirst_35 rfl iwX2_beAsAtFirst_X2 tyX2_ok nmX2 rfl rfl (by decide) (by decide +kernel) (Or.inl rfl) (tyX2_ok 2 (by decide)) rfl rfl (Nat.le_of_ble_eq_true rfl) rfl rfl ?_
      refine cw_aload_n (n1 := 39) (i := 0) dX2_beAsAtFirst_38 rfl l0 rfl ?_
      refine cw_iconst (n1 := 40) (v := 0) dX2_beAsAtFirst_39 rfl rfl ?_
      refine cw_put (n1 := 43) (own := RX2) (C := RX2) (T := TX2) (N := 8) (ci := 1) (j := 3) (q0 := 0) (ty := tyX2 3) (ws' := earX g F f1' f2') dX2_beAsAtFirst_40 rfl iwX2_beAsAtFirst_X2 tyX2_ok nmX2 rfl rfl (by decide) (by decide +kernel) (Or.inl rfl) (tyX2_ok 3 (by decide)) rfl rfl (Nat.le_of_ble_eq_true rfl) rfl rfl ?_
      exact cw_vret dX2_beAsAtFirst_43 rfl ⟨f1', f2', hf, rfl⟩
    · refine cw_iload_n (n1 := 3) (i := 1) dX2_beAsAtFirst_2 rfl l1 rfl ?_
      refine cw_bipush (n1 := 5) (v := 26) dX2_beAsAtFirst_3 rfl rfl ?_
      refine cw_icmp_ge (tgt := 33) (n1 := 8) dX2_beAsAtFirst_5 (by decide) rfl (fun q_z => absurd (nI_lt hi (by decide)) (Int32.not_lt.mpr q_z)) (fun _ => ?_)
      refine cw_aload_n (n1 := 9) (i := 0) dX2_beAsAtFirst_8 rfl l0 rfl ?_
      refine cw_get (n1 := 12) (own := RX2) (C := RX2) (T := TX2) (N := 8) (ci := 1) (j := 0) (q0 := 0) dX2_beAsAtFirst_9 rfl iwX2_beAsAtFirst_X2 rfl rfl (by decide) (by decide +kernel) rfl rfl ?_
      refine cw_iload_n (n1 := 13) (i := 1) dX2_beAsAtFirst_12 rfl l1 rfl ?_
      refine cw_gets (n1 := 16) dX2_beAsAtFirst_13 (by decide +kernel) rfl ?_
      refine cw_iload_n (n1 := 17) (i := 1) dX2_beAsAtFirst_16 rfl l1 rfl ?_
      refine cw_ti (n1 := 18) dX2_beAsAtFirst_17 (vp_in_nI hi (by omega)) rfl ?_
      refine cw_iast (n1 := 19) (t := 1) (q0 := 1) (ws' := earX g F (upd f1' (nI i).toNatClampNeg (firstK (nI i).toNatClampNeg)) f2') dX2_beAsAtFirst_18 rfl rfl (vp_in_nI hi (by omega)) rfl rfl ?_
      refine cw_aload_n (n1 := 20) (i := 0) dX2_beAsAtFirst_19 rfl l0 rfl ?_
      refine cw_get (n1 := 23) (own := RX2) (C := RX2) (T := TX2) (N := 8) (ci := 1) (j := 1) (q0 := 0) dX2_beAsAtFirst_20 rfl iwX2_beAsAtFirst_X2 rfl rfl (by decide) (by decide +kernel) rfl rfl ?_
      refine cw_iload_n (n1 := 24) (i := 1) dX2_beAsAtFirst_23 rfl l1 rfl ?_
      refine cw_bipush (n1 := 26) (v := -6) dX2_beAsAtFirst_24 rfl rfl ?_
      refine cw_iast (n1 := 27) (t := 1) (q0 := 2) (ws' := earX g F (upd f1' (nI i).toNatClampNeg (firstK (nI i).toNatClampNeg)) (upd f2' (nI i).toNatClampNeg (-6))) dX2_beAsAtFirst_26 rfl rfl (vp_in_nI hi (by omega)) rfl rfl ?_
      refine cw_iinc (n1 := 30) (v := nI (i + 1)) dX2_beAsAtFirst_27 l1 (nI_1 i) lk rfl ?_
      refine cw_goto (tgt := 2) dX2_beAsAtFirst_30 (by decide) ?_
      refine ih _ _ _ (fun j hj => ?_) (by rw [lget_ne _ _ (by decide)]; exact l0) (lget_self _ _ _) (by show okst ((1, _) :: l) 1 = true; simp only [okst, lget_ne _ _ (show (1 : Nat) ≠ 0 by decide), l0]; rfl)
      rw [nI_clamp (by omega)]
      by_cases z : j = i
      · subst z
        simp [upd]
      · simp only [upd, if_neg z]
        exact hf j (by omega)
  exact key 0 (by omega) f1 f2 _ (fun j hj => by omega) rfl rfl rfl
abbrev rmX2_init : Room := { frames := 1, cells := 6, slots := 76, locals := 21 }
abbrev mmX2_init : MI := (wsX2_init, cX2_init, RX2, 1, none, rmX2_init)
theorem iwX2_init_X2 : ∀ w ∈ wsX20, w ∈ wsX2_init := by decide +kernel
set_option maxRecDepth 100000 in
set_option maxHeartbeats 1000000 in
theorem cc_X2_init (g : Gx) (h0 : Nat) : CC g yX2_init wsX2_init rmX2_init [.ref h0] [(h0, .inr (1, [.null, .null, .int 0, .int 0, .null, .null, .null, .null]))] 6 76 (fun w => ∃ F : Nat → Nat, F 0 = h0 ∧ w = earW g F) := by
  refine CC.of (cc := cX2_init) (maxL := 1) (by decide +kernel) rfl (Nat.le_of_ble_eq_true rfl) (fun sz => ?_)
  show CW g mmX2_init "<init>" _ _ 0 0 0 [(0, some (.ref h0))] [] [(h0, .inr (1, [.null, .null, .int 0, .int 0, .null, .null, .null, .null]))]
  refine cw_aload_n (n1 := 1) (i := 0) dX2_init_0 rfl rfl rfl ?_
  refine cw_objInit (n1 := 4) dX2_init_1 (by decide +kernel) (by decide +kernel) (by decide +kernel) (Nat.le_of_ble_eq_true rfl) (Nat.le_of_ble_eq_true rfl) rfl ?_
  refine cw_aload_n (n1 := 5) (i := 0) dX2_init_4 rfl rfl rfl ?_
  refine cw_bipush (n1 := 7) (v := 26) dX2_init_5 rfl rfl ?_
  refine cw_newa (n1 := 9) (t := 1) (ty := .int) (N' := 26) (k' := 1) (n' := 26) (cI := g.2.2.2 1) (a0 := (26, .inl (fun _ => 0))) (atype := .int) dX2_init_7 (by decide +kernel) rfl rfl (fun _ => rfl) (by decide) (by decide +kernel) (Nat.le_of_ble_eq_true rfl) rfl rfl (Nat.le_of_ble_eq_true rfl) (Nat.le_of_ble_eq_true rfl) rfl (fun q1 => ?_)
  refine cw_put (n1 := 12) (own := RX2) (C := RX2) (T := TX2) (N := 8) (ci := 1) (j := 0) (q0 := 1) (ty := tyX2 0) (ws' := [(q1, .inl (g.2.2.2 1, 26, .inl (fun _ => 0))), (h0, .inr (1, [.ref (q1), .null, .int 0, .int 0, .null, .null, .null, .null]))]) dX2_init_9 rfl iwX2_init_X2 tyX2_ok nmX2 rfl rfl (by decide) (by decide +kernel) (Or.inr ⟨rfl, rfl, rfl⟩) (tyX2_ok 0 (by decide)) rfl rfl (Nat.le_of_ble_eq_true rfl) rfl rfl ?_
  refine cw_aload_n (n1 := 13) (i := 0) dX2_init_12 rfl rfl rfl ?_
  refine cw_bipush (n1 := 15) (v := 26) dX2_init_13 rfl rfl ?_
  refine cw_newa (n1 := 17) (t := 1) (ty := .int) (N' := 26) (k' := 2) (n' := 52) (cI := g.2.2.2 1) (a0 := (26, .inl (fun _ => 0))) (atype := .int) dX2_init_15 (by decide +kernel) rfl rfl (fun _ => rfl) (by decide) (by decide +kernel) (Nat.le_of_ble_eq_true rfl) rfl rfl (Nat.le_of_ble_eq_true rfl) (Nat.le_of_ble_eq_true rfl) rfl (fun q2 => ?_)
  refine cw_put (n1 := 20) (own := RX2) (C := RX2) (T := TX2) (N := 8) (ci := 1) (j := 1) (q0 := 2) (ty := tyX2 1) (ws' := [(q2, .inl (g.2.2.2 1, 26, .inl (fun _ => 0))), (q1, .inl (g.2.2.2 1, 26, .inl (fun _ => 0))), (h0, .inr (1, [.ref (q1), .ref (q2), .int 0, .int 0, .null, .null, .null, .null]))]) dX2_init_17 rfl iwX2_init_X2 tyX2_ok nmX2 rfl rfl (by decide) (by decide +kernel) (Or.inr ⟨rfl, rfl, rfl⟩) (tyX2_ok 1 (by decide)) rfl rfl (Nat.le_of_ble_eq_true rfl) rfl rfl ?_
  refine cw_aload_n (n1 := 21) (i := 0) dX2_init_20 rfl rfl rfl ?_
  refine cw_bipush (n1 := 23) (v := 6) dX2_init_21 rfl rfl ?_
  refine cw_newa (n1 := 25) (t := 1) (ty := .int) (N' := 6) (k' := 3) (n' := 58) (cI := g.2.2.2 1) (a0 := (6, .inl (fun _ => 0))) (atype := .int) dX2_init_23 (by decide +kernel) rfl rfl (fun _ => rfl) (by decide) (by decide +kernel) (Nat.le_of_ble_eq_true rfl) rfl rfl (Nat.le_of_ble_eq_true rfl) (Nat.le_of_ble_eq_true rfl) rfl (fun q3 => ?_)
  refine cw_put (n1 := 28) (own := RX2) (C := RX2) (T := TX2) (N := 8) (ci := 1) (j := 4) (q0 := 3) (ty := tyX2 4) (ws' := [(q3, .inl (g.2.2.2 1, 6, .inl (fun _ => 0))), (q2, .inl (g.2.2.2 1, 26, .inl (fun _ => 0))), (q1, .inl (g.2.2.2 1, 26, .inl (fun _ => 0))), (h0, .inr (1, [.ref (q1), .ref (q2), .int 0, .int 0, .ref (q3), .null, .null, .null]))]) dX2_init_25 rfl iwX2_init_X2 tyX2_ok nmX2 rfl rfl (by decide) (by decide +kernel) (Or.inr ⟨rfl, rfl, rfl⟩) (tyX2_ok 4 (by decide)) rfl rfl (Nat.le_of_ble_eq_true rfl) rfl rfl ?_
  refine cw_aload_n (n1 := 29) (i := 0) dX2_init_28 rfl rfl rfl ?_
  refine cw_bipush (n1 := 31) (v := 6) dX2_init_29 rfl rfl ?_
  refine cw_newa (n1 := 33) (t := 1) (ty := .int) (N' := 6) (k' := 4) (n' := 64) (cI := g.2.2.2 1) (a0 := (6, .inl (fun _ => 0))) (atype := .int) dX2_init_31 (by decide +kernel) rfl rfl (fun _ => rfl) (by decide) (by decide +kernel) (Nat.le_of_ble_eq_true rfl) rfl rfl (Nat.le_of_ble_eq_true rfl) (Nat.le_of_ble_eq_true rfl) rfl (fun q4 => ?_)
  refine cw_put (n1 := 36) (own := RX2) (C := RX2) (T := TX2) (N := 8) (ci := 1) (j := 5) (q0 := 4) (ty := tyX2 5) (ws' := [(q4, .inl (g.2.2.2 1, 6, .inl (fun _ => 0))), (q3, .inl (g.2.2.2 1, 6, .inl (fun _ => 0))), (q2, .inl (g.2.2.2 1, 26, .inl (fun _ => 0))), (q1, .inl (g.2.2.2 1, 26, .inl (fun _ => 0))), (h0, .inr (1, [.ref (q1), .ref (q2), .int 0, .int 0, .ref (q3), .ref (q4), .null, .null]))]) dX2_init_33 rfl iwX2_init_X2 tyX2_ok nmX2 rfl rfl (by decide) (by decide +kernel) (Or.inr ⟨rfl, rfl, rfl⟩) (tyX2_ok 5 (by decide)) rfl rfl (Nat.le_of_ble_eq_true rfl) rfl rfl ?_
  refine cw_aload_n (n1 := 37) (i := 0) dX2_init_36 rfl rfl rfl ?_
  refine cw_bipush (n1 := 39) (v := 6) dX2_init_37 rfl rfl ?_
  refine cw_newa (n1 := 41) (t := 1) (ty := .int) (N' := 6) (k' := 5) (n' := 70) (cI := g.2.2.2 1) (a0 := (6, .inl (fun _ => 0))) (atype := .int) dX2_init_39 (by decide +kernel) rfl rfl (fun _ => rfl) (by decide) (by decide +kernel) (Nat.le_of_ble_eq_true rfl) rfl rfl (Nat.le_of_ble_eq_true rfl) (Nat.le_of_ble_eq_true rfl) rfl (fun q5 => ?_)
  refine cw_put (n1 := 44) (own := RX2) (C := RX2) (T := TX2) (N := 8) (ci := 1) (j := 6) (q0 := 5) (ty := tyX2 6) (ws' := [(q5, .inl (g.2.2.2 1, 6, .inl (fun _ => 0))), (q4, .inl (g.2.2.2 1, 6, .inl (fun _ => 0))), (q3, .inl (g.2.2.2 1, 6, .inl (fun _ => 0))), (q2, .inl (g.2.2.2 1, 26, .inl (fun _ => 0))), (q1, .inl (g.2.2.2 1, 26, .inl (fun _ => 0))), (h0, .inr (1, [.ref (q1), .ref (q2), .int 0, .int 0, .ref (q3), .ref (q4), .ref (q5), .null]))]) dX2_init_41 rfl iwX2_init_X2 tyX2_ok nmX2 rfl rfl (by decide) (by decide +kernel) (Or.inr ⟨rfl, rfl, rfl⟩) (tyX2_ok 6 (by decide)) rfl rfl (Nat.le_of_ble_eq_true rfl) rfl rfl ?_
  refine cw_aload_n (n1 := 45) (i := 0) dX2_init_44 rfl rfl rfl ?_
  refine cw_bipush (n1 := 47) (v := 6) dX2_init_45 rfl rfl ?_
  refine cw_newa (n1 := 49) (t := 1) (ty := .int) (N' := 6) (k' := 6) (n' := 76) (cI := g.2.2.2 1) (a0 := (6, .inl (fun _ => 0))) (atype := .int) dX2_init_47 (by decide +kernel) rfl rfl (fun _ => rfl) (by decide) (by decide +kernel) (Nat.le_of_ble_eq_true rfl) rfl rfl (Nat.le_of_ble_eq_true rfl) (Nat.le_of_ble_eq_true rfl) rfl (fun q6 => ?_)
  refine cw_put (n1 := 52) (own := RX2) (C := RX2) (T := TX2) (N := 8) (ci := 1) (j := 7) (q0 := 6) (ty := tyX2 7) (ws' := [(q6, .inl (g.2.2.2 1, 6, .inl (fun _ => 0))), (q5, .inl (g.2.2.2 1, 6, .inl (fun _ => 0))), (q4, .inl (g.2.2.2 1, 6, .inl (fun _ => 0))), (q3, .inl (g.2.2.2 1, 6, .inl (fun _ => 0))), (q2, .inl (g.2.2.2 1, 26, .inl (fun _ => 0))), (q1, .inl (g.2.2.2 1, 26, .inl (fun _ => 0))), (h0, .inr (1, [.ref (q1), .ref (q2), .int 0, .int 0, .ref (q3), .ref (q4), .ref (q5), .ref (q6)]))]) dX2_init_49 rfl iwX2_init_X2 tyX2_ok nmX2 rfl rfl (by decide) (by decide +kernel) (Or.inr ⟨rfl, rfl, rfl⟩) (tyX2_ok 7 (by decide)) rfl rfl (Nat.le_of_ble_eq_true rfl) rfl rfl ?_
  refine cw_aload_n (n1 := 53) (i := 0) dX2_init_52 rfl rfl rfl ?_
  refine cw_rev (ws' := earX g (lf [h0, q1, q2, q3, q4, q5, q6]) (fun _ => 0) (fun _ => 0)) rfl ?_
  refine cw_callV (n1 := 56) (own := RX2) (C := RX2) (T := TX2) (N := 8) (ci := 1) (q0 := 0) (nA := 0) (k' := 6) (n' := 76) (wc := earX g (lf [h0, q1, q2, q3, q4, q5, q6]) (fun _ => 0) (fun _ => 0)) (rest := []) dX2_init_53 rfl gX2_init_X2_beAsAtFirst rfl rfl rfl (by decide +kernel) ⟨rfl, rfl⟩ ⟨(Nat.le_of_ble_eq_true rfl), (Nat.le_of_ble_eq_true rfl)⟩ (cc_X2_beAsAtFirst g (lf [h0, q1, q2, q3, q4, q5, q6]) (fun _ => 0) (fun _ => 0)) (List.append_nil _).symm rfl rfl (Nat.le_of_ble_eq_true rfl) rfl rfl (Nat.le_of_ble_eq_true rfl) (Nat.le_of_ble_eq_true rfl) rfl ?_
  rintro _ ⟨f1, f2, hf, rfl⟩
  refine cw_to (ws' := earW g (lf [h0, q1, q2, q3, q4, q5, q6])) (fun H hP => va_P_of (fun q hq => ?_)) (List.Perm.refl _) (cw_vret dX2_init_56 rfl ⟨(lf [h0, q1, q2, q3, q4, q5, q6]), rfl, rfl⟩)
  have key : ∀ q, q ∈ earX g (lf [h0, q1, q2, q3, q4, q5, q6]) f1 f2 → va_at g.2.2.1 vwCl q H := fun q hq => va_P_at hP hq
  simp only [earX, List.forall_mem_cons] at key
  obtain ⟨k0, k1, k2, k3, k4, k5, k6, -⟩ := key
  have goal : ∀ q, q ∈ earX g (lf [h0, q1, q2, q3, q4, q5, q6]) firstK (fun _ => -6) → va_at g.2.2.1 vwCl q H := by
    simp only [earX, List.forall_mem_cons]
    exact ⟨k0, at_i k1 (fun j hj => (hf j hj).1), at_i k2 (fun j hj => (hf j hj).2), k3, k4, k5, k6, fun _ h => absurd h List.not_mem_nil⟩
  exact goal q hq
abbrev rmX1_init : Room := { frames := 1, cells := 5, slots := 316, locals := 12 }
abbrev mmX1_init : MI := (wsX1_init, cX1_init, RX1, 1, none, rmX1_init)
theorem iwX1_init_X1 : ∀ w ∈ wsX10, w ∈ wsX1_init := by decide +kernel
set_option maxRecDepth 100000 in
set_option maxHeartbeats 1000000 in
theorem cc_X1_init (g : Gx) (h0 : Nat) : CC g yX1_init wsX1_init rmX1_init [.ref h0] [(h0, .inr (0, [.int 0, .null, .null, .int 0, .null, .null, .null]))] 5 316 (fun w => ∃ F : Nat → Nat, F 0 = h0 ∧ w = drW g F) := by
  refine CC.of (cc := cX1_init) (maxL := 1) (by decide +kernel) rfl (Nat.le_of_ble_eq_true rfl) (fun sz => ?_)
  show CW g mmX1_init "<init>" _ _ 0 0 0 [(0, some (.ref h0))] [] [(h0, .inr (0, [.int 0, .null, .null, .int 0, .null, .null, .null]))]
  refine cw_aload_n (n1 := 1) (i := 0) dX1_init_0 rfl rfl rfl ?_
  refine cw_objInit (n1 := 4) dX1_init_1 (by decide +kernel) (by decide +kernel) (by decide +kernel) (Nat.le_of_ble_eq_true rfl) (Nat.le_of_ble_eq_true rfl) rfl ?_
  refine cw_aload_n (n1 := 5) (i := 0) dX1_init_4 rfl rfl rfl ?_
  refine cw_bipush (n1 := 7) (v := 24) dX1_init_5 rfl rfl ?_
  refine cw_newa (n1 := 9) (t := 1) (ty := .int) (N' := 24) (k' := 1) (n' := 24) (cI := g.2.2.2 1) (a0 := (24, .inl (fun _ => 0))) (atype := .int) dX1_init_7 (by decide +kernel) rfl rfl (fun _ => rfl) (by decide) (by decide +kernel) (Nat.le_of_ble_eq_true rfl) rfl rfl (Nat.le_of_ble_eq_true rfl) (Nat.le_of_ble_eq_true rfl) rfl (fun q1 => ?_)
  refine cw_put (n1 := 12) (own := RX1) (C := RX1) (T := TX1) (N := 7) (ci := 0) (j := 1) (q0 := 1) (ty := tyX1 1) (ws' := [(q1, .inl (g.2.2.2 1, 24, .inl (fun _ => 0))), (h0, .inr (0, [.int 0, .ref (q1), .null, .int 0, .null, .null, .null]))]) dX1_init_9 rfl iwX1_init_X1 tyX1_ok nmX1 rfl rfl (by decide) (by decide +kernel) (Or.inr ⟨rfl, rfl, rfl⟩) (tyX1_ok 1 (by decide)) rfl rfl (Nat.le_of_ble_eq_true rfl) rfl rfl ?_
  refine cw_aload_n (n1 := 13) (i := 0) dX1_init_12 rfl rfl rfl ?_
  refine cw_bipush (n1 := 15) (v := 96) dX1_init_13 rfl rfl ?_
  refine cw_newa (n1 := 17) (t := 1) (ty := .int) (N' := 96) (k' := 2) (n' := 120) (cI := g.2.2.2 1) (a0 := (96, .inl (fun _ => 0))) (atype := .int) dX1_init_15 (by decide +kernel) rfl rfl (fun _ => rfl) (by decide) (by decide +kernel) (Nat.le_of_ble_eq_true rfl) rfl rfl (Nat.le_of_ble_eq_true rfl) (Nat.le_of_ble_eq_true rfl) rfl (fun q2 => ?_)
  refine cw_put (n1 := 20) (own := RX1) (C := RX1) (T := TX1) (N := 7) (ci := 0) (j := 2) (q0 := 2) (ty := tyX1 2) (ws' := [(q2, .inl (g.2.2.2 1, 96, .inl (fun _ => 0))), (q1, .inl (g.2.2.2 1, 24, .inl (fun _ => 0))), (h0, .inr (0, [.int 0, .ref (q1), .ref (q2), .int 0, .null, .null, .null]))]) dX1_init_17 rfl iwX1_init_X1 tyX1_ok nmX1 rfl rfl (by decide) (by decide +kernel) (Or.inr ⟨rfl, rfl, rfl⟩) (tyX1_ok 2 (by decide)) rfl rfl (Nat.le_of_ble_eq_true rfl) rfl rfl ?_
  refine cw_aload_n (n1 := 21) (i := 0) dX1_init_20 rfl rfl rfl ?_
  refine cw_bipush (n1 := 23) (v := 96) dX1_init_21 rfl rfl ?_
  refine cw_newa (n1 := 25) (t := 1) (ty := .int) (N' := 96) (k' := 3) (n' := 216) (cI := g.2.2.2 1) (a0 := (96, .inl (fun _ => 0))) (atype := .int) dX1_init_23 (by decide +kernel) rfl rfl (fun _ => rfl) (by decide) (by decide +kernel) (Nat.le_of_ble_eq_true rfl) rfl rfl (Nat.le_of_ble_eq_true rfl) (Nat.le_of_ble_eq_true rfl) rfl (fun q3 => ?_)
  refine cw_put (n1 := 28) (own := RX1) (C := RX1) (T := TX1) (N := 7) (ci := 0) (j := 4) (q0 := 3) (ty := tyX1 4) (ws' := [(q3, .inl (g.2.2.2 1, 96, .inl (fun _ => 0))), (q2, .inl (g.2.2.2 1, 96, .inl (fun _ => 0))), (q1, .inl (g.2.2.2 1, 24, .inl (fun _ => 0))), (h0, .inr (0, [.int 0, .ref (q1), .ref (q2), .int 0, .ref (q3), .null, .null]))]) dX1_init_25 rfl iwX1_init_X1 tyX1_ok nmX1 rfl rfl (by decide) (by decide +kernel) (Or.inr ⟨rfl, rfl, rfl⟩) (tyX1_ok 4 (by decide)) rfl rfl (Nat.le_of_ble_eq_true rfl) rfl rfl ?_
  refine cw_aload_n (n1 := 29) (i := 0) dX1_init_28 rfl rfl rfl ?_
  refine cw_bipush (n1 := 31) (v := 96) dX1_init_29 rfl rfl ?_
  refine cw_newa (n1 := 33) (t := 1) (ty := .int) (N' := 96) (k' := 4) (n' := 312) (cI := g.2.2.2 1) (a0 := (96, .inl (fun _ => 0))) (atype := .int) dX1_init_31 (by decide +kernel) rfl rfl (fun _ => rfl) (by decide) (by decide +kernel) (Nat.le_of_ble_eq_true rfl) rfl rfl (Nat.le_of_ble_eq_true rfl) (Nat.le_of_ble_eq_true rfl) rfl (fun q4 => ?_)
  refine cw_put (n1 := 36) (own := RX1) (C := RX1) (T := TX1) (N := 7) (ci := 0) (j := 5) (q0 := 4) (ty := tyX1 5) (ws' := [(q4, .inl (g.2.2.2 1, 96, .inl (fun _ => 0))), (q3, .inl (g.2.2.2 1, 96, .inl (fun _ => 0))), (q2, .inl (g.2.2.2 1, 96, .inl (fun _ => 0))), (q1, .inl (g.2.2.2 1, 24, .inl (fun _ => 0))), (h0, .inr (0, [.int 0, .ref (q1), .ref (q2), .int 0, .ref (q3), .ref (q4), .null]))]) dX1_init_33 rfl iwX1_init_X1 tyX1_ok nmX1 rfl rfl (by decide) (by decide +kernel) (Or.inr ⟨rfl, rfl, rfl⟩) (tyX1_ok 5 (by decide)) rfl rfl (Nat.le_of_ble_eq_true rfl) rfl rfl ?_
  refine cw_aload_n (n1 := 37) (i := 0) dX1_init_36 rfl rfl rfl ?_
  refine cw_iconst (n1 := 38) (v := 4) dX1_init_37 rfl rfl ?_
  refine cw_newa (n1 := 40) (t := 1) (ty := .int) (N' := 4) (k' := 5) (n' := 316) (cI := g.2.2.2 1) (a0 := (4, .inl (fun _ => 0))) (atype := .int) dX1_init_38 (by decide +kernel) rfl rfl (fun _ => rfl) (by decide) (by decide +kernel) (Nat.le_of_ble_eq_true rfl) rfl rfl (Nat.le_of_ble_eq_true rfl) (Nat.le_of_ble_eq_true rfl) rfl (fun q5 => ?_)
  refine cw_put (n1 := 43) (own := RX1) (C := RX1) (T := TX1) (N := 7) (ci := 0) (j := 6) (q0 := 5) (ty := tyX1 6) (ws' := [(q5, .inl (g.2.2.2 1, 4, .inl (fun _ => 0))), (q4, .inl (g.2.2.2 1, 96, .inl (fun _ => 0))), (q3, .inl (g.2.2.2 1, 96, .inl (fun _ => 0))), (q2, .inl (g.2.2.2 1, 96, .inl (fun _ => 0))), (q1, .inl (g.2.2.2 1, 24, .inl (fun _ => 0))), (h0, .inr (0, [.int 0, .ref (q1), .ref (q2), .int 0, .ref (q3), .ref (q4), .ref (q5)]))]) dX1_init_40 rfl iwX1_init_X1 tyX1_ok nmX1 rfl rfl (by decide) (by decide +kernel) (Or.inr ⟨rfl, rfl, rfl⟩) (tyX1_ok 6 (by decide)) rfl rfl (Nat.le_of_ble_eq_true rfl) rfl rfl ?_
  exact cw_rev (ws' := drW g (lf [h0, q1, q2, q3, q4, q5])) rfl (cw_vret dX1_init_43 rfl ⟨(lf [h0, q1, q2, q3, q4, q5]), rfl, rfl⟩)
abbrev rmX3_init : Room := { frames := 1, cells := 2, slots := 35, locals := 12 }
abbrev mmX3_init : MI := (wsX3_init, cX3_init, RX3, 1, none, rmX3_init)
theorem iwX3_init_X3 : ∀ w ∈ wsX30, w ∈ wsX3_init := by decide +kernel
set_option maxRecDepth 100000 in
set_option maxHeartbeats 1000000 in
theorem cc_X3_init (g : Gx) (h0 : Nat) : CC g yX3_init wsX3_init rmX3_init [.ref h0] [(h0, .inr (2, [.null, .null]))] 2 35 (fun w => ∃ F : Nat → Nat, F 0 = h0 ∧ w = mtW g F) := by
  refine CC.of (cc := cX3_init) (maxL := 1) (by decide +kernel) rfl (Nat.le_of_ble_eq_true rfl) (fun sz => ?_)
  show CW g mmX3_init "<init>" _ _ 0 0 0 [(0, some (.ref h0))] [] [(h0, .inr (2, [.null, .null]))]
  refine cw_aload_n (n1 := 1) (i := 0) dX3_init_0 rfl rfl rfl ?_
  refine cw_objInit (n1 := 4) dX3_init_1 (by decide +kernel) (by decide +kernel) (by decide +kernel) (Nat.le_of_ble_eq_true rfl) (Nat.le_of_ble_eq_true rfl) rfl ?_
  refine cw_aload_n (n1 := 5) (i := 0) dX3_init_4 rfl rfl rfl ?_
  refine cw_bipush (n1 := 7) (v := 11) dX3_init_5 rfl rfl ?_
  refine cw_newa (n1 := 9) (t := 1) (ty := .int) (N' := 11) (k' := 1) (n' := 11) (cI := g.2.2.2 1) (a0 := (11, .inl (fun _ => 0))) (atype := .int) dX3_init_7 (by decide +kernel) rfl rfl (fun _ => rfl) (by decide) (by decide +kernel) (Nat.le_of_ble_eq_true rfl) rfl rfl (Nat.le_of_ble_eq_true rfl) (Nat.le_of_ble_eq_true rfl) rfl (fun q1 => ?_)
  refine cw_put (n1 := 12) (own := RX3) (C := RX3) (T := TX3) (N := 2) (ci := 2) (j := 0) (q0 := 1) (ty := tyX3 0) (ws' := [(q1, .inl (g.2.2.2 1, 11, .inl (fun _ => 0))), (h0, .inr (2, [.ref (q1), .null]))]) dX3_init_9 rfl iwX3_init_X3 tyX3_ok nmX3 rfl rfl (by decide) (by decide +kernel) (Or.inr ⟨rfl, rfl, rfl⟩) (tyX3_ok 0 (by decide)) rfl rfl (Nat.le_of_ble_eq_true rfl) rfl rfl ?_
  refine cw_aload_n (n1 := 13) (i := 0) dX3_init_12 rfl rfl rfl ?_
  refine cw_bipush (n1 := 15) (v := 24) dX3_init_13 rfl rfl ?_
  refine cw_newa (n1 := 17) (t := 1) (ty := .int) (N' := 24) (k' := 2) (n' := 35) (cI := g.2.2.2 1) (a0 := (24, .inl (fun _ => 0))) (atype := .int) dX3_init_15 (by decide +kernel) rfl rfl (fun _ => rfl) (by decide) (by decide +kernel) (Nat.le_of_ble_eq_true rfl) rfl rfl (Nat.le_of_ble_eq_true rfl) (Nat.le_of_ble_eq_true rfl) rfl (fun q2 => ?_)
  refine cw_put (n1 := 20) (own := RX3) (C := RX3) (T := TX3) (N := 2) (ci := 2) (j := 1) (q0 := 2) (ty := tyX3 1) (ws' := [(q2, .inl (g.2.2.2 1, 24, .inl (fun _ => 0))), (q1, .inl (g.2.2.2 1, 11, .inl (fun _ => 0))), (h0, .inr (2, [.ref (q1), .ref (q2)]))]) dX3_init_17 rfl iwX3_init_X3 tyX3_ok nmX3 rfl rfl (by decide) (by decide +kernel) (Or.inr ⟨rfl, rfl, rfl⟩) (tyX3_ok 1 (by decide)) rfl rfl (Nat.le_of_ble_eq_true rfl) rfl rfl ?_
  exact cw_rev (ws' := mtW g (lf [h0, q1, q2])) rfl (cw_vret dX3_init_20 rfl ⟨(lf [h0, q1, q2]), rfl, rfl⟩)
abbrev rmX4_init : Room := { frames := 1, cells := 1, slots := 80, locals := 12 }
abbrev mmX4_init : MI := (wsX4_init, cX4_init, RX4, 1, none, rmX4_init)
theorem iwX4_init_X4 : ∀ w ∈ wsX40, w ∈ wsX4_init := by decide +kernel
set_option maxRecDepth 100000 in
set_option maxHeartbeats 1000000 in
theorem cc_X4_init (g : Gx) (h0 : Nat) : CC g yX4_init wsX4_init rmX4_init [.ref h0] [(h0, .inr (3, [.null, .int 0]))] 1 80 (fun w => ∃ F : Nat → Nat, F 0 = h0 ∧ w = padW g F) := by
  refine CC.of (cc := cX4_init) (maxL := 1) (by decide +kernel) rfl (Nat.le_of_ble_eq_true rfl) (fun sz => ?_)
  show CW g mmX4_init "<init>" _ _ 0 0 0 [(0, some (.ref h0))] [] [(h0, .inr (3, [.null, .int 0]))]
  refine cw_aload_n (n1 := 1) (i := 0) dX4_init_0 rfl rfl rfl ?_
  refine cw_objInit (n1 := 4) dX4_init_1 (by decide +kernel) (by decide +kernel) (by decide +kernel) (Nat.le_of_ble_eq_true rfl) (Nat.le_of_ble_eq_true rfl) rfl ?_
  refine cw_aload_n (n1 := 5) (i := 0) dX4_init_4 rfl rfl rfl ?_
  refine cw_bipush (n1 := 7) (v := 80) dX4_init_5 rfl rfl ?_
  refine cw_newa (n1 := 9) (t := 0) (ty := .char) (N' := 80) (k' := 1) (n' := 80) (cI := g.2.2.2 0) (a0 := (80, .inl (fun _ => 0))) (atype := .char) dX4_init_7 (by decide +kernel) rfl rfl (fun _ => rfl) (by decide) (by decide +kernel) (Nat.le_of_ble_eq_true rfl) rfl rfl (Nat.le_of_ble_eq_true rfl) (Nat.le_of_ble_eq_true rfl) rfl (fun q1 => ?_)
  refine cw_put (n1 := 12) (own := RX4) (C := RX4) (T := TX4) (N := 2) (ci := 3) (j := 0) (q0 := 1) (ty := tyX4 0) (ws' := [(q1, .inl (g.2.2.2 0, 80, .inl (fun _ => 0))), (h0, .inr (3, [.ref (q1), .int 0]))]) dX4_init_9 rfl iwX4_init_X4 tyX4_ok nmX4 rfl rfl (by decide) (by decide +kernel) (Or.inr ⟨rfl, rfl, rfl⟩) (tyX4_ok 0 (by decide)) rfl rfl (Nat.le_of_ble_eq_true rfl) rfl rfl ?_
  refine cw_aload_n (n1 := 13) (i := 0) dX4_init_12 rfl rfl rfl ?_
  refine cw_iconst (n1 := 14) (v := 0) dX4_init_13 rfl rfl ?_
  refine cw_put (n1 := 17) (own := RX4) (C := RX4) (T := TX4) (N := 2) (ci := 3) (j := 1) (q0 := 1) (ty := tyX4 1) (ws' := [(q1, .inl (g.2.2.2 0, 80, .inl (fun _ => 0))), (h0, .inr (3, [.ref (q1), .int 0]))]) dX4_init_14 rfl iwX4_init_X4 tyX4_ok nmX4 rfl rfl (by decide) (by decide +kernel) (Or.inl rfl) (tyX4_ok 1 (by decide)) rfl rfl (Nat.le_of_ble_eq_true rfl) rfl rfl ?_
  exact cw_rev (ws' := padW g (lf [h0, q1])) rfl (cw_vret dX4_init_17 rfl ⟨(lf [h0, q1]), rfl, rfl⟩)
