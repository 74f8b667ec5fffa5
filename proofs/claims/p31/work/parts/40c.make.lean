/-! THE CONSTRUCTORS: State, the class -/
theorem cw_eq {g : Gx} {M : MI} {nm : String} {A : Nat → Prop} {Q : Mq} {k n pc : Nat} {l : Lo} {st : List Value} {ws ws' : va_W} (h : ws = ws') (kk : CW g M nm A Q k n pc l st ws') : CW g M nm A Q k n pc l st ws := by
  rw [h]
  exact kk
def stF (a b c : Nat) (F1 F2 F3 F4 : Nat → Nat) (k : Nat) : Nat := bif Nat.blt k 3 then lf [a, b, c] k else bif Nat.blt k 20 then F1 (k - 10) else bif Nat.blt k 30 then F2 (k - 20) else bif Nat.blt k 40 then F3 (k - 30) else F4 (k - 40)
abbrev rmX5_init : Room := { frames := 2, cells := 30, slots := 364, locals := 41 }
abbrev mmX5_init : MI := (wsX5_init, cX5_init, RX5, 2, none, rmX5_init)
theorem iwX5_init_X2 : ∀ w ∈ wsX20, w ∈ wsX5_init := by decide +kernel
theorem iwX5_init_X5 : ∀ w ∈ wsX50, w ∈ wsX5_init := by decide +kernel
set_option maxRecDepth 100000 in
set_option maxHeartbeats 1000000 in
theorem cc_X5_init (g : Gx) (h0 : Nat) : CC g yX5_init wsX5_init rmX5_init [.ref h0] [(h0, .inr (4, [.int 0, .int 0, .int 0, .null, .int 0, .null]))] 30 364 (fun w => ∃ F : Nat → Nat, F 0 = h0 ∧ w = stW g F) := by
  refine CC.of (cc := cX5_init) (maxL := 2) (by decide +kernel) rfl (Nat.le_of_ble_eq_true rfl) (fun sz => ?_)
  show CW g mmX5_init "<init>" _ _ 0 0 0 [(0, some (.ref h0))] [] [(h0, .inr (4, [.int 0, .int 0, .int 0, .null, .int 0, .null]))]
  refine cw_aload_n (n1 := 1) (i := 0) dX5_init_0 rfl rfl rfl ?_
  refine cw_objInit (n1 := 4) dX5_init_1 (by decide +kernel) (by decide +kernel) (by decide +kernel) (Nat.le_of_ble_eq_true rfl) (Nat.le_of_ble_eq_true rfl) rfl ?_
  refine cw_aload_n (n1 := 5) (i := 0) dX5_init_4 rfl rfl rfl ?_
  refine cw_iconst (n1 := 6) (v := 4) dX5_init_5 rfl rfl ?_
  refine cw_put (n1 := 9) (own := RX5) (C := RX5) (T := TX5) (N := 6) (ci := 4) (j := 0) (q0 := 0) (ty := tyX5 0) (ws' := [(h0, .inr (4, [.int 4, .int 0, .int 0, .null, .int 0, .null]))]) dX5_init_6 rfl iwX5_init_X5 tyX5_ok nmX5 rfl rfl (by decide) (by decide +kernel) (Or.inl rfl) (tyX5_ok 0 (by decide)) rfl rfl (Nat.le_of_ble_eq_true rfl) rfl rfl ?_
  refine cw_aload_n (n1 := 10) (i := 0) dX5_init_9 rfl rfl rfl ?_
  refine cw_bipush (n1 := 12) (v := 24) dX5_init_10 rfl rfl ?_
  refine cw_put (n1 := 15) (own := RX5) (C := RX5) (T := TX5) (N := 6) (ci := 4) (j := 1) (q0 := 0) (ty := tyX5 1) (ws' := [(h0, .inr (4, [.int 4, .int 24, .int 0, .null, .int 0, .null]))]) dX5_init_12 rfl iwX5_init_X5 tyX5_ok nmX5 rfl rfl (by decide) (by decide +kernel) (Or.inl rfl) (tyX5_ok 1 (by decide)) rfl rfl (Nat.le_of_ble_eq_true rfl) rfl rfl ?_
  refine cw_aload_n (n1 := 16) (i := 0) dX5_init_15 rfl rfl rfl ?_
  refine cw_iconst (n1 := 17) (v := 0) dX5_init_16 rfl rfl ?_
  refine cw_put (n1 := 20) (own := RX5) (C := RX5) (T := TX5) (N := 6) (ci := 4) (j := 2) (q0 := 0) (ty := tyX5 2) (ws' := [(h0, .inr (4, [.int 4, .int 24, .int 0, .null, .int 0, .null]))]) dX5_init_17 rfl iwX5_init_X5 tyX5_ok nmX5 rfl rfl (by decide) (by decide +kernel) (Or.inl rfl) (tyX5_ok 2 (by decide)) rfl rfl (Nat.le_of_ble_eq_true rfl) rfl rfl ?_
  refine cw_aload_n (n1 := 21) (i := 0) dX5_init_20 rfl rfl rfl ?_
  refine cw_bipush (n1 := 23) (v := 24) dX5_init_21 rfl rfl ?_
  refine cw_newa (n1 := 25) (t := 2) (ty := .long) (N' := 24) (k' := 1) (n' := 24) (cI := g.2.2.2 2) (a0 := (24, .inr (.inl (fun _ => 0)))) (atype := .long) dX5_init_23 (by decide +kernel) rfl rfl (fun _ => rfl) (by decide) (by decide +kernel) (Nat.le_of_ble_eq_true rfl) rfl rfl (Nat.le_of_ble_eq_true rfl) (Nat.le_of_ble_eq_true rfl) rfl (fun q1 => ?_)
  refine cw_put (n1 := 28) (own := RX5) (C := RX5) (T := TX5) (N := 6) (ci := 4) (j := 3) (q0 := 1) (ty := tyX5 3) (ws' := [(q1, .inl (g.2.2.2 2, 24, .inr (.inl (fun _ => 0)))), (h0, .inr (4, [.int 4, .int 24, .int 0, .ref (q1), .int 0, .null]))]) dX5_init_25 rfl iwX5_init_X5 tyX5_ok nmX5 rfl rfl (by decide) (by decide +kernel) (Or.inr ⟨rfl, rfl, rfl⟩) (tyX5_ok 3 (by decide)) rfl rfl (Nat.le_of_ble_eq_true rfl) rfl rfl ?_
  refine cw_aload_n (n1 := 29) (i := 0) dX5_init_28 rfl rfl rfl ?_
  refine cw_iconst (n1 := 30) (v := 0) dX5_init_29 rfl rfl ?_
  refine cw_put (n1 := 33) (own := RX5) (C := RX5) (T := TX5) (N := 6) (ci := 4) (j := 4) (q0 := 1) (ty := tyX5 4) (ws' := [(q1, .inl (g.2.2.2 2, 24, .inr (.inl (fun _ => 0)))), (h0, .inr (4, [.int 4, .int 24, .int 0, .ref (q1), .int 0, .null]))]) dX5_init_30 rfl iwX5_init_X5 tyX5_ok nmX5 rfl rfl (by decide) (by decide +kernel) (Or.inl rfl) (tyX5_ok 4 (by decide)) rfl rfl (Nat.le_of_ble_eq_true rfl) rfl rfl ?_
  refine cw_aload_n (n1 := 34) (i := 0) dX5_init_33 rfl rfl rfl ?_
  refine cw_iconst (n1 := 35) (v := 4) dX5_init_34 rfl rfl ?_
  refine cw_newq (n1 := 38) (own := RX5) (C := RX2) (t := 4) (N' := 4) (k' := 2) (n' := 28) (cI := g.2.2.2 4) dX5_init_35 rfl (by decide +kernel) (fun _ h => h.2.2.2.2) rfl (by decide) (by decide +kernel) (Nat.le_of_ble_eq_true rfl) rfl rfl (Nat.le_of_ble_eq_true rfl) (Nat.le_of_ble_eq_true rfl) rfl (fun q2 => ?_)
  refine cw_put (n1 := 41) (own := RX5) (C := RX5) (T := TX5) (N := 6) (ci := 4) (j := 5) (q0 := 2) (ty := tyX5 5) (ws' := [(q2, .inl (g.2.2.2 4, 4, .inr (.inr (.inr (.inr (fun _ => none)))))), (q1, .inl (g.2.2.2 2, 24, .inr (.inl (fun _ => 0)))), (h0, .inr (4, [.int 4, .int 24, .int 0, .ref (q1), .int 0, .ref (q2)]))]) dX5_init_38 rfl iwX5_init_X5 tyX5_ok nmX5 rfl rfl (by decide) (by decide +kernel) (Or.inr ⟨rfl, rfl, rfl⟩) (tyX5_ok 5 (by decide)) rfl rfl (Nat.le_of_ble_eq_true rfl) rfl rfl ?_
  refine cw_iconst (n1 := 42) (v := 0) dX5_init_41 rfl rfl ?_
  refine cw_istore_n (n1 := 43) (i := 1) dX5_init_42 rfl (Nat.le_of_ble_eq_true rfl) rfl rfl ?_
  refine cw_iload_n (n1 := 44) (i := 1) dX5_init_43 rfl rfl rfl ?_
  refine cw_aload_n (n1 := 45) (i := 0) dX5_init_44 rfl rfl rfl ?_
  refine cw_get (n1 := 48) (own := RX5) (C := RX5) (T := TX5) (N := 6) (ci := 4) (j := 5) (q0 := 2) dX5_init_45 rfl iwX5_init_X5 rfl rfl (by decide) (by decide +kernel) rfl rfl ?_
  refine cw_alen (n1 := 49) (t := 4) (q0 := 0) (v := 4) dX5_init_48 rfl rfl rfl rfl ?_
  refine cw_icmp_ge (tgt := 71) (n1 := 52) dX5_init_49 (by decide) rfl (fun q_z => absurd q_z (by decide)) (fun _ => ?_)
  refine cw_aload_n (n1 := 53) (i := 0) dX5_init_52 rfl rfl rfl ?_
  refine cw_get (n1 := 56) (own := RX5) (C := RX5) (T := TX5) (N := 6) (ci := 4) (j := 5) (q0 := 2) dX5_init_53 rfl iwX5_init_X5 rfl rfl (by decide) (by decide +kernel) rfl rfl ?_
  refine cw_iload_n (n1 := 57) (i := 1) dX5_init_56 rfl rfl rfl ?_
  refine cw_new (n1 := 60) (own := RX5) (C := RX2) (T := TX2) (N := 8) (ci := 1) (fs := [.null, .null, .int 0, .int 0, .null, .null, .null, .null]) (k' := 3) (n' := 36) dX5_init_57 rfl (by decide +kernel) (by decide +kernel) (by decide +kernel) iwX5_init_X2 tyX2_ok rfl hfX2 rfl rfl (Nat.le_of_ble_eq_true rfl) (Nat.le_of_ble_eq_true rfl) rfl (fun q3 => ?_)
  refine cw_dup (n1 := 61) dX5_init_60 rfl rfl ?_
  refine cw_callI (n1 := 64) (own := RX5) (nA := 0) (k' := 9) (n' := 112) (wc := [(q3, .inr (1, [.null, .null, .int 0, .int 0, .null, .null, .null, .null]))]) (rest := [(q2, .inl (g.2.2.2 4, 4, .inr (.inr (.inr (.inr (fun _ => none)))))), (q1, .inl (g.2.2.2 2, 24, .inr (.inl (fun _ => 0)))), (h0, .inr (4, [.int 4, .int 24, .int 0, .ref (q1), .int 0, .ref (q2)]))]) dX5_init_61 rfl gX5_init_X2_init rfl (by decide +kernel) (by decide +kernel) (by decide +kernel) rfl (by decide +kernel) ⟨rfl, rfl⟩ ⟨(Nat.le_of_ble_eq_true rfl), (Nat.le_of_ble_eq_true rfl)⟩ (cc_X2_init g q3) rfl rfl rfl (Nat.le_of_ble_eq_true rfl) rfl rfl (Nat.le_of_ble_eq_true rfl) (Nat.le_of_ble_eq_true rfl) rfl ?_
  rintro _ ⟨F1, rfl, rfl⟩
  refine cw_aast (n1 := 65) (t := 4) (q0 := 0) (ci := 1) (r := (RX2, TX2, 8)) (ws' := ((q2, .inl (g.2.2.2 4, 4, .inr (.inr (.inr (.inr (va_up (fun _ => none) (Int32.toNatClampNeg 0) (some (F1 0)))))))) :: (q1, .inl (g.2.2.2 2, 24, .inr (.inl (fun _ => 0)))) :: (h0, .inr (4, [.int 4, .int 24, .int 0, .ref (q1), .int 0, .ref (q2)])) :: ([] ++ earW g F1))) dX5_init_64 rfl rfl (List.mem_append_right _ (mem_ear g F1)) rfl (vp_in_iff.mpr (by decide)) rfl rfl ?_
  refine cw_iinc (n1 := 68) (v := 1) dX5_init_65 rfl (by decide) rfl rfl ?_
  refine cw_goto (tgt := 43) dX5_init_68 (by decide) ?_
  refine cw_iload_n (n1 := 44) (i := 1) dX5_init_43 rfl rfl rfl ?_
  refine cw_aload_n (n1 := 45) (i := 0) dX5_init_44 rfl rfl rfl ?_
  refine cw_get (n1 := 48) (own := RX5) (C := RX5) (T := TX5) (N := 6) (ci := 4) (j := 5) (q0 := 2) dX5_init_45 rfl iwX5_init_X5 rfl rfl (by decide) (by decide +kernel) rfl rfl ?_
  refine cw_alen (n1 := 49) (t := 4) (q0 := 0) (v := 4) dX5_init_48 rfl rfl rfl rfl ?_
  refine cw_icmp_ge (tgt := 71) (n1 := 52) dX5_init_49 (by decide) rfl (fun q_z => absurd q_z (by decide)) (fun _ => ?_)
  refine cw_aload_n (n1 := 53) (i := 0) dX5_init_52 rfl rfl rfl ?_
  refine cw_get (n1 := 56) (own := RX5) (C := RX5) (T := TX5) (N := 6) (ci := 4) (j := 5) (q0 := 2) dX5_init_53 rfl iwX5_init_X5 rfl rfl (by decide) (by decide +kernel) rfl rfl ?_
  refine cw_iload_n (n1 := 57) (i := 1) dX5_init_56 rfl rfl rfl ?_
  refine cw_new (n1 := 60) (own := RX5) (C := RX2) (T := TX2) (N := 8) (ci := 1) (fs := [.null, .null, .int 0, .int 0, .null, .null, .null, .null]) (k' := 10) (n' := 120) dX5_init_57 rfl (by decide +kernel) (by decide +kernel) (by decide +kernel) iwX5_init_X2 tyX2_ok rfl hfX2 rfl rfl (Nat.le_of_ble_eq_true rfl) (Nat.le_of_ble_eq_true rfl) rfl (fun q4 => ?_)
  refine cw_dup (n1 := 61) dX5_init_60 rfl rfl ?_
  refine cw_callI (n1 := 64) (own := RX5) (nA := 0) (k' := 16) (n' := 196) (wc := [(q4, .inr (1, [.null, .null, .int 0, .int 0, .null, .null, .null, .null]))]) (rest := ((q2, .inl (g.2.2.2 4, 4, .inr (.inr (.inr (.inr (va_up (fun _ => none) (Int32.toNatClampNeg 0) (some (F1 0)))))))) :: (q1, .inl (g.2.2.2 2, 24, .inr (.inl (fun _ => 0)))) :: (h0, .inr (4, [.int 4, .int 24, .int 0, .ref (q1), .int 0, .ref (q2)])) :: ([] ++ earW g F1))) dX5_init_61 rfl gX5_init_X2_init rfl (by decide +kernel) (by decide +kernel) (by decide +kernel) rfl (by decide +kernel) ⟨rfl, rfl⟩ ⟨(Nat.le_of_ble_eq_true rfl), (Nat.le_of_ble_eq_true rfl)⟩ (cc_X2_init g q4) rfl rfl rfl (Nat.le_of_ble_eq_true rfl) rfl rfl (Nat.le_of_ble_eq_true rfl) (Nat.le_of_ble_eq_true rfl) rfl ?_
  rintro _ ⟨F2, rfl, rfl⟩
  refine cw_aast (n1 := 65) (t := 4) (q0 := 0) (ci := 1) (r := (RX2, TX2, 8)) (ws' := ((q2, .inl (g.2.2.2 4, 4, .inr (.inr (.inr (.inr (va_up (va_up (fun _ => none) (Int32.toNatClampNeg 0) (some (F1 0))) (Int32.toNatClampNeg 1) (some (F2 0)))))))) :: (q1, .inl (g.2.2.2 2, 24, .inr (.inl (fun _ => 0)))) :: (h0, .inr (4, [.int 4, .int 24, .int 0, .ref (q1), .int 0, .ref (q2)])) :: (([] ++ earW g F1) ++ earW g F2))) dX5_init_64 rfl rfl (List.mem_append_right _ (mem_ear g F2)) rfl (vp_in_iff.mpr (by decide)) rfl rfl ?_
  refine cw_iinc (n1 := 68) (v := 2) dX5_init_65 rfl (by decide) rfl rfl ?_
  refine cw_goto (tgt := 43) dX5_init_68 (by decide) ?_
  refine cw_iload_n (n1 := 44) (i := 1) dX5_init_43 rfl rfl rfl ?_
  refine cw_aload_n (n1 := 45) (i := 0) dX5_init_44 rfl rfl rfl ?_
  refine cw_get (n1 := 48) (own := RX5) (C := RX5) (T := TX5) (N := 6) (ci := 4) (j := 5) (q0 := 2) dX5_init_45 rfl iwX5_init_X5 rfl rfl (by decide) (by decide +kernel) rfl rfl ?_
  refine cw_alen (n1 := 49) (t := 4) (q0 := 0) (v := 4) dX5_init_48 rfl rfl rfl rfl ?_
  refine cw_icmp_ge (tgt := 71) (n1 := 52) dX5_init_49 (by decide) rfl (fun q_z => absurd q_z (by decide)) (fun _ => ?_)
  refine cw_aload_n (n1 := 53) (i := 0) dX5_init_52 rfl rfl rfl ?_
  refine cw_get (n1 := 56) (own := RX5) (C := RX5) (T := TX5) (N := 6) (ci := 4) (j := 5) (q0 := 2) dX5_init_53 rfl iwX5_init_X5 rfl rfl (by decide) (by decide +kernel) rfl rfl ?_
  refine cw_iload_n (n1 := 57) (i := 1) dX5_init_56 rfl rfl rfl ?_
  refine cw_new (n1 := 60) (own := RX5) (C := RX2) (T := TX2) (N := 8) (ci := 1) (fs := [.null, .null, .int 0, .int 0, .null, .null, .null, .null]) (k' := 17) (n' := 204) dX5_init_57 rfl (by decide +kernel) (by decide +kernel) (by decide +kernel) iwX5_init_X2 tyX2_ok rfl hfX2 rfl rfl (Nat.le_of_ble_eq_true rfl) (Nat.le_of_ble_eq_true rfl) rfl (fun q5 => ?_)
  refine cw_dup (n1 := 61) dX5_init_60 rfl rfl ?_
  refine cw_callI (n1 := 64) (own := RX5) (nA := 0) (k' := 23) (n' := 280) (wc := [(q5, .inr (1, [.null, .null, .int 0, .int 0, .null, .null, .null, .null]))]) (rest := ((q2, .inl (g.2.2.2 4, 4, .inr (.inr (.inr (.inr (va_up (va_up (fun _ => none) (Int32.toNatClampNeg 0) (some (F1 0))) (Int32.toNatClampNeg 1) (some (F2 0)))))))) :: (q1, .inl (g.2.2.2 2, 24, .inr (.inl (fun _ => 0)))) :: (h0, .inr (4, [.int 4, .int 24, .int 0, .ref (q1), .int 0, .ref (q2)])) :: (([] ++ earW g F1) ++ earW g F2))) dX5_init_61 rfl gX5_init_X2_init rfl (by decide +kernel) (by decide +kernel) (by decide +kernel) rfl (by decide +kernel) ⟨rfl, rfl⟩ ⟨(Nat.le_of_ble_eq_true rfl), (Nat.le_of_ble_eq_true rfl)⟩ (cc_X2_init g q5) rfl rfl rfl (Nat.le_of_ble_eq_true rfl) rfl rfl (Nat.le_of_ble_eq_true rfl) (Nat.le_of_ble_eq_true rfl) rfl ?_
  rintro _ ⟨F3, rfl, rfl⟩
  refine cw_aast (n1 := 65) (t := 4) (q0 := 0) (ci := 1) (r := (RX2, TX2, 8)) (ws' := ((q2, .inl (g.2.2.2 4, 4, .inr (.inr (.inr (.inr (va_up (va_up (va_up (fun _ => none) (Int32.toNatClampNeg 0) (some (F1 0))) (Int32.toNatClampNeg 1) (some (F2 0))) (Int32.toNatClampNeg 2) (some (F3 0)))))))) :: (q1, .inl (g.2.2.2 2, 24, .inr (.inl (fun _ => 0)))) :: (h0, .inr (4, [.int 4, .int 24, .int 0, .ref (q1), .int 0, .ref (q2)])) :: ((([] ++ earW g F1) ++ earW g F2) ++ earW g F3))) dX5_init_64 rfl rfl (List.mem_append_right _ (mem_ear g F3)) rfl (vp_in_iff.mpr (by decide)) rfl rfl ?_
  refine cw_iinc (n1 := 68) (v := 3) dX5_init_65 rfl (by decide) rfl rfl ?_
  refine cw_goto (tgt := 43) dX5_init_68 (by decide) ?_
  refine cw_iload_n (n1 := 44) (i := 1) dX5_init_43 rfl rfl rfl ?_
  refine cw_aload_n (n1 := 45) (i := 0) dX5_init_44 rfl rfl rfl ?_
  refine cw_get (n1 := 48) (own := RX5) (C := RX5) (T := TX5) (N := 6) (ci := 4) (j := 5) (q0 := 2) dX5_init_45 rfl iwX5_init_X5 rfl rfl (by decide) (by decide +kernel) rfl rfl ?_
  refine cw_alen (n1 := 49) (t := 4) (q0 := 0) (v := 4) dX5_init_48 rfl rfl rfl rfl ?_
  refine cw_icmp_ge (tgt := 71) (n1 := 52) dX5_init_49 (by decide) rfl (fun q_z => absurd q_z (by decide)) (fun _ => ?_)
  refine cw_aload_n (n1 := 53) (i := 0) dX5_init_52 rfl rfl rfl ?_
  refine cw_get (n1 := 56) (own := RX5) (C := RX5) (T := TX5) (N := 6) (ci := 4) (j := 5) (q0 := 2) dX5_init_53 rfl iwX5_init_X5 rfl rfl (by decide) (by decide +kernel) rfl rfl ?_
  refine cw_iload_n (n1 := 57) (i := 1) dX5_init_56 rfl rfl rfl ?_
  refine cw_new (n1 := 60) (own := RX5) (C := RX2) (T := TX2) (N := 8) (ci := 1) (fs := [.null, .null, .int 0, .int 0, .null, .null, .null, .null]) (k' := 24) (n' := 288) dX5_init_57 rfl (by decide +kernel) (by decide +kernel) (by decide +kernel) iwX5_init_X2 tyX2_ok rfl hfX2 rfl rfl (Nat.le_of_ble_eq_true rfl) (Nat.le_of_ble_eq_true rfl) rfl (fun q6 => ?_)
  refine cw_dup (n1 := 61) dX5_init_60 rfl rfl ?_
  refine cw_callI (n1 := 64) (own := RX5) (nA := 0) (k' := 30) (n' := 364) (wc := [(q6, .inr (1, [.null, .null, .int 0, .int 0, .null, .null, .null, .null]))]) (rest := ((q2, .inl (g.2.2.2 4, 4, .inr (.inr (.inr (.inr (va_up (va_up (va_up (fun _ => none) (Int32.toNatClampNeg 0) (some (F1 0))) (Int32.toNatClampNeg 1) (some (F2 0))) (Int32.toNatClampNeg 2) (some (F3 0)))))))) :: (q1, .inl (g.2.2.2 2, 24, .inr (.inl (fun _ => 0)))) :: (h0, .inr (4, [.int 4, .int 24, .int 0, .ref (q1), .int 0, .ref (q2)])) :: ((([] ++ earW g F1) ++ earW g F2) ++ earW g F3))) dX5_init_61 rfl gX5_init_X2_init rfl (by decide +kernel) (by decide +kernel) (by decide +kernel) rfl (by decide +kernel) ⟨rfl, rfl⟩ ⟨(Nat.le_of_ble_eq_true rfl), (Nat.le_of_ble_eq_true rfl)⟩ (cc_X2_init g q6) rfl rfl rfl (Nat.le_of_ble_eq_true rfl) rfl rfl (Nat.le_of_ble_eq_true rfl) (Nat.le_of_ble_eq_true rfl) rfl ?_
  rintro _ ⟨F4, rfl, rfl⟩
  refine cw_aast (n1 := 65) (t := 4) (q0 := 0) (ci := 1) (r := (RX2, TX2, 8)) (ws' := ((q2, .inl (g.2.2.2 4, 4, .inr (.inr (.inr (.inr (va_up (va_up (va_up (va_up (fun _ => none) (Int32.toNatClampNeg 0) (some (F1 0))) (Int32.toNatClampNeg 1) (some (F2 0))) (Int32.toNatClampNeg 2) (some (F3 0))) (Int32.toNatClampNeg 3) (some (F4 0)))))))) :: (q1, .inl (g.2.2.2 2, 24, .inr (.inl (fun _ => 0)))) :: (h0, .inr (4, [.int 4, .int 24, .int 0, .ref (q1), .int 0, .ref (q2)])) :: (((([] ++ earW g F1) ++ earW g F2) ++ earW g F3) ++ earW g F4))) dX5_init_64 rfl rfl (List.mem_append_right _ (mem_ear g F4)) rfl (vp_in_iff.mpr (by decide)) rfl rfl ?_
  refine cw_iinc (n1 := 68) (v := 4) dX5_init_65 rfl (by decide) rfl rfl ?_
  refine cw_goto (tgt := 43) dX5_init_68 (by decide) ?_
  refine cw_iload_n (n1 := 44) (i := 1) dX5_init_43 rfl rfl rfl ?_
  refine cw_aload_n (n1 := 45) (i := 0) dX5_init_44 rfl rfl rfl ?_
  refine cw_get (n1 := 48) (own := RX5) (C := RX5) (T := TX5) (N := 6) (ci := 4) (j := 5) (q0 := 2) dX5_init_45 rfl iwX5_init_X5 rfl rfl (by decide) (by decide +kernel) rfl rfl ?_
  refine cw_alen (n1 := 49) (t := 4) (q0 := 0) (v := 4) dX5_init_48 rfl rfl rfl rfl ?_
  refine cw_icmp_ge (tgt := 71) (n1 := 52) dX5_init_49 (by decide) rfl (fun _ => ?_) (fun q_z => absurd (by decide) q_z)
  refine cw_to (ws' := stW g (stF h0 q1 q2 F1 F2 F3 F4)) (fun H hP => va_P_of (fun q hq => ?_)) ?_ (cw_vret dX5_init_71 rfl ⟨(stF h0 q1 q2 F1 F2 F3 F4), rfl, rfl⟩)
  · have key : ∀ q, q ∈ ((q2, .inl (g.2.2.2 4, 4, .inr (.inr (.inr (.inr (va_up (va_up (va_up (va_up (fun _ => none) (Int32.toNatClampNeg 0) (some (F1 0))) (Int32.toNatClampNeg 1) (some (F2 0))) (Int32.toNatClampNeg 2) (some (F3 0))) (Int32.toNatClampNeg 3) (some (F4 0)))))))) :: (q1, .inl (g.2.2.2 2, 24, .inr (.inl (fun _ => 0)))) :: (h0, .inr (4, [.int 4, .int 24, .int 0, .ref (q1), .int 0, .ref (q2)])) :: (((([] ++ earW g F1) ++ earW g F2) ++ earW g F3) ++ earW g F4)) → va_at g.2.2.1 vwCl q H := fun q hq => va_P_at hP hq
    simp only [List.forall_mem_cons] at key
    obtain ⟨k2, k1, k0, kt⟩ := key
    have goal : ∀ q, q ∈ stW g (stF h0 q1 q2 F1 F2 F3 F4) → va_at g.2.2.1 vwCl q H := by
      refine List.forall_mem_cons.mpr ⟨k0, List.forall_mem_cons.mpr ⟨k1, List.forall_mem_cons.mpr ⟨at_q k2 (fun j hj => ?_), kt⟩⟩⟩
      match j, hj with
      | 0, _ => rfl
      | 1, _ => rfl
      | 2, _ => rfl
      | 3, _ => rfl
      | z + 4, h => exact absurd h (by omega)
    exact goal q hq
  · exact (List.reverse_perm [h0, q1, q2]).append_right (List.map Prod.fst (((([] ++ earW g F1) ++ earW g F2) ++ earW g F3) ++ earW g F4))
def ciF (L : List Nat) (Fn Fp Fd Fo Fe Fm P0 P1 P2 P3 P4 P5 S0 S1 : Nat → Nat) (k : Nat) : Nat := bif Nat.blt k 4 then lf L k else bif Nat.blt k 6 then Fp (k - 4) else bif Nat.blt k 12 then Fd (k - 6) else bif Nat.blt k 18 then Fo (k - 12) else bif Nat.blt k 30 then Fm (k - 18) else bif Nat.blt k 100 then Fe (k - 30) else bif Nat.blt k 200 then Fn (k - 100) else bif Nat.blt k 300 then P0 (k - 200) else bif Nat.blt k 400 then P1 (k - 300) else bif Nat.blt k 500 then P2 (k - 400) else bif Nat.blt k 600 then P3 (k - 500) else bif Nat.blt k 700 then P4 (k - 600) else bif Nat.blt k 800 then P5 (k - 700) else bif Nat.blt k 900 then S0 (k - 800) else S1 (k - 900)
abbrev rmX7_init : Room := { frames := 3, cells := 306, slots := 4189, locals := 62 }
abbrev mmX7_init : MI := (wsX7_init, cX7_init, RX7, 2, none, rmX7_init)
theorem iwX7_init_X1 : ∀ w ∈ wsX10, w ∈ wsX7_init := by decide +kernel
theorem iwX7_init_X2 : ∀ w ∈ wsX20, w ∈ wsX7_init := by decide +kernel
theorem iwX7_init_X3 : ∀ w ∈ wsX30, w ∈ wsX7_init := by decide +kernel
theorem iwX7_init_X4 : ∀ w ∈ wsX40, w ∈ wsX7_init := by decide +kernel
theorem iwX7_init_X5 : ∀ w ∈ wsX50, w ∈ wsX7_init := by decide +kernel
theorem iwX7_init_X7 : ∀ w ∈ wsX70, w ∈ wsX7_init := by decide +kernel
set_option maxRecDepth 100000 in
set_option maxHeartbeats 1000000 in
theorem cc_X7_init (g : Gx) (h0 : Nat) : CC g yX7_init wsX7_init rmX7_init [.ref h0] [(h0, .inr (5, [.null, .null, .int 0, .null, .null, .null, .null, .null, .null, .null]))] 306 4189 (fun w => ∃ F : Nat → Nat, F 0 = h0 ∧ w = ciW g F) := by
  refine CC.of (cc := cX7_init) (maxL := 2) (by decide +kernel) rfl (Nat.le_of_ble_eq_true rfl) (fun sz => ?_)
  show CW g mmX7_init "<init>" _ _ 0 0 0 [(0, some (.ref h0))] [] [(h0, .inr (5, [.null, .null, .int 0, .null, .null, .null, .null, .null, .null, .null]))]
  refine cw_aload_n (n1 := 1) (i := 0) dX7_init_0 rfl rfl rfl ?_
  refine cw_objInit (n1 := 4) dX7_init_1 (by decide +kernel) (by decide +kernel) (by decide +kernel) (Nat.le_of_ble_eq_true rfl) (Nat.le_of_ble_eq_true rfl) rfl ?_
  refine cw_aload_n (n1 := 5) (i := 0) dX7_init_4 rfl rfl rfl ?_
  refine cw_new (n1 := 8) (own := RX7) (C := RX5) (T := TX5) (N := 6) (ci := 4) (fs := [.int 0, .int 0, .int 0, .null, .int 0, .null]) (k' := 1) (n' := 6) dX7_init_5 rfl (by decide +kernel) (by decide +kernel) (by decide +kernel) iwX7_init_X5 tyX5_ok rfl hfX5 rfl rfl (Nat.le_of_ble_eq_true rfl) (Nat.le_of_ble_eq_true rfl) rfl (fun q1 => ?_)
  refine cw_dup (n1 := 9) dX7_init_8 rfl rfl ?_
  refine cw_callI (n1 := 12) (own := RX7) (nA := 0) (k' := 31) (n' := 370) (wc := [(q1, .inr (4, [.int 0, .int 0, .int 0, .null, .int 0, .null]))]) (rest := [(h0, .inr (5, [.null, .null, .int 0, .null, .null, .null, .null, .null, .null, .null]))]) dX7_init_9 rfl gX7_init_X5_init rfl (by decide +kernel) (by decide +kernel) (by decide +kernel) rfl (by decide +kernel) ⟨rfl, rfl⟩ ⟨(Nat.le_of_ble_eq_true rfl), (Nat.le_of_ble_eq_true rfl)⟩ (cc_X5_init g q1) rfl rfl rfl (Nat.le_of_ble_eq_true rfl) rfl rfl (Nat.le_of_ble_eq_true rfl) (Nat.le_of_ble_eq_true rfl) rfl ?_
  rintro _ ⟨F1, rfl, rfl⟩
  refine cw_put (n1 := 15) (own := RX7) (C := RX7) (T := TX7) (N := 10) (ci := 5) (j := 0) (q0 := 0) (ty := tyX7 0) (ws' := ((h0, .inr (5, [.ref (F1 0), .null, .int 0, .null, .null, .null, .null, .null, .null, .null])) :: ([] ++ stW g F1))) dX7_init_12 rfl iwX7_init_X7 tyX7_ok nmX7 rfl rfl (by decide) (by decide +kernel) (Or.inr ⟨rfl, rfl, rfl⟩) (tyX7_ok 0 (by decide)) rfl rfl (Nat.le_of_ble_eq_true rfl) rfl rfl ?_
  refine cw_aload_n (n1 := 16) (i := 0) dX7_init_15 rfl rfl rfl ?_
  refine cw_bipush (n1 := 18) (v := 6) dX7_init_16 rfl rfl ?_
  refine cw_newq (n1 := 21) (own := RX7) (C := RX5) (t := 5) (N' := 6) (k' := 32) (n' := 376) (cI := g.2.2.2 5) dX7_init_18 rfl (by decide +kernel) (fun _ h => h.2.2.2.1) rfl (by decide) (by decide +kernel) (Nat.le_of_ble_eq_true rfl) rfl rfl (Nat.le_of_ble_eq_true rfl) (Nat.le_of_ble_eq_true rfl) rfl (fun q2 => ?_)
  refine cw_put (n1 := 24) (own := RX7) (C := RX7) (T := TX7) (N := 10) (ci := 5) (j := 1) (q0 := 1) (ty := tyX7 1) (ws' := ((q2, .inl (g.2.2.2 5, 6, .inr (.inr (.inr (.inr (fun _ => none)))))) :: (h0, .inr (5, [.ref (F1 0), .ref (q2), .int 0, .null, .null, .null, .null, .null, .null, .null])) :: ([] ++ stW g F1))) dX7_init_21 rfl iwX7_init_X7 tyX7_ok nmX7 rfl rfl (by decide) (by decide +kernel) (Or.inr ⟨rfl, rfl, rfl⟩) (tyX7_ok 1 (by decide)) rfl rfl (Nat.le_of_ble_eq_true rfl) rfl rfl ?_
  refine cw_aload_n (n1 := 25) (i := 0) dX7_init_24 rfl rfl rfl ?_
  refine cw_iconst (n1 := 26) (v := 0) dX7_init_25 rfl rfl ?_
  refine cw_put (n1 := 29) (own := RX7) (C := RX7) (T := TX7) (N := 10) (ci := 5) (j := 2) (q0 := 1) (ty := tyX7 2) (ws' := ((q2, .inl (g.2.2.2 5, 6, .inr (.inr (.inr (.inr (fun _ => none)))))) :: (h0, .inr (5, [.ref (F1 0), .ref (q2), .int 0, .null, .null, .null, .null, .null, .null, .null])) :: ([] ++ stW g F1))) dX7_init_26 rfl iwX7_init_X7 tyX7_ok nmX7 rfl rfl (by decide) (by decide +kernel) (Or.inl rfl) (tyX7_ok 2 (by decide)) rfl rfl (Nat.le_of_ble_eq_true rfl) rfl rfl ?_
  refine cw_aload_n (n1 := 30) (i := 0) dX7_init_29 rfl rfl rfl ?_
  refine cw_iconst (n1 := 31) (v := 2) dX7_init_30 rfl rfl ?_
  refine cw_newq (n1 := 34) (own := RX7) (C := RX5) (t := 5) (N' := 2) (k' := 33) (n' := 378) (cI := g.2.2.2 5) dX7_init_31 rfl (by decide +kernel) (fun _ h => h.2.2.2.1) rfl (by decide) (by decide +kernel) (Nat.le_of_ble_eq_true rfl) rfl rfl (Nat.le_of_ble_eq_true rfl) (Nat.le_of_ble_eq_true rfl) rfl (fun q3 => ?_)
  refine cw_put (n1 := 37) (own := RX7) (C := RX7) (T := TX7) (N := 10) (ci := 5) (j := 3) (q0 := 2) (ty := tyX7 3) (ws' := ((q3, .inl (g.2.2.2 5, 2, .inr (.inr (.inr (.inr (fun _ => none)))))) :: (q2, .inl (g.2.2.2 5, 6, .inr (.inr (.inr (.inr (fun _ => none)))))) :: (h0, .inr (5, [.ref (F1 0), .ref (q2), .int 0, .ref (q3), .null, .null, .null, .null, .null, .null])) :: ([] ++ stW g F1))) dX7_init_34 rfl iwX7_init_X7 tyX7_ok nmX7 rfl rfl (by decide) (by decide +kernel) (Or.inr ⟨rfl, rfl, rfl⟩) (tyX7_ok 3 (by decide)) rfl rfl (Nat.le_of_ble_eq_true rfl) rfl rfl ?_
  refine cw_aload_n (n1 := 38) (i := 0) dX7_init_37 rfl rfl rfl ?_
  refine cw_iconst (n1 := 39) (v := 2) dX7_init_38 rfl rfl ?_
  refine cw_newa (n1 := 41) (t := 3) (ty := .boolean) (N' := 2) (k' := 34) (n' := 380) (cI := g.2.2.2 3) (a0 := (2, .inl (fun _ => 0))) (atype := .boolean) dX7_init_39 (by decide +kernel) rfl rfl (fun _ => rfl) (by decide) (by decide +kernel) (Nat.le_of_ble_eq_true rfl) rfl rfl (Nat.le_of_ble_eq_true rfl) (Nat.le_of_ble_eq_true rfl) rfl (fun q4 => ?_)
  refine cw_put (n1 := 44) (own := RX7) (C := RX7) (T := TX7) (N := 10) (ci := 5) (j := 4) (q0 := 3) (ty := tyX7 4) (ws' := ((q4, .inl (g.2.2.2 3, 2, .inl (fun _ => 0))) :: (q3, .inl (g.2.2.2 5, 2, .inr (.inr (.inr (.inr (fun _ => none)))))) :: (q2, .inl (g.2.2.2 5, 6, .inr (.inr (.inr (.inr (fun _ => none)))))) :: (h0, .inr (5, [.ref (F1 0), .ref (q2), .int 0, .ref (q3), .ref (q4), .null, .null, .null, .null, .null])) :: ([] ++ stW g F1))) dX7_init_41 rfl iwX7_init_X7 tyX7_ok nmX7 rfl rfl (by decide) (by decide +kernel) (Or.inr ⟨rfl, rfl, rfl⟩) (tyX7_ok 4 (by decide)) rfl rfl (Nat.le_of_ble_eq_true rfl) rfl rfl ?_
  refine cw_aload_n (n1 := 45) (i := 0) dX7_init_44 rfl rfl rfl ?_
  refine cw_new (n1 := 48) (own := RX7) (C := RX4) (T := TX4) (N := 2) (ci := 3) (fs := [.null, .int 0]) (k' := 35) (n' := 382) dX7_init_45 rfl (by decide +kernel) (by decide +kernel) (by decide +kernel) iwX7_init_X4 tyX4_ok rfl hfX4 rfl rfl (Nat.le_of_ble_eq_true rfl) (Nat.le_of_ble_eq_true rfl) rfl (fun q5 => ?_)
  refine cw_dup (n1 := 49) dX7_init_48 rfl rfl ?_
  refine cw_callIN (n1 := 52) (own := RX7) (host := RX7) (nA := 0) (k' := 36) (n' := 462) (wc := [(q5, .inr (3, [.null, .int 0]))]) (rest := ((q4, .inl (g.2.2.2 3, 2, .inl (fun _ => 0))) :: (q3, .inl (g.2.2.2 5, 2, .inr (.inr (.inr (.inr (fun _ => none)))))) :: (q2, .inl (g.2.2.2 5, 6, .inr (.inr (.inr (.inr (fun _ => none)))))) :: (h0, .inr (5, [.ref (F1 0), .ref (q2), .int 0, .ref (q3), .ref (q4), .null, .null, .null, .null, .null])) :: ([] ++ stW g F1))) dX7_init_49 rfl gX7_init_X4_init_n33 rfl (by decide +kernel) (fun _ h => h.1) (by decide +kernel) rfl (by decide +kernel) ⟨rfl, rfl⟩ ⟨(Nat.le_of_ble_eq_true rfl), (Nat.le_of_ble_eq_true rfl)⟩ (cc_X4_init g q5) rfl rfl rfl (Nat.le_of_ble_eq_true rfl) rfl rfl (Nat.le_of_ble_eq_true rfl) (Nat.le_of_ble_eq_true rfl) rfl ?_
  rintro _ ⟨F2, rfl, rfl⟩
  refine cw_put (n1 := 55) (own := RX7) (C := RX7) (T := TX7) (N := 10) (ci := 5) (j := 5) (q0 := 3) (ty := tyX7 5) (ws' := ((q4, .inl (g.2.2.2 3, 2, .inl (fun _ => 0))) :: (q3, .inl (g.2.2.2 5, 2, .inr (.inr (.inr (.inr (fun _ => none)))))) :: (q2, .inl (g.2.2.2 5, 6, .inr (.inr (.inr (.inr (fun _ => none)))))) :: (h0, .inr (5, [.ref (F1 0), .ref (q2), .int 0, .ref (q3), .ref (q4), .ref (F2 0), .null, .null, .null, .null])) :: (([] ++ stW g F1) ++ padW g F2))) dX7_init_52 rfl iwX7_init_X7 tyX7_ok nmX7 rfl rfl (by decide) (by decide +kernel) (Or.inr ⟨rfl, rfl, rfl⟩) (tyX7_ok 5 (by decide)) rfl rfl (Nat.le_of_ble_eq_true rfl) rfl rfl ?_
  refine cw_aload_n (n1 := 56) (i := 0) dX7_init_55 rfl rfl rfl ?_
  refine cw_new (n1 := 59) (own := RX7) (C := RX1) (T := TX1) (N := 7) (ci := 0) (fs := [.int 0, .null, .null, .int 0, .null, .null, .null]) (k' := 37) (n' := 469) dX7_init_56 rfl (by decide +kernel) (by decide +kernel) (by decide +kernel) iwX7_init_X1 tyX1_ok rfl hfX1 rfl rfl (Nat.le_of_ble_eq_true rfl) (Nat.le_of_ble_eq_true rfl) rfl (fun q6 => ?_)
  refine cw_dup (n1 := 60) dX7_init_59 rfl rfl ?_
  refine cw_callIN (n1 := 63) (own := RX7) (host := RX7) (nA := 0) (k' := 42) (n' := 785) (wc := [(q6, .inr (0, [.int 0, .null, .null, .int 0, .null, .null, .null]))]) (rest := ((q4, .inl (g.2.2.2 3, 2, .inl (fun _ => 0))) :: (q3, .inl (g.2.2.2 5, 2, .inr (.inr (.inr (.inr (fun _ => none)))))) :: (q2, .inl (g.2.2.2 5, 6, .inr (.inr (.inr (.inr (fun _ => none)))))) :: (h0, .inr (5, [.ref (F1 0), .ref (q2), .int 0, .ref (q3), .ref (q4), .ref (F2 0), .null, .null, .null, .null])) :: (([] ++ stW g F1) ++ padW g F2))) dX7_init_60 rfl gX7_init_X1_init_n40 rfl (by decide +kernel) (fun _ h => h.2.1) (by decide +kernel) rfl (by decide +kernel) ⟨rfl, rfl⟩ ⟨(Nat.le_of_ble_eq_true rfl), (Nat.le_of_ble_eq_true rfl)⟩ (cc_X1_init g q6) rfl rfl rfl (Nat.le_of_ble_eq_true rfl) rfl rfl (Nat.le_of_ble_eq_true rfl) (Nat.le_of_ble_eq_true rfl) rfl ?_
  rintro _ ⟨F3, rfl, rfl⟩
  refine cw_put (n1 := 66) (own := RX7) (C := RX7) (T := TX7) (N := 10) (ci := 5) (j := 6) (q0 := 3) (ty := tyX7 6) (ws' := ((q4, .inl (g.2.2.2 3, 2, .inl (fun _ => 0))) :: (q3, .inl (g.2.2.2 5, 2, .inr (.inr (.inr (.inr (fun _ => none)))))) :: (q2, .inl (g.2.2.2 5, 6, .inr (.inr (.inr (.inr (fun _ => none)))))) :: (h0, .inr (5, [.ref (F1 0), .ref (q2), .int 0, .ref (q3), .ref (q4), .ref (F2 0), .ref (F3 0), .null, .null, .null])) :: ((([] ++ stW g F1) ++ padW g F2) ++ drW g F3))) dX7_init_63 rfl iwX7_init_X7 tyX7_ok nmX7 rfl rfl (by decide) (by decide +kernel) (Or.inr ⟨rfl, rfl, rfl⟩) (tyX7_ok 6 (by decide)) rfl rfl (Nat.le_of_ble_eq_true rfl) rfl rfl ?_
  refine cw_aload_n (n1 := 67) (i := 0) dX7_init_66 rfl rfl rfl ?_
  refine cw_new (n1 := 70) (own := RX7) (C := RX1) (T := TX1) (N := 7) (ci := 0) (fs := [.int 0, .null, .null, .int 0, .null, .null, .null]) (k' := 43) (n' := 792) dX7_init_67 rfl (by decide +kernel) (by decide +kernel) (by decide +kernel) iwX7_init_X1 tyX1_ok rfl hfX1 rfl rfl (Nat.le_of_ble_eq_true rfl) (Nat.le_of_ble_eq_true rfl) rfl (fun q7 => ?_)
  refine cw_dup (n1 := 71) dX7_init_70 rfl rfl ?_
  refine cw_callIN (n1 := 74) (own := RX7) (host := RX7) (nA := 0) (k' := 48) (n' := 1108) (wc := [(q7, .inr (0, [.int 0, .null, .null, .int 0, .null, .null, .null]))]) (rest := ((q4, .inl (g.2.2.2 3, 2, .inl (fun _ => 0))) :: (q3, .inl (g.2.2.2 5, 2, .inr (.inr (.inr (.inr (fun _ => none)))))) :: (q2, .inl (g.2.2.2 5, 6, .inr (.inr (.inr (.inr (fun _ => none)))))) :: (h0, .inr (5, [.ref (F1 0), .ref (q2), .int 0, .ref (q3), .ref (q4), .ref (F2 0), .ref (F3 0), .null, .null, .null])) :: ((([] ++ stW g F1) ++ padW g F2) ++ drW g F3))) dX7_init_71 rfl gX7_init_X1_init_n40 rfl (by decide +kernel) (fun _ h => h.2.1) (by decide +kernel) rfl (by decide +kernel) ⟨rfl, rfl⟩ ⟨(Nat.le_of_ble_eq_true rfl), (Nat.le_of_ble_eq_true rfl)⟩ (cc_X1_init g q7) rfl rfl rfl (Nat.le_of_ble_eq_true rfl) rfl rfl (Nat.le_of_ble_eq_true rfl) (Nat.le_of_ble_eq_true rfl) rfl ?_
  rintro _ ⟨F4, rfl, rfl⟩
  refine cw_put (n1 := 77) (own := RX7) (C := RX7) (T := TX7) (N := 10) (ci := 5) (j := 7) (q0 := 3) (ty := tyX7 7) (ws' := ((q4, .inl (g.2.2.2 3, 2, .inl (fun _ => 0))) :: (q3, .inl (g.2.2.2 5, 2, .inr (.inr (.inr (.inr (fun _ => none)))))) :: (q2, .inl (g.2.2.2 5, 6, .inr (.inr (.inr (.inr (fun _ => none)))))) :: (h0, .inr (5, [.ref (F1 0), .ref (q2), .int 0, .ref (q3), .ref (q4), .ref (F2 0), .ref (F3 0), .ref (F4 0), .null, .null])) :: (((([] ++ stW g F1) ++ padW g F2) ++ drW g F3) ++ drW g F4))) dX7_init_74 rfl iwX7_init_X7 tyX7_ok nmX7 rfl rfl (by decide) (by decide +kernel) (Or.inr ⟨rfl, rfl, rfl⟩) (tyX7_ok 7 (by decide)) rfl rfl (Nat.le_of_ble_eq_true rfl) rfl rfl ?_
  refine cw_aload_n (n1 := 78) (i := 0) dX7_init_77 rfl rfl rfl ?_
  refine cw_new (n1 := 81) (own := RX7) (C := RX2) (T := TX2) (N := 8) (ci := 1) (fs := [.null, .null, .int 0, .int 0, .null, .null, .null, .null]) (k' := 49) (n' := 1116) dX7_init_78 rfl (by decide +kernel) (by decide +kernel) (by decide +kernel) iwX7_init_X2 tyX2_ok rfl hfX2 rfl rfl (Nat.le_of_ble_eq_true rfl) (Nat.le_of_ble_eq_true rfl) rfl (fun q8 => ?_)
  refine cw_dup (n1 := 82) dX7_init_81 rfl rfl ?_
  refine cw_callI (n1 := 85) (own := RX7) (nA := 0) (k' := 55) (n' := 1192) (wc := [(q8, .inr (1, [.null, .null, .int 0, .int 0, .null, .null, .null, .null]))]) (rest := ((q4, .inl (g.2.2.2 3, 2, .inl (fun _ => 0))) :: (q3, .inl (g.2.2.2 5, 2, .inr (.inr (.inr (.inr (fun _ => none)))))) :: (q2, .inl (g.2.2.2 5, 6, .inr (.inr (.inr (.inr (fun _ => none)))))) :: (h0, .inr (5, [.ref (F1 0), .ref (q2), .int 0, .ref (q3), .ref (q4), .ref (F2 0), .ref (F3 0), .ref (F4 0), .null, .null])) :: (((([] ++ stW g F1) ++ padW g F2) ++ drW g F3) ++ drW g F4))) dX7_init_82 rfl gX7_init_X2_init rfl (by decide +kernel) (by decide +kernel) (by decide +kernel) rfl (by decide +kernel) ⟨rfl, rfl⟩ ⟨(Nat.le_of_ble_eq_true rfl), (Nat.le_of_ble_eq_true rfl)⟩ (cc_X2_init g q8) rfl rfl rfl (Nat.le_of_ble_eq_true rfl) rfl rfl (Nat.le_of_ble_eq_true rfl) (Nat.le_of_ble_eq_true rfl) rfl ?_
  rintro _ ⟨F5, rfl, rfl⟩
  refine cw_put (n1 := 88) (own := RX7) (C := RX7) (T := TX7) (N := 10) (ci := 5) (j := 8) (q0 := 3) (ty := tyX7 8) (ws' := ((q4, .inl (g.2.2.2 3, 2, .inl (fun _ => 0))) :: (q3, .inl (g.2.2.2 5, 2, .inr (.inr (.inr (.inr (fun _ => none)))))) :: (q2, .inl (g.2.2.2 5, 6, .inr (.inr (.inr (.inr (fun _ => none)))))) :: (h0, .inr (5, [.ref (F1 0), .ref (q2), .int 0, .ref (q3), .ref (q4), .ref (F2 0), .ref (F3 0), .ref (F4 0), .ref (F5 0), .null])) :: ((((([] ++ stW g F1) ++ padW g F2) ++ drW g F3) ++ drW g F4) ++ earW g F5))) dX7_init_85 rfl iwX7_init_X7 tyX7_ok nmX7 rfl rfl (by decide) (by decide +kernel) (Or.inr ⟨rfl, rfl, rfl⟩) (tyX7_ok 8 (by decide)) rfl rfl (Nat.le_of_ble_eq_true rfl) rfl rfl ?_
  refine cw_aload_n (n1 := 89) (i := 0) dX7_init_88 rfl rfl rfl ?_
  refine cw_new (n1 := 92) (own := RX7) (C := RX3) (T := TX3) (N := 2) (ci := 2) (fs := [.null, .null]) (k' := 56) (n' := 1194) dX7_init_89 rfl (by decide +kernel) (by decide +kernel) (by decide +kernel) iwX7_init_X3 tyX3_ok rfl hfX3 rfl rfl (Nat.le_of_ble_eq_true rfl) (Nat.le_of_ble_eq_true rfl) rfl (fun q9 => ?_)
  refine cw_dup (n1 := 93) dX7_init_92 rfl rfl ?_
  refine cw_callIN (n1 := 96) (own := RX7) (host := RX7) (nA := 0) (k' := 58) (n' := 1229) (wc := [(q9, .inr (2, [.null, .null]))]) (rest := ((q4, .inl (g.2.2.2 3, 2, .inl (fun _ => 0))) :: (q3, .inl (g.2.2.2 5, 2, .inr (.inr (.inr (.inr (fun _ => none)))))) :: (q2, .inl (g.2.2.2 5, 6, .inr (.inr (.inr (.inr (fun _ => none)))))) :: (h0, .inr (5, [.ref (F1 0), .ref (q2), .int 0, .ref (q3), .ref (q4), .ref (F2 0), .ref (F3 0), .ref (F4 0), .ref (F5 0), .null])) :: ((((([] ++ stW g F1) ++ padW g F2) ++ drW g F3) ++ drW g F4) ++ earW g F5))) dX7_init_93 rfl gX7_init_X3_init_n57 rfl (by decide +kernel) (fun _ h => h.2.2.1) (by decide +kernel) rfl (by decide +kernel) ⟨rfl, rfl⟩ ⟨(Nat.le_of_ble_eq_true rfl), (Nat.le_of_ble_eq_true rfl)⟩ (cc_X3_init g q9) rfl rfl rfl (Nat.le_of_ble_eq_true rfl) rfl rfl (Nat.le_of_ble_eq_true rfl) (Nat.le_of_ble_eq_true rfl) rfl ?_
  rintro _ ⟨F6, rfl, rfl⟩
  refine cw_put (n1 := 99) (own := RX7) (C := RX7) (T := TX7) (N := 10) (ci := 5) (j := 9) (q0 := 3) (ty := tyX7 9) (ws' := ((q4, .inl (g.2.2.2 3, 2, .inl (fun _ => 0))) :: (q3, .inl (g.2.2.2 5, 2, .inr (.inr (.inr (.inr (fun _ => none)))))) :: (q2, .inl (g.2.2.2 5, 6, .inr (.inr (.inr (.inr (fun _ => none)))))) :: (h0, .inr (5, [.ref (F1 0), .ref (q2), .int 0, .ref (q3), .ref (q4), .ref (F2 0), .ref (F3 0), .ref (F4 0), .ref (F5 0), .ref (F6 0)])) :: (((((([] ++ stW g F1) ++ padW g F2) ++ drW g F3) ++ drW g F4) ++ earW g F5) ++ mtW g F6))) dX7_init_96 rfl iwX7_init_X7 tyX7_ok nmX7 rfl rfl (by decide) (by decide +kernel) (Or.inr ⟨rfl, rfl, rfl⟩) (tyX7_ok 9 (by decide)) rfl rfl (Nat.le_of_ble_eq_true rfl) rfl rfl ?_
  refine cw_iconst (n1 := 100) (v := 0) dX7_init_99 rfl rfl ?_
  refine cw_istore_n (n1 := 101) (i := 1) dX7_init_100 rfl (Nat.le_of_ble_eq_true rfl) rfl rfl ?_
  refine cw_iload_n (n1 := 102) (i := 1) dX7_init_101 rfl rfl rfl ?_
  refine cw_aload_n (n1 := 103) (i := 0) dX7_init_102 rfl rfl rfl ?_
  refine cw_get (n1 := 106) (own := RX7) (C := RX7) (T := TX7) (N := 10) (ci := 5) (j := 1) (q0 := 3) dX7_init_103 rfl iwX7_init_X7 rfl rfl (by decide) (by decide +kernel) rfl rfl ?_
  refine cw_alen (n1 := 107) (t := 5) (q0 := 2) (v := 6) dX7_init_106 rfl rfl rfl rfl ?_
  refine cw_icmp_ge (tgt := 129) (n1 := 110) dX7_init_107 (by decide) rfl (fun q_z => absurd q_z (by decide)) (fun _ => ?_)
  refine cw_aload_n (n1 := 111) (i := 0) dX7_init_110 rfl rfl rfl ?_
  refine cw_get (n1 := 114) (own := RX7) (C := RX7) (T := TX7) (N := 10) (ci := 5) (j := 1) (q0 := 3) dX7_init_111 rfl iwX7_init_X7 rfl rfl (by decide) (by decide +kernel) rfl rfl ?_
  refine cw_iload_n (n1 := 115) (i := 1) dX7_init_114 rfl rfl rfl ?_
  refine cw_new (n1 := 118) (own := RX7) (C := RX5) (T := TX5) (N := 6) (ci := 4) (fs := [.int 0, .int 0, .int 0, .null, .int 0, .null]) (k' := 59) (n' := 1235) dX7_init_115 rfl (by decide +kernel) (by decide +kernel) (by decide +kernel) iwX7_init_X5 tyX5_ok rfl hfX5 rfl rfl (Nat.le_of_ble_eq_true rfl) (Nat.le_of_ble_eq_true rfl) rfl (fun q10 => ?_)
  refine cw_dup (n1 := 119) dX7_init_118 rfl rfl ?_
  refine cw_callI (n1 := 122) (own := RX7) (nA := 0) (k' := 89) (n' := 1599) (wc := [(q10, .inr (4, [.int 0, .int 0, .int 0, .null, .int 0, .null]))]) (rest := ((q4, .inl (g.2.2.2 3, 2, .inl (fun _ => 0))) :: (q3, .inl (g.2.2.2 5, 2, .inr (.inr (.inr (.inr (fun _ => none)))))) :: (q2, .inl (g.2.2.2 5, 6, .inr (.inr (.inr (.inr (fun _ => none)))))) :: (h0, .inr (5, [.ref (F1 0), .ref (q2), .int 0, .ref (q3), .ref (q4), .ref (F2 0), .ref (F3 0), .ref (F4 0), .ref (F5 0), .ref (F6 0)])) :: (((((([] ++ stW g F1) ++ padW g F2) ++ drW g F3) ++ drW g F4) ++ earW g F5) ++ mtW g F6))) dX7_init_119 rfl gX7_init_X5_init rfl (by decide +kernel) (by decide +kernel) (by decide +kernel) rfl (by decide +kernel) ⟨rfl, rfl⟩ ⟨(Nat.le_of_ble_eq_true rfl), (Nat.le_of_ble_eq_true rfl)⟩ (cc_X5_init g q10) rfl rfl rfl (Nat.le_of_ble_eq_true rfl) rfl rfl (Nat.le_of_ble_eq_true rfl) (Nat.le_of_ble_eq_true rfl) rfl ?_
  rintro _ ⟨F7, rfl, rfl⟩
  refine cw_aast (n1 := 123) (t := 5) (q0 := 2) (ci := 4) (r := (RX5, TX5, 6)) (ws' := ((q4, .inl (g.2.2.2 3, 2, .inl (fun _ => 0))) :: (q3, .inl (g.2.2.2 5, 2, .inr (.inr (.inr (.inr (fun _ => none)))))) :: (q2, .inl (g.2.2.2 5, 6, .inr (.inr (.inr (.inr (va_up (fun _ => none) (Int32.toNatClampNeg 0) (some (F7 0)))))))) :: (h0, .inr (5, [.ref (F1 0), .ref (q2), .int 0, .ref (q3), .ref (q4), .ref (F2 0), .ref (F3 0), .ref (F4 0), .ref (F5 0), .ref (F6 0)])) :: ((((((([] ++ stW g F1) ++ padW g F2) ++ drW g F3) ++ drW g F4) ++ earW g F5) ++ mtW g F6) ++ stW g F7))) dX7_init_122 rfl rfl (List.mem_append_right _ (mem_st g F7)) rfl (vp_in_iff.mpr (by decide)) rfl rfl ?_
  refine cw_iinc (n1 := 126) (v := 1) dX7_init_123 rfl (by decide) rfl rfl ?_
  refine cw_goto (tgt := 101) dX7_init_126 (by decide) ?_
  refine cw_iload_n (n1 := 102) (i := 1) dX7_init_101 rfl rfl rfl ?_
  refine cw_aload_n (n1 := 103) (i := 0) dX7_init_102 rfl rfl rfl ?_
  refine cw_get (n1 := 106) (own := RX7) (C := RX7) (T := TX7) (N := 10) (ci := 5) (j := 1) (q0 := 3) dX7_init_103 rfl iwX7_init_X7 rfl rfl (by decide) (by decide +kernel) rfl rfl ?_
  refine cw_alen (n1 := 107) (t := 5) (q0 := 2) (v := 6) dX7_init_106 rfl rfl rfl rfl ?_
  refine cw_icmp_ge (tgt := 129) (n1 := 110) dX7_init_107 (by decide) rfl (fun q_z => absurd q_z (by decide)) (fun _ => ?_)
  refine cw_aload_n (n1 := 111) (i := 0) dX7_init_110 rfl rfl rfl ?_
  refine cw_get (n1 := 114) (own := RX7) (C := RX7) (T := TX7) (N := 10) (ci := 5) (j := 1) (q0 := 3) dX7_init_111 rfl iwX7_init_X7 rfl rfl (by decide) (by decide +kernel) rfl rfl ?_
  refine cw_iload_n (n1 := 115) (i := 1) dX7_init_114 rfl rfl rfl ?_
  refine cw_new (n1 := 118) (own := RX7) (C := RX5) (T := TX5) (N := 6) (ci := 4) (fs := [.int 0, .int 0, .int 0, .null, .int 0, .null]) (k' := 90) (n' := 1605) dX7_init_115 rfl (by decide +kernel) (by decide +kernel) (by decide +kernel) iwX7_init_X5 tyX5_ok rfl hfX5 rfl rfl (Nat.le_of_ble_eq_true rfl) (Nat.le_of_ble_eq_true rfl) rfl (fun q11 => ?_)
  refine cw_dup (n1 := 119) dX7_init_118 rfl rfl ?_
  refine cw_callI (n1 := 122) (own := RX7) (nA := 0) (k' := 120) (n' := 1969) (wc := [(q11, .inr (4, [.int 0, .int 0, .int 0, .null, .int 0, .null]))]) (rest := ((q4, .inl (g.2.2.2 3, 2, .inl (fun _ => 0))) :: (q3, .inl (g.2.2.2 5, 2, .inr (.inr (.inr (.inr (fun _ => none)))))) :: (q2, .inl (g.2.2.2 5, 6, .inr (.inr (.inr (.inr (va_up (fun _ => none) (Int32.toNatClampNeg 0) (some (F7 0)))))))) :: (h0, .inr (5, [.ref (F1 0), .ref (q2), .int 0, .ref (q3), .ref (q4), .ref (F2 0), .ref (F3 0), .ref (F4 0), .ref (F5 0), .ref (F6 0)])) :: ((((((([] ++ stW g F1) ++ padW g F2) ++ drW g F3) ++ drW g F4) ++ earW g F5) ++ mtW g F6) ++ stW g F7))) dX7_init_119 rfl gX7_init_X5_init rfl (by decide +kernel) (by decide +kernel) (by decide +kernel) rfl (by decide +kernel) ⟨rfl, rfl⟩ ⟨(Nat.le_of_ble_eq_true rfl), (Nat.le_of_ble_eq_true rfl)⟩ (cc_X5_init g q11) rfl rfl rfl (Nat.le_of_ble_eq_true rfl) rfl rfl (Nat.le_of_ble_eq_true rfl) (Nat.le_of_ble_eq_true rfl) rfl ?_
  rintro _ ⟨F8, rfl, rfl⟩
  refine cw_aast (n1 := 123) (t := 5) (q0 := 2) (ci := 4) (r := (RX5, TX5, 6)) (ws' := ((q4, .inl (g.2.2.2 3, 2, .inl (fun _ => 0))) :: (q3, .inl (g.2.2.2 5, 2, .inr (.inr (.inr (.inr (fun _ => none)))))) :: (q2, .inl (g.2.2.2 5, 6, .inr (.inr (.inr (.inr (va_up (va_up (fun _ => none) (Int32.toNatClampNeg 0) (some (F7 0))) (Int32.toNatClampNeg 1) (some (F8 0)))))))) :: (h0, .inr (5, [.ref (F1 0), .ref (q2), .int 0, .ref (q3), .ref (q4), .ref (F2 0), .ref (F3 0), .ref (F4 0), .ref (F5 0), .ref (F6 0)])) :: (((((((([] ++ stW g F1) ++ padW g F2) ++ drW g F3) ++ drW g F4) ++ earW g F5) ++ mtW g F6) ++ stW g F7) ++ stW g F8))) dX7_init_122 rfl rfl (List.mem_append_right _ (mem_st g F8)) rfl (vp_in_iff.mpr (by decide)) rfl rfl ?_
  refine cw_iinc (n1 := 126) (v := 2) dX7_init_123 rfl (by decide) rfl rfl ?_
  refine cw_goto (tgt := 101) dX7_init_126 (by decide) ?_
  refine cw_iload_n (n1 := 102) (i := 1) dX7_init_101 rfl rfl rfl ?_
  refine cw_aload_n (n1 := 103) (i := 0) dX7_init_102 rfl rfl rfl ?_
  refine cw_get (n1 := 106) (own := RX7) (C := RX7) (T := TX7) (N := 10) (ci := 5) (j := 1) (q0 := 3) dX7_init_103 rfl iwX7_init_X7 rfl rfl (by decide) (by decide +kernel) rfl rfl ?_
  refine cw_alen (n1 := 107) (t := 5) (q0 := 2) (v := 6) dX7_init_106 rfl rfl rfl rfl ?_
  refine cw_icmp_ge (tgt := 129) (n1 := 110) dX7_init_107 (by decide) rfl (fun q_z => absurd q_z (by decide)) (fun _ => ?_)
  refine cw_aload_n (n1 := 111) (i := 0) dX7_init_110 rfl rfl rfl ?_
  refine cw_get (n1 := 114) (own := RX7) (C := RX7) (T := TX7) (N := 10) (ci := 5) (j := 1) (q0 := 3) dX7_init_111 rfl iwX7_init_X7 rfl rfl (by decide) (by decide +kernel) rfl rfl ?_
  refine cw_iload_n (n1 := 115) (i := 1) dX7_init_114 rfl rfl rfl ?_
  refine cw_new (n1 := 118) (own := RX7) (C := RX5) (T := TX5) (N := 6) (ci := 4) (fs := [.int 0, .int 0, .int 0, .null, .int 0, .null]) (k' := 121) (n' := 1975) dX7_init_115 rfl (by decide +kernel) (by decide +kernel) (by decide +kernel) iwX7_init_X5 tyX5_ok rfl hfX5 rfl rfl (Nat.le_of_ble_eq_true rfl) (Nat.le_of_ble_eq_true rfl) rfl (fun q12 => ?_)
  refine cw_dup (n1 := 119) dX7_init_118 rfl rfl ?_
  refine cw_callI (n1 := 122) (own := RX7) (nA := 0) (k' := 151) (n' := 2339) (wc := [(q12, .inr (4, [.int 0, .int 0, .int 0, .null, .int 0, .null]))]) (rest := ((q4, .inl (g.2.2.2 3, 2, .inl (fun _ => 0))) :: (q3, .inl (g.2.2.2 5, 2, .inr (.inr (.inr (.inr (fun _ => none)))))) :: (q2, .inl (g.2.2.2 5, 6, .inr (.inr (.inr (.inr (va_up (va_up (fun _ => none) (Int32.toNatClampNeg 0) (some (F7 0))) (Int32.toNatClampNeg 1) (some (F8 0)))))))) :: (h0, .inr (5, [.ref (F1 0), .ref (q2), .int 0, .ref (q3), .ref (q4), .ref (F2 0), .ref (F3 0), .ref (F4 0), .ref (F5 0), .ref (F6 0)])) :: (((((((([] ++ stW g F1) ++ padW g F2) ++ drW g F3) ++ drW g F4) ++ earW g F5) ++ mtW g F6) ++ stW g F7) ++ stW g F8))) dX7_init_119 rfl gX7_init_X5_init rfl (by decide +kernel) (by decide +kernel) (by decide +kernel) rfl (by decide +kernel) ⟨rfl, rfl⟩ ⟨(Nat.le_of_ble_eq_true rfl), (Nat.le_of_ble_eq_true rfl)⟩ (cc_X5_init g q12) rfl rfl rfl (Nat.le_of_ble_eq_true rfl) rfl rfl (Nat.le_of_ble_eq_true rfl) (Nat.le_of_ble_eq_true rfl) rfl ?_
  rintro _ ⟨F9, rfl, rfl⟩
  refine cw_aast (n1 := 123) (t := 5) (q0 := 2) (ci := 4) (r := (RX5, TX5, 6)) (ws' := ((q4, .inl (g.2.2.2 3, 2, .inl (fun _ => 0))) :: (q3, .inl (g.2.2.2 5, 2, .inr (.inr (.inr (.inr (fun _ => none)))))) :: (q2, .inl (g.2.2.2 5, 6, .inr (.inr (.inr (.inr (va_up (va_up (va_up (fun _ => none) (Int32.toNatClampNeg 0) (some (F7 0))) (Int32.toNatClampNeg 1) (some (F8 0))) (Int32.toNatClampNeg 2) (some (F9 0)))))))) :: (h0, .inr (5, [.ref (F1 0), .ref (q2), .int 0, .ref (q3), .ref (q4), .ref (F2 0), .ref (F3 0), .ref (F4 0), .ref (F5 0), .ref (F6 0)])) :: ((((((((([] ++ stW g F1) ++ padW g F2) ++ drW g F3) ++ drW g F4) ++ earW g F5) ++ mtW g F6) ++ stW g F7) ++ stW g F8) ++ stW g F9))) dX7_init_122 rfl rfl (List.mem_append_right _ (mem_st g F9)) rfl (vp_in_iff.mpr (by decide)) rfl rfl ?_
  refine cw_iinc (n1 := 126) (v := 3) dX7_init_123 rfl (by decide) rfl rfl ?_
  refine cw_goto (tgt := 101) dX7_init_126 (by decide) ?_
  refine cw_iload_n (n1 := 102) (i := 1) dX7_init_101 rfl rfl rfl ?_
  refine cw_aload_n (n1 := 103) (i := 0) dX7_init_102 rfl rfl rfl ?_
  refine cw_get (n1 := 106) (own := RX7) (C := RX7) (T := TX7) (N := 10) (ci := 5) (j := 1) (q0 := 3) dX7_init_103 rfl iwX7_init_X7 rfl rfl (by decide) (by decide +kernel) rfl rfl ?_
  refine cw_alen (n1 := 107) (t := 5) (q0 := 2) (v := 6) dX7_init_106 rfl rfl rfl rfl ?_
  refine cw_icmp_ge (tgt := 129) (n1 := 110) dX7_init_107 (by decide) rfl (fun q_z => absurd q_z (by decide)) (fun _ => ?_)
  refine cw_aload_n (n1 := 111) (i := 0) dX7_init_110 rfl rfl rfl ?_
  refine cw_get (n1 := 114) (own := RX7) (C := RX7) (T := TX7) (N := 10) (ci := 5) (j := 1) (q0 := 3) dX7_init_111 rfl iwX7_init_X7 rfl rfl (by decide) (by decide +kernel) rfl rfl ?_
  refine cw_iload_n (n1 := 115) (i := 1) dX7_init_114 rfl rfl rfl ?_
  refine cw_new (n1 := 118) (own := RX7) (C := RX5) (T := TX5) (N := 6) (ci := 4) (fs := [.int 0, .int 0, .int 0, .null, .int 0, .null]) (k' := 152) (n' := 2345) dX7_init_115 rfl (by decide +kernel) (by decide +kernel) (by decide +kernel) iwX7_init_X5 tyX5_ok rfl hfX5 rfl rfl (Nat.le_of_ble_eq_true rfl) (Nat.le_of_ble_eq_true rfl) rfl (fun q13 => ?_)
  refine cw_dup (n1 := 119) dX7_init_118 rfl rfl ?_
  refine cw_callI (n1 := 122) (own := RX7) (nA := 0) (k' := 182) (n' := 2709) (wc := [(q13, .inr (4, [.int 0, .int 0, .int 0, .null, .int 0, .null]))]) (rest := ((q4, .inl (g.2.2.2 3, 2, .inl (fun _ => 0))) :: (q3, .inl (g.2.2.2 5, 2, .inr (.inr (.inr (.inr (fun _ => none)))))) :: (q2, .inl (g.2.2.2 5, 6, .inr (.inr (.inr (.inr (va_up (va_up (va_up (fun _ => none) (Int32.toNatClampNeg 0) (some (F7 0))) (Int32.toNatClampNeg 1) (some (F8 0))) (Int32.toNatClampNeg 2) (some (F9 0)))))))) :: (h0, .inr (5, [.ref (F1 0), .ref (q2), .int 0, .ref (q3), .ref (q4), .ref (F2 0), .ref (F3 0), .ref (F4 0), .ref (F5 0), .ref (F6 0)])) :: ((((((((([] ++ stW g F1) ++ padW g F2) ++ drW g F3) ++ drW g F4) ++ earW g F5) ++ mtW g F6) ++ stW g F7) ++ stW g F8) ++ stW g F9))) dX7_init_119 rfl gX7_init_X5_init rfl (by decide +kernel) (by decide +kernel) (by decide +kernel) rfl (by decide +kernel) ⟨rfl, rfl⟩ ⟨(Nat.le_of_ble_eq_true rfl), (Nat.le_of_ble_eq_true rfl)⟩ (cc_X5_init g q13) rfl rfl rfl (Nat.le_of_ble_eq_true rfl) rfl rfl (Nat.le_of_ble_eq_true rfl) (Nat.le_of_ble_eq_true rfl) rfl ?_
  rintro _ ⟨F10, rfl, rfl⟩
  refine cw_aast (n1 := 123) (t := 5) (q0 := 2) (ci := 4) (r := (RX5, TX5, 6)) (ws' := ((q4, .inl (g.2.2.2 3, 2, .inl (fun _ => 0))) :: (q3, .inl (g.2.2.2 5, 2, .inr (.inr (.inr (.inr (fun _ => none)))))) :: (q2, .inl (g.2.2.2 5, 6, .inr (.inr (.inr (.inr (va_up (va_up (va_up (va_up (fun _ => none) (Int32.toNatClampNeg 0) (some (F7 0))) (Int32.toNatClampNeg 1) (some (F8 0))) (Int32.toNatClampNeg 2) (some (F9 0))) (Int32.toNatClampNeg 3) (some (F10 0)))))))) :: (h0, .inr (5, [.ref (F1 0), .ref (q2), .int 0, .ref (q3), .ref (q4), .ref (F2 0), .ref (F3 0), .ref (F4 0), .ref (F5 0), .ref (F6 0)])) :: (((((((((([] ++ stW g F1) ++ padW g F2) ++ drW g F3) ++ drW g F4) ++ earW g F5) ++ mtW g F6) ++ stW g F7) ++ stW g F8) ++ stW g F9) ++ stW g F10))) dX7_init_122 rfl rfl (List.mem_append_right _ (mem_st g F10)) rfl (vp_in_iff.mpr (by decide)) rfl rfl ?_
  refine cw_iinc (n1 := 126) (v := 4) dX7_init_123 rfl (by decide) rfl rfl ?_
  refine cw_goto (tgt := 101) dX7_init_126 (by decide) ?_
  refine cw_iload_n (n1 := 102) (i := 1) dX7_init_101 rfl rfl rfl ?_
  refine cw_aload_n (n1 := 103) (i := 0) dX7_init_102 rfl rfl rfl ?_
  refine cw_get (n1 := 106) (own := RX7) (C := RX7) (T := TX7) (N := 10) (ci := 5) (j := 1) (q0 := 3) dX7_init_103 rfl iwX7_init_X7 rfl rfl (by decide) (by decide +kernel) rfl rfl ?_
  refine cw_alen (n1 := 107) (t := 5) (q0 := 2) (v := 6) dX7_init_106 rfl rfl rfl rfl ?_
  refine cw_icmp_ge (tgt := 129) (n1 := 110) dX7_init_107 (by decide) rfl (fun q_z => absurd q_z (by decide)) (fun _ => ?_)
  refine cw_aload_n (n1 := 111) (i := 0) dX7_init_110 rfl rfl rfl ?_
  refine cw_get (n1 := 114) (own := RX7) (C := RX7) (T := TX7) (N := 10) (ci := 5) (j := 1) (q0 := 3) dX7_init_111 rfl iwX7_init_X7 rfl rfl (by decide) (by decide +kernel) rfl rfl ?_
  refine cw_iload_n (n1 := 115) (i := 1) dX7_init_114 rfl rfl rfl ?_
  refine cw_new (n1 := 118) (own := RX7) (C := RX5) (T := TX5) (N := 6) (ci := 4) (fs := [.int 0, .int 0, .int 0, .null, .int 0, .null]) (k' := 183) (n' := 2715) dX7_init_115 rfl (by decide +kernel) (by decide +kernel) (by decide +kernel) iwX7_init_X5 tyX5_ok rfl hfX5 rfl rfl (Nat.le_of_ble_eq_true rfl) (Nat.le_of_ble_eq_true rfl) rfl (fun q14 => ?_)
  refine cw_dup (n1 := 119) dX7_init_118 rfl rfl ?_
  refine cw_callI (n1 := 122) (own := RX7) (nA := 0) (k' := 213) (n' := 3079) (wc := [(q14, .inr (4, [.int 0, .int 0, .int 0, .null, .int 0, .null]))]) (rest := ((q4, .inl (g.2.2.2 3, 2, .inl (fun _ => 0))) :: (q3, .inl (g.2.2.2 5, 2, .inr (.inr (.inr (.inr (fun _ => none)))))) :: (q2, .inl (g.2.2.2 5, 6, .inr (.inr (.inr (.inr (va_up (va_up (va_up (va_up (fun _ => none) (Int32.toNatClampNeg 0) (some (F7 0))) (Int32.toNatClampNeg 1) (some (F8 0))) (Int32.toNatClampNeg 2) (some (F9 0))) (Int32.toNatClampNeg 3) (some (F10 0)))))))) :: (h0, .inr (5, [.ref (F1 0), .ref (q2), .int 0, .ref (q3), .ref (q4), .ref (F2 0), .ref (F3 0), .ref (F4 0), .ref (F5 0), .ref (F6 0)])) :: (((((((((([] ++ stW g F1) ++ padW g F2) ++ drW g F3) ++ drW g F4) ++ earW g F5) ++ mtW g F6) ++ stW g F7) ++ stW g F8) ++ stW g F9) ++ stW g F10))) dX7_init_119 rfl gX7_init_X5_init rfl (by decide +kernel) (by decide +kernel) (by decide +kernel) rfl (by decide +kernel) ⟨rfl, rfl⟩ ⟨(Nat.le_of_ble_eq_true rfl), (Nat.le_of_ble_eq_true rfl)⟩ (cc_X5_init g q14) rfl rfl rfl (Nat.le_of_ble_eq_true rfl) rfl rfl (Nat.le_of_ble_eq_true rfl) (Nat.le_of_ble_eq_true rfl) rfl ?_
  rintro _ ⟨F11, rfl, rfl⟩
  refine cw_aast (n1 := 123) (t := 5) (q0 := 2) (ci := 4) (r := (RX5, TX5, 6)) (ws' := ((q4, .inl (g.2.2.2 3, 2, .inl (fun _ => 0))) :: (q3, .inl (g.2.2.2 5, 2, .inr (.inr (.inr (.inr (fun _ => none)))))) :: (q2, .inl (g.2.2.2 5, 6, .inr (.inr (.inr (.inr (va_up (va_up (va_up (va_up (va_up (fun _ => none) (Int32.toNatClampNeg 0) (some (F7 0))) (Int32.toNatClampNeg 1) (some (F8 0))) (Int32.toNatClampNeg 2) (some (F9 0))) (Int32.toNatClampNeg 3) (some (F10 0))) (Int32.toNatClampNeg 4) (some (F11 0)))))))) :: (h0, .inr (5, [.ref (F1 0), .ref (q2), .int 0, .ref (q3), .ref (q4), .ref (F2 0), .ref (F3 0), .ref (F4 0), .ref (F5 0), .ref (F6 0)])) :: ((((((((((([] ++ stW g F1) ++ padW g F2) ++ drW g F3) ++ drW g F4) ++ earW g F5) ++ mtW g F6) ++ stW g F7) ++ stW g F8) ++ stW g F9) ++ stW g F10) ++ stW g F11))) dX7_init_122 rfl rfl (List.mem_append_right _ (mem_st g F11)) rfl (vp_in_iff.mpr (by decide)) rfl rfl ?_
  refine cw_iinc (n1 := 126) (v := 5) dX7_init_123 rfl (by decide) rfl rfl ?_
  refine cw_goto (tgt := 101) dX7_init_126 (by decide) ?_
  refine cw_iload_n (n1 := 102) (i := 1) dX7_init_101 rfl rfl rfl ?_
  refine cw_aload_n (n1 := 103) (i := 0) dX7_init_102 rfl rfl rfl ?_
  refine cw_get (n1 := 106) (own := RX7) (C := RX7) (T := TX7) (N := 10) (ci := 5) (j := 1) (q0 := 3) dX7_init_103 rfl iwX7_init_X7 rfl rfl (by decide) (by decide +kernel) rfl rfl ?_
  refine cw_alen (n1 := 107) (t := 5) (q0 := 2) (v := 6) dX7_init_106 rfl rfl rfl rfl ?_
  refine cw_icmp_ge (tgt := 129) (n1 := 110) dX7_init_107 (by decide) rfl (fun q_z => absurd q_z (by decide)) (fun _ => ?_)
  refine cw_aload_n (n1 := 111) (i := 0) dX7_init_110 rfl rfl rfl ?_
  refine cw_get (n1 := 114) (own := RX7) (C := RX7) (T := TX7) (N := 10) (ci := 5) (j := 1) (q0 := 3) dX7_init_111 rfl iwX7_init_X7 rfl rfl (by decide) (by decide +kernel) rfl rfl ?_
  refine cw_iload_n (n1 := 115) (i := 1) dX7_init_114 rfl rfl rfl ?_
  refine cw_new (n1 := 118) (own := RX7) (C := RX5) (T := TX5) (N := 6) (ci := 4) (fs := [.int 0, .int 0, .int 0, .null, .int 0, .null]) (k' := 214) (n' := 3085) dX7_init_115 rfl (by decide +kernel) (by decide +kernel) (by decide +kernel) iwX7_init_X5 tyX5_ok rfl hfX5 rfl rfl (Nat.le_of_ble_eq_true rfl) (Nat.le_of_ble_eq_true rfl) rfl (fun q15 => ?_)
  refine cw_dup (n1 := 119) dX7_init_118 rfl rfl ?_
  refine cw_callI (n1 := 122) (own := RX7) (nA := 0) (k' := 244) (n' := 3449) (wc := [(q15, .inr (4, [.int 0, .int 0, .int 0, .null, .int 0, .null]))]) (rest := ((q4, .inl (g.2.2.2 3, 2, .inl (fun _ => 0))) :: (q3, .inl (g.2.2.2 5, 2, .inr (.inr (.inr (.inr (fun _ => none)))))) :: (q2, .inl (g.2.2.2 5, 6, .inr (.inr (.inr (.inr (va_up (va_up (va_up (va_up (va_up (fun _ => none) (Int32.toNatClampNeg 0) (some (F7 0))) (Int32.toNatClampNeg 1) (some (F8 0))) (Int32.toNatClampNeg 2) (some (F9 0))) (Int32.toNatClampNeg 3) (some (F10 0))) (Int32.toNatClampNeg 4) (some (F11 0)))))))) :: (h0, .inr (5, [.ref (F1 0), .ref (q2), .int 0, .ref (q3), .ref (q4), .ref (F2 0), .ref (F3 0), .ref (F4 0), .ref (F5 0), .ref (F6 0)])) :: ((((((((((([] ++ stW g F1) ++ padW g F2) ++ drW g F3) ++ drW g F4) ++ earW g F5) ++ mtW g F6) ++ stW g F7) ++ stW g F8) ++ stW g F9) ++ stW g F10) ++ stW g F11))) dX7_init_119 rfl gX7_init_X5_init rfl (by decide +kernel) (by decide +kernel) (by decide +kernel) rfl (by decide +kernel) ⟨rfl, rfl⟩ ⟨(Nat.le_of_ble_eq_true rfl), (Nat.le_of_ble_eq_true rfl)⟩ (cc_X5_init g q15) rfl rfl rfl (Nat.le_of_ble_eq_true rfl) rfl rfl (Nat.le_of_ble_eq_true rfl) (Nat.le_of_ble_eq_true rfl) rfl ?_
  rintro _ ⟨F12, rfl, rfl⟩
  refine cw_aast (n1 := 123) (t := 5) (q0 := 2) (ci := 4) (r := (RX5, TX5, 6)) (ws' := ((q4, .inl (g.2.2.2 3, 2, .inl (fun _ => 0))) :: (q3, .inl (g.2.2.2 5, 2, .inr (.inr (.inr (.inr (fun _ => none)))))) :: (q2, .inl (g.2.2.2 5, 6, .inr (.inr (.inr (.inr (va_up (va_up (va_up (va_up (va_up (va_up (fun _ => none) (Int32.toNatClampNeg 0) (some (F7 0))) (Int32.toNatClampNeg 1) (some (F8 0))) (Int32.toNatClampNeg 2) (some (F9 0))) (Int32.toNatClampNeg 3) (some (F10 0))) (Int32.toNatClampNeg 4) (some (F11 0))) (Int32.toNatClampNeg 5) (some (F12 0)))))))) :: (h0, .inr (5, [.ref (F1 0), .ref (q2), .int 0, .ref (q3), .ref (q4), .ref (F2 0), .ref (F3 0), .ref (F4 0), .ref (F5 0), .ref (F6 0)])) :: (((((((((((([] ++ stW g F1) ++ padW g F2) ++ drW g F3) ++ drW g F4) ++ earW g F5) ++ mtW g F6) ++ stW g F7) ++ stW g F8) ++ stW g F9) ++ stW g F10) ++ stW g F11) ++ stW g F12))) dX7_init_122 rfl rfl (List.mem_append_right _ (mem_st g F12)) rfl (vp_in_iff.mpr (by decide)) rfl rfl ?_
  refine cw_iinc (n1 := 126) (v := 6) dX7_init_123 rfl (by decide) rfl rfl ?_
  refine cw_goto (tgt := 101) dX7_init_126 (by decide) ?_
  refine cw_iload_n (n1 := 102) (i := 1) dX7_init_101 rfl rfl rfl ?_
  refine cw_aload_n (n1 := 103) (i := 0) dX7_init_102 rfl rfl rfl ?_
  refine cw_get (n1 := 106) (own := RX7) (C := RX7) (T := TX7) (N := 10) (ci := 5) (j := 1) (q0 := 3) dX7_init_103 rfl iwX7_init_X7 rfl rfl (by decide) (by decide +kernel) rfl rfl ?_
  refine cw_alen (n1 := 107) (t := 5) (q0 := 2) (v := 6) dX7_init_106 rfl rfl rfl rfl ?_
  refine cw_icmp_ge (tgt := 129) (n1 := 110) dX7_init_107 (by decide) rfl (fun _ => ?_) (fun q_z => absurd (by decide) q_z)
  refine cw_iconst (n1 := 130) (v := 0) dX7_init_129 rfl rfl ?_
  refine cw_istore_n (n1 := 131) (i := 1) dX7_init_130 rfl (Nat.le_of_ble_eq_true rfl) rfl rfl ?_
  refine cw_iload_n (n1 := 132) (i := 1) dX7_init_131 rfl rfl rfl ?_
  refine cw_aload_n (n1 := 133) (i := 0) dX7_init_132 rfl rfl rfl ?_
  refine cw_get (n1 := 136) (own := RX7) (C := RX7) (T := TX7) (N := 10) (ci := 5) (j := 3) (q0 := 3) dX7_init_133 rfl iwX7_init_X7 rfl rfl (by decide) (by decide +kernel) rfl rfl ?_
  refine cw_alen (n1 := 137) (t := 5) (q0 := 1) (v := 2) dX7_init_136 rfl rfl rfl rfl ?_
  refine cw_icmp_ge (tgt := 159) (n1 := 140) dX7_init_137 (by decide) rfl (fun q_z => absurd q_z (by decide)) (fun _ => ?_)
  refine cw_aload_n (n1 := 141) (i := 0) dX7_init_140 rfl rfl rfl ?_
  refine cw_get (n1 := 144) (own := RX7) (C := RX7) (T := TX7) (N := 10) (ci := 5) (j := 3) (q0 := 3) dX7_init_141 rfl iwX7_init_X7 rfl rfl (by decide) (by decide +kernel) rfl rfl ?_
  refine cw_iload_n (n1 := 145) (i := 1) dX7_init_144 rfl rfl rfl ?_
  refine cw_new (n1 := 148) (own := RX7) (C := RX5) (T := TX5) (N := 6) (ci := 4) (fs := [.int 0, .int 0, .int 0, .null, .int 0, .null]) (k' := 245) (n' := 3455) dX7_init_145 rfl (by decide +kernel) (by decide +kernel) (by decide +kernel) iwX7_init_X5 tyX5_ok rfl hfX5 rfl rfl (Nat.le_of_ble_eq_true rfl) (Nat.le_of_ble_eq_true rfl) rfl (fun q16 => ?_)
  refine cw_dup (n1 := 149) dX7_init_148 rfl rfl ?_
  refine cw_callI (n1 := 152) (own := RX7) (nA := 0) (k' := 275) (n' := 3819) (wc := [(q16, .inr (4, [.int 0, .int 0, .int 0, .null, .int 0, .null]))]) (rest := ((q4, .inl (g.2.2.2 3, 2, .inl (fun _ => 0))) :: (q3, .inl (g.2.2.2 5, 2, .inr (.inr (.inr (.inr (fun _ => none)))))) :: (q2, .inl (g.2.2.2 5, 6, .inr (.inr (.inr (.inr (va_up (va_up (va_up (va_up (va_up (va_up (fun _ => none) (Int32.toNatClampNeg 0) (some (F7 0))) (Int32.toNatClampNeg 1) (some (F8 0))) (Int32.toNatClampNeg 2) (some (F9 0))) (Int32.toNatClampNeg 3) (some (F10 0))) (Int32.toNatClampNeg 4) (some (F11 0))) (Int32.toNatClampNeg 5) (some (F12 0)))))))) :: (h0, .inr (5, [.ref (F1 0), .ref (q2), .int 0, .ref (q3), .ref (q4), .ref (F2 0), .ref (F3 0), .ref (F4 0), .ref (F5 0), .ref (F6 0)])) :: (((((((((((([] ++ stW g F1) ++ padW g F2) ++ drW g F3) ++ drW g F4) ++ earW g F5) ++ mtW g F6) ++ stW g F7) ++ stW g F8) ++ stW g F9) ++ stW g F10) ++ stW g F11) ++ stW g F12))) dX7_init_149 rfl gX7_init_X5_init rfl (by decide +kernel) (by decide +kernel) (by decide +kernel) rfl (by decide +kernel) ⟨rfl, rfl⟩ ⟨(Nat.le_of_ble_eq_true rfl), (Nat.le_of_ble_eq_true rfl)⟩ (cc_X5_init g q16) rfl rfl rfl (Nat.le_of_ble_eq_true rfl) rfl rfl (Nat.le_of_ble_eq_true rfl) (Nat.le_of_ble_eq_true rfl) rfl ?_
  rintro _ ⟨F13, rfl, rfl⟩
  refine cw_aast (n1 := 153) (t := 5) (q0 := 1) (ci := 4) (r := (RX5, TX5, 6)) (ws' := ((q4, .inl (g.2.2.2 3, 2, .inl (fun _ => 0))) :: (q3, .inl (g.2.2.2 5, 2, .inr (.inr (.inr (.inr (va_up (fun _ => none) (Int32.toNatClampNeg 0) (some (F13 0)))))))) :: (q2, .inl (g.2.2.2 5, 6, .inr (.inr (.inr (.inr (va_up (va_up (va_up (va_up (va_up (va_up (fun _ => none) (Int32.toNatClampNeg 0) (some (F7 0))) (Int32.toNatClampNeg 1) (some (F8 0))) (Int32.toNatClampNeg 2) (some (F9 0))) (Int32.toNatClampNeg 3) (some (F10 0))) (Int32.toNatClampNeg 4) (some (F11 0))) (Int32.toNatClampNeg 5) (some (F12 0)))))))) :: (h0, .inr (5, [.ref (F1 0), .ref (q2), .int 0, .ref (q3), .ref (q4), .ref (F2 0), .ref (F3 0), .ref (F4 0), .ref (F5 0), .ref (F6 0)])) :: ((((((((((((([] ++ stW g F1) ++ padW g F2) ++ drW g F3) ++ drW g F4) ++ earW g F5) ++ mtW g F6) ++ stW g F7) ++ stW g F8) ++ stW g F9) ++ stW g F10) ++ stW g F11) ++ stW g F12) ++ stW g F13))) dX7_init_152 rfl rfl (List.mem_append_right _ (mem_st g F13)) rfl (vp_in_iff.mpr (by decide)) rfl rfl ?_
  refine cw_iinc (n1 := 156) (v := 1) dX7_init_153 rfl (by decide) rfl rfl ?_
  refine cw_goto (tgt := 131) dX7_init_156 (by decide) ?_
  refine cw_iload_n (n1 := 132) (i := 1) dX7_init_131 rfl rfl rfl ?_
  refine cw_aload_n (n1 := 133) (i := 0) dX7_init_132 rfl rfl rfl ?_
  refine cw_get (n1 := 136) (own := RX7) (C := RX7) (T := TX7) (N := 10) (ci := 5) (j := 3) (q0 := 3) dX7_init_133 rfl iwX7_init_X7 rfl rfl (by decide) (by decide +kernel) rfl rfl ?_
  refine cw_alen (n1 := 137) (t := 5) (q0 := 1) (v := 2) dX7_init_136 rfl rfl rfl rfl ?_
  refine cw_icmp_ge (tgt := 159) (n1 := 140) dX7_init_137 (by decide) rfl (fun q_z => absurd q_z (by decide)) (fun _ => ?_)
  refine cw_aload_n (n1 := 141) (i := 0) dX7_init_140 rfl rfl rfl ?_
  refine cw_get (n1 := 144) (own := RX7) (C := RX7) (T := TX7) (N := 10) (ci := 5) (j := 3) (q0 := 3) dX7_init_141 rfl iwX7_init_X7 rfl rfl (by decide) (by decide +kernel) rfl rfl ?_
  refine cw_iload_n (n1 := 145) (i := 1) dX7_init_144 rfl rfl rfl ?_
  refine cw_new (n1 := 148) (own := RX7) (C := RX5) (T := TX5) (N := 6) (ci := 4) (fs := [.int 0, .int 0, .int 0, .null, .int 0, .null]) (k' := 276) (n' := 3825) dX7_init_145 rfl (by decide +kernel) (by decide +kernel) (by decide +kernel) iwX7_init_X5 tyX5_ok rfl hfX5 rfl rfl (Nat.le_of_ble_eq_true rfl) (Nat.le_of_ble_eq_true rfl) rfl (fun q17 => ?_)
  refine cw_dup (n1 := 149) dX7_init_148 rfl rfl ?_
  refine cw_callI (n1 := 152) (own := RX7) (nA := 0) (k' := 306) (n' := 4189) (wc := [(q17, .inr (4, [.int 0, .int 0, .int 0, .null, .int 0, .null]))]) (rest := ((q4, .inl (g.2.2.2 3, 2, .inl (fun _ => 0))) :: (q3, .inl (g.2.2.2 5, 2, .inr (.inr (.inr (.inr (va_up (fun _ => none) (Int32.toNatClampNeg 0) (some (F13 0)))))))) :: (q2, .inl (g.2.2.2 5, 6, .inr (.inr (.inr (.inr (va_up (va_up (va_up (va_up (va_up (va_up (fun _ => none) (Int32.toNatClampNeg 0) (some (F7 0))) (Int32.toNatClampNeg 1) (some (F8 0))) (Int32.toNatClampNeg 2) (some (F9 0))) (Int32.toNatClampNeg 3) (some (F10 0))) (Int32.toNatClampNeg 4) (some (F11 0))) (Int32.toNatClampNeg 5) (some (F12 0)))))))) :: (h0, .inr (5, [.ref (F1 0), .ref (q2), .int 0, .ref (q3), .ref (q4), .ref (F2 0), .ref (F3 0), .ref (F4 0), .ref (F5 0), .ref (F6 0)])) :: ((((((((((((([] ++ stW g F1) ++ padW g F2) ++ drW g F3) ++ drW g F4) ++ earW g F5) ++ mtW g F6) ++ stW g F7) ++ stW g F8) ++ stW g F9) ++ stW g F10) ++ stW g F11) ++ stW g F12) ++ stW g F13))) dX7_init_149 rfl gX7_init_X5_init rfl (by decide +kernel) (by decide +kernel) (by decide +kernel) rfl (by decide +kernel) ⟨rfl, rfl⟩ ⟨(Nat.le_of_ble_eq_true rfl), (Nat.le_of_ble_eq_true rfl)⟩ (cc_X5_init g q17) rfl rfl rfl (Nat.le_of_ble_eq_true rfl) rfl rfl (Nat.le_of_ble_eq_true rfl) (Nat.le_of_ble_eq_true rfl) rfl ?_
  rintro _ ⟨F14, rfl, rfl⟩
  refine cw_aast (n1 := 153) (t := 5) (q0 := 1) (ci := 4) (r := (RX5, TX5, 6)) (ws' := ((q4, .inl (g.2.2.2 3, 2, .inl (fun _ => 0))) :: (q3, .inl (g.2.2.2 5, 2, .inr (.inr (.inr (.inr (va_up (va_up (fun _ => none) (Int32.toNatClampNeg 0) (some (F13 0))) (Int32.toNatClampNeg 1) (some (F14 0)))))))) :: (q2, .inl (g.2.2.2 5, 6, .inr (.inr (.inr (.inr (va_up (va_up (va_up (va_up (va_up (va_up (fun _ => none) (Int32.toNatClampNeg 0) (some (F7 0))) (Int32.toNatClampNeg 1) (some (F8 0))) (Int32.toNatClampNeg 2) (some (F9 0))) (Int32.toNatClampNeg 3) (some (F10 0))) (Int32.toNatClampNeg 4) (some (F11 0))) (Int32.toNatClampNeg 5) (some (F12 0)))))))) :: (h0, .inr (5, [.ref (F1 0), .ref (q2), .int 0, .ref (q3), .ref (q4), .ref (F2 0), .ref (F3 0), .ref (F4 0), .ref (F5 0), .ref (F6 0)])) :: (((((((((((((([] ++ stW g F1) ++ padW g F2) ++ drW g F3) ++ drW g F4) ++ earW g F5) ++ mtW g F6) ++ stW g F7) ++ stW g F8) ++ stW g F9) ++ stW g F10) ++ stW g F11) ++ stW g F12) ++ stW g F13) ++ stW g F14))) dX7_init_152 rfl rfl (List.mem_append_right _ (mem_st g F14)) rfl (vp_in_iff.mpr (by decide)) rfl rfl ?_
  refine cw_iinc (n1 := 156) (v := 2) dX7_init_153 rfl (by decide) rfl rfl ?_
  refine cw_goto (tgt := 131) dX7_init_156 (by decide) ?_
  refine cw_iload_n (n1 := 132) (i := 1) dX7_init_131 rfl rfl rfl ?_
  refine cw_aload_n (n1 := 133) (i := 0) dX7_init_132 rfl rfl rfl ?_
  refine cw_get (n1 := 136) (own := RX7) (C := RX7) (T := TX7) (N := 10) (ci := 5) (j := 3) (q0 := 3) dX7_init_133 rfl iwX7_init_X7 rfl rfl (by decide) (by decide +kernel) rfl rfl ?_
  refine cw_alen (n1 := 137) (t := 5) (q0 := 1) (v := 2) dX7_init_136 rfl rfl rfl rfl ?_
  refine cw_icmp_ge (tgt := 159) (n1 := 140) dX7_init_137 (by decide) rfl (fun _ => ?_) (fun q_z => absurd (by decide) q_z)
  refine cw_to (ws' := ciW g (ciF [h0, q2, q3, q4] F1 F2 F3 F4 F5 F6 F7 F8 F9 F10 F11 F12 F13 F14)) (fun H hP => va_P_of (fun q hq => ?_)) ?_ (cw_vret dX7_init_159 rfl ⟨(ciF [h0, q2, q3, q4] F1 F2 F3 F4 F5 F6 F7 F8 F9 F10 F11 F12 F13 F14), rfl, rfl⟩)
  · have key : ∀ q, q ∈ ((q4, .inl (g.2.2.2 3, 2, .inl (fun _ => 0))) :: (q3, .inl (g.2.2.2 5, 2, .inr (.inr (.inr (.inr (va_up (va_up (fun _ => none) (Int32.toNatClampNeg 0) (some (F13 0))) (Int32.toNatClampNeg 1) (some (F14 0)))))))) :: (q2, .inl (g.2.2.2 5, 6, .inr (.inr (.inr (.inr (va_up (va_up (va_up (va_up (va_up (va_up (fun _ => none) (Int32.toNatClampNeg 0) (some (F7 0))) (Int32.toNatClampNeg 1) (some (F8 0))) (Int32.toNatClampNeg 2) (some (F9 0))) (Int32.toNatClampNeg 3) (some (F10 0))) (Int32.toNatClampNeg 4) (some (F11 0))) (Int32.toNatClampNeg 5) (some (F12 0)))))))) :: (h0, .inr (5, [.ref (F1 0), .ref (q2), .int 0, .ref (q3), .ref (q4), .ref (F2 0), .ref (F3 0), .ref (F4 0), .ref (F5 0), .ref (F6 0)])) :: (((((((((((((([] ++ stW g F1) ++ padW g F2) ++ drW g F3) ++ drW g F4) ++ earW g F5) ++ mtW g F6) ++ stW g F7) ++ stW g F8) ++ stW g F9) ++ stW g F10) ++ stW g F11) ++ stW g F12) ++ stW g F13) ++ stW g F14)) → va_at g.2.2.1 vwCl q H := fun q hq => va_P_at hP hq
    simp only [List.forall_mem_cons] at key
    obtain ⟨k3, k2, k1, k0, kt⟩ := key
    have goal : ∀ q, q ∈ ciW g (ciF [h0, q2, q3, q4] F1 F2 F3 F4 F5 F6 F7 F8 F9 F10 F11 F12 F13 F14) → va_at g.2.2.1 vwCl q H := by
      refine List.forall_mem_cons.mpr ⟨k0, List.forall_mem_cons.mpr ⟨at_q k1 (fun j hj => ?_), List.forall_mem_cons.mpr ⟨at_q k2 (fun j hj => ?_), List.forall_mem_cons.mpr ⟨k3, kt⟩⟩⟩⟩
      · match j, hj with
        | 0, _ => rfl
        | 1, _ => rfl
        | 2, _ => rfl
        | 3, _ => rfl
        | 4, _ => rfl
        | 5, _ => rfl
        | z + 6, h => exact absurd h (by omega)
      · match j, hj with
        | 0, _ => rfl
        | 1, _ => rfl
        | z + 2, h => exact absurd h (by omega)
    exact goal q hq
  · exact (List.reverse_perm [h0, q2, q3, q4]).append_right (List.map Prod.fst (((((((((((((([] ++ stW g F1) ++ padW g F2) ++ drW g F3) ++ drW g F4) ++ earW g F5) ++ mtW g F6) ++ stW g F7) ++ stW g F8) ++ stW g F9) ++ stW g F10) ++ stW g F11) ++ stW g F12) ++ stW g F13) ++ stW g F14))
