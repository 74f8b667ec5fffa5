/-! THE LAW AHEAD OF ITS LOOP -/
def G01 : GS := (S00, [], (none, some S00), [])
theorem ear_first : sp_ear (-6) G01 = (nI 0, recG G01 (withE S00 [E0])) := by
  unfold sp_ear
  rw [if_neg (fun q => q.2 rfl), if_neg (by decide), eN_f (by decide)]
  rfl
theorem df_first : sp_deafest G01 = (-6, G01) := rfl
theorem LQ0 : LQ G0 hI := ⟨fun i w h => gn h, rfl, rfl⟩
set_option maxRecDepth 100000 in
set_option maxHeartbeats 2000000 in
theorem law_head {g : Gx} {L : Nat} {xs : Nat → Int32} (h42 : g.2.1 42 = 0) (hL : L ≤ 260) : AW g mmL_law (ZL g L xs 0) 22 [(3, some (.ref 41)), (2, some (.ref 40)), (1, some (.ref 0)), (0, some (.ref 61))] [] hI := by
  have ht0 : 0 ≤ 40 := Nat.zero_le _
  refine am_aload_n (n := 23) (i := 1) dL_law_22 rfl rfl rfl ?_
  have k1 := cx_undo g G0 hI XI0
  rw [show sp_undo G0 = (-5, G0) from rfl] at k1
  refine caL_law_153 (n := 26) dL_law_23 (by first | exact ⟨rfl, rfl⟩ | assumption) k1 rfl rfl (Nat.le_of_ble_eq_true rfl) (by first | assumption | exact isC_of (by decide +kernel)) rfl ?_
  rintro r h1 ⟨rfl, X1, f1⟩
  refine am_bipush (n := 28) (v := (-5)) dL_law_26 rfl rfl ?_
  refine am_icmp_ne (tgt := 90) (n := 31) dL_law_28 (by decide) rfl (fun q_z => absurd rfl q_z) (fun _ => ?_)
  refine am_aload_n (n := 32) (i := 1) dL_law_31 rfl rfl rfl ?_
  refine am_iconst (n := 33) (v := 0) dL_law_32 rfl rfl ?_
  have k2 := cx_restore g 0 G0 h1 X1
  rw [show sp_restore 0 G0 = (-5, G0) from rfl] at k2
  refine caL_law_105 (n := 36) dL_law_33 (by first | exact ⟨rfl, rfl⟩ | assumption) k2 rfl rfl (Nat.le_of_ble_eq_true rfl) (by first | assumption | exact isC_of (by decide +kernel)) rfl ?_
  rintro r h2 ⟨rfl, X2, f2⟩
  refine am_bipush (n := 38) (v := (-5)) dL_law_36 rfl rfl ?_
  refine am_icmp_ne (tgt := 90) (n := 41) dL_law_38 (by decide) rfl (fun q_z => absurd rfl q_z) (fun _ => ?_)
  refine am_aload_n (n := 42) (i := 1) dL_law_41 rfl rfl rfl ?_
  refine am_iconst (n := 43) (v := 1) dL_law_42 rfl rfl ?_
  have k3 := cx_save g 1 G0 h2 X2
  rw [show sp_save 1 G0 = (nI 0, G01) from rfl] at k3
  refine caL_law_102 (n := 46) dL_law_43 (by first | exact ⟨rfl, rfl⟩ | assumption) k3 rfl rfl (Nat.le_of_ble_eq_true rfl) (by first | assumption | exact isC_of (by decide +kernel)) rfl ?_
  rintro r h3 ⟨rfl, X3, f3⟩
  refine am_if_ne (tgt := 90) (n := 49) dL_law_46 (by decide) rfl (fun q_z => absurd rfl q_z) (fun _ => ?_)
  refine am_aload_n (n := 50) (i := 1) dL_law_49 rfl rfl rfl ?_
  have k4 := cx_deafest g G01 h3 X3
  rw [df_first] at k4
  refine caL_law_56 (n := 53) dL_law_50 (by first | exact ⟨rfl, rfl⟩ | assumption) k4 rfl rfl (Nat.le_of_ble_eq_true rfl) (by first | assumption | exact isC_of (by decide +kernel)) rfl ?_
  rintro r h4 ⟨rfl, X4, f4⟩
  refine am_bipush (n := 55) (v := (-6)) dL_law_53 rfl rfl ?_
  refine am_icmp_ne (tgt := 90) (n := 58) dL_law_55 (by decide) rfl (fun q_z => absurd rfl q_z) (fun _ => ?_)
  refine am_aload_n (n := 59) (i := 1) dL_law_58 rfl rfl rfl ?_
  refine am_iconst (n := 60) (v := 2) dL_law_59 rfl rfl ?_
  have k5 := cx_count g 2 G01 h4 X4
  rw [ct_2] at k5
  refine caL_law_33 (n := 63) dL_law_60 (by first | exact ⟨rfl, rfl⟩ | assumption) k5 rfl rfl (Nat.le_of_ble_eq_true rfl) (by first | assumption | exact isC_of (by decide +kernel)) rfl ?_
  rintro r h5 ⟨rfl, X5, f5⟩
  refine am_iconst (n := 64) (v := 4) dL_law_63 rfl rfl ?_
  refine am_icmp_ne (tgt := 90) (n := 67) dL_law_64 (by decide) rfl (fun q_z => absurd rfl q_z) (fun _ => ?_)
  refine am_aload_n (n := 68) (i := 1) dL_law_67 rfl rfl rfl ?_
  refine am_iconst (n := 69) (v := 3) dL_law_68 rfl rfl ?_
  have k6 := cx_count g 3 G01 h5 X5
  rw [ct_3] at k6
  refine caL_law_33 (n := 72) dL_law_69 (by first | exact ⟨rfl, rfl⟩ | assumption) k6 rfl rfl (Nat.le_of_ble_eq_true rfl) (by first | assumption | exact isC_of (by decide +kernel)) rfl ?_
  rintro r h6 ⟨rfl, X6, f6⟩
  refine am_bipush (n := 74) (v := 24) dL_law_72 rfl rfl ?_
  refine am_icmp_ne (tgt := 90) (n := 77) dL_law_74 (by decide) rfl (fun q_z => absurd rfl q_z) (fun _ => ?_)
  refine am_aload_n (n := 78) (i := 1) dL_law_77 rfl rfl rfl ?_
  refine am_bipush (n := 80) (v := (-6)) dL_law_78 rfl rfl ?_
  have k7 := cx_ear g (-6) G01 h6 X6
  rw [ear_first] at k7
  refine caL_law_65 (n := 83) dL_law_80 (by first | exact ⟨rfl, rfl⟩ | assumption) k7 rfl rfl (Nat.le_of_ble_eq_true rfl) (by first | assumption | exact isC_of (by decide +kernel)) rfl ?_
  rintro r h7 ⟨rfl, X7, f7⟩
  refine am_if_ne (tgt := 90) (n := 86) dL_law_83 (by decide) rfl (fun q_z => absurd rfl q_z) (fun _ => ?_)
  refine am_iconst (n := 87) (v := 1) dL_law_86 rfl rfl ?_
  refine am_goto (tgt := 91) dL_law_87 (by decide) ?_
  refine am_istore (n := 93) dL_law_91 (Nat.le_of_ble_eq_true rfl) rfl rfl ?_
  refine am_iconst (n := 94) (v := 0) dL_law_93 rfl rfl ?_
  refine am_istore (n := 96) dL_law_94 (Nat.le_of_ble_eq_true rfl) rfl rfl ?_
  have q : LQ G0 h7 := LQ0.fm ((((((f1.tr f2).tr f3).tr f4).tr f5).tr f6).tr f7)
  exact am_loc _ rfl (law_loop h42 hL (G := recG G01 (withE S00 [E0])) (h := h7) ⟨X7, q.of rfl rfl, Nat.one_pos, rfl⟩)
