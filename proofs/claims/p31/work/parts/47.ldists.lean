/-! THE LAW HOLDS ALL DISTANCES AGAINST ITS OWN -/
theorem dt_out1 {x y : Int32} {G : GS} (h : inN x G.1.2.2.1.length = false) : sp_distance x y G = (-1, G) := by
  unfold sp_distance
  rw [if_neg (fun q => by rw [h] at q; exact absurd q.1 (by decide))]
theorem dt_out2 {x y : Int32} {G : GS} (h : inN y G.1.2.2.1.length = false) : sp_distance x y G = (-1, G) := by
  unfold sp_distance
  rw [if_neg (fun q => by rw [h] at q; exact absurd q.2 (by decide))]
theorem dt_at {i j v w : Nat} {G : GS} (hn : G.1.2.2.1.length ≤ 24) (hi : G.1.2.2.1[i]? = some v) (hj : G.1.2.2.1[j]? = some w) : sp_distance (nI i) (nI j) G = (nI (dst v w), G) := by
  have h1 := (List.getElem?_eq_some_iff.mp hi).1
  have h2 := (List.getElem?_eq_some_iff.mp hj).1
  unfold sp_distance
  rw [inN_i h1 (by omega), inN_i h2 (by omega), if_pos ⟨rfl, rfl⟩, tn_nI (by omega), tn_nI (by omega)]
  simp [List.getD, hi, hj]
/-- the law's rows are as they were -/
def FQ (h h' : Hp) : Prop := ∀ c, 40 ≤ c → c < 42 → h'.1 c = h.1 c ∧ h'.2.1 c = h.2.1 c
theorem FM.q {h h' : Hp} (f : FM h h') : FQ h h' := fun c h1 h2 => f c h1 (by omega)
theorem FQ.rf {h : Hp} : FQ h h := fun _ _ _ => ⟨rfl, rfl⟩
theorem FQ.tr {h h1 h2 : Hp} (a : FQ h h1) (b : FQ h1 h2) : FQ h h2 := fun c c1 c2 => ⟨(b c c1 c2).1.trans (a c c1 c2).1, (b c c1 c2).2.trans (a c c1 c2).2⟩
theorem FQ.d {h h' : Hp} (f : FrI 42 42 h h') : FQ h h' := fun c h1 h2 => ⟨f.1 c (by omega), by rw [f.2]⟩
theorem HQ.fq {ns : List Nat} {h h' : Hp} (q : HQ ns h) (f : FQ h h') : HQ ns h' := fun i w hi => by
  rw [(f 40 (by omega) (by omega)).2]
  exact q i w hi
theorem XI.d {G : GS} {h h' : Hp} (x : XI G h) (f : FrI 42 42 h h') : XI G h' := x.scr f (by omega) (by omega)
theorem XI.n42 {G : GS} {h : Hp} (x : XI G h) : N42 h := by
  obtain ⟨-, -, q, x3, -, -⟩ := x.2.2.1
  obtain ⟨s1, s2, -⟩ := x.2.2.2.1
  refine ⟨fun j hj => ?_, fun j hj => ?_⟩
  · rw [(x3 j hj).2]
    omega
  · match j, hj with
    | 0, _ => rw [s1]; decide
    | 1, _ => rw [s2]; decide
    | z + 2, q => exact absurd q (by omega)
set_option maxRecDepth 100000 in
set_option maxHeartbeats 2000000 in
theorem ac_L_distances (g : Gx) (G : GS) (h : Hp) (h0 : g.2.1 42 = 0) (hX : XI G h) (hq : HQ G.1.2.2.1 h) : ACd g yL_distances wsL_distances rmL_distances [.ref 0, .ref 40, .int (nI G.1.2.2.1.length)] h (fun v h' => v = some (.int 1) ∧ XI G h' ∧ FQ h h') := by
  have hn := hX.2.1.2.2.1
  have hvw := hX.2.1.2.2.2.1
  have c40 := isC_40
  generalize hP : (fun (v : Option Value) (h' : Hp) => v = some (.int 1) ∧ XI G h' ∧ FQ h h') = P
  generalize hns : G.1.2.2.1 = ns at *
  refine ACd.of (cc := cL_distances) (maxL := 7) (ret := (some .boolean)) (by decide +kernel) rfl (Nat.le_of_ble_eq_true rfl) ?_
  show AW g mmL_distances (ZD0 g P) 0 [(0, some (.ref 0)), (1, some (.ref 40)), (2, some (.int (nI ns.length)))] [] _
  refine am_bipush (n := 2) (v := 22) dL_distances_0 rfl rfl ?_
  refine am_newd (n := 4) dL_distances_2 (by decide +kernel) h0 ⟨Nat.le_refl _, Nat.le_refl _⟩ hX.n42 (fun i v hi => ?_) rfl (fun a ha => ?_)
  · match i, hi with
    | 0, hi => cases hi; simp
    | 1, hi => cases hi; simp
    | 2, hi => cases hi; simp
    | z + 3, hi => cases hi
  have hz : (ZD g P a).1 ≤ 1 ∧ (ZD g P a).2.1 ≤ 22 := ⟨Nat.le_refl _, Nat.le_refl _⟩
  have hisD : isD (gd g a) := by
    unfold isD
    rw [gd_s]
    omega
  have F0' : FrI 42 42 h (setI h 42 (fun _ => 0)) := FrI.rf.set _ (Nat.le_refl _) (Nat.le_refl _)
  have X0 := hX.d F0'
  have f0 := FQ.d F0'
  generalize setI h 42 (fun _ => 0) = h0' at X0 f0 ⊢
  clear F0'
  refine am_astore_n (n := 5) (i := 3) dL_distances_4 rfl (Nat.le_of_ble_eq_true rfl) rfl rfl ?_
  refine am_aload_n (n := 6) (i := 0) dL_distances_5 rfl rfl rfl ?_
  refine am_iload_n (n := 7) (i := 2) dL_distances_6 rfl rfl rfl ?_
  refine am_iconst (n := 8) (v := 0) dL_distances_7 rfl rfl ?_
  have k1 := cx_distance (gd g a) (nI ns.length) 0 G h0' X0
  rw [dt_out1 (by rw [hns]; exact inN_n (by omega))] at k1
  refine caL_distances_41 (n := 11) dL_distances_8 (by first | exact ⟨rfl, rfl⟩ | assumption) k1 rfl rfl (Nat.le_of_ble_eq_true rfl) (by first | assumption | exact isC_of (by decide +kernel)) rfl ?_
  rintro r h1 ⟨rfl, X1, f1⟩
  refine am_iconst (n := 12) (v := (-1)) dL_distances_11 rfl rfl ?_
  refine am_icmp_ne (tgt := 29) (n := 15) dL_distances_12 (by decide) rfl (fun q_z => absurd rfl q_z) (fun _ => ?_)
  refine am_aload_n (n := 16) (i := 0) dL_distances_15 rfl rfl rfl ?_
  refine am_iconst (n := 17) (v := 0) dL_distances_16 rfl rfl ?_
  refine am_iconst (n := 18) (v := (-1)) dL_distances_17 rfl rfl ?_
  have k2 := cx_distance (gd g a) 0 (-1) G h1 X1
  rw [dt_out2 (inN_neg (by decide))] at k2
  refine caL_distances_41 (n := 21) dL_distances_18 (by first | exact ⟨rfl, rfl⟩ | assumption) k2 rfl rfl (Nat.le_of_ble_eq_true rfl) (by first | assumption | exact isC_of (by decide +kernel)) rfl ?_
  rintro r h2 ⟨rfl, X2, f2⟩
  refine am_iconst (n := 22) (v := (-1)) dL_distances_21 rfl rfl ?_
  refine am_icmp_ne (tgt := 29) (n := 25) dL_distances_22 (by decide) rfl (fun q_z => absurd rfl q_z) (fun _ => ?_)
  refine am_iconst (n := 26) (v := 1) dL_distances_25 rfl rfl ?_
  refine am_goto (tgt := 30) dL_distances_26 (by decide) ?_
  refine am_istore (n := 32) dL_distances_30 (Nat.le_of_ble_eq_true rfl) rfl rfl ?_
  refine am_iconst (n := 33) (v := 0) dL_distances_32 rfl rfl ?_
  refine am_istore (n := 35) dL_distances_33 (Nat.le_of_ble_eq_true rfl) rfl rfl ?_
  refine am_loc [(0, some (.ref 0)), (1, some (.ref 40)), (2, some (.int (nI ns.length))), (3, some (.ref 42)), (4, some (.int 1)), (5, some (.int (nI 0)))] rfl ?_
  refine loop_up (Wp := fun i => ∀ h1 : Hp, XI G h1 → FQ h h1 → AW (gd g a) mmL_distances (ZD g P a) 35 [(0, some (.ref 0)), (1, some (.ref 40)), (2, some (.int (nI ns.length))), (3, some (.ref 42)), (4, some (.int 1)), (5, some (.int (nI i)))] [] h1) ns.length ?_ ?_ 0 (Nat.zero_le _) h2 X2 (f0.tr (f1.q.tr f2.q))
  · intro h1 X1 f1
    refine am_iload (n := 37) dL_distances_35 rfl rfl ?_
    refine am_iload_n (n := 38) (i := 2) dL_distances_37 rfl rfl rfl ?_
    refine am_icmp_ge (tgt := 102) (n := 41) dL_distances_38 (by decide) rfl (fun _ => ?_) (fun q_z => absurd (Int32.le_refl _) q_z)
    refine am_iload (n := 104) dL_distances_102 rfl rfl ?_
    refine am_iretD h0 ha dL_distances_104 rfl rfl X1.n42 ?_
    subst hP
    exact ⟨rfl, X1, f1⟩
  · intro i hi K h1 X1 f1
    obtain ⟨w, hwi⟩ : ∃ w, ns[i]? = some w := ⟨ns[i]'hi, List.getElem?_eq_getElem hi⟩
    have hw := hvw w (List.mem_of_getElem? hwi)
    have hini : vp_in (nI i) 24 := vp_in_nI (by omega) (by decide)
    refine am_iload (n := 37) dL_distances_35 rfl rfl ?_
    refine am_iload_n (n := 38) (i := 2) dL_distances_37 rfl rfl rfl ?_
    refine am_icmp_ge (tgt := 102) (n := 41) dL_distances_38 (by decide) rfl (fun q_z => absurd q_z (nI_ge hi (by omega))) (fun _ => ?_)
    refine am_iload (n := 43) dL_distances_41 rfl rfl ?_
    refine am_if_eq (tgt := 102) (n := 46) dL_distances_43 (by decide) rfl (fun q_z => absurd q_z (by decide)) (fun _ => ?_)
    refine am_iconst (n := 47) (v := 0) dL_distances_46 rfl rfl ?_
    refine am_istore (n := 49) dL_distances_47 (Nat.le_of_ble_eq_true rfl) rfl rfl ?_
    refine am_loc [(0, some (.ref 0)), (1, some (.ref 40)), (2, some (.int (nI ns.length))), (3, some (.ref 42)), (4, some (.int 1)), (5, some (.int (nI i))), (6, some (.int (nI 0)))] rfl ?_
    refine loop_up (Wp := fun j => ∀ h1 : Hp, XI G h1 → FQ h h1 → AW (gd g a) mmL_distances (ZD g P a) 49 [(0, some (.ref 0)), (1, some (.ref 40)), (2, some (.int (nI ns.length))), (3, some (.ref 42)), (4, some (.int 1)), (5, some (.int (nI i))), (6, some (.int (nI j)))] [] h1) ns.length ?_ ?_ 0 (Nat.zero_le _) h1 X1 f1
    · intro h3 X3 f3
      refine am_iload (n := 51) dL_distances_49 rfl rfl ?_
      refine am_iload_n (n := 52) (i := 2) dL_distances_51 rfl rfl rfl ?_
      refine am_icmp_ge (tgt := 96) (n := 55) dL_distances_52 (by decide) rfl (fun _ => ?_) (fun q_z => absurd (Int32.le_refl _) q_z)
      first | refine am_iincN (n := 99) dL_distances_96 rfl rfl rfl ?_ | refine am_iinc1 (n := 99) dL_distances_96 rfl rfl rfl ?_
      refine am_goto (tgt := 35) dL_distances_99 (by decide) ?_
      exact am_loc _ rfl (K h3 X3 f3)
    · intro j hj K2 h3 X3 f3
      obtain ⟨v, hvj⟩ : ∃ v, ns[j]? = some v := ⟨ns[j]'hj, List.getElem?_eq_getElem hj⟩
      have hv := hvw v (List.mem_of_getElem? hvj)
      have hinj : vp_in (nI j) 24 := vp_in_nI (by omega) (by decide)
      refine am_iload (n := 51) dL_distances_49 rfl rfl ?_
      refine am_iload_n (n := 52) (i := 2) dL_distances_51 rfl rfl rfl ?_
      refine am_icmp_ge (tgt := 96) (n := 55) dL_distances_52 (by decide) rfl (fun q_z => absurd q_z (nI_ge hj (by omega))) (fun _ => ?_)
      refine am_iload (n := 57) dL_distances_55 rfl rfl ?_
      refine am_if_eq (tgt := 96) (n := 60) dL_distances_57 (by decide) rfl (fun q_z => absurd q_z (by decide)) (fun _ => ?_)
      refine am_aload_n (n := 61) (i := 0) dL_distances_60 rfl rfl rfl ?_
      refine am_iload (n := 63) dL_distances_61 rfl rfl ?_
      refine am_iload (n := 65) dL_distances_63 rfl rfl ?_
      have k3 := cx_distance (gd g a) (nI i) (nI j) G h3 X3
      rw [dt_at (v := w) (w := v) (by rw [hns]; exact hn) (by rw [hns]; exact hwi) (by rw [hns]; exact hvj)] at k3
      refine caL_distances_41 (n := 68) dL_distances_65 (by first | exact ⟨rfl, rfl⟩ | assumption) k3 rfl rfl (Nat.le_of_ble_eq_true rfl) (by first | assumption | exact isC_of (by decide +kernel)) rfl ?_
      rintro r h4 ⟨rfl, X4, f4⟩
      have q4 := hq.fq (f3.tr f4.q)
      refine am_aload_n (n := 69) (i := 3) dL_distances_68 rfl rfl rfl ?_
      refine am_aload_n (n := 70) (i := 1) dL_distances_69 rfl rfl rfl ?_
      refine am_iload (n := 72) dL_distances_70 rfl rfl ?_
      refine am_lald (n := 73) dL_distances_72 (by first | assumption | exact isC_of (by decide +kernel)) (by first | assumption | exact vp_in_nI (by omega) (by omega) | exact vp_in_iff.mpr (by decide)) rfl ?_
      rw [q4.at (by omega) hwi]
      refine am_aload_n (n := 74) (i := 1) dL_distances_73 rfl rfl rfl ?_
      refine am_iload (n := 76) dL_distances_74 rfl rfl ?_
      refine am_lald (n := 77) dL_distances_76 (by first | assumption | exact isC_of (by decide +kernel)) (by first | assumption | exact vp_in_nI (by omega) (by omega) | exact vp_in_iff.mpr (by decide)) rfl ?_
      rw [q4.at (by omega) hvj]
      refine caL_distances_44 (n := 80) dL_distances_77 (by first | exact ⟨rfl, rfl⟩ | assumption) (ac_L_distance (gd g a) w v h4 hisD hw hv) rfl rfl (Nat.le_of_ble_eq_true rfl) rfl ?_
      rintro r h5 ⟨rfl, F5⟩
      refine am_icmp_ne (tgt := 87) (n := 83) dL_distances_80 (by decide) rfl (fun q_z => absurd rfl q_z) (fun _ => ?_)
      refine am_iconst (n := 84) (v := 1) dL_distances_83 rfl rfl ?_
      refine am_goto (tgt := 88) dL_distances_84 (by decide) ?_
      refine am_istore (n := 90) dL_distances_88 (Nat.le_of_ble_eq_true rfl) rfl rfl ?_
      first | refine am_iincN (n := 93) dL_distances_90 rfl rfl rfl ?_ | refine am_iinc1 (n := 93) dL_distances_90 rfl rfl rfl ?_
      refine am_goto (tgt := 49) dL_distances_93 (by decide) ?_
      exact am_loc _ rfl (K2 h5 (X4.d F5) ((f3.tr f4.q).tr (FQ.d F5)))
