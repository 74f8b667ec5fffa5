/-! Drawers: filling -/
set_option maxRecDepth 100000 in
set_option maxHeartbeats 400000 in
theorem ac_X1_drawerFor (g : Gx) (k c : Nat) (acc : List Nat) (h : Hp) (hk : isDr k) (hc : c < 2 ^ 30) (ha : ∀ x ∈ acc, x < 2 ^ 30) (hl : c ∈ acc ∨ acc.length < 96) (hl2 : acc.length ≤ 96) (h3 : h.1 k 3 = nI acc.length) (hcd : ∀ (d x : Nat), acc[d]? = some x → h.1 (k + 3) d = nI x) : AD g yX1_drawerFor wsX1_drawerFor rmX1_drawerFor [.ref k, .int (nI c)] h (some (.int (nI (ix c acc)))) (drH k acc c h) := by
  obtain ⟨k0, k1, k2, k3, k4, k5⟩ := hk
  have hix := ix_le c acc
  refine AC.of (cc := cX1_drawerFor) (maxL := 3) (ret := (some .int)) (by decide +kernel) rfl (Nat.le_of_ble_eq_true rfl) ?_
  show AW g mmX1_drawerFor _ 0 [(0, some (.ref k)), (1, some (.int (nI c)))] [] _
  refine am_iconst (n := 1) (v := 0) dX1_drawerFor_0 rfl rfl ?_
  refine am_istore_n (n := 2) (i := 2) dX1_drawerFor_1 rfl (Nat.le_of_ble_eq_true rfl) rfl rfl ?_
  generalize hi0 : ix c acc = i0 at hix
  refine am_loc [(0, some (.ref k)), (1, some (.int (nI c))), (2, some (.int (nI 0)))] rfl ?_
  refine loop_up (Wp := fun i => AW g mmX1_drawerFor _ 2 [(0, some (.ref k)), (1, some (.int (nI c))), (2, some (.int (nI i)))] [] h) i0 ?_ ?_ 0 (Nat.zero_le _)
  · refine am_iload_n (n := 3) (i := 2) dX1_drawerFor_2 rfl rfl rfl ?_
    refine am_aload_n (n := 4) (i := 0) dX1_drawerFor_3 rfl rfl rfl ?_
    refine gfX1_drawerFor_34 (n := 7) dX1_drawerFor_4 (by first | assumption | exact isC_of (by decide +kernel)) rfl ?_
    rw [h3]
    by_cases hm : c ∈ acc
    · have hlt := ix_lt hm
      rw [hi0] at hlt
      have hin := ix_in hm
      rw [hi0] at hin
      refine am_icmp_ge (tgt := 26) (n := 10) dX1_drawerFor_7 (by decide) rfl (fun q => absurd q (nI_ge hlt (by omega))) (fun _ => ?_)
      refine am_aload_n (n := 11) (i := 0) dX1_drawerFor_10 rfl rfl rfl ?_
      refine gfX1_drawerFor_18 (n := 14) dX1_drawerFor_11 (by first | assumption | exact isC_of (by decide +kernel)) rfl ?_
      refine am_iload_n (n := 15) (i := 2) dX1_drawerFor_14 rfl rfl rfl ?_
      refine am_iald (n := 16) dX1_drawerFor_15 (by first | assumption | exact isC_of (by decide +kernel)) (by first | assumption | exact vp_in_nI (by omega) (by omega) | decide) rfl ?_
      refine am_iload_n (n := 17) (i := 1) dX1_drawerFor_16 rfl rfl rfl ?_
      rw [nI_clamp (by omega), hcd _ _ hin]
      refine am_icmp_eq (tgt := 26) (n := 20) dX1_drawerFor_17 (by decide) rfl (fun _ => ?_) (fun q => absurd rfl q)
      refine am_iload_n (n := 27) (i := 2) dX1_drawerFor_26 rfl rfl rfl ?_
      refine am_aload_n (n := 28) (i := 0) dX1_drawerFor_27 rfl rfl rfl ?_
      refine gfX1_drawerFor_34 (n := 31) dX1_drawerFor_28 (by first | assumption | exact isC_of (by decide +kernel)) rfl ?_
      rw [h3]
      refine am_icmp_ne (tgt := 64) (n := 34) dX1_drawerFor_31 (by decide) rfl (fun _ => ?_) (fun q => absurd q (fun q => by rw [nI_eq (by omega) (by omega)] at q; omega))
      refine am_iload_n (n := 65) (i := 2) dX1_drawerFor_64 rfl rfl rfl ?_
      refine am_iret dX1_drawerFor_65 rfl rfl ?_
      unfold drH
      rw [if_pos hm]
      exact ⟨rfl, rfl⟩
    · have he : i0 = acc.length := by rw [← hi0]; exact ix_not hm
      have hl96 : acc.length < 96 := hl.resolve_left hm
      subst he
      refine am_icmp_ge (tgt := 26) (n := 10) dX1_drawerFor_7 (by decide) rfl (fun _ => ?_) (fun q => absurd (nI_le (Nat.le_refl _) (by omega)) q)
      refine am_iload_n (n := 27) (i := 2) dX1_drawerFor_26 rfl rfl rfl ?_
      refine am_aload_n (n := 28) (i := 0) dX1_drawerFor_27 rfl rfl rfl ?_
      refine gfX1_drawerFor_34 (n := 31) dX1_drawerFor_28 (by first | assumption | exact isC_of (by decide +kernel)) rfl ?_
      rw [h3]
      refine am_icmp_ne (tgt := 64) (n := 34) dX1_drawerFor_31 (by decide) rfl (fun q => absurd rfl q) (fun _ => ?_)
      refine am_iload_n (n := 35) (i := 2) dX1_drawerFor_34 rfl rfl rfl ?_
      refine am_bipush (n := 37) (v := 96) dX1_drawerFor_35 rfl rfl ?_
      refine am_icmp_ge (tgt := 64) (n := 40) dX1_drawerFor_37 (by decide) rfl (fun q => absurd q (nI_ge hl96 (by decide))) (fun _ => ?_)
      refine am_aload_n (n := 41) (i := 0) dX1_drawerFor_40 rfl rfl rfl ?_
      refine am_dup (n := 42) dX1_drawerFor_41 rfl rfl ?_
      refine gfX1_drawerFor_34 (n := 45) dX1_drawerFor_42 (by first | assumption | exact isC_of (by decide +kernel)) rfl ?_
      rw [h3]
      refine am_iconst (n := 46) (v := 1) dX1_drawerFor_45 rfl rfl ?_
      refine am_iadd (n := 47) dX1_drawerFor_46 rfl ?_
      rw [nI_1]
      refine pfX1_drawerFor_34 (n := 50) dX1_drawerFor_47 (by first | assumption | exact isC_of (by decide +kernel)) rfl ?_
      refine am_aload_n (n := 51) (i := 0) dX1_drawerFor_50 rfl rfl rfl ?_
      refine gfX1_drawerFor_18 (n := 54) dX1_drawerFor_51 (by first | assumption | exact isC_of (by decide +kernel)) rfl ?_
      refine am_iload_n (n := 55) (i := 2) dX1_drawerFor_54 rfl rfl rfl ?_
      refine am_iload_n (n := 56) (i := 1) dX1_drawerFor_55 rfl rfl rfl ?_
      refine am_iast (n := 57) dX1_drawerFor_56 (by first | assumption | exact isC_of (by decide +kernel)) (by first | assumption | exact vp_in_nI (by omega) (by omega) | decide) rfl ?_
      refine am_aload_n (n := 58) (i := 0) dX1_drawerFor_57 rfl rfl rfl ?_
      refine gfX1_drawerFor_21 (n := 61) dX1_drawerFor_58 (by first | assumption | exact isC_of (by decide +kernel)) rfl ?_
      refine am_iload_n (n := 62) (i := 2) dX1_drawerFor_61 rfl rfl rfl ?_
      refine am_iconst (n := 63) (v := 0) dX1_drawerFor_62 rfl rfl ?_
      refine am_iast (n := 64) dX1_drawerFor_63 (by first | assumption | exact isC_of (by decide +kernel)) (by first | assumption | exact vp_in_nI (by omega) (by omega) | decide) rfl ?_
      refine am_iload_n (n := 65) (i := 2) dX1_drawerFor_64 rfl rfl rfl ?_
      refine am_iret dX1_drawerFor_65 rfl rfl ?_
      unfold drH
      rw [if_neg hm, nI_clamp (by omega)]
      simp (disch := omega) only [setI_n]
      exact ⟨trivial, trivial⟩
  · intro i hi K
    have hne := ix_before (c := c) (l := acc) (by rw [hi0]; exact hi)
    have hlt : i < acc.length := by omega
    have hx : acc[i]? = some acc[i] := List.getElem?_eq_getElem hlt
    have hxb := ha _ (List.getElem_mem hlt)
    refine am_iload_n (n := 3) (i := 2) dX1_drawerFor_2 rfl rfl rfl ?_
    refine am_aload_n (n := 4) (i := 0) dX1_drawerFor_3 rfl rfl rfl ?_
    refine gfX1_drawerFor_34 (n := 7) dX1_drawerFor_4 (by first | assumption | exact isC_of (by decide +kernel)) rfl ?_
    rw [h3]
    refine am_icmp_ge (tgt := 26) (n := 10) dX1_drawerFor_7 (by decide) rfl (fun q => absurd q (nI_ge hlt (by omega))) (fun _ => ?_)
    refine am_aload_n (n := 11) (i := 0) dX1_drawerFor_10 rfl rfl rfl ?_
    refine gfX1_drawerFor_18 (n := 14) dX1_drawerFor_11 (by first | assumption | exact isC_of (by decide +kernel)) rfl ?_
    refine am_iload_n (n := 15) (i := 2) dX1_drawerFor_14 rfl rfl rfl ?_
    refine am_iald (n := 16) dX1_drawerFor_15 (by first | assumption | exact isC_of (by decide +kernel)) (by first | assumption | exact vp_in_nI (by omega) (by omega) | decide) rfl ?_
    refine am_iload_n (n := 17) (i := 1) dX1_drawerFor_16 rfl rfl rfl ?_
    rw [nI_clamp (by omega), hcd _ _ hx]
    refine am_icmp_eq (tgt := 26) (n := 20) dX1_drawerFor_17 (by decide) rfl (fun q => absurd q (fun q => hne (by rw [hx, (nI_eq (by omega) (by omega)).mp q]))) (fun _ => ?_)
    first | refine am_iincN (n := 23) dX1_drawerFor_20 rfl rfl rfl ?_ | refine am_iinc1 (n := 23) dX1_drawerFor_20 rfl rfl rfl ?_
    refine am_goto (tgt := 2) dX1_drawerFor_23 (by decide) ?_
    exact am_loc _ rfl K
set_option maxRecDepth 100000 in
set_option maxHeartbeats 1000000 in
theorem ac_X1_fill (g : Gx) (k b ke : Nat) (S : SV) (E : EV) (h : Hp) (hk : isDr k) (hb : isSt b) (he : isEar ke) (hS : RS b S h) (hVS : VS S) (hE : RE ke E h) (hVE : VE E) (d1 : k + 5 < b) (d2 : k + 5 < ke) : AC g yX1_fill wsX1_fill rmX1_fill [.ref k, .ref b, .ref ke] h (fun v h' => v = none ∧ FrI k (k + 5) h h' ∧ RD k (csOf S E) h') := by
  have hk' := hk
  obtain ⟨k0, k1, k2, k3, k4, k5⟩ := hk
  obtain ⟨b0, b1, b2, -⟩ := hb
  obtain ⟨s1, s2, s3, s4, s5, s6⟩ := hS
  have hVC := VC_of hVS hVE
  have hn24 := hVS.2.2.1
  have hlen : (csOf S E).length = S.2.2.1.length := List.length_map ..
  have hL := hVS.1.2
  generalize hcs : csOf S E = cs at hVC hlen
  refine AC.of (cc := cX1_fill) (maxL := 7) (ret := none) (by decide +kernel) rfl (Nat.le_of_ble_eq_true rfl) ?_
  show AW g mmX1_fill _ 0 [(0, some (.ref k)), (1, some (.ref b)), (2, some (.ref ke))] [] _
  refine am_aload_n (n := 1) (i := 0) dX1_fill_0 rfl rfl rfl ?_
  refine am_aload_n (n := 2) (i := 1) dX1_fill_1 rfl rfl rfl ?_
  refine gfX1_fill_27 (n := 5) dX1_fill_2 (by first | assumption | exact isC_of (by decide +kernel)) rfl ?_
  rw [s3]
  refine pfX1_fill_33 (n := 8) dX1_fill_5 (by first | assumption | exact isC_of (by decide +kernel)) rfl ?_
  refine am_aload_n (n := 9) (i := 0) dX1_fill_8 rfl rfl rfl ?_
  refine am_iconst (n := 10) (v := 0) dX1_fill_9 rfl rfl ?_
  refine pfX1_fill_34 (n := 13) dX1_fill_10 (by first | assumption | exact isC_of (by decide +kernel)) rfl ?_
  refine am_iconst (n := 14) (v := 0) dX1_fill_13 rfl rfl ?_
  refine am_istore_n (n := 15) (i := 3) dX1_fill_14 rfl (Nat.le_of_ble_eq_true rfl) rfl rfl ?_
  generalize hZ : ZP g (fun v h' => v = none ∧ FrI k (k + 5) h h' ∧ RD k cs h') = Z
  have z0 : Z.1 = 0 ∧ Z.2.1 = 0 := by rw [← hZ]; exact ⟨rfl, rfl⟩
  refine am_loc [(0, some (.ref k)), (1, some (.ref b)), (2, some (.ref ke)), (3, some (.int (nI 0)))] rfl ?_
  -- what is filled so far: the list X of codes, of the names ahead of i and some of i's
  let Inv : Nat → List Nat → List Nat → Hp → Prop := fun i X done h1 => FrI k (k + 5) h h1 ∧ h1.1 k 0 = nI cs.length ∧ (∀ i' l, i' < i → cs[i']? = some l → h1.1 (k + 1) i' = nI l.length ∧ ∀ (j c : Nat), l[j]? = some c → h1.1 (k + 2) (4 * i' + j) = nI (ix c (dls X))) ∧ h1.1 k 3 = nI (dls X).length ∧ (∀ (d c : Nat), (dls X)[d]? = some c → h1.1 (k + 3) d = nI c ∧ h1.1 (k + 4) d = (mkC cs c i ||| (if c ∈ done then sh1 i else 0)))
  have outer : ∀ i, i ≤ cs.length → ∀ h1 : Hp, Inv i (cs.take i).flatten [] h1 → AW g mmX1_fill Z 15 [(0, some (.ref k)), (1, some (.ref b)), (2, some (.ref ke)), (3, some (.int (nI i)))] [] h1 := by
    refine loop_up (Wp := fun i => ∀ h1 : Hp, Inv i (cs.take i).flatten [] h1 → AW g mmX1_fill Z 15 [(0, some (.ref k)), (1, some (.ref b)), (2, some (.ref ke)), (3, some (.int (nI i)))] [] h1) cs.length ?_ ?_
    · rintro h1 ⟨F, a1, a2, a3, a4⟩
      rw [List.take_length] at a2 a3 a4
      refine am_iload_n (n := 16) (i := 3) dX1_fill_15 rfl rfl rfl ?_
      refine am_aload_n (n := 17) (i := 0) dX1_fill_16 rfl rfl rfl ?_
      refine gfX1_fill_33 (n := 20) dX1_fill_17 (by first | assumption | exact isC_of (by decide +kernel)) rfl ?_
      rw [a1]
      refine am_icmp_ge (tgt := 128) (n := 23) dX1_fill_20 (by decide) rfl (fun _ => ?_) (fun q => absurd (Int32.le_refl _) q)
      rw [← hZ]
      refine am_vret dX1_fill_128 rfl ?_
      refine ⟨rfl, F, a1, fun i l hi => a2 i l (List.getElem?_eq_some_iff.mp hi).1 hi, a3, fun d c hd => ?_⟩
      obtain ⟨q1, q2⟩ := a4 d c hd
      rw [if_neg (fun q => by cases q), or_0] at q2
      exact ⟨q1, q2⟩
    · rintro i hi K h1 ⟨F, a1, a2, a3, a4⟩
      have hwi : S.2.2.1[i]? = some S.2.2.1[i] := List.getElem?_eq_getElem (by omega)
      have hci : cs[i]? = some (codes E S.1 S.2.2.1[i]) := by
        have : (csOf S E)[i]? = some (codes E S.1 S.2.2.1[i]) := by
          unfold csOf
          rw [List.getElem?_map, hwi]
          rfl
        rw [hcs] at this
        exact this
      have hVW := hVS.2.2.2.1 _ (List.getElem_mem (show i < S.2.2.1.length by omega))
      have f1 := (F.1 (b + 1) (by omega))
      have f0 := (F.1 b (by omega))
      have fJ : h1.2.1 (b + 1) i = lN S.2.2.1[i] := by rw [F.2]; exact s5 i _ hwi
      have fL : h1.1 b 0 = nI S.1 := by rw [f0]; exact s1
      refine am_iload_n (n := 16) (i := 3) dX1_fill_15 rfl rfl rfl ?_
      refine am_aload_n (n := 17) (i := 0) dX1_fill_16 rfl rfl rfl ?_
      refine gfX1_fill_33 (n := 20) dX1_fill_17 (by first | assumption | exact isC_of (by decide +kernel)) rfl ?_
      rw [a1]
      refine am_icmp_ge (tgt := 128) (n := 23) dX1_fill_20 (by decide) rfl (fun q => absurd q (nI_ge hi (by omega))) (fun _ => ?_)
      refine am_aload_n (n := 24) (i := 2) dX1_fill_23 rfl rfl rfl ?_
      refine am_aload_n (n := 25) (i := 1) dX1_fill_24 rfl rfl rfl ?_
      refine gfX1_fill_37 (n := 28) dX1_fill_25 (by first | assumption | exact isC_of (by decide +kernel)) rfl ?_
      refine am_iload_n (n := 29) (i := 3) dX1_fill_28 rfl rfl rfl ?_
      refine am_lald (n := 30) dX1_fill_29 (by first | assumption | exact isC_of (by decide +kernel)) (by first | assumption | exact vp_in_nI (by omega) (by omega) | decide) rfl ?_
      refine am_aload_n (n := 31) (i := 1) dX1_fill_30 rfl rfl rfl ?_
      refine gfX1_fill_41 (n := 34) dX1_fill_31 (by first | assumption | exact isC_of (by decide +kernel)) rfl ?_
      rw [nI_clamp (by omega), fJ, fL]
      refine am_aload_n (n := 35) (i := 0) dX1_fill_34 rfl rfl rfl ?_
      refine gfX1_fill_24 (n := 38) dX1_fill_35 (by first | assumption | exact isC_of (by decide +kernel)) rfl ?_
      have hE1 : RE ke E h1 := hE.kept (fun c c1 c2 => F.1 c (by omega))
      refine caX1_fill_44 (n := 41) dX1_fill_38 z0 (ac_X2_writeCodes g ke S.2.2.1[i] S.1 (k + 5) E h1 he hE1 hVE hVW hL k5 (by omega)) rfl rfl (Nat.le_of_ble_eq_true rfl) he.1 rfl ?_
      rintro r h2 ⟨rfl, F2, w2⟩
      revert w2 hci
      generalize hcl : codes E S.1 S.2.2.1[i] = cl
      intro hci w2
      have hcl4 := hVC.2 cl (List.mem_of_getElem? hci)
      have a0 : ∀ c, c ≠ k + 5 → h2.1 c = h1.1 c := fun c hc => F2.1 c (by omega)
      refine am_istore (n := 43) dX1_fill_41 (Nat.le_of_ble_eq_true rfl) rfl rfl ?_
      refine am_aload_n (n := 44) (i := 0) dX1_fill_43 rfl rfl rfl ?_
      refine gfX1_fill_9 (n := 47) dX1_fill_44 (by first | assumption | exact isC_of (by decide +kernel)) rfl ?_
      refine am_iload_n (n := 48) (i := 3) dX1_fill_47 rfl rfl rfl ?_
      refine am_iload (n := 50) dX1_fill_48 rfl rfl ?_
      refine am_iast (n := 51) dX1_fill_50 (by first | assumption | exact isC_of (by decide +kernel)) (by first | assumption | exact vp_in_nI (by omega) (by omega) | decide) rfl ?_
      refine am_iconst (n := 52) (v := 0) dX1_fill_51 rfl rfl ?_
      refine am_istore (n := 54) dX1_fill_52 (Nat.le_of_ble_eq_true rfl) rfl rfl ?_
      refine am_loc [(0, some (.ref k)), (1, some (.ref b)), (2, some (.ref ke)), (3, some (.int (nI i))), (4, some (.int (nI cl.length))), (5, some (.int (nI 0)))] rfl ?_
      rw [nI_clamp (by omega)]
      have etake : ∀ j, j < cl.length → (cs.take i).flatten ++ cl.take (j + 1) = ((cs.take i).flatten ++ cl.take j) ++ [cl.getD j 0] := by
        intro j hj
        rw [List.take_succ, List.append_assoc, List.getD_eq_getElem?_getD, List.getElem?_eq_getElem hj]
        rfl
      have eall : (cs.take (i + 1)).flatten = (cs.take i).flatten ++ cl := by
        rw [List.take_succ, hci, List.flatten_append]
        simp
      -- the inner loop
      let In2 : Nat → Hp → Prop := fun j h3 => Inv i ((cs.take i).flatten ++ cl.take j) (cl.take j) h3 ∧ h3.1 (k + 1) i = nI cl.length ∧ (∀ (j' c : Nat), cl[j']? = some c → h3.1 (k + 5) j' = nI c) ∧ ∀ (j' c : Nat), j' < j → cl[j']? = some c → h3.1 (k + 2) (4 * i + j') = nI (ix c (dls ((cs.take i).flatten ++ cl.take j)))
      have inner : ∀ j, j ≤ cl.length → ∀ h3 : Hp, In2 j h3 → AW g mmX1_fill Z 54 [(0, some (.ref k)), (1, some (.ref b)), (2, some (.ref ke)), (3, some (.int (nI i))), (4, some (.int (nI cl.length))), (5, some (.int (nI j)))] [] h3 := by
        refine loop_up (Wp := fun j => ∀ h3 : Hp, In2 j h3 → AW g mmX1_fill Z 54 [(0, some (.ref k)), (1, some (.ref b)), (2, some (.ref ke)), (3, some (.int (nI i))), (4, some (.int (nI cl.length))), (5, some (.int (nI j)))] [] h3) cl.length ?_ ?_
        · rintro h3 ⟨⟨G, c1, c2, c3, c4⟩, c5, c6, c7⟩
          rw [List.take_length] at c2 c3 c4 c7
          refine am_iload (n := 56) dX1_fill_54 rfl rfl ?_
          refine am_iload (n := 58) dX1_fill_56 rfl rfl ?_
          refine am_icmp_ge (tgt := 122) (n := 61) dX1_fill_58 (by decide) rfl (fun _ => ?_) (fun q => absurd (Int32.le_refl _) q)
          first | refine am_iincN (n := 125) dX1_fill_122 rfl rfl rfl ?_ | refine am_iinc1 (n := 125) dX1_fill_122 rfl rfl rfl ?_
          refine am_goto (tgt := 15) dX1_fill_125 (by decide) ?_
          refine am_loc [(0, some (.ref k)), (1, some (.ref b)), (2, some (.ref ke)), (3, some (.int (nI (i + 1))))] rfl (K h3 ⟨G, c1, fun i' l hi' hl => ?_, by rw [eall]; exact c3, fun d c hd => ?_⟩)
          · rw [eall]
            by_cases z : i' = i
            · subst z
              rw [hci] at hl
              have := Option.some.inj hl
              subst this
              exact ⟨c5, fun j c hj => c7 j c (List.getElem?_eq_some_iff.mp hj).1 hj⟩
            · exact c2 i' l (by omega) hl
          · rw [eall] at hd
            obtain ⟨q1, q2⟩ := c4 d c hd
            refine ⟨q1, ?_⟩
            have e0 : (if c ∈ ([] : List Nat) then sh1 (i + 1) else 0) = (0 : Int32) := if_neg (fun q => by cases q)
            rw [e0, or_0, q2]
            show _ = mkC cs c i ||| (if c ∈ cN cs i then sh1 i else 0)
            rw [cN_of hci]
        · rintro j hj K2 h3 ⟨⟨G, c1, c2, c3, c4⟩, c5, c6, c7⟩
          obtain ⟨c0, hc0⟩ : ∃ c0, cl[j]? = some c0 := ⟨_, List.getElem?_eq_getElem hj⟩
          have hg : cl.getD j 0 = c0 := by rw [List.getD_eq_getElem?_getD, hc0]; rfl
          have hX := etake j hj
          rw [hg] at hX
          have hfresh := hcl4.2.2.2 j c0 hc0
          have hc30 := hcl4.2.2.1 c0 (List.mem_of_getElem? hc0)
          generalize hXd : (cs.take i).flatten ++ cl.take j = X at c2 c3 c4 c7 hX
          have hXin : ∀ x, x ∈ X → ∃ (m : Nat) (l : List Nat), cs[m]? = some l ∧ x ∈ l := by
            intro x hx
            rw [← hXd] at hx
            rcases List.mem_append.mp hx with q | q
            · obtain ⟨l, hl, hxl⟩ := List.mem_flatten.mp q
              obtain ⟨m, hm⟩ := List.getElem?_of_mem (List.mem_of_mem_take hl)
              exact ⟨m, l, hm, hxl⟩
            · exact ⟨i, cl, hci, List.mem_of_mem_take q⟩
          have hX30 : ∀ x ∈ dls X, x < 2 ^ 30 := by
            intro x hx
            obtain ⟨m, l, hm, hxl⟩ := hXin x (mem_dls.mp hx)
            exact (hVC.2 l (List.mem_of_getElem? hm)).2.2.1 x hxl
          have hXl : X.length < 96 := by
            rw [← hXd, List.length_append, List.length_take]
            have := flat_len (cs := cs.take i) (fun l hl => (hVC.2 l (List.mem_of_mem_take hl)).1)
            rw [List.length_take] at this
            have := hcl4.1
            omega
          have hdl := dls_len X
          have hnm : c0 ∉ dls X → (mkC cs c0 i ||| (if c0 ∈ cl.take j then sh1 i else 0)) = 0 := by
            intro hn
            have hn' : c0 ∉ X := fun q => hn (mem_dls.mpr q)
            rw [if_neg hfresh, or_0]
            refine orF_0 (fun m hm => ?_)
            have hml : m < cs.length := by omega
            rw [if_neg]
            intro q
            refine hn' ?_
            rw [← hXd]
            refine List.mem_append_left _ (List.mem_flatten.mpr ⟨cN cs m, ?_, q⟩)
            rw [cN_of (List.getElem?_eq_getElem hml)]
            exact List.mem_of_getElem? (i := m) (by rw [List.getElem?_take, if_pos hm]; exact List.getElem?_eq_getElem hml)
          have hsp := drH_spec (c := c0) (fun x => mkC cs x i ||| (if x ∈ cl.take j then sh1 i else 0)) c3 c4 hnm
          have hd0 : (addD (dls X) c0)[ix c0 (dls X)]? = some c0 := by
            rw [← ix_addD c0]
            exact ix_in (mem_addD.mpr (Or.inr rfl))
          have hND := (ND_dls X).add c0
          have hixl := ix_le c0 (dls X)
          have j4 : j < 4 := by have := hcl4.1; omega
          refine am_iload (n := 56) dX1_fill_54 rfl rfl ?_
          refine am_iload (n := 58) dX1_fill_56 rfl rfl ?_
          refine am_icmp_ge (tgt := 122) (n := 61) dX1_fill_58 (by decide) rfl (fun q => absurd q (nI_ge hj (by omega))) (fun _ => ?_)
          refine am_iload (n := 63) dX1_fill_61 rfl rfl ?_
          refine am_iconst (n := 64) (v := 4) dX1_fill_63 rfl rfl ?_
          refine am_icmp_ge (tgt := 122) (n := 67) dX1_fill_64 (by decide) rfl (fun q => absurd q (nI_ge j4 (by decide))) (fun _ => ?_)
          refine am_aload_n (n := 68) (i := 0) dX1_fill_67 rfl rfl rfl ?_
          refine am_aload_n (n := 69) (i := 0) dX1_fill_68 rfl rfl rfl ?_
          refine gfX1_fill_24 (n := 72) dX1_fill_69 (by first | assumption | exact isC_of (by decide +kernel)) rfl ?_
          refine am_iload (n := 74) dX1_fill_72 rfl rfl ?_
          refine am_iald (n := 75) dX1_fill_74 (by first | assumption | exact isC_of (by decide +kernel)) (by first | assumption | exact vp_in_nI (by omega) (by omega) | decide) rfl ?_
          rw [nI_clamp (by omega), c6 j c0 hc0]
          refine cdX1_fill_50 (n := 78) dX1_fill_75 z0 (ac_X1_drawerFor g k c0 (dls X) h3 hk' hc30 hX30 (Or.inr (by omega)) (by omega) c3 (fun d x hd => (c4 d x hd).1)) rfl rfl (Nat.le_of_ble_eq_true rfl) k0 rfl ?_
          revert hsp
          generalize drH k (dls X) c0 h3 = h4
          rintro ⟨e1, e2, e3, e4, e5, e6, e7⟩
          refine am_istore (n := 80) dX1_fill_78 (Nat.le_of_ble_eq_true rfl) rfl rfl ?_
          refine am_iload (n := 82) dX1_fill_80 rfl rfl ?_
          refine am_bipush (n := 84) (v := 96) dX1_fill_82 rfl rfl ?_
          refine am_icmp_lt (tgt := 90) (n := 87) dX1_fill_84 (by decide) rfl (fun _ => ?_) (fun q => absurd (nI_lt (show ix c0 (dls X) < 96 by omega) (by decide)) q)
          have hin : vp_in (nI (ix c0 (dls X))) 96 := vp_in_nI (by omega) (by decide)
          refine am_aload_n (n := 91) (i := 0) dX1_fill_90 rfl rfl rfl ?_
          refine gfX1_fill_21 (n := 94) dX1_fill_91 (by first | assumption | exact isC_of (by decide +kernel)) rfl ?_
          refine am_iload (n := 96) dX1_fill_94 rfl rfl ?_
          refine am_dup2 (n := 97) dX1_fill_96 rfl rfl rfl ?_
          refine am_iald (n := 98) dX1_fill_97 (by first | assumption | exact isC_of (by decide +kernel)) (by first | assumption | exact vp_in_nI (by omega) (by omega) | decide) rfl ?_
          refine am_iconst (n := 99) (v := 1) dX1_fill_98 rfl rfl ?_
          refine am_iload_n (n := 100) (i := 3) dX1_fill_99 rfl rfl rfl ?_
          refine am_ishl (n := 101) dX1_fill_100 rfl ?_
          refine am_ior (n := 102) dX1_fill_101 rfl ?_
          refine am_iast (n := 103) dX1_fill_102 (by first | assumption | exact isC_of (by decide +kernel)) (by first | assumption | exact vp_in_nI (by omega) (by omega) | decide) rfl ?_
          refine am_aload_n (n := 104) (i := 0) dX1_fill_103 rfl rfl rfl ?_
          refine gfX1_fill_15 (n := 107) dX1_fill_104 (by first | assumption | exact isC_of (by decide +kernel)) rfl ?_
          refine am_iconst (n := 108) (v := 4) dX1_fill_107 rfl rfl ?_
          refine am_iload_n (n := 109) (i := 3) dX1_fill_108 rfl rfl rfl ?_
          refine am_imul (n := 110) dX1_fill_109 rfl ?_
          refine am_iload (n := 112) dX1_fill_110 rfl rfl ?_
          refine am_iadd (n := 113) dX1_fill_112 rfl ?_
          rw [show (4 : Int32) * nI i + nI j = nI (4 * i + j) by rw [show (4 : Int32) * nI i = nI (4 * i) from pk_mul 4 i, nI_add]]
          have hin2 : vp_in (nI (4 * i + j)) 96 := vp_in_nI (by omega) (by decide)
          refine am_iload (n := 115) dX1_fill_113 rfl rfl ?_
          refine am_iast (n := 116) dX1_fill_115 (by first | assumption | exact isC_of (by decide +kernel)) (by first | assumption | exact vp_in_nI (by omega) (by omega) | decide) rfl ?_
          first | refine am_iincN (n := 119) dX1_fill_116 rfl rfl rfl ?_ | refine am_iinc1 (n := 119) dX1_fill_116 rfl rfl rfl ?_
          refine am_goto (tgt := 54) dX1_fill_119 (by decide) ?_
          rw [nI_clamp (show ix c0 (dls X) < 2 ^ 31 by omega), nI_clamp (show 4 * i + j < 2 ^ 31 by omega)]
          refine am_loc [(0, some (.ref k)), (1, some (.ref b)), (2, some (.ref ke)), (3, some (.int (nI i))), (4, some (.int (nI cl.length))), (5, some (.int (nI (j + 1))))] rfl (K2 _ ⟨⟨((G.tr e7).set _ (by omega) (by omega)).set _ (by omega) (by omega), ?_, fun i' l hi' hl => ?_, ?_, fun d c hd => ?_⟩, ?_, fun j' c hc => ?_, fun j' c hj' hc => ?_⟩)
          · simp (disch := omega) only [setI_n]
            rw [e3]
            exact c1
          · rw [hX, dls_app]
            obtain ⟨q1, q2⟩ := c2 i' l hi' hl
            have hl4 := (hVC.2 l (List.mem_of_getElem? hl)).1
            simp (disch := omega) only [setI_n, setI_s]
            rw [e4]
            refine ⟨q1, fun j' c hc => ?_⟩
            have hj' := (List.getElem?_eq_some_iff.mp hc).1
            rw [pk_un (by omega), e5, q2 j' c hc, ix_addD_in]
            refine mem_dls.mpr ?_
            rw [← hXd]
            exact List.mem_append_left _ (List.mem_flatten.mpr ⟨l, List.mem_of_getElem? (i := i') (by rw [List.getElem?_take, if_pos hi']; exact hl), List.mem_of_getElem? hc⟩)
          · rw [hX, dls_app]
            simp (disch := omega) only [setI_n]
            exact e1
          · rw [hX, dls_app] at hd
            obtain ⟨q1, q2⟩ := e2 d c hd
            simp (disch := omega) only [setI_n, setI_s]
            refine ⟨q1, ?_⟩
            have htk : cl.take (j + 1) = cl.take j ++ [c0] := by rw [List.take_succ, hc0]; rfl
            by_cases hz : d = ix c0 (dls X)
            · subst hz
              rw [hd0] at hd
              have := Option.some.inj hd
              subst this
              rw [pk_us, q2]
              simp only [if_neg hfresh, or_0]
              rw [if_pos (by rw [htk]; exact List.mem_append_right _ List.mem_cons_self)]
              rfl
            · have hne : ¬ c = c0 := by
                rintro rfl
                exact hz ((hND d c hd).symm.trans (ix_addD c))
              rw [pk_un hz, q2]
              by_cases hcj : c ∈ cl.take j
              · rw [if_pos hcj, if_pos (by rw [htk]; exact List.mem_append_left _ hcj)]
              · rw [if_neg hcj, if_neg (by rw [htk]; exact fun q => (List.mem_append.mp q).elim hcj (fun q => hne (List.mem_singleton.mp q)))]
          · simp (disch := omega) only [setI_n]
            rw [e4]
            exact c5
          · simp (disch := omega) only [setI_n]
            rw [e6]
            exact c6 j' c hc
          · rw [hX, dls_app]
            simp (disch := omega) only [setI_n, setI_s]
            by_cases hz : j' = j
            · subst hz
              rw [hc0] at hc
              rw [← Option.some.inj hc, pk_us, ix_addD]
            · rw [pk_un (by omega), e5, c7 j' c (by omega) hc, ix_addD_in]
              refine mem_dls.mpr ?_
              rw [← hXd]
              exact List.mem_append_right _ (List.mem_of_getElem? (i := j') (by rw [List.getElem?_take, if_pos (by omega)]; exact hc))
      refine inner 0 (Nat.zero_le _) _ ⟨⟨(F.tr (F2.wide (by omega) (by omega))).set _ (by omega) (by omega), ?_, fun i' l hi' hl => ?_, ?_, fun d c hd => ?_⟩, ?_, fun j' c hc => ?_, fun j' c hj' => by omega⟩
      · simp (disch := omega) only [setI_n, a0]
        exact a1
      · simp (disch := omega) only [setI_n, setI_s, a0, pk_un, List.take_zero, List.append_nil]
        exact a2 i' l hi' hl
      · simp (disch := omega) only [setI_n, a0, List.take_zero, List.append_nil]
        exact a3
      · simp (disch := omega) only [setI_n, a0, List.take_zero, List.append_nil] at hd ⊢
        exact a4 d c hd
      · simp (disch := omega) only [setI_s, pk_us]
      · simp (disch := omega) only [setI_n]
        exact w2 j' c hc
  refine outer 0 (Nat.zero_le _) _ ⟨(FrI.rf.set _ (by omega) (by omega)).set _ (by omega) (by omega), ?_, fun i' l hi' => by omega, ?_, fun d c hd => by cases hd⟩
  · simp (disch := omega) only [setI_s, pk_us, pk_un]
    rw [hlen]
  · simp (disch := omega) only [setI_s, pk_us]
    rfl
