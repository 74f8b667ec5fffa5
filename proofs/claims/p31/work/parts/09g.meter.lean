/-! Meter: ranks -/
def ahC (p : Nat → Bool) (d : Nat → Nat) (n i : Nat) : Nat := fb_ct (fun o => p o && (decide (d o < d i) || (decide (d o = d i) && decide (o < i)))) n
set_option maxRecDepth 100000 in
set_option maxHeartbeats 800000 in
theorem ac_X3_namesAhead (g : Gx) (k n i : Nat) (am : Int32) (d : Nat → Nat) (h : Hp) (hk : isMt k) (hn : n ≤ 24) (hi : i < n) (hd : ∀ o, o < n → h.1 (k + 2) o = nI (d o)) (hb : ∀ o, d o ≤ 20) : AD g yX3_namesAhead wsX3_namesAhead rmX3_namesAhead [.ref k, .int (nI i), .int (nI n), .int am] h (some (.int (nI (ahC (bt am) d n i)))) h := by
  obtain ⟨k0, k1, k2⟩ := hk
  have hbi := hb i
  unfold ahC
  refine AC.of (cc := cX3_namesAhead) (maxL := 6) (ret := (some .int)) (by decide +kernel) rfl (Nat.le_of_ble_eq_true rfl) ?_
  show AW g mmX3_namesAhead _ 0 [(0, some (.ref k)), (1, some (.int (nI i))), (2, some (.int (nI n))), (3, some (.int am))] [] _
  refine am_iconst (n := 1) (v := 0) dX3_namesAhead_0 rfl rfl ?_
  refine am_istore (n := 3) dX3_namesAhead_1 (Nat.le_of_ble_eq_true rfl) rfl rfl ?_
  refine am_iconst (n := 4) (v := 0) dX3_namesAhead_3 rfl rfl ?_
  refine am_istore (n := 6) dX3_namesAhead_4 (Nat.le_of_ble_eq_true rfl) rfl rfl ?_
  refine am_loc [(0, some (.ref k)), (1, some (.int (nI i))), (2, some (.int (nI n))), (3, some (.int am)), (4, some (.int (nI (fb_ct (fun o => bt am o && (decide (d o < d i) || (decide (d o = d i) && decide (o < i)))) 0)))), (5, some (.int (nI 0)))] rfl ?_
  refine loop_up (Wp := fun o => AW g mmX3_namesAhead _ 6 [(0, some (.ref k)), (1, some (.int (nI i))), (2, some (.int (nI n))), (3, some (.int am)), (4, some (.int (nI (fb_ct (fun o => bt am o && (decide (d o < d i) || (decide (d o = d i) && decide (o < i)))) o)))), (5, some (.int (nI o)))] [] h) n ?_ ?_ 0 (Nat.zero_le _)
  · refine am_iload (n := 8) dX3_namesAhead_6 rfl rfl ?_
    refine am_iload_n (n := 9) (i := 2) dX3_namesAhead_8 rfl rfl rfl ?_
    refine am_icmp_ge (tgt := 74) (n := 12) dX3_namesAhead_9 (by decide) rfl (fun _ => ?_) (fun q => absurd (Int32.le_refl _) q)
    refine am_iload (n := 76) dX3_namesAhead_74 rfl rfl ?_
    refine am_iret dX3_namesAhead_76 rfl rfl ?_
    exact ⟨rfl, rfl⟩
  · intro o ho K
    have hbo := hb o
    have eo : fb_ct (fun o => bt am o && (decide (d o < d i) || (decide (d o = d i) && decide (o < i)))) (o + 1) = fb_ct (fun o => bt am o && (decide (d o < d i) || (decide (d o = d i) && decide (o < i)))) o + (if (bt am o && (decide (d o < d i) || (decide (d o = d i) && decide (o < i)))) = true then 1 else 0) := rfl
    rw [eo] at K
    generalize fb_ct (fun o => bt am o && (decide (d o < d i) || (decide (d o = d i) && decide (o < i)))) o = q at K ⊢
    have t68 : ∀ (a : Nat) (l : Lo), a = q + (if (bt am o && (decide (d o < d i) || (decide (d o = d i) && decide (o < i)))) = true then 1 else 0) → lget l 0 = some (.ref k) → lget l 1 = some (.int (nI i)) → lget l 2 = some (.int (nI n)) → lget l 3 = some (.int am) → lget l 4 = some (.int (nI a)) → lget l 5 = some (.int (nI o)) → AW g mmX3_namesAhead (ZP g (fun r h2 => r = some (.int (nI (fb_ct (fun o => bt am o && (decide (d o < d i) || (decide (d o = d i) && decide (o < i)))) n))) ∧ h2 = h)) 68 l [] h := by
      rintro a l rfl l0 l1 l2 l3 l4 l5
      refine am_loc [(0, some (.ref k)), (1, some (.int (nI i))), (2, some (.int (nI n))), (3, some (.int am)), (4, some (.int (nI (q + (if (bt am o && (decide (d o < d i) || (decide (d o = d i) && decide (o < i)))) = true then 1 else 0))))), (5, some (.int (nI o)))] (by simp only [List.map_cons, List.map_nil, l0, l1, l2, l3, l4, l5]) ?_
      first | refine am_iincN (n := 71) dX3_namesAhead_68 rfl rfl rfl ?_ | refine am_iinc1 (n := 71) dX3_namesAhead_68 rfl rfl rfl ?_
      refine am_goto (tgt := 6) dX3_namesAhead_71 (by decide) ?_
      exact am_loc _ rfl K
    refine am_iload (n := 8) dX3_namesAhead_6 rfl rfl ?_
    refine am_iload_n (n := 9) (i := 2) dX3_namesAhead_8 rfl rfl rfl ?_
    refine am_icmp_ge (tgt := 74) (n := 12) dX3_namesAhead_9 (by decide) rfl (fun q => absurd q (nI_ge ho (by omega))) (fun _ => ?_)
    refine am_iload_n (n := 13) (i := 3) dX3_namesAhead_12 rfl rfl rfl ?_
    refine am_iconst (n := 14) (v := 1) dX3_namesAhead_13 rfl rfl ?_
    refine am_iload (n := 16) dX3_namesAhead_14 rfl rfl ?_
    refine am_ishl (n := 17) dX3_namesAhead_16 rfl ?_
    refine am_iand (n := 18) dX3_namesAhead_17 rfl ?_
    by_cases hp : bt am o = true
    · refine am_if_ne (tgt := 24) (n := 21) dX3_namesAhead_18 (by decide) rfl (fun _ => ?_) (fun q => absurd q (fun z => by rw [(bt_sh1 am o (by omega)).mp z] at hp; cases hp))
      refine am_aload_n (n := 25) (i := 0) dX3_namesAhead_24 rfl rfl rfl ?_
      refine gfX3_namesAhead_15 (n := 28) dX3_namesAhead_25 (by first | assumption | exact isC_of (by decide +kernel)) rfl ?_
      refine am_iload (n := 30) dX3_namesAhead_28 rfl rfl ?_
      refine am_iald (n := 31) dX3_namesAhead_30 (by first | assumption | exact isC_of (by decide +kernel)) (by first | assumption | exact vp_in_nI (by omega) (by omega) | exact vp_in_iff.mpr (by decide)) rfl ?_
      refine am_aload_n (n := 32) (i := 0) dX3_namesAhead_31 rfl rfl rfl ?_
      refine gfX3_namesAhead_15 (n := 35) dX3_namesAhead_32 (by first | assumption | exact isC_of (by decide +kernel)) rfl ?_
      refine am_iload_n (n := 36) (i := 1) dX3_namesAhead_35 rfl rfl rfl ?_
      refine am_iald (n := 37) dX3_namesAhead_36 (by first | assumption | exact isC_of (by decide +kernel)) (by first | assumption | exact vp_in_nI (by omega) (by omega) | exact vp_in_iff.mpr (by decide)) rfl ?_
      rw [nI_clamp (show o < 2 ^ 31 by omega), nI_clamp (show i < 2 ^ 31 by omega), hd o ho, hd i hi]
      by_cases h1 : d o < d i
      · refine am_icmp_ge (tgt := 43) (n := 40) dX3_namesAhead_37 (by decide) rfl (fun q => absurd q (nI_ge h1 (by omega))) (fun _ => ?_)
        first | refine am_iincN (n := 43) dX3_namesAhead_40 rfl rfl rfl ?_ | refine am_iinc1 (n := 43) dX3_namesAhead_40 rfl rfl rfl ?_
        refine am_aload_n (n := 44) (i := 0) dX3_namesAhead_43 rfl rfl rfl ?_
        refine gfX3_namesAhead_15 (n := 47) dX3_namesAhead_44 (by first | assumption | exact isC_of (by decide +kernel)) rfl ?_
        refine am_iload (n := 49) dX3_namesAhead_47 rfl rfl ?_
        refine am_iald (n := 50) dX3_namesAhead_49 (by first | assumption | exact isC_of (by decide +kernel)) (by first | assumption | exact vp_in_nI (by omega) (by omega) | exact vp_in_iff.mpr (by decide)) rfl ?_
        refine am_aload_n (n := 51) (i := 0) dX3_namesAhead_50 rfl rfl rfl ?_
        refine gfX3_namesAhead_15 (n := 54) dX3_namesAhead_51 (by first | assumption | exact isC_of (by decide +kernel)) rfl ?_
        refine am_iload_n (n := 55) (i := 1) dX3_namesAhead_54 rfl rfl rfl ?_
        refine am_iald (n := 56) dX3_namesAhead_55 (by first | assumption | exact isC_of (by decide +kernel)) (by first | assumption | exact vp_in_nI (by omega) (by omega) | exact vp_in_iff.mpr (by decide)) rfl ?_
        rw [nI_clamp (show o < 2 ^ 31 by omega), nI_clamp (show i < 2 ^ 31 by omega), hd o ho, hd i hi]
        refine am_icmp_ne (tgt := 68) (n := 59) dX3_namesAhead_56 (by decide) rfl (fun _ => ?_) (fun q => absurd q (fun z => by rw [nI_eq (by omega) (by omega)] at z; omega))
        refine t68 (q + 1) _ (by rw [if_pos (by simp [hp, h1])]) rfl rfl rfl rfl rfl rfl
      · refine am_icmp_ge (tgt := 43) (n := 40) dX3_namesAhead_37 (by decide) rfl (fun _ => ?_) (fun q => absurd (nI_le (Nat.not_lt.mp h1) (by omega)) q)
        refine am_aload_n (n := 44) (i := 0) dX3_namesAhead_43 rfl rfl rfl ?_
        refine gfX3_namesAhead_15 (n := 47) dX3_namesAhead_44 (by first | assumption | exact isC_of (by decide +kernel)) rfl ?_
        refine am_iload (n := 49) dX3_namesAhead_47 rfl rfl ?_
        refine am_iald (n := 50) dX3_namesAhead_49 (by first | assumption | exact isC_of (by decide +kernel)) (by first | assumption | exact vp_in_nI (by omega) (by omega) | exact vp_in_iff.mpr (by decide)) rfl ?_
        refine am_aload_n (n := 51) (i := 0) dX3_namesAhead_50 rfl rfl rfl ?_
        refine gfX3_namesAhead_15 (n := 54) dX3_namesAhead_51 (by first | assumption | exact isC_of (by decide +kernel)) rfl ?_
        refine am_iload_n (n := 55) (i := 1) dX3_namesAhead_54 rfl rfl rfl ?_
        refine am_iald (n := 56) dX3_namesAhead_55 (by first | assumption | exact isC_of (by decide +kernel)) (by first | assumption | exact vp_in_nI (by omega) (by omega) | exact vp_in_iff.mpr (by decide)) rfl ?_
        rw [nI_clamp (show o < 2 ^ 31 by omega), nI_clamp (show i < 2 ^ 31 by omega), hd o ho, hd i hi]
        by_cases h2 : d o = d i
        · refine am_icmp_ne (tgt := 68) (n := 59) dX3_namesAhead_56 (by decide) rfl (fun q => absurd (congrArg nI h2) q) (fun _ => ?_)
          refine am_iload (n := 61) dX3_namesAhead_59 rfl rfl ?_
          refine am_iload_n (n := 62) (i := 1) dX3_namesAhead_61 rfl rfl rfl ?_
          by_cases h3 : o < i
          · refine am_icmp_ge (tgt := 68) (n := 65) dX3_namesAhead_62 (by decide) rfl (fun q => absurd q (nI_ge h3 (by omega))) (fun _ => ?_)
            first | refine am_iincN (n := 68) dX3_namesAhead_65 rfl rfl rfl ?_ | refine am_iinc1 (n := 68) dX3_namesAhead_65 rfl rfl rfl ?_
            exact t68 (q + 1) _ (by rw [if_pos (by simp [hp, h2, h3])]) rfl rfl rfl rfl rfl rfl
          · refine am_icmp_ge (tgt := 68) (n := 65) dX3_namesAhead_62 (by decide) rfl (fun _ => ?_) (fun q => absurd (nI_le (Nat.not_lt.mp h3) (by omega)) q)
            exact t68 q _ (by rw [if_neg (by simp [h1, h3]), Nat.add_zero]) rfl rfl rfl rfl rfl rfl
        · refine am_icmp_ne (tgt := 68) (n := 59) dX3_namesAhead_56 (by decide) rfl (fun _ => ?_) (fun q => absurd q (fun z => h2 ((nI_eq (by omega) (by omega)).mp z)))
          exact t68 q _ (by rw [if_neg (by simp [h1, h2]), Nat.add_zero]) rfl rfl rfl rfl rfl rfl
    · refine am_if_ne (tgt := 24) (n := 21) dX3_namesAhead_18 (by decide) rfl (fun q => absurd ((bt_sh1 am o (by omega)).mpr (by cases hx : bt am o; rfl; exact absurd hx hp)) q) (fun _ => ?_)
      refine am_goto (tgt := 68) dX3_namesAhead_21 (by decide) ?_
      exact t68 q _ (by rw [if_neg (by simp [hp]), Nat.add_zero]) rfl rfl rfl rfl rfl rfl
set_option maxRecDepth 100000 in
set_option maxHeartbeats 800000 in
theorem ac_X3_ranked (g : Gx) (k b w : Nat) (am rank : Int32) (S : SV) (h : Hp) (hk : isMt k) (hb : isSt b) (hS : RS b S h) (hVS : VS S) (hw : VW w) (hd : k + 2 < b) : AC g yX3_ranked wsX3_ranked rmX3_ranked [.ref k, .ref b, .long (lN w), .int am, .int rank] h (fun v h' => FrI (k + 1) (k + 2) h h' ∧ ((∃ i, i < S.2.2.1.length ∧ bt am i = true ∧ nI (ahC (bt am) (fun o => dst w (S.2.2.1.getD o 0)) S.2.2.1.length i) = rank ∧ v = some (.int (nI i))) ∨ ((∀ i, i < S.2.2.1.length → bt am i = true → nI (ahC (bt am) (fun o => dst w (S.2.2.1.getD o 0)) S.2.2.1.length i) ≠ rank) ∧ v = some (.int (-6))))) := by
  have hk' := hk
  obtain ⟨k0, k1, k2⟩ := hk
  obtain ⟨b0, b1, b2, -⟩ := hb
  have hn := hVS.2.2.1
  have hs3 := hS.2.2.1
  have hs5 := hS.2.2.2.2.1
  have hW := hVS.2.2.2.1
  generalize S.2.2.1 = ws at *
  generalize hf : (fun o => dst w (ws.getD o 0)) = f
  have hfb : ∀ o, f o ≤ 20 := fun o => by rw [← hf]; exact dst_le _ _
  generalize hZ : ZP g (fun v h' => FrI (k + 1) (k + 2) h h' ∧ ((∃ i, i < ws.length ∧ bt am i = true ∧ nI (ahC (bt am) f ws.length i) = rank ∧ v = some (.int (nI i))) ∨ ((∀ i, i < ws.length → bt am i = true → nI (ahC (bt am) f ws.length i) ≠ rank) ∧ v = some (.int (-6))))) = Z
  have z0 : Z.1 = 0 ∧ Z.2.1 = 0 := by rw [← hZ]; exact ⟨rfl, rfl⟩
  refine AC.of (cc := cX3_ranked) (maxL := 7) (ret := (some .int)) (by decide +kernel) rfl (Nat.le_of_ble_eq_true rfl) ?_
  show AW g mmX3_ranked _ 0 [(0, some (.ref k)), (1, some (.ref b)), (2, some (.long (lN w))), (4, some (.int am)), (5, some (.int rank))] [] _
  rw [hZ]
  refine am_iconst (n := 1) (v := 0) dX3_ranked_0 rfl rfl ?_
  refine am_istore (n := 3) dX3_ranked_1 (Nat.le_of_ble_eq_true rfl) rfl rfl ?_
  refine am_loc [(0, some (.ref k)), (1, some (.ref b)), (2, some (.long (lN w))), (4, some (.int am)), (5, some (.int rank)), (6, some (.int (nI 0)))] rfl ?_
  refine loop_up (Wp := fun i => ∀ h1 : Hp, FrI (k + 1) (k + 2) h h1 → (∀ o, o < i → h1.1 (k + 2) o = nI (f o)) → AW g mmX3_ranked Z 3 [(0, some (.ref k)), (1, some (.ref b)), (2, some (.long (lN w))), (4, some (.int am)), (5, some (.int rank)), (6, some (.int (nI i)))] [] h1) ws.length ?_ ?_ 0 (Nat.zero_le _) h FrI.rf (fun o ho => by omega)
  · intro h1 F H
    have hc : h1.1 b 2 = nI ws.length := by rw [F.1 b (by omega)]; exact hs3
    refine am_iload (n := 5) dX3_ranked_3 rfl rfl ?_
    refine am_aload_n (n := 6) (i := 1) dX3_ranked_5 rfl rfl rfl ?_
    refine gfX3_ranked_34 (n := 9) dX3_ranked_6 (by first | assumption | exact isC_of (by decide +kernel)) rfl ?_
    rw [hc]
    refine am_icmp_ge (tgt := 37) (n := 12) dX3_ranked_9 (by decide) rfl (fun _ => ?_) (fun q => absurd (Int32.le_refl _) q)
    refine am_iconst (n := 38) (v := 0) dX3_ranked_37 rfl rfl ?_
    refine am_istore (n := 40) dX3_ranked_38 (Nat.le_of_ble_eq_true rfl) rfl rfl ?_
    refine am_loc [(0, some (.ref k)), (1, some (.ref b)), (2, some (.long (lN w))), (4, some (.int am)), (5, some (.int rank)), (6, some (.int (nI 0)))] rfl ?_
    refine loop_up (Wp := fun i => (∀ i', i' < i → bt am i' = true → nI (ahC (bt am) f ws.length i') ≠ rank) → AW g mmX3_ranked Z 40 [(0, some (.ref k)), (1, some (.ref b)), (2, some (.long (lN w))), (4, some (.int am)), (5, some (.int rank)), (6, some (.int (nI i)))] [] h1) ws.length ?_ ?_ 0 (Nat.zero_le _) (fun i' hi' => by omega)
    · intro hno
      refine am_iload (n := 42) dX3_ranked_40 rfl rfl ?_
      refine am_aload_n (n := 43) (i := 1) dX3_ranked_42 rfl rfl rfl ?_
      refine gfX3_ranked_34 (n := 46) dX3_ranked_43 (by first | assumption | exact isC_of (by decide +kernel)) rfl ?_
      rw [hc]
      refine am_icmp_ge (tgt := 85) (n := 49) dX3_ranked_46 (by decide) rfl (fun _ => ?_) (fun q => absurd (Int32.le_refl _) q)
      rw [← hZ]
      refine am_bipush (n := 87) (v := (-6)) dX3_ranked_85 rfl rfl ?_
      refine am_iret dX3_ranked_87 rfl rfl ?_
      exact ⟨F, Or.inr ⟨hno, rfl⟩⟩
    · intro i hi K hno
      refine am_iload (n := 42) dX3_ranked_40 rfl rfl ?_
      refine am_aload_n (n := 43) (i := 1) dX3_ranked_42 rfl rfl rfl ?_
      refine gfX3_ranked_34 (n := 46) dX3_ranked_43 (by first | assumption | exact isC_of (by decide +kernel)) rfl ?_
      rw [hc]
      refine am_icmp_ge (tgt := 85) (n := 49) dX3_ranked_46 (by decide) rfl (fun q => absurd q (nI_ge hi (by omega))) (fun _ => ?_)
      refine am_iload (n := 51) dX3_ranked_49 rfl rfl ?_
      refine am_iconst (n := 52) (v := 1) dX3_ranked_51 rfl rfl ?_
      refine am_iload (n := 54) dX3_ranked_52 rfl rfl ?_
      refine am_ishl (n := 55) dX3_ranked_54 rfl ?_
      refine am_iand (n := 56) dX3_ranked_55 rfl ?_
      have next : (bt am i = true → nI (ahC (bt am) f ws.length i) ≠ rank) → AW g mmX3_ranked Z 79 [(0, some (.ref k)), (1, some (.ref b)), (2, some (.long (lN w))), (4, some (.int am)), (5, some (.int rank)), (6, some (.int (nI i)))] [] h1 := by
        intro hq
        first | refine am_iincN (n := 82) dX3_ranked_79 rfl rfl rfl ?_ | refine am_iinc1 (n := 82) dX3_ranked_79 rfl rfl rfl ?_
        refine am_goto (tgt := 40) dX3_ranked_82 (by decide) ?_
        refine am_loc _ rfl (K (fun i' hi' => ?_))
        by_cases z : i' = i
        · subst z
          exact hq
        · exact hno i' (by omega)
      by_cases hp : bt am i = true
      · refine am_if_eq (tgt := 79) (n := 59) dX3_ranked_56 (by decide) rfl (fun q => absurd q (fun z => by rw [(bt_sh1 am i (by omega)).mp z] at hp; cases hp)) (fun _ => ?_)
        refine am_aload_n (n := 60) (i := 0) dX3_ranked_59 rfl rfl rfl ?_
        refine am_iload (n := 62) dX3_ranked_60 rfl rfl ?_
        refine am_aload_n (n := 63) (i := 1) dX3_ranked_62 rfl rfl rfl ?_
        refine gfX3_ranked_34 (n := 66) dX3_ranked_63 (by first | assumption | exact isC_of (by decide +kernel)) rfl ?_
        rw [hc]
        refine am_iload (n := 68) dX3_ranked_66 rfl rfl ?_
        refine cdX3_ranked_48 (n := 71) dX3_ranked_68 (by first | exact ⟨rfl, rfl⟩ | assumption) (ac_X3_namesAhead g k ws.length i am f h1 hk' hn hi H hfb) rfl rfl (Nat.le_of_ble_eq_true rfl) (by first | assumption | exact isC_of (by decide +kernel)) rfl ?_
        refine am_iload (n := 73) dX3_ranked_71 rfl rfl ?_
        by_cases hr : nI (ahC (bt am) f ws.length i) = rank
        · refine am_icmp_ne (tgt := 79) (n := 76) dX3_ranked_73 (by decide) rfl (fun q => absurd hr q) (fun _ => ?_)
          rw [← hZ]
          refine am_iload (n := 78) dX3_ranked_76 rfl rfl ?_
          refine am_iret dX3_ranked_78 rfl rfl ?_
          exact ⟨F, Or.inl ⟨i, hi, hp, hr, rfl⟩⟩
        · refine am_icmp_ne (tgt := 79) (n := 76) dX3_ranked_73 (by decide) rfl (fun _ => ?_) (fun q => absurd q hr)
          exact next (fun _ => hr)
      · refine am_if_eq (tgt := 79) (n := 59) dX3_ranked_56 (by decide) rfl (fun _ => ?_) (fun q => absurd ((bt_sh1 am i (by omega)).mpr (by cases hx : bt am i; rfl; exact absurd hx hp)) q)
        exact next (fun q => absurd q hp)
  · intro i hi K h1 F H
    have hc : h1.1 b 2 = nI ws.length := by rw [F.1 b (by omega)]; exact hs3
    have hJ : h1.2.1 (b + 1) i = lN (ws.getD i 0) := by rw [F.2]; exact hs5 i _ (gD_at hi)
    have hVWi := hW _ (List.mem_of_getElem? (gD_at hi))
    refine am_iload (n := 5) dX3_ranked_3 rfl rfl ?_
    refine am_aload_n (n := 6) (i := 1) dX3_ranked_5 rfl rfl rfl ?_
    refine gfX3_ranked_34 (n := 9) dX3_ranked_6 (by first | assumption | exact isC_of (by decide +kernel)) rfl ?_
    rw [hc]
    refine am_icmp_ge (tgt := 37) (n := 12) dX3_ranked_9 (by decide) rfl (fun q => absurd q (nI_ge hi (by omega))) (fun _ => ?_)
    refine am_aload_n (n := 13) (i := 0) dX3_ranked_12 rfl rfl rfl ?_
    refine gfX3_ranked_15 (n := 16) dX3_ranked_13 (by first | assumption | exact isC_of (by decide +kernel)) rfl ?_
    refine am_iload (n := 18) dX3_ranked_16 rfl rfl ?_
    refine am_aload_n (n := 19) (i := 0) dX3_ranked_18 rfl rfl rfl ?_
    refine am_lload_n (n := 20) (i := 2) dX3_ranked_19 rfl rfl rfl ?_
    refine am_aload_n (n := 21) (i := 1) dX3_ranked_20 rfl rfl rfl ?_
    refine gfX3_ranked_40 (n := 24) dX3_ranked_21 (by first | assumption | exact isC_of (by decide +kernel)) rfl ?_
    refine am_iload (n := 26) dX3_ranked_24 rfl rfl ?_
    refine am_lald (n := 27) dX3_ranked_26 (by first | assumption | exact isC_of (by decide +kernel)) (by first | assumption | exact vp_in_nI (by omega) (by omega) | exact vp_in_iff.mpr (by decide)) rfl ?_
    rw [nI_clamp (by omega), hJ]
    refine caX3_ranked_44 (n := 30) dX3_ranked_27 (by first | exact ⟨rfl, rfl⟩ | assumption) (ac_X3_between g k w (ws.getD i 0) h1 hk' hw hVWi) rfl rfl (Nat.le_of_ble_eq_true rfl) (by first | assumption | exact isC_of (by decide +kernel)) rfl ?_
    rintro r h2 ⟨rfl, F2⟩
    refine am_iast (n := 31) dX3_ranked_30 (by first | assumption | exact isC_of (by decide +kernel)) (by first | assumption | exact vp_in_nI (by omega) (by omega) | exact vp_in_iff.mpr (by decide)) rfl ?_
    first | refine am_iincN (n := 34) dX3_ranked_31 rfl rfl rfl ?_ | refine am_iinc1 (n := 34) dX3_ranked_31 rfl rfl rfl ?_
    refine am_goto (tgt := 3) dX3_ranked_34 (by decide) ?_
    rw [nI_clamp (by omega)]
    refine am_loc _ rfl (K _ ((F.tr (show FrI (k + 1) (k + 2) h1 h2 from ⟨fun c hc => F2.1 c (by omega), F2.2⟩)).set _ (by omega) (by omega)) (fun o ho => ?_))
    rw [setI_s]
    by_cases z : o = i
    · subst z
      rw [pk_us, ← hf]
    · rw [pk_un z, F2.1 (k + 2) (by omega)]
      exact H o (by omega)
