/-! Meter: distances -/
/-- the row of distances of the first i letters of a to those of b -/
def edR (a b : Nat → Nat) : Nat → Nat → Nat
  | 0 => fun j => j
  | i + 1 => fun j => Nat.rec (i + 1) (fun j p => min (edR a b i j + (if a i = b j then 0 else 1)) (min (edR a b i (j + 1)) p + 1)) j
theorem edR_00 (a b : Nat → Nat) (j : Nat) : edR a b 0 j = j := rfl
theorem edR_s0 (a b : Nat → Nat) (i : Nat) : edR a b (i + 1) 0 = i + 1 := rfl
theorem edR_ss (a b : Nat → Nat) (i j : Nat) : edR a b (i + 1) (j + 1) = min (edR a b i j + (if a i = b j then 0 else 1)) (min (edR a b i (j + 1)) (edR a b (i + 1) j) + 1) := rfl
theorem edR_i0 (a b : Nat → Nat) (i : Nat) : edR a b i 0 = i := by cases i <;> rfl
theorem edR_le (a b : Nat → Nat) : ∀ i j, edR a b i j ≤ i + j := by
  intro i
  induction i with
  | zero => intro j; rw [edR_00]; omega
  | succ i ih =>
    intro j
    induction j with
    | zero => rw [edR_s0]; omega
    | succ j ih2 =>
      rw [edR_ss]
      have := ih j
      have := ih (j + 1)
      split <;> omega
/-- the distance of two words -/
def dst (n m : Nat) : Nat := edR (wl n) (wl m) (wsz n) (wsz m)
theorem dst_le (n m : Nat) : dst n m ≤ 20 := by
  have := edR_le (wl n) (wl m) (wsz n) (wsz m)
  have := wsz_le n
  have := wsz_le m
  unfold dst
  omega
def isMt (k : Nat) : Prop := isC k 2 0 ∧ isC (k + 1) 8 11 ∧ isC (k + 2) 8 24
theorem lt_ll : ∀ w, w < 32 → ∀ c, c < 32 → (nI w - 1 = nI c - 1 ↔ w = c) := by decide +kernel
theorem nI_gt {a b : Nat} (ha : a < 2 ^ 31) (hb : b < 2 ^ 31) : nI b < nI a ↔ b < a := nI_ltI hb ha
theorem mn_nI {x y : Nat} (hx : x < 2 ^ 31) (hy : y < 2 ^ 31) : (if nI y < nI x then nI y else nI x) = nI (min x y) := by
  by_cases h : y < x
  · rw [if_pos ((nI_ltI hy hx).mpr h)]
    congr 1
    omega
  · rw [if_neg (fun q => h ((nI_ltI hy hx).mp q))]
    congr 1
    omega
set_option maxRecDepth 100000 in
set_option maxHeartbeats 800000 in
theorem ac_X3_between (g : Gx) (k n m : Nat) (h : Hp) (hk : isMt k) (hn : VW n) (hm : VW m) : AC g yX3_between wsX3_between rmX3_between [.ref k, .long (lN n), .long (lN m)] h (fun v h' => v = some (.int (nI (dst n m))) ∧ FrI (k + 1) (k + 1) h h') := by
  obtain ⟨k0, k1, k2⟩ := hk
  have hzn := wsz_le n
  have hzm := wsz_le m
  refine AC.of (cc := cX3_between) (maxL := 12) (ret := (some .int)) (by decide +kernel) rfl (Nat.le_of_ble_eq_true rfl) ?_
  show AW g mmX3_between _ 0 [(0, some (.ref k)), (1, some (.long (lN n))), (3, some (.long (lN m)))] [] _
  refine am_lload_n (n := 1) (i := 1) dX3_between_0 rfl rfl rfl ?_
  refine cdX3_between_18 (n := 4) dX3_between_1 (by first | exact ⟨rfl, rfl⟩ | assumption) (ac_X6_size g n h hn.1) rfl rfl (Nat.le_of_ble_eq_true rfl) rfl ?_
  refine am_istore (n := 6) dX3_between_4 (Nat.le_of_ble_eq_true rfl) rfl rfl ?_
  refine am_lload_n (n := 7) (i := 3) dX3_between_6 rfl rfl rfl ?_
  refine cdX3_between_18 (n := 10) dX3_between_7 (by first | exact ⟨rfl, rfl⟩ | assumption) (ac_X6_size g m h hm.1) rfl rfl (Nat.le_of_ble_eq_true rfl) rfl ?_
  refine am_istore (n := 12) dX3_between_10 (Nat.le_of_ble_eq_true rfl) rfl rfl ?_
  refine am_iconst (n := 13) (v := 0) dX3_between_12 rfl rfl ?_
  refine am_istore (n := 15) dX3_between_13 (Nat.le_of_ble_eq_true rfl) rfl rfl ?_
  generalize hZ : ZP g (fun v h' => v = some (.int (nI (dst n m))) ∧ FrI (k + 1) (k + 1) h h') = Z
  have z0 : Z.1 = 0 ∧ Z.2.1 = 0 := by rw [← hZ]; exact ⟨rfl, rfl⟩
  have hD : dst n m = edR (wl n) (wl m) (wsz n) (wsz m) := rfl
  have hla : ∀ p, p < wsz n → 0 < wl n p := fun p => wsz_in
  generalize wsz n = N at hzn hD ⊢
  generalize wsz m = M at hzm hD ⊢
  have hle := edR_le (wl n) (wl m)
  generalize hed : edR (wl n) (wl m) = ed at hD hle
  have ed_00 : ∀ j, ed 0 j = j := fun j => by rw [← hed]; rfl
  have ed_i0 : ∀ i, ed i 0 = i := fun i => by rw [← hed]; exact edR_i0 _ _ i
  have ed_ss : ∀ i j, ed (i + 1) (j + 1) = min (ed i j + (if wl n i = wl m j then 0 else 1)) (min (ed i (j + 1)) (ed (i + 1) j) + 1) := fun i j => by rw [← hed]; rfl
  clear hed
  -- the outer loop
  have outer : ∀ i, i ≤ N → ∀ h1 : Hp, FrI (k + 1) (k + 1) h h1 → (∀ j, j ≤ M → h1.1 (k + 1) j = nI (ed i j)) → AW g mmX3_between Z 40 [(0, some (.ref k)), (1, some (.long (lN n))), (3, some (.long (lN m))), (5, some (.int (nI N))), (6, some (.int (nI M))), (7, some (.int (nI (i + 1))))] [] h1 := by
    refine loop_up (Wp := fun i => ∀ h1 : Hp, FrI (k + 1) (k + 1) h h1 → (∀ j, j ≤ M → h1.1 (k + 1) j = nI (ed i j)) → AW g mmX3_between Z 40 [(0, some (.ref k)), (1, some (.long (lN n))), (3, some (.long (lN m))), (5, some (.int (nI N))), (6, some (.int (nI M))), (7, some (.int (nI (i + 1))))] [] h1) N ?_ ?_
    · intro h1 F H
      refine am_iload (n := 42) dX3_between_40 rfl rfl ?_
      refine am_iload (n := 44) dX3_between_42 rfl rfl ?_
      refine am_icmp_gt (tgt := 164) (n := 47) dX3_between_44 (by decide) rfl (fun _ => ?_) (fun q => absurd (nI_lt (Nat.lt_succ_self _) (by omega)) q)
      refine am_aload_n (n := 165) (i := 0) dX3_between_164 rfl rfl rfl ?_
      refine gfX3_between_9 (n := 168) dX3_between_165 (by first | assumption | exact isC_of (by decide +kernel)) rfl ?_
      refine am_iload (n := 170) dX3_between_168 rfl rfl ?_
      refine am_iald (n := 171) dX3_between_170 (by first | assumption | exact isC_of (by decide +kernel)) (by first | assumption | exact vp_in_nI (by omega) (by omega) | exact vp_in_iff.mpr (by decide)) rfl ?_
      rw [nI_clamp (by omega), H M (Nat.le_refl _), ← hD, ← hZ]
      refine am_iret dX3_between_171 rfl rfl ?_
      exact ⟨rfl, F⟩
    · intro i hi K h1 F H
      refine am_iload (n := 42) dX3_between_40 rfl rfl ?_
      refine am_iload (n := 44) dX3_between_42 rfl rfl ?_
      refine am_icmp_gt (tgt := 164) (n := 47) dX3_between_44 (by decide) rfl (fun q => absurd q (nI_nlt (show i + 1 ≤ N by omega) (by omega))) (fun _ => ?_)
      refine am_aload_n (n := 48) (i := 0) dX3_between_47 rfl rfl rfl ?_
      refine gfX3_between_9 (n := 51) dX3_between_48 (by first | assumption | exact isC_of (by decide +kernel)) rfl ?_
      refine am_iconst (n := 52) (v := 0) dX3_between_51 rfl rfl ?_
      refine am_iald (n := 53) dX3_between_52 (by first | assumption | exact isC_of (by decide +kernel)) (by first | assumption | exact vp_in_nI (by omega) (by omega) | exact vp_in_iff.mpr (by decide)) rfl ?_
      rw [show h1.1 (k + 1) (0 : Int32).toNatClampNeg = nI (ed i 0) from H 0 (Nat.zero_le _)]
      refine am_istore (n := 55) dX3_between_53 (Nat.le_of_ble_eq_true rfl) rfl rfl ?_
      refine am_aload_n (n := 56) (i := 0) dX3_between_55 rfl rfl rfl ?_
      refine gfX3_between_9 (n := 59) dX3_between_56 (by first | assumption | exact isC_of (by decide +kernel)) rfl ?_
      refine am_iconst (n := 60) (v := 0) dX3_between_59 rfl rfl ?_
      refine am_iload (n := 62) dX3_between_60 rfl rfl ?_
      refine am_iast (n := 63) dX3_between_62 (by first | assumption | exact isC_of (by decide +kernel)) (by first | assumption | exact vp_in_nI (by omega) (by omega) | exact vp_in_iff.mpr (by decide)) rfl ?_
      refine am_iconst (n := 64) (v := 1) dX3_between_63 rfl rfl ?_
      refine am_istore (n := 66) dX3_between_64 (Nat.le_of_ble_eq_true rfl) rfl rfl ?_
      -- the inner loop
      refine am_loc [(0, some (.ref k)), (1, some (.long (lN n))), (3, some (.long (lN m))), (5, some (.int (nI N))), (6, some (.int (nI M))), (7, some (.int (nI (i + 1)))), (8, some (.int (nI (ed i 0)))), (9, some (.int (nI (0 + 1))))] rfl ?_
      refine loop_up (Wp := fun j => ∀ h2 : Hp, FrI (k + 1) (k + 1) h h2 → (∀ j', j' ≤ M → h2.1 (k + 1) j' = nI (if j' ≤ j then ed (i + 1) j' else ed i j')) → AW g mmX3_between Z 66 [(0, some (.ref k)), (1, some (.long (lN n))), (3, some (.long (lN m))), (5, some (.int (nI N))), (6, some (.int (nI M))), (7, some (.int (nI (i + 1)))), (8, some (.int (nI (ed i j)))), (9, some (.int (nI (j + 1))))] [] h2) M ?_ ?_ 0 (Nat.zero_le _) _ (F.set _ (Nat.le_refl _) (Nat.le_refl _)) (fun j' hj' => ?_)
      · intro h2 F2 H2
        refine am_iload (n := 68) dX3_between_66 rfl rfl ?_
        refine am_iload (n := 70) dX3_between_68 rfl rfl ?_
        refine am_icmp_gt (tgt := 158) (n := 73) dX3_between_70 (by decide) rfl (fun _ => ?_) (fun q => absurd (nI_lt (Nat.lt_succ_self _) (by omega)) q)
        first | refine am_iincN (n := 161) dX3_between_158 rfl rfl rfl ?_ | refine am_iinc1 (n := 161) dX3_between_158 rfl rfl rfl ?_
        refine am_goto (tgt := 40) dX3_between_161 (by decide) ?_
        exact am_loc _ rfl (K h2 F2 (fun j hj => by rw [H2 j hj, if_pos hj]))
      · intro j hj K2 h2 F2 H2
        have l1 := hle i j
        have l2 := hle i (j + 1)
        have l3 := hle (i + 1) j
        have w1 := wl_lt n i
        have w2 := wl_lt m j
        have e1 : h2.1 (k + 1) (j + 1) = nI (ed i (j + 1)) := by rw [H2 (j + 1) (by omega), if_neg (by omega)]
        have e2 : h2.1 (k + 1) j = nI (ed (i + 1) j) := by rw [H2 j (by omega), if_pos (Nat.le_refl _)]
        have t128 : ∀ (l : Lo) (x11 : Int32), l = [(0, some (.ref k)), (1, some (.long (lN n))), (3, some (.long (lN m))), (5, some (.int (nI N))), (6, some (.int (nI M))), (7, some (.int (nI (i + 1)))), (8, some (.int (nI (ed i j)))), (9, some (.int (nI (j + 1)))), (10, some (.int (nI (ed i (j + 1))))), (11, some (.int x11))] → AW g mmX3_between Z 128 l [.int (nI (ed i j + (if wl n i = wl m j then 0 else 1))), .int (nI (j + 1)), .ref (k + 1)] h2 := by
          rintro l x11 rfl
          refine am_iload (n := 130) dX3_between_128 rfl rfl ?_
          refine am_aload_n (n := 131) (i := 0) dX3_between_130 rfl rfl rfl ?_
          refine gfX3_between_9 (n := 134) dX3_between_131 (by first | assumption | exact isC_of (by decide +kernel)) rfl ?_
          refine am_iload (n := 136) dX3_between_134 rfl rfl ?_
          refine am_iconst (n := 137) (v := 1) dX3_between_136 rfl rfl ?_
          refine am_isub (n := 138) dX3_between_137 rfl ?_
          rw [show nI (j + 1) - 1 = nI j from nI_pred j]
          refine am_iald (n := 139) dX3_between_138 (by first | assumption | exact isC_of (by decide +kernel)) (by first | assumption | exact vp_in_nI (by omega) (by omega) | exact vp_in_iff.mpr (by decide)) rfl ?_
          rw [nI_clamp (by omega), e2]
          refine am_mmin (n := 142) dX3_between_139 (by decide +kernel) (by decide +kernel) (by decide +kernel) (by decide +kernel) (Nat.le_of_ble_eq_true rfl) (Nat.le_of_ble_eq_true rfl) (by first | exact ⟨(Nat.le_of_ble_eq_true rfl), (Nat.le_of_ble_eq_true rfl)⟩ | exact ⟨Nat.le_of_eq z0.1, Nat.le_of_eq z0.2⟩) rfl ?_
          rw [mn_nI (by omega) (by omega)]
          refine am_iconst (n := 143) (v := 1) dX3_between_142 rfl rfl ?_
          refine am_iadd (n := 144) dX3_between_143 rfl ?_
          rw [nI_1]
          refine am_mmin (n := 147) dX3_between_144 (by decide +kernel) (by decide +kernel) (by decide +kernel) (by decide +kernel) (Nat.le_of_ble_eq_true rfl) (Nat.le_of_ble_eq_true rfl) (by first | exact ⟨(Nat.le_of_ble_eq_true rfl), (Nat.le_of_ble_eq_true rfl)⟩ | exact ⟨Nat.le_of_eq z0.1, Nat.le_of_eq z0.2⟩) rfl ?_
          rw [mn_nI (by split <;> omega) (by omega), ← ed_ss]
          refine am_iast (n := 148) dX3_between_147 (by first | assumption | exact isC_of (by decide +kernel)) (by first | assumption | exact vp_in_nI (by omega) (by omega) | exact vp_in_iff.mpr (by decide)) rfl ?_
          refine am_iload (n := 150) dX3_between_148 rfl rfl ?_
          refine am_istore (n := 152) dX3_between_150 (Nat.le_of_ble_eq_true rfl) rfl rfl ?_
          first | refine am_iincN (n := 155) dX3_between_152 rfl rfl rfl ?_ | refine am_iinc1 (n := 155) dX3_between_152 rfl rfl rfl ?_
          refine am_goto (tgt := 66) dX3_between_155 (by decide) ?_
          rw [nI_clamp (by omega)]
          refine am_loc _ rfl (K2 _ (F2.set _ (Nat.le_refl _) (Nat.le_refl _)) (fun j' hj' => ?_))
          rw [setI_s]
          by_cases z : j' = j + 1
          · subst z
            rw [pk_us, if_pos (Nat.le_refl _)]
          · rw [pk_un z, H2 j' hj']
            by_cases q : j' ≤ j
            · rw [if_pos q, if_pos (by omega)]
            · rw [if_neg q, if_neg (by omega)]
        refine am_iload (n := 68) dX3_between_66 rfl rfl ?_
        refine am_iload (n := 70) dX3_between_68 rfl rfl ?_
        refine am_icmp_gt (tgt := 158) (n := 73) dX3_between_70 (by decide) rfl (fun q => absurd q (nI_nlt (show j + 1 ≤ M by omega) (by omega))) (fun _ => ?_)
        refine am_aload_n (n := 74) (i := 0) dX3_between_73 rfl rfl rfl ?_
        refine gfX3_between_9 (n := 77) dX3_between_74 (by first | assumption | exact isC_of (by decide +kernel)) rfl ?_
        refine am_iload (n := 79) dX3_between_77 rfl rfl ?_
        refine am_iald (n := 80) dX3_between_79 (by first | assumption | exact isC_of (by decide +kernel)) (by first | assumption | exact vp_in_nI (by omega) (by omega) | exact vp_in_iff.mpr (by decide)) rfl ?_
        rw [nI_clamp (by omega), e1]
        refine am_istore (n := 82) dX3_between_80 (Nat.le_of_ble_eq_true rfl) rfl rfl ?_
        refine am_lload_n (n := 83) (i := 1) dX3_between_82 rfl rfl rfl ?_
        refine am_iload (n := 85) dX3_between_83 rfl rfl ?_
        refine am_iconst (n := 86) (v := 1) dX3_between_85 rfl rfl ?_
        refine am_isub (n := 87) dX3_between_86 rfl ?_
        rw [nI_pred]
        refine cdX3_between_24 (n := 90) dX3_between_87 z0 (ac_X6_letterAt g n i h2 hn.1 (by omega)) rfl rfl (Nat.le_of_ble_eq_true rfl) rfl ?_
        refine am_lload_n (n := 91) (i := 3) dX3_between_90 rfl rfl rfl ?_
        refine am_iload (n := 93) dX3_between_91 rfl rfl ?_
        refine am_iconst (n := 94) (v := 1) dX3_between_93 rfl rfl ?_
        refine am_isub (n := 95) dX3_between_94 rfl ?_
        rw [nI_pred]
        refine cdX3_between_24 (n := 98) dX3_between_95 z0 (ac_X6_letterAt g m j h2 hm.1 (by omega)) rfl rfl (Nat.le_of_ble_eq_true rfl) rfl ?_
        by_cases hq : wl n i = wl m j
        · refine am_icmp_ne (tgt := 105) (n := 101) dX3_between_98 (by decide) rfl (fun q => absurd (by rw [hq]) q) (fun _ => ?_)
          refine am_iconst (n := 102) (v := 1) dX3_between_101 rfl rfl ?_
          refine am_goto (tgt := 106) dX3_between_102 (by decide) ?_
          refine am_istore (n := 108) dX3_between_106 (Nat.le_of_ble_eq_true rfl) rfl rfl ?_
          refine am_aload_n (n := 109) (i := 0) dX3_between_108 rfl rfl rfl ?_
          refine gfX3_between_9 (n := 112) dX3_between_109 (by first | assumption | exact isC_of (by decide +kernel)) rfl ?_
          refine am_iload (n := 114) dX3_between_112 rfl rfl ?_
          refine am_iload (n := 116) dX3_between_114 rfl rfl ?_
          refine am_if_eq (tgt := 124) (n := 119) dX3_between_116 (by decide) rfl (fun q => absurd q (by decide)) (fun _ => ?_)
          refine am_iload (n := 121) dX3_between_119 rfl rfl ?_
          refine am_goto (tgt := 128) dX3_between_121 (by decide) ?_
          have := t128 _ 1 rfl
          rw [if_pos hq, Nat.add_zero] at this
          exact am_loc _ rfl this
        · refine am_icmp_ne (tgt := 105) (n := 101) dX3_between_98 (by decide) rfl (fun _ => ?_) (fun q => absurd q (fun q => hq ((lt_ll _ w1 _ w2).mp q)))
          refine am_iconst (n := 106) (v := 0) dX3_between_105 rfl rfl ?_
          refine am_istore (n := 108) dX3_between_106 (Nat.le_of_ble_eq_true rfl) rfl rfl ?_
          refine am_aload_n (n := 109) (i := 0) dX3_between_108 rfl rfl rfl ?_
          refine gfX3_between_9 (n := 112) dX3_between_109 (by first | assumption | exact isC_of (by decide +kernel)) rfl ?_
          refine am_iload (n := 114) dX3_between_112 rfl rfl ?_
          refine am_iload (n := 116) dX3_between_114 rfl rfl ?_
          refine am_if_eq (tgt := 124) (n := 119) dX3_between_116 (by decide) rfl (fun _ => ?_) (fun q => absurd rfl q)
          refine am_iload (n := 126) dX3_between_124 rfl rfl ?_
          refine am_iconst (n := 127) (v := 1) dX3_between_126 rfl rfl ?_
          refine am_iadd (n := 128) dX3_between_127 rfl ?_
          rw [nI_1]
          have := t128 _ 0 rfl
          rw [if_neg hq] at this
          exact am_loc _ rfl this
      · rw [setI_s]
        by_cases z : j' = 0
        · subst z
          show upd _ 0 _ 0 = _
          rw [pk_us, if_pos (Nat.le_refl _), ed_i0]
        · rw [show upd (h1.1 (k + 1)) (0 : Int32).toNatClampNeg (nI (i + 1)) j' = h1.1 (k + 1) j' from pk_un z, H j' hj', if_neg (by omega)]
  -- the first row
  refine am_loc [(0, some (.ref k)), (1, some (.long (lN n))), (3, some (.long (lN m))), (5, some (.int (nI N))), (6, some (.int (nI M))), (7, some (.int (nI 0)))] rfl ?_
  refine loop_up (Wp := fun j => ∀ h1 : Hp, FrI (k + 1) (k + 1) h h1 → (∀ j', j' < j → h1.1 (k + 1) j' = nI j') → AW g mmX3_between Z 15 [(0, some (.ref k)), (1, some (.long (lN n))), (3, some (.long (lN m))), (5, some (.int (nI N))), (6, some (.int (nI M))), (7, some (.int (nI j)))] [] h1) (M + 1) ?_ ?_ 0 (Nat.zero_le _) h FrI.rf (fun j' hj' => by omega)
  · intro h1 F H
    refine am_iload (n := 17) dX3_between_15 rfl rfl ?_
    refine am_iload (n := 19) dX3_between_17 rfl rfl ?_
    refine am_icmp_gt (tgt := 37) (n := 22) dX3_between_19 (by decide) rfl (fun _ => ?_) (fun q => absurd (nI_lt (Nat.lt_succ_self _) (by omega)) q)
    refine am_iconst (n := 38) (v := 1) dX3_between_37 rfl rfl ?_
    refine am_istore (n := 40) dX3_between_38 (Nat.le_of_ble_eq_true rfl) rfl rfl ?_
    exact am_loc _ rfl (outer 0 (Nat.zero_le _) h1 F (fun j hj => by rw [H j (by omega), ed_00]))
  · intro j hj K h1 F H
    refine am_iload (n := 17) dX3_between_15 rfl rfl ?_
    refine am_iload (n := 19) dX3_between_17 rfl rfl ?_
    refine am_icmp_gt (tgt := 37) (n := 22) dX3_between_19 (by decide) rfl (fun q => absurd q (nI_nlt (show j ≤ M by omega) (by omega))) (fun _ => ?_)
    refine am_aload_n (n := 23) (i := 0) dX3_between_22 rfl rfl rfl ?_
    refine gfX3_between_9 (n := 26) dX3_between_23 (by first | assumption | exact isC_of (by decide +kernel)) rfl ?_
    refine am_iload (n := 28) dX3_between_26 rfl rfl ?_
    refine am_iload (n := 30) dX3_between_28 rfl rfl ?_
    refine am_iast (n := 31) dX3_between_30 (by first | assumption | exact isC_of (by decide +kernel)) (by first | assumption | exact vp_in_nI (by omega) (by omega) | exact vp_in_iff.mpr (by decide)) rfl ?_
    first | refine am_iincN (n := 34) dX3_between_31 rfl rfl rfl ?_ | refine am_iinc1 (n := 34) dX3_between_31 rfl rfl rfl ?_
    refine am_goto (tgt := 15) dX3_between_34 (by decide) ?_
    rw [nI_clamp (by omega)]
    refine am_loc _ rfl (K _ (F.set _ (Nat.le_refl _) (Nat.le_refl _)) (fun j' hj' => ?_))
    rw [setI_s]
    by_cases z : j' = j
    · subst z
      rw [pk_us]
    · rw [pk_un z]
      exact H j' (by omega)
