/-! THE LAW WRITES A NAME -/
def padK (w k : Nat) : List Nat := (List.range k).map (fun i => 96 + wl w i)
theorem padK_len (w k : Nat) : (padK w k).length = k := by simp [padK]
theorem padK_get {w k i : Nat} (h : i < k) : (padK w k).getD i 0 = 96 + wl w i := by simp [padK, h]
theorem padK_s (w k : Nat) : padK w (k + 1) = padK w k ++ [96 + wl w k] := by simp [padK, List.range_succ]
theorem flt_good {p : List Nat} (h1 : 1 ≤ p.length) (h2 : p.length ≤ 10) (h3 : ∀ i, i < p.length → 97 ≤ p.getD i 0 ∧ p.getD i 0 ≤ 122) : flt p = -6 := by
  unfold flt
  rw [if_neg (by omega), if_neg]
  intro q
  have hy := fa_first_yes (fbad p) p.length q
  have hb := h3 _ q
  unfold fbad at hy
  rw [Bool.or_eq_true] at hy
  rcases hy with z | z
  · have := Nat.eq_of_beq_eq_true z
    unfold fbad at q
    omega
  · rw [decide_eq_true (by exact hb.1), decide_eq_true (by exact hb.2)] at z
    exact absurd z (by decide)
theorem wl_rng {w i : Nat} (hw : VW w) (hi : i < wsz w) : 1 ≤ wl w i ∧ wl w i ≤ 26 := ⟨wsz_in hi, hw.2.1 i⟩
theorem flt_padK {w k : Nat} (hw : VW w) (h1 : 1 ≤ k) (hk : k ≤ wsz w) : flt (padK w k) = -6 := by
  have := wsz_le w
  refine flt_good (by rw [padK_len]; exact h1) (by rw [padK_len]; omega) (fun i hi => ?_)
  rw [padK_len] at hi
  rw [padK_get hi]
  have := wl_rng hw (show i < wsz w by omega)
  omega
theorem pwF_sm (p : List Nat) (n : Nat) : pwF p n = sm (fun i => p.getD i 0 - 97 + 1) n := by
  induction n with
  | zero => rfl
  | succ n ih => rw [pwF, sm, ih]
theorem pw_padK {w : Nat} (hw : VW w) : pw (padK w (wsz w)) = w := by
  unfold pw
  rw [padK_len, pwF_sm, sm_cong (g := wl w), hw.self]
  intro i hi
  show (padK w (wsz w)).getD i 0 - 97 + 1 = wl w i
  rw [padK_get hi]
  have := wl_rng hw hi
  omega
theorem cin_1 {n : Nat} (h1 : 33 ≤ n) (h2 : n ≤ 126) : cin n = 1 := by
  unfold cin
  rw [cinF, if_neg (by omega), if_pos (by omega), show n / 256 = 0 by omega]
  rfl
theorem bD_1 {n : Nat} (h : n < 256) : bD n 1 = [n] := by
  show [n / 256 ^ 0 % 256] = [n]
  rw [Nat.pow_zero, Nat.div_one, Nat.mod_eq_of_lt h]
def padG (G : GS) (p : List Nat) : GS := (G.1, G.2.1, G.2.2.1, p)
theorem padG_p (G : GS) (p : List Nat) : (padG G p).2.2.2 = p := rfl
theorem sp_put1 {n : Nat} {G : GS} {p : List Nat} (h1 : 33 ≤ n) (h2 : n ≤ 126) (hp : p.length < 80) : sp_put n (padG G p) = (nI (p.length + 1), padG G (p ++ [n])) := by
  unfold sp_put
  rw [cin_1 h1 h2, if_neg (by decide), if_neg (by show ¬ 80 < p.length + 1; omega), bD_1 (by omega)]
  rfl
theorem ct_0 (G : GS) : sp_count 0 G = (nI G.1.2.2.1.length, G) := rfl
theorem ct_1 (G : GS) : sp_count 1 G = (nI G.1.2.2.2.length, G) := rfl
theorem ct_2 (G : GS) : sp_count 2 G = (nI G.1.1, G) := rfl
theorem ct_3 (G : GS) : sp_count 3 G = (nI G.1.2.1, G) := rfl
theorem ct_4 (G : GS) : sp_count 4 G = (nI G.2.2.2.length, G) := rfl
theorem ct_5 (G : GS) : sp_count 5 G = (nI G.2.1.length, G) := rfl
theorem ct_6 (G : GS) : sp_count 6 G = (lin G.1.2.2.1, G) := rfl
theorem wp_e (G : GS) : sp_wipe G = (nI G.2.2.2.length, padG G []) := rfl
theorem fl_e (G : GS) : sp_fault G = (flt G.2.2.2, G) := rfl
set_option maxRecDepth 100000 in
set_option maxHeartbeats 1000000 in
theorem ac_L_writes (g : Gx) (w : Nat) (G : GS) (h : Hp) (hX : XI G h) (hw : VW w) : AC g yL_writes wsL_writes rmL_writes [.ref 0, .long (lN (lw w))] h (fun v h' => v = some (.int 1) ∧ XI (padG G (padK w (wsz w))) h' ∧ FM h h') := by
  have hz := wsz_le w
  have hv := hX.2.2.2.2.2.1
  have h1z : 1 ≤ wsz w := hw.2.2.2
  generalize hP : (fun (v : Option Value) (h' : Hp) => v = some (.int 1) ∧ XI (padG G (padK w (wsz w))) h' ∧ FM h h') = P
  refine AC.of (cc := cL_writes) (maxL := 5) (ret := (some .boolean)) (by decide +kernel) rfl (Nat.le_of_ble_eq_true rfl) ?_
  show AW g mmL_writes _ 0 [(0, some (.ref 0)), (1, some (.long (lN (lw w))))] [] _
  refine am_aload_n (n := 1) (i := 0) dL_writes_0 rfl rfl rfl ?_
  have k1 := cx_wipe g G h hX
  rw [wp_e] at k1
  refine caL_writes_11 (n := 4) dL_writes_1 (by first | exact ⟨rfl, rfl⟩ | assumption) k1 rfl rfl (Nat.le_of_ble_eq_true rfl) (by first | assumption | exact isC_of (by decide +kernel)) rfl ?_
  rintro r h1 ⟨rfl, X1, f1⟩
  refine am_if_lt (tgt := 11) (n := 7) dL_writes_4 (by decide) rfl (fun q_z => absurd q_z (show ¬ nI G.2.2.2.length < 0 from nI_pos (by omega))) (fun _ => ?_)
  refine am_iconst (n := 8) (v := 1) dL_writes_7 rfl rfl ?_
  refine am_goto (tgt := 12) dL_writes_8 (by decide) ?_
  refine am_istore_n (n := 13) (i := 3) dL_writes_12 rfl (Nat.le_of_ble_eq_true rfl) rfl rfl ?_
  refine am_iconst (n := 14) (v := 0) dL_writes_13 rfl rfl ?_
  refine am_istore (n := 16) dL_writes_14 (Nat.le_of_ble_eq_true rfl) rfl rfl ?_
  refine am_loc [(0, some (.ref 0)), (1, some (.long (lN (lw w)))), (3, some (.int 1)), (4, some (.int (nI 0)))] rfl ?_
  refine loop_up (Wp := fun k => ∀ h1 : Hp, XI (padG G (padK w k)) h1 → FM h h1 → AW g mmL_writes (ZP g P) 16 [(0, some (.ref 0)), (1, some (.long (lN (lw w)))), (3, some (.int 1)), (4, some (.int (nI k)))] [] h1) (wsz w) ?_ ?_ 0 (Nat.zero_le _) h1 X1 f1
  · intro h1 X1 f1
    refine am_iload (n := 18) dL_writes_16 rfl rfl ?_
    refine am_lload_n (n := 19) (i := 1) dL_writes_18 rfl rfl rfl ?_
    refine cdL_writes_17 (n := 22) dL_writes_19 (by first | exact ⟨rfl, rfl⟩ | assumption) (ac_L_manyW g w h1) rfl rfl (Nat.le_of_ble_eq_true rfl) rfl ?_
    refine am_icmp_ge (tgt := 80) (n := 25) dL_writes_22 (by decide) rfl (fun _ => ?_) (fun q_z => absurd (Int32.le_refl _) q_z)
    refine am_iload_n (n := 81) (i := 3) dL_writes_80 rfl rfl rfl ?_
    refine am_if_eq (tgt := 109) (n := 84) dL_writes_81 (by decide) rfl (fun q_z => absurd q_z (by decide)) (fun _ => ?_)
    refine am_aload_n (n := 85) (i := 0) dL_writes_84 rfl rfl rfl ?_
    have k2 := cx_fault g _ h1 X1
    rw [fl_e, padG_p, flt_padK hw h1z (Nat.le_refl _)] at k2
    refine caL_writes_23 (n := 88) dL_writes_85 (by first | exact ⟨rfl, rfl⟩ | assumption) k2 rfl rfl (Nat.le_of_ble_eq_true rfl) (by first | assumption | exact isC_of (by decide +kernel)) rfl ?_
    rintro r h2 ⟨rfl, X2, f2⟩
    refine am_bipush (n := 90) (v := (-6)) dL_writes_88 rfl rfl ?_
    refine am_icmp_ne (tgt := 109) (n := 93) dL_writes_90 (by decide) rfl (fun q_z => absurd rfl q_z) (fun _ => ?_)
    refine am_aload_n (n := 94) (i := 0) dL_writes_93 rfl rfl rfl ?_
    refine am_iconst (n := 95) (v := 4) dL_writes_94 rfl rfl ?_
    have k3 := cx_count g 4 _ h2 X2
    rw [ct_4, padG_p, padK_len] at k3
    refine caL_writes_33 (n := 98) dL_writes_95 (by first | exact ⟨rfl, rfl⟩ | assumption) k3 rfl rfl (Nat.le_of_ble_eq_true rfl) (by first | assumption | exact isC_of (by decide +kernel)) rfl ?_
    rintro r h3 ⟨rfl, X3, f3⟩
    refine am_lload_n (n := 99) (i := 1) dL_writes_98 rfl rfl rfl ?_
    refine cdL_writes_17 (n := 102) dL_writes_99 (by first | exact ⟨rfl, rfl⟩ | assumption) (ac_L_manyW g w h3) rfl rfl (Nat.le_of_ble_eq_true rfl) rfl ?_
    refine am_icmp_ne (tgt := 109) (n := 105) dL_writes_102 (by decide) rfl (fun q_z => absurd rfl q_z) (fun _ => ?_)
    refine am_iconst (n := 106) (v := 1) dL_writes_105 rfl rfl ?_
    refine am_goto (tgt := 110) dL_writes_106 (by decide) ?_
    subst hP
    refine am_iret dL_writes_110 rfl rfl ?_
    exact ⟨rfl, X3, (f1.tr f2).tr f3⟩
  · intro k hk K h1 X1 f1
    have hr := wl_rng hw hk
    refine am_iload (n := 18) dL_writes_16 rfl rfl ?_
    refine am_lload_n (n := 19) (i := 1) dL_writes_18 rfl rfl rfl ?_
    refine cdL_writes_17 (n := 22) dL_writes_19 (by first | exact ⟨rfl, rfl⟩ | assumption) (ac_L_manyW g w h1) rfl rfl (Nat.le_of_ble_eq_true rfl) rfl ?_
    refine am_icmp_ge (tgt := 80) (n := 25) dL_writes_22 (by decide) rfl (fun q_z => absurd q_z (nI_ge hk (by omega))) (fun _ => ?_)
    refine am_iload_n (n := 26) (i := 3) dL_writes_25 rfl rfl rfl ?_
    refine am_if_eq (tgt := 80) (n := 29) dL_writes_26 (by decide) rfl (fun q_z => absurd q_z (by decide)) (fun _ => ?_)
    refine am_aload_n (n := 30) (i := 0) dL_writes_29 rfl rfl rfl ?_
    have k2 := cx_fault g _ h1 X1
    rw [fl_e, padG_p] at k2
    refine caL_writes_23 (n := 33) dL_writes_30 (by first | exact ⟨rfl, rfl⟩ | assumption) k2 rfl rfl (Nat.le_of_ble_eq_true rfl) (by first | assumption | exact isC_of (by decide +kernel)) rfl ?_
    rintro r h2 ⟨rfl, X2, f2⟩
    have t44 : ∀ (x : Int32), flt (padK w k) = x → AW g mmL_writes (ZP g P) 44 [(0, some (.ref 0)), (1, some (.long (lN (lw w)))), (3, some (.int 1)), (4, some (.int (nI k)))] [.int x, .int (flt (padK w k))] h2 := by
      intro x hx
      refine am_icmp_ne (tgt := 72) (n := 47) dL_writes_44 (by decide) rfl (fun q_z => absurd hx q_z) (fun _ => ?_)
      refine am_aload_n (n := 48) (i := 0) dL_writes_47 rfl rfl rfl ?_
      refine am_bipush (n := 50) (v := 97) dL_writes_48 rfl rfl ?_
      refine am_lload_n (n := 51) (i := 1) dL_writes_50 rfl rfl rfl ?_
      refine am_iload (n := 53) dL_writes_51 rfl rfl ?_
      refine cdL_writes_26 (n := 56) dL_writes_53 (by first | exact ⟨rfl, rfl⟩ | assumption) (ac_L_letterW g w k h2 hk) rfl rfl (Nat.le_of_ble_eq_true rfl) rfl ?_
      refine am_iadd (n := 57) dL_writes_56 rfl ?_
      rw [show (97 : Int32) = nI 97 from rfl, nI_add, show 97 + (wl w k - 1) = 96 + wl w k by omega]
      refine am_i2l (n := 58) dL_writes_57 rfl ?_
      rw [nI_l (by omega)]
      have k4 := cx_put g (96 + wl w k) _ h2 X2 (by omega)
      rw [sp_put1 (by omega) (by omega) (by rw [padK_len]; omega), padK_len, ← padK_s] at k4
      refine caL_writes_30 (n := 61) dL_writes_58 (by first | exact ⟨rfl, rfl⟩ | assumption) k4 rfl rfl (Nat.le_of_ble_eq_true rfl) (by first | assumption | exact isC_of (by decide +kernel)) rfl ?_
      rintro r h3 ⟨rfl, X3, f3⟩
      refine am_iload (n := 63) dL_writes_61 rfl rfl ?_
      refine am_iconst (n := 64) (v := 1) dL_writes_63 rfl rfl ?_
      refine am_iadd (n := 65) dL_writes_64 rfl ?_
      rw [nI_1]
      refine am_icmp_ne (tgt := 72) (n := 68) dL_writes_65 (by decide) rfl (fun q_z => absurd rfl q_z) (fun _ => ?_)
      refine am_iconst (n := 69) (v := 1) dL_writes_68 rfl rfl ?_
      refine am_goto (tgt := 73) dL_writes_69 (by decide) ?_
      refine am_istore_n (n := 74) (i := 3) dL_writes_73 rfl (Nat.le_of_ble_eq_true rfl) rfl rfl ?_
      first | refine am_iincN (n := 77) dL_writes_74 rfl rfl rfl ?_ | refine am_iinc1 (n := 77) dL_writes_74 rfl rfl rfl ?_
      refine am_goto (tgt := 16) dL_writes_77 (by decide) ?_
      exact am_loc _ rfl (K h3 X3 ((f1.tr f2).tr f3))
    refine am_iload (n := 35) dL_writes_33 rfl rfl ?_
    rcases Nat.eq_zero_or_pos k with z | z
    · subst z
      refine am_if_ne (tgt := 42) (n := 38) dL_writes_35 (by decide) rfl (fun q_z => absurd rfl q_z) (fun _ => ?_)
      refine am_iconst (n := 39) (v := 0) dL_writes_38 rfl rfl ?_
      refine am_goto (tgt := 44) dL_writes_39 (by decide) ?_
      exact t44 0 rfl
    · refine am_if_ne (tgt := 42) (n := 38) dL_writes_35 (by decide) rfl (fun _ => ?_) (fun q_z => absurd q_z (nI_ne0 z (by omega)))
      refine am_bipush (n := 44) (v := (-6)) dL_writes_42 rfl rfl ?_
      exact t44 (-6) (flt_padK hw z (by omega))
