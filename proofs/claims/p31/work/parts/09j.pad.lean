/-! Pad -/
def isPd (k : Nat) : Prop := isC k 3 0 ∧ isC (k + 1) 7 80
def VP (p : List Nat) : Prop := p.length ≤ 80 ∧ ∀ c ∈ p, 33 ≤ c ∧ c ≤ 126
def RP (k : Nat) (p : List Nat) (h : Hp) : Prop := h.1 k 1 = nI p.length ∧ ∀ (i c : Nat), p[i]? = some c → h.1 (k + 1) i = nI c
def fbad (p : List Nat) (i : Nat) : Bool := Nat.beq i 10 || !(decide (97 ≤ p.getD i 0) && decide (p.getD i 0 ≤ 122))
def flt (p : List Nat) : Int32 := if p.length = 0 then 0 else if fa_first (fbad p) p.length < p.length then nI (fa_first (fbad p) p.length) else -6
/-- the word that a pad tells -/
def pwF (p : List Nat) : Nat → Nat
  | 0 => 0
  | n + 1 => pwF p n + (p.getD n 0 - 97 + 1) * 32 ^ n
def pw (p : List Nat) : Nat := pwF p p.length
theorem flt_ok {p : List Nat} (h : flt p = -6) : 1 ≤ p.length ∧ p.length ≤ 10 ∧ ∀ i, i < p.length → 97 ≤ p.getD i 0 ∧ p.getD i 0 ≤ 122 := by
  unfold flt at h
  by_cases z : p.length = 0
  · rw [if_pos z] at h
    exact absurd h (by decide)
  · rw [if_neg z] at h
    by_cases q : fa_first (fbad p) p.length < p.length
    · rw [if_pos q] at h
      exfalso
      have hy := fa_first_yes (fbad p) p.length q
      have hle : fa_first (fbad p) p.length ≤ 10 := by
        rcases Nat.lt_or_ge 10 (fa_first (fbad p) p.length) with w | w
        · have := fa_first_no (fbad p) p.length 10 w
          unfold fbad at this
          simp at this
        · exact w
      have := congrArg Int32.toInt h
      rw [nI_toInt (by omega)] at this
      have e : (-6 : Int32).toInt = -6 := by decide
      omega
    · have he : fa_first (fbad p) p.length = p.length := Nat.le_antisymm (fa_first_le _ _) (Nat.not_lt.mp q)
      have key : ∀ i, i < p.length → i ≠ 10 ∧ 97 ≤ p.getD i 0 ∧ p.getD i 0 ≤ 122 := by
        intro i hi
        have := fa_first_no (fbad p) p.length i (by omega)
        unfold fbad at this
        simp only [Bool.or_eq_false_iff, Bool.not_eq_false', Bool.and_eq_true, decide_eq_true_eq] at this
        refine ⟨fun w => ?_, this.2⟩
        subst w
        exact absurd this.1 (by decide)
      refine ⟨by omega, ?_, fun i hi => (key i hi).2⟩
      rcases Nat.lt_or_ge 10 p.length with w | w
      · exact absurd rfl (key 10 w).1
      · exact w
theorem pwF_lt (p : List Nat) (n : Nat) (h : ∀ i, i < n → p.getD i 0 ≤ 122) : pwF p n < 32 ^ n := by
  induction n with
  | zero => exact Nat.one_pos
  | succ n ih =>
    have h1 := ih (fun i hi => h i (by omega))
    have h2 := h n (by omega)
    rw [pwF, Nat.pow_succ]
    have : (p.getD n 0 - 97 + 1) * 32 ^ n ≤ 31 * 32 ^ n := Nat.mul_le_mul_right _ (by omega)
    omega
theorem pwF_wl (p : List Nat) (n : Nat) (h : ∀ i, i < n → p.getD i 0 ≤ 122) : ∀ q, wl (pwF p n) q = if q < n then p.getD q 0 - 97 + 1 else 0 := by
  induction n with
  | zero =>
    intro q
    rw [if_neg (Nat.not_lt_zero _)]
    show 0 / 32 ^ q % 32 = 0
    simp
  | succ n ih =>
    intro q
    have h1 := pwF_lt p n (fun i hi => h i (by omega))
    have h2 := h n (by omega)
    have ihq := ih (fun i hi => h i (by omega)) q
    rw [pwF]
    unfold wl at ihq ⊢
    rcases Nat.lt_trichotomy q n with z | z | z
    · rw [if_pos (by omega), ← (ihq.trans (if_pos z))]
      obtain ⟨d, rfl⟩ : ∃ d, n = q + (d + 1) := ⟨n - q - 1, by omega⟩
      rw [show (32 : Nat) ^ (q + (d + 1)) = 32 ^ q * (32 * 32 ^ d) by rw [Nat.pow_add, Nat.pow_succ, Nat.mul_comm (32 ^ d)], Nat.mul_left_comm, Nat.add_mul_div_left _ _ (Nat.pos_of_ne_zero (by simp)), Nat.mul_left_comm, Nat.add_mul_mod_self_left]
    · subst z
      rw [if_pos (Nat.lt_succ_self _), Nat.mul_comm, Nat.add_mul_div_left _ _ (Nat.pos_of_ne_zero (by simp)), Nat.div_eq_of_lt h1, Nat.zero_add, Nat.mod_eq_of_lt (by omega)]
    · rw [if_neg (by omega)]
      have h3 := pwF_lt p (n + 1) h
      rw [pwF] at h3
      have : (32 : Nat) ^ (n + 1) ≤ 32 ^ q := Nat.pow_le_pow_right (by decide) z
      rw [Nat.div_eq_of_lt (by omega)]
theorem wsz_eq {w n : Nat} (hn : n ≤ 10) (h1 : ∀ i, i < n → 0 < wl w i) (h2 : wl w n = 0) : wsz w = n := by
  rcases Nat.lt_trichotomy (wsz w) n with z | z | z
  · have := h1 _ z
    have := wsz_out (show wsz w < 10 by omega)
    omega
  · exact z
  · have := wsz_in z
    omega
theorem pw_ok {p : List Nat} (h : flt p = -6) : VW (pw p) ∧ wsz (pw p) = p.length := by
  obtain ⟨h1, h2, h3⟩ := flt_ok h
  have hw := pwF_wl p p.length (fun i hi => (h3 i hi).2)
  have hl := pwF_lt p p.length (fun i hi => (h3 i hi).2)
  have hz : wsz (pw p) = p.length := wsz_eq h2 (fun i hi => by unfold pw; rw [hw i, if_pos hi]; omega) (by unfold pw; rw [hw, if_neg (Nat.lt_irrefl _)])
  refine ⟨⟨?_, fun q => ?_, fun q hq => ?_, by omega⟩, hz⟩
  · unfold pw
    exact Nat.lt_of_lt_of_le hl (Nat.le_trans (Nat.pow_le_pow_right (by decide) h2) (by decide))
  · unfold pw
    rw [hw q]
    by_cases w : q < p.length
    · rw [if_pos w]
      have := h3 q w
      omega
    · rw [if_neg w]
      omega
  · unfold pw
    rw [hw q, if_neg (by omega)]
set_option maxRecDepth 100000 in
set_option maxHeartbeats 400000 in
theorem ac_X6_with (g : Gx) (w p l : Nat) (h : Hp) (hw : w < 32 ^ p) (hp : p < 10) (hl : l < 26) : AD g yX6_with wsX6_with rmX6_with [.long (lN w), .int (nI p), .int (nI l)] h (some (.long (lN (w + (l + 1) * 32 ^ p)))) h := by
  refine AC.of (cc := cX6_with) (maxL := 4) (ret := (some .long)) (by decide +kernel) rfl (Nat.le_of_ble_eq_true rfl) ?_
  show AW g mmX6_with _ 0 [(0, some (.long (lN w))), (2, some (.int (nI p))), (3, some (.int (nI l)))] [] _
  refine am_lload_n (n := 1) (i := 0) dX6_with_0 rfl rfl rfl ?_
  refine am_iload_n (n := 2) (i := 3) dX6_with_1 rfl rfl rfl ?_
  refine am_iconst (n := 3) (v := 1) dX6_with_2 rfl rfl ?_
  refine am_iadd (n := 4) dX6_with_3 rfl ?_
  rw [nI_1]
  refine am_i2l (n := 5) dX6_with_4 rfl ?_
  rw [nI_l (by omega)]
  refine am_iconst (n := 6) (v := 5) dX6_with_5 rfl rfl ?_
  refine am_iload_n (n := 7) (i := 2) dX6_with_6 rfl rfl rfl ?_
  refine am_imul (n := 8) dX6_with_7 rfl ?_
  rw [show (5 : Int32) * nI p = nI (5 * p) from pk_mul 5 p]
  refine am_lshl (n := 9) dX6_with_8 rfl ?_
  rw [wb_shl _ (by omega)]
  refine am_lor (n := 10) dX6_with_9 rfl ?_
  have e : lN w ||| lN ((l + 1) * 2 ^ (5 * p)) = lN (w + (l + 1) * 32 ^ p) := by
    rw [show lN w ||| lN ((l + 1) * 2 ^ (5 * p)) = lN ((l + 1) * 2 ^ (5 * p)) ||| lN w from Int64.or_comm _ _, show (l + 1) * 2 ^ (5 * p) = 2 ^ (5 * p) * (l + 1) from Nat.mul_comm _ _, fb_or_sumL _ (by rw [Nat.pow_mul]; exact hw), Nat.pow_mul, Nat.add_comm, Nat.mul_comm]
  rw [e]
  refine am_lret dX6_with_10 rfl ?_
  exact ⟨rfl, rfl⟩
set_option maxRecDepth 100000 in
set_option maxHeartbeats 400000 in
theorem ac_X4_firstFault (g : Gx) (k : Nat) (p : List Nat) (h : Hp) (hk : isPd k) (hR : RP k p h) (hV : VP p) : AD g yX4_firstFault wsX4_firstFault rmX4_firstFault [.ref k] h (some (.int (flt p))) h := by
  obtain ⟨k0, k1⟩ := hk
  obtain ⟨r1, r2⟩ := hR
  have hl := hV.1
  refine AC.of (cc := cX4_firstFault) (maxL := 2) (ret := (some .int)) (by decide +kernel) rfl (Nat.le_of_ble_eq_true rfl) ?_
  show AW g mmX4_firstFault _ 0 [(0, some (.ref k))] [] _
  refine am_aload_n (n := 1) (i := 0) dX4_firstFault_0 rfl rfl rfl ?_
  refine gfX4_firstFault_15 (n := 4) dX4_firstFault_1 (by first | assumption | exact isC_of (by decide +kernel)) rfl ?_
  rw [r1]
  unfold flt
  by_cases z : p.length = 0
  · rw [if_pos z]
    refine am_if_ne (tgt := 9) (n := 7) dX4_firstFault_4 (by decide) rfl (fun q_z => absurd (by rw [z]; rfl) q_z) (fun _ => ?_)
    refine am_iconst (n := 8) (v := 0) dX4_firstFault_7 rfl rfl ?_
    refine am_iret dX4_firstFault_8 rfl rfl ?_
    exact ⟨rfl, rfl⟩
  · rw [if_neg z]
    refine am_if_ne (tgt := 9) (n := 7) dX4_firstFault_4 (by decide) rfl (fun _ => ?_) (fun q_z => absurd q_z (nI_ne0 (by omega) (by omega)))
    refine am_iconst (n := 10) (v := 0) dX4_firstFault_9 rfl rfl ?_
    refine am_istore_n (n := 11) (i := 1) dX4_firstFault_10 rfl (Nat.le_of_ble_eq_true rfl) rfl rfl ?_
    have hle := fa_first_le (fbad p) p.length
    have hno := fa_first_no (fbad p) p.length
    have hyes := fa_first_yes (fbad p) p.length
    generalize fa_first (fbad p) p.length = i0 at hle hno hyes ⊢
    refine am_loc [(0, some (.ref k)), (1, some (.int (nI 0)))] rfl ?_
    refine loop_up (Wp := fun i => AW g mmX4_firstFault _ 11 [(0, some (.ref k)), (1, some (.int (nI i)))] [] h) i0 ?_ ?_ 0 (Nat.zero_le _)
    · refine am_iload_n (n := 12) (i := 1) dX4_firstFault_11 rfl rfl rfl ?_
      refine am_aload_n (n := 13) (i := 0) dX4_firstFault_12 rfl rfl rfl ?_
      refine gfX4_firstFault_15 (n := 16) dX4_firstFault_13 (by first | assumption | exact isC_of (by decide +kernel)) rfl ?_
      rw [r1]
      by_cases q : i0 < p.length
      · rw [if_pos q]
        have hy := hyes q
        have hx := r2 i0 _ (gD_at q)
        have hcc := hV.2 _ (List.mem_of_getElem? (gD_at q))
        unfold fbad at hy
        have fin : AW g mmX4_firstFault (ZP g (fun r h2 => r = some (.int (nI i0)) ∧ h2 = h)) 47 [(0, some (.ref k)), (1, some (.int (nI i0)))] [] h := by
          refine am_iload_n (n := 48) (i := 1) dX4_firstFault_47 rfl rfl rfl ?_
          refine am_iret dX4_firstFault_48 rfl rfl ?_
          exact ⟨rfl, rfl⟩
        refine am_icmp_ge (tgt := 55) (n := 19) dX4_firstFault_16 (by decide) rfl (fun q_z => absurd q_z (nI_ge q (by omega))) (fun _ => ?_)
        refine am_iload_n (n := 20) (i := 1) dX4_firstFault_19 rfl rfl rfl ?_
        refine am_bipush (n := 22) (v := 10) dX4_firstFault_20 rfl rfl ?_
        by_cases h10 : i0 = 10
        · refine am_icmp_eq (tgt := 47) (n := 25) dX4_firstFault_22 (by decide) rfl (fun _ => ?_) (fun q_z => absurd (by rw [h10]; rfl) q_z)
          exact fin
        · refine am_icmp_eq (tgt := 47) (n := 25) dX4_firstFault_22 (by decide) rfl (fun q_z => absurd q_z (fun w => h10 ((nI_eq (by omega) (by decide)).mp w))) (fun _ => ?_)
          refine am_aload_n (n := 26) (i := 0) dX4_firstFault_25 rfl rfl rfl ?_
          refine gfX4_firstFault_9 (n := 29) dX4_firstFault_26 (by first | assumption | exact isC_of (by decide +kernel)) rfl ?_
          refine am_iload_n (n := 30) (i := 1) dX4_firstFault_29 rfl rfl rfl ?_
          refine am_cald (n := 31) dX4_firstFault_30 (by first | assumption | exact isC_of (by decide +kernel)) (by first | assumption | exact vp_in_nI (by omega) (by omega) | exact vp_in_iff.mpr (by decide)) rfl ?_
          refine am_bipush (n := 33) (v := 97) dX4_firstFault_31 rfl rfl ?_
          rw [nI_clamp (by omega), hx]
          by_cases ha : p.getD i0 0 < 97
          · refine am_icmp_lt (tgt := 47) (n := 36) dX4_firstFault_33 (by decide) rfl (fun _ => ?_) (fun q_z => absurd (nI_lt ha (by decide)) q_z)
            exact fin
          · refine am_icmp_lt (tgt := 47) (n := 36) dX4_firstFault_33 (by decide) rfl (fun q_z => absurd q_z (nI_nlt (Nat.not_lt.mp ha) (by omega))) (fun _ => ?_)
            refine am_aload_n (n := 37) (i := 0) dX4_firstFault_36 rfl rfl rfl ?_
            refine gfX4_firstFault_9 (n := 40) dX4_firstFault_37 (by first | assumption | exact isC_of (by decide +kernel)) rfl ?_
            refine am_iload_n (n := 41) (i := 1) dX4_firstFault_40 rfl rfl rfl ?_
            refine am_cald (n := 42) dX4_firstFault_41 (by first | assumption | exact isC_of (by decide +kernel)) (by first | assumption | exact vp_in_nI (by omega) (by omega) | exact vp_in_iff.mpr (by decide)) rfl ?_
            refine am_bipush (n := 44) (v := 122) dX4_firstFault_42 rfl rfl ?_
            rw [nI_clamp (by omega), hx]
            have hb : 122 < p.getD i0 0 := by
              rcases Nat.lt_or_ge 122 (p.getD i0 0) with w | w
              · exact w
              · exfalso
                have e1 : Nat.beq i0 10 = false := by
                  cases hb : Nat.beq i0 10 with
                  | false => rfl
                  | true => exact absurd (Nat.eq_of_beq_eq_true hb) h10
                rw [e1, decide_eq_true (Nat.not_lt.mp ha), decide_eq_true w] at hy
                cases hy
            refine am_icmp_le (tgt := 49) (n := 47) dX4_firstFault_44 (by decide) rfl (fun q_z => absurd q_z (nI_ge hb (by omega))) (fun _ => ?_)
            exact fin
      · rw [if_neg q]
        refine am_icmp_ge (tgt := 55) (n := 19) dX4_firstFault_16 (by decide) rfl (fun _ => ?_) (fun q_z => absurd (nI_le (Nat.not_lt.mp q) (by omega)) q_z)
        refine am_bipush (n := 57) (v := (-6)) dX4_firstFault_55 rfl rfl ?_
        refine am_iret dX4_firstFault_57 rfl rfl ?_
        exact ⟨rfl, rfl⟩
    · intro i hi K
      have hn := hno i hi
      have hx := r2 i _ (gD_at (show i < p.length by omega))
      have hcc := hV.2 _ (List.mem_of_getElem? (gD_at (show i < p.length by omega)))
      unfold fbad at hn
      simp only [Bool.or_eq_false_iff, Bool.not_eq_false', Bool.and_eq_true, decide_eq_true_eq] at hn
      refine am_iload_n (n := 12) (i := 1) dX4_firstFault_11 rfl rfl rfl ?_
      refine am_aload_n (n := 13) (i := 0) dX4_firstFault_12 rfl rfl rfl ?_
      refine gfX4_firstFault_15 (n := 16) dX4_firstFault_13 (by first | assumption | exact isC_of (by decide +kernel)) rfl ?_
      rw [r1]
      refine am_icmp_ge (tgt := 55) (n := 19) dX4_firstFault_16 (by decide) rfl (fun q_z => absurd q_z (nI_ge (show i < p.length by omega) (by omega))) (fun _ => ?_)
      refine am_iload_n (n := 20) (i := 1) dX4_firstFault_19 rfl rfl rfl ?_
      refine am_bipush (n := 22) (v := 10) dX4_firstFault_20 rfl rfl ?_
      refine am_icmp_eq (tgt := 47) (n := 25) dX4_firstFault_22 (by decide) rfl (fun q_z => absurd q_z (fun w => by have := (nI_eq (show i < 2 ^ 31 by omega) (show 10 < 2 ^ 31 by decide)).mp w; subst this; exact absurd hn.1 (by decide))) (fun _ => ?_)
      refine am_aload_n (n := 26) (i := 0) dX4_firstFault_25 rfl rfl rfl ?_
      refine gfX4_firstFault_9 (n := 29) dX4_firstFault_26 (by first | assumption | exact isC_of (by decide +kernel)) rfl ?_
      refine am_iload_n (n := 30) (i := 1) dX4_firstFault_29 rfl rfl rfl ?_
      refine am_cald (n := 31) dX4_firstFault_30 (by first | assumption | exact isC_of (by decide +kernel)) (by first | assumption | exact vp_in_nI (by omega) (by omega) | exact vp_in_iff.mpr (by decide)) rfl ?_
      refine am_bipush (n := 33) (v := 97) dX4_firstFault_31 rfl rfl ?_
      rw [nI_clamp (by omega), hx]
      refine am_icmp_lt (tgt := 47) (n := 36) dX4_firstFault_33 (by decide) rfl (fun q_z => absurd q_z (nI_nlt hn.2.1 (by omega))) (fun _ => ?_)
      refine am_aload_n (n := 37) (i := 0) dX4_firstFault_36 rfl rfl rfl ?_
      refine gfX4_firstFault_9 (n := 40) dX4_firstFault_37 (by first | assumption | exact isC_of (by decide +kernel)) rfl ?_
      refine am_iload_n (n := 41) (i := 1) dX4_firstFault_40 rfl rfl rfl ?_
      refine am_cald (n := 42) dX4_firstFault_41 (by first | assumption | exact isC_of (by decide +kernel)) (by first | assumption | exact vp_in_nI (by omega) (by omega) | exact vp_in_iff.mpr (by decide)) rfl ?_
      refine am_bipush (n := 44) (v := 122) dX4_firstFault_42 rfl rfl ?_
      rw [nI_clamp (by omega), hx]
      refine am_icmp_le (tgt := 49) (n := 47) dX4_firstFault_44 (by decide) rfl (fun _ => ?_) (fun q_z => absurd (nI_le hn.2.2 (by decide)) q_z)
      first | refine am_iincN (n := 52) dX4_firstFault_49 rfl rfl rfl ?_ | refine am_iinc1 (n := 52) dX4_firstFault_49 rfl rfl rfl ?_
      refine am_goto (tgt := 11) dX4_firstFault_52 (by decide) ?_
      exact am_loc _ rfl K
set_option maxRecDepth 100000 in
set_option maxHeartbeats 400000 in
theorem ac_X4_asWord (g : Gx) (k : Nat) (p : List Nat) (h : Hp) (hk : isPd k) (hR : RP k p h) (hV : VP p) (hF : flt p = -6) : AD g yX4_asWord wsX4_asWord rmX4_asWord [.ref k] h (some (.long (lN (pw p)))) h := by
  obtain ⟨k0, k1⟩ := hk
  obtain ⟨r1, r2⟩ := hR
  obtain ⟨f1, f2, f3⟩ := flt_ok hF
  unfold pw
  refine AC.of (cc := cX4_asWord) (maxL := 4) (ret := (some .long)) (by decide +kernel) rfl (Nat.le_of_ble_eq_true rfl) ?_
  show AW g mmX4_asWord _ 0 [(0, some (.ref k))] [] _
  refine am_lconst (n := 1) (v := 0) dX4_asWord_0 rfl rfl ?_
  refine am_lstore_n (n := 2) (i := 1) dX4_asWord_1 rfl (Nat.le_of_ble_eq_true rfl) rfl rfl ?_
  refine am_iconst (n := 3) (v := 0) dX4_asWord_2 rfl rfl ?_
  refine am_istore_n (n := 4) (i := 3) dX4_asWord_3 rfl (Nat.le_of_ble_eq_true rfl) rfl rfl ?_
  refine am_loc [(0, some (.ref k)), (1, some (.long (lN (pwF p 0)))), (3, some (.int (nI 0)))] rfl ?_
  refine loop_up (Wp := fun i => AW g mmX4_asWord _ 4 [(0, some (.ref k)), (1, some (.long (lN (pwF p i)))), (3, some (.int (nI i)))] [] h) p.length ?_ ?_ 0 (Nat.zero_le _)
  · refine am_iload_n (n := 5) (i := 3) dX4_asWord_4 rfl rfl rfl ?_
    refine am_aload_n (n := 6) (i := 0) dX4_asWord_5 rfl rfl rfl ?_
    refine gfX4_asWord_15 (n := 9) dX4_asWord_6 (by first | assumption | exact isC_of (by decide +kernel)) rfl ?_
    rw [r1]
    refine am_icmp_ge (tgt := 39) (n := 12) dX4_asWord_9 (by decide) rfl (fun _ => ?_) (fun q_z => absurd (Int32.le_refl _) q_z)
    refine am_lload_n (n := 40) (i := 1) dX4_asWord_39 rfl rfl rfl ?_
    refine am_lret dX4_asWord_40 rfl ?_
    exact ⟨rfl, rfl⟩
  · intro i hi K
    have hx := r2 i _ (gD_at hi)
    have hc := f3 i hi
    refine am_iload_n (n := 5) (i := 3) dX4_asWord_4 rfl rfl rfl ?_
    refine am_aload_n (n := 6) (i := 0) dX4_asWord_5 rfl rfl rfl ?_
    refine gfX4_asWord_15 (n := 9) dX4_asWord_6 (by first | assumption | exact isC_of (by decide +kernel)) rfl ?_
    rw [r1]
    refine am_icmp_ge (tgt := 39) (n := 12) dX4_asWord_9 (by decide) rfl (fun q_z => absurd q_z (nI_ge hi (by omega))) (fun _ => ?_)
    refine am_iload_n (n := 13) (i := 3) dX4_asWord_12 rfl rfl rfl ?_
    refine am_bipush (n := 15) (v := 10) dX4_asWord_13 rfl rfl ?_
    refine am_icmp_ge (tgt := 39) (n := 18) dX4_asWord_15 (by decide) rfl (fun q_z => absurd q_z (nI_ge (show i < 10 by omega) (by decide))) (fun _ => ?_)
    have hin : vp_in (nI i) 80 := vp_in_nI (by omega) (by decide)
    refine am_lload_n (n := 19) (i := 1) dX4_asWord_18 rfl rfl rfl ?_
    refine am_iload_n (n := 20) (i := 3) dX4_asWord_19 rfl rfl rfl ?_
    refine am_aload_n (n := 21) (i := 0) dX4_asWord_20 rfl rfl rfl ?_
    refine gfX4_asWord_9 (n := 24) dX4_asWord_21 (by first | assumption | exact isC_of (by decide +kernel)) rfl ?_
    refine am_iload_n (n := 25) (i := 3) dX4_asWord_24 rfl rfl rfl ?_
    refine am_cald (n := 26) dX4_asWord_25 (by first | assumption | exact isC_of (by decide +kernel)) (by first | assumption | exact vp_in_nI (by omega) (by omega) | exact vp_in_iff.mpr (by decide)) rfl ?_
    refine am_bipush (n := 28) (v := 97) dX4_asWord_26 rfl rfl ?_
    rw [nI_clamp (by omega), hx]
    refine am_isub (n := 29) dX4_asWord_28 rfl ?_
    rw [show nI (p.getD i 0) - 97 = nI (p.getD i 0 - 97) from pk_sub hc.1]
    refine cdX4_asWord_25 (n := 32) dX4_asWord_29 (by first | exact ⟨rfl, rfl⟩ | assumption) (ac_X6_with g (pwF p i) i (p.getD i 0 - 97) h (pwF_lt p i (fun j hj => (f3 j (by omega)).2)) (by omega) (by omega)) rfl rfl (Nat.le_of_ble_eq_true rfl) rfl ?_
    refine am_lstore_n (n := 33) (i := 1) dX4_asWord_32 rfl (Nat.le_of_ble_eq_true rfl) rfl rfl ?_
    first | refine am_iincN (n := 36) dX4_asWord_33 rfl rfl rfl ?_ | refine am_iinc1 (n := 36) dX4_asWord_33 rfl rfl rfl ?_
    refine am_goto (tgt := 4) dX4_asWord_36 (by decide) ?_
    exact am_loc _ rfl K
