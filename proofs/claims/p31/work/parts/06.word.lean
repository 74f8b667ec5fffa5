/-! Word and Code -/
set_option maxRecDepth 100000 in
set_option maxHeartbeats 4000000 in
theorem ac_X6_isLetter (g : Gx) (x : Int32) (h : Hp) : AD g yX6_isLetter wsX6_isLetter rmX6_isLetter [.int x] h (some (.int (bI (decide (0 ≤ x) && decide (x < 26))))) h := by
  refine AC.of (cc := cX6_isLetter) (maxL := 1) (ret := (some .boolean)) (by decide +kernel) rfl (Nat.le_of_ble_eq_true rfl) ?_
  show AW g mmX6_isLetter _ 0 [(0, some (.int x))] [] _
  refine am_iload_n (n := 1) (i := 0) dX6_isLetter_0 rfl rfl rfl ?_
  refine am_if_lt (tgt := 14) (n := 4) dX6_isLetter_1 (by decide) rfl (fun c_1 => ?_) (fun c_1 => ?_)
  · refine am_iconst (n := 15) (v := 0) dX6_isLetter_14 rfl rfl ?_
    refine am_iret dX6_isLetter_15 rfl rfl ?_
    refine ⟨?_, rfl⟩
    rw [bI_f]
    have : ¬ 0 ≤ x := Int32.not_le.mpr c_1
    simp [this]
  · have h0 : 0 ≤ x := Int32.not_lt.mp c_1
    refine am_iload_n (n := 5) (i := 0) dX6_isLetter_4 rfl rfl rfl ?_
    refine am_bipush (n := 7) (v := 26) dX6_isLetter_5 rfl rfl ?_
    refine am_icmp_ge (tgt := 14) (n := 10) dX6_isLetter_7 (by decide) rfl (fun c_7 => ?_) (fun c_7 => ?_)
    · refine am_iconst (n := 15) (v := 0) dX6_isLetter_14 rfl rfl ?_
      refine am_iret dX6_isLetter_15 rfl rfl ?_
      refine ⟨?_, rfl⟩
      rw [bI_f]
      have : ¬ x < 26 := Int32.not_lt.mpr c_7
      simp [this]
    · refine am_iconst (n := 11) (v := 1) dX6_isLetter_10 rfl rfl ?_
      refine am_goto (tgt := 15) dX6_isLetter_11 (by decide) ?_
      refine am_iret dX6_isLetter_15 rfl rfl ?_
      refine ⟨?_, rfl⟩
      rw [bI_t]
      have : x < 26 := Int32.not_le.mp c_7
      simp [this, h0]
set_option maxRecDepth 100000 in
set_option maxHeartbeats 4000000 in
theorem ac_X6_letterAt (g : Gx) (w p : Nat) (h : Hp) (hw : w < 2 ^ 50) (hp : p < 2 ^ 31) : AD g yX6_letterAt wsX6_letterAt rmX6_letterAt [.long (lN w), .int (nI p)] h (some (.int (nI (wl w p) - 1))) h := by
  refine AC.of (cc := cX6_letterAt) (maxL := 3) (ret := (some .int)) (by decide +kernel) rfl (Nat.le_of_ble_eq_true rfl) ?_
  show AW g mmX6_letterAt _ 0 [(0, some (.long (lN w))), (2, some (.int (nI p)))] [] _
  refine am_iload_n (n := 1) (i := 2) dX6_letterAt_0 rfl rfl rfl ?_
  refine am_if_lt (tgt := 10) (n := 4) dX6_letterAt_1 (by decide) rfl (fun q => absurd q (nI_pos hp)) (fun _ => ?_)
  refine am_iload_n (n := 5) (i := 2) dX6_letterAt_4 rfl rfl rfl ?_
  refine am_bipush (n := 7) (v := 10) dX6_letterAt_5 rfl rfl ?_
  refine am_icmp_lt (tgt := 12) (n := 10) dX6_letterAt_7 (by decide) rfl (fun c_7 => ?_) (fun c_7 => ?_)
  · have hp10 : p < 10 := (nI_ltI hp (by decide)).mp c_7
    refine am_lload_n (n := 13) (i := 0) dX6_letterAt_12 rfl rfl rfl ?_
    refine am_iconst (n := 14) (v := 5) dX6_letterAt_13 rfl rfl ?_
    refine am_iload_n (n := 15) (i := 2) dX6_letterAt_14 rfl rfl rfl ?_
    refine am_imul (n := 16) dX6_letterAt_15 rfl ?_
    refine am_lushr (n := 17) dX6_letterAt_16 rfl ?_
    refine am_ldc2 (n := 20) (v := 31) dX6_letterAt_17 (by decide +kernel) rfl ?_
    refine am_land (n := 21) dX6_letterAt_20 rfl ?_
    refine am_l2i (n := 22) dX6_letterAt_21 rfl ?_
    refine am_iconst (n := 23) (v := 1) dX6_letterAt_22 rfl rfl ?_
    refine am_isub (n := 24) dX6_letterAt_23 rfl ?_
    refine am_iret dX6_letterAt_24 rfl rfl ?_
    exact ⟨congrArg (fun z => some (Value.int z)) (wl_m hw hp10), rfl⟩
  · have hp10 : 10 ≤ p := Nat.not_lt.mp fun q => c_7 ((nI_ltI hp (by decide)).mpr q)
    refine am_iconst (n := 11) (v := (-1)) dX6_letterAt_10 rfl rfl ?_
    refine am_iret dX6_letterAt_11 rfl rfl ?_
    rw [wl_big hw hp10]
    exact ⟨rfl, rfl⟩
set_option maxRecDepth 100000 in
set_option maxHeartbeats 4000000 in
theorem ac_X6_size (g : Gx) (w : Nat) (h : Hp) (hw : w < 2 ^ 50) : AD g yX6_size wsX6_size rmX6_size [.long (lN w)] h (some (.int (nI (wsz w)))) h := by
  refine AC.of (cc := cX6_size) (maxL := 3) (ret := (some .int)) (by decide +kernel) rfl (Nat.le_of_ble_eq_true rfl) ?_
  show AW g mmX6_size _ 0 [(0, some (.long (lN w)))] [] _
  refine am_iconst (n := 1) (v := 0) dX6_size_0 rfl rfl ?_
  refine am_istore_n (n := 2) (i := 2) dX6_size_1 rfl (Nat.le_of_ble_eq_true rfl) rfl rfl ?_
  refine am_loc [(0, some (.long (lN w))), (2, some (.int (nI 0)))] rfl ?_
  have hz := wsz_le w
  refine loop_up (Wp := fun i => AW g mmX6_size _ 2 [(0, some (.long (lN w))), (2, some (.int (nI i)))] [] h) (wsz w) ?_ ?_ 0 (Nat.zero_le _)
  · refine am_iload_n (n := 3) (i := 2) dX6_size_2 rfl rfl rfl ?_
    refine am_bipush (n := 5) (v := 10) dX6_size_3 rfl rfl ?_
    rcases Nat.lt_or_ge (wsz w) 10 with hl | hl
    · refine am_icmp_ge (tgt := 23) (n := 8) dX6_size_5 (by decide) rfl (fun q => absurd q (nI_ge hl (by decide))) (fun _ => ?_)
      refine am_lload_n (n := 9) (i := 0) dX6_size_8 rfl rfl rfl ?_
      refine am_iload_n (n := 10) (i := 2) dX6_size_9 rfl rfl rfl ?_
      refine cdX6_size_13 (n := 13) dX6_size_10 ⟨rfl, rfl⟩ (ac_X6_letterAt g w (wsz w) h hw (by omega)) rfl rfl (Nat.le_of_ble_eq_true rfl) rfl ?_
      refine am_iconst (n := 14) (v := (-1)) dX6_size_13 rfl rfl ?_
      refine am_icmp_eq (tgt := 23) (n := 17) dX6_size_14 (by decide) rfl (fun _ => ?_) (fun q => absurd (by rw [wsz_out hl]; rfl) q)
      refine am_iload_n (n := 24) (i := 2) dX6_size_23 rfl rfl rfl ?_
      refine am_iret dX6_size_24 rfl rfl ?_
      exact ⟨rfl, rfl⟩
    · refine am_icmp_ge (tgt := 23) (n := 8) dX6_size_5 (by decide) rfl (fun _ => ?_) (fun q => absurd (by rw [show wsz w = 10 by omega]; decide) q)
      refine am_iload_n (n := 24) (i := 2) dX6_size_23 rfl rfl rfl ?_
      refine am_iret dX6_size_24 rfl rfl ?_
      exact ⟨rfl, rfl⟩
  · intro i hi K
    refine am_iload_n (n := 3) (i := 2) dX6_size_2 rfl rfl rfl ?_
    refine am_bipush (n := 5) (v := 10) dX6_size_3 rfl rfl ?_
    refine am_icmp_ge (tgt := 23) (n := 8) dX6_size_5 (by decide) rfl (fun q => absurd q (nI_ge (show i < 10 by omega) (by decide))) (fun _ => ?_)
    refine am_lload_n (n := 9) (i := 0) dX6_size_8 rfl rfl rfl ?_
    refine am_iload_n (n := 10) (i := 2) dX6_size_9 rfl rfl rfl ?_
    refine cdX6_size_13 (n := 13) dX6_size_10 ⟨rfl, rfl⟩ (ac_X6_letterAt g w i h hw (by omega)) rfl rfl (Nat.le_of_ble_eq_true rfl) rfl ?_
    refine am_iconst (n := 14) (v := (-1)) dX6_size_13 rfl rfl ?_
    have hq : ¬ (nI (wl w i) - 1 = -1) := by
      have h1 := wsz_in hi
      have h2 := wl_lt w i
      obtain ⟨d, hd⟩ : ∃ d, wl w i = d + 1 := ⟨wl w i - 1, by omega⟩
      rw [hd, nI_pred]
      intro e
      have := congrArg Int32.toInt e
      rw [nI_toInt (by omega)] at this
      have e2 : (-1 : Int32).toInt = -1 := by decide
      omega
    refine am_icmp_eq (tgt := 23) (n := 17) dX6_size_14 (by decide) rfl (fun q => absurd q hq) (fun _ => ?_)
    first | refine am_iincN (n := 20) dX6_size_17 rfl rfl rfl ?_ | refine am_iinc1 (n := 20) dX6_size_17 rfl rfl rfl ?_
    refine am_goto (tgt := 2) dX6_size_20 (by decide) ?_
    refine am_loc [(0, some (.long (lN w))), (2, some (.int (nI (i + 1))))] rfl ?_
    exact K
set_option maxRecDepth 100000 in
set_option maxHeartbeats 4000000 in
theorem ac_X6_letterSet (g : Gx) (w : Nat) (h : Hp) (hw : w < 2 ^ 50) : AD g yX6_letterSet wsX6_letterSet rmX6_letterSet [.long (lN w)] h (some (.int (wset w))) h := by
  refine AC.of (cc := cX6_letterSet) (maxL := 5) (ret := (some .int)) (by decide +kernel) rfl (Nat.le_of_ble_eq_true rfl) ?_
  show AW g mmX6_letterSet _ 0 [(0, some (.long (lN w)))] [] _
  refine am_iconst (n := 1) (v := 0) dX6_letterSet_0 rfl rfl ?_
  refine am_istore_n (n := 2) (i := 2) dX6_letterSet_1 rfl (Nat.le_of_ble_eq_true rfl) rfl rfl ?_
  refine am_lload_n (n := 3) (i := 0) dX6_letterSet_2 rfl rfl rfl ?_
  refine cdX6_letterSet_17 (n := 6) dX6_letterSet_3 ⟨rfl, rfl⟩ (ac_X6_size g w h hw) rfl rfl (Nat.le_of_ble_eq_true rfl) rfl ?_
  refine am_istore_n (n := 7) (i := 3) dX6_letterSet_6 rfl (Nat.le_of_ble_eq_true rfl) rfl rfl ?_
  refine am_iconst (n := 8) (v := 0) dX6_letterSet_7 rfl rfl ?_
  refine am_istore (n := 10) dX6_letterSet_8 (Nat.le_of_ble_eq_true rfl) rfl rfl ?_
  have hz := wsz_le w
  refine am_loc [(0, some (.long (lN w))), (2, some (.int (orF (fun p => sh1 (wl w p - 1)) 0))), (3, some (.int (nI (wsz w)))), (4, some (.int (nI 0)))] rfl ?_
  refine loop_up (Wp := fun i => AW g mmX6_letterSet _ 10 [(0, some (.long (lN w))), (2, some (.int (orF (fun p => sh1 (wl w p - 1)) i))), (3, some (.int (nI (wsz w)))), (4, some (.int (nI i)))] [] h) (wsz w) ?_ ?_ 0 (Nat.zero_le _)
  · refine am_iload (n := 12) dX6_letterSet_10 rfl rfl ?_
    refine am_iload_n (n := 13) (i := 3) dX6_letterSet_12 rfl rfl rfl ?_
    refine am_icmp_ge (tgt := 33) (n := 16) dX6_letterSet_13 (by decide) rfl (fun _ => ?_) (fun q => absurd (Int32.le_refl _) q)
    refine am_iload_n (n := 34) (i := 2) dX6_letterSet_33 rfl rfl rfl ?_
    refine am_iret dX6_letterSet_34 rfl rfl ?_
    exact ⟨rfl, rfl⟩
  · intro i hi K
    refine am_iload (n := 12) dX6_letterSet_10 rfl rfl ?_
    refine am_iload_n (n := 13) (i := 3) dX6_letterSet_12 rfl rfl rfl ?_
    refine am_icmp_ge (tgt := 33) (n := 16) dX6_letterSet_13 (by decide) rfl (fun q => absurd q (nI_ge hi (by omega))) (fun _ => ?_)
    refine am_iload_n (n := 17) (i := 2) dX6_letterSet_16 rfl rfl rfl ?_
    refine am_iconst (n := 18) (v := 1) dX6_letterSet_17 rfl rfl ?_
    refine am_lload_n (n := 19) (i := 0) dX6_letterSet_18 rfl rfl rfl ?_
    refine am_iload (n := 21) dX6_letterSet_19 rfl rfl ?_
    refine cdX6_letterSet_13 (n := 24) dX6_letterSet_21 ⟨rfl, rfl⟩ (ac_X6_letterAt g w i h hw (by omega)) rfl rfl (Nat.le_of_ble_eq_true rfl) rfl ?_
    rw [nI_m1 (wsz_in hi)]
    refine am_ishl (n := 25) dX6_letterSet_24 rfl ?_
    refine am_ior (n := 26) dX6_letterSet_25 rfl ?_
    refine am_istore_n (n := 27) (i := 2) dX6_letterSet_26 rfl (Nat.le_of_ble_eq_true rfl) rfl rfl ?_
    first | refine am_iincN (n := 30) dX6_letterSet_27 rfl rfl rfl ?_ | refine am_iinc1 (n := 30) dX6_letterSet_27 rfl rfl rfl ?_
    refine am_goto (tgt := 10) dX6_letterSet_30 (by decide) ?_
    exact am_loc _ rfl K
set_option maxRecDepth 100000 in
set_option maxHeartbeats 4000000 in
theorem ac_X0_with (g : Gx) (c x : Nat) (h : Hp) (hc : c < 2 ^ 24) (hx : x < 64) : AD g yX0_with wsX0_with rmX0_with [.int (nI c), .int (nI x)] h (some (.int (nI (64 * c + x)))) h := by
  refine AC.of (cc := cX0_with) (maxL := 2) (ret := (some .int)) (by decide +kernel) rfl (Nat.le_of_ble_eq_true rfl) ?_
  show AW g mmX0_with _ 0 [(0, some (.int (nI c))), (1, some (.int (nI x)))] [] _
  refine am_iload_n (n := 1) (i := 0) dX0_with_0 rfl rfl rfl ?_
  refine am_bipush (n := 3) (v := 6) dX0_with_1 rfl rfl ?_
  refine am_ishl (n := 4) dX0_with_3 rfl ?_
  refine am_iload_n (n := 5) (i := 1) dX0_with_4 rfl rfl rfl ?_
  refine am_ior (n := 6) dX0_with_5 rfl ?_
  refine am_iret dX0_with_6 rfl rfl ?_
  exact ⟨congrArg (fun z => some (Value.int z)) (cd_with hc hx), rfl⟩
set_option maxRecDepth 100000 in
set_option maxHeartbeats 4000000 in
theorem ac_X0_size (g : Gx) (c : Nat) (h : Hp) (hc : c < 2 ^ 30) : AD g yX0_size wsX0_size rmX0_size [.int (nI c)] h (some (.int (nI (csz c)))) h := by
  refine AC.of (cc := cX0_size) (maxL := 2) (ret := (some .int)) (by decide +kernel) rfl (Nat.le_of_ble_eq_true rfl) ?_
  show AW g mmX0_size _ 0 [(0, some (.int (nI c)))] [] _
  refine am_iconst (n := 1) (v := 0) dX0_size_0 rfl rfl ?_
  refine am_istore_n (n := 2) (i := 1) dX0_size_1 rfl (Nat.le_of_ble_eq_true rfl) rfl rfl ?_
  refine am_loc [(0, some (.int (nI c))), (1, some (.int (nI 0)))] rfl ?_
  have hz := csz_le c
  refine loop_up (Wp := fun i => AW g mmX0_size _ 2 [(0, some (.int (nI c))), (1, some (.int (nI i)))] [] h) (csz c) ?_ ?_ 0 (Nat.zero_le _)
  · refine am_iload_n (n := 3) (i := 1) dX0_size_2 rfl rfl rfl ?_
    refine am_iconst (n := 4) (v := 5) dX0_size_3 rfl rfl ?_
    rcases Nat.lt_or_ge (csz c) 5 with hl | hl
    · refine am_icmp_ge (tgt := 22) (n := 7) dX0_size_4 (by decide) rfl (fun q => absurd q (nI_ge hl (by decide))) (fun _ => ?_)
      refine am_iload_n (n := 8) (i := 0) dX0_size_7 rfl rfl rfl ?_
      refine am_bipush (n := 10) (v := 6) dX0_size_8 rfl rfl ?_
      refine am_iload_n (n := 11) (i := 1) dX0_size_10 rfl rfl rfl ?_
      refine am_imul (n := 12) dX0_size_11 rfl ?_
      refine am_iushr (n := 13) dX0_size_12 rfl ?_
      refine am_if_eq (tgt := 22) (n := 16) dX0_size_13 (by decide) rfl (fun _ => ?_) (fun q => absurd (by rw [cd_ush hc hl, csz_out hl]; rfl) q)
      refine am_iload_n (n := 23) (i := 1) dX0_size_22 rfl rfl rfl ?_
      refine am_iret dX0_size_23 rfl rfl ?_
      exact ⟨rfl, rfl⟩
    · refine am_icmp_ge (tgt := 22) (n := 7) dX0_size_4 (by decide) rfl (fun _ => ?_) (fun q => absurd (by rw [show csz c = 5 by omega]; decide) q)
      refine am_iload_n (n := 23) (i := 1) dX0_size_22 rfl rfl rfl ?_
      refine am_iret dX0_size_23 rfl rfl ?_
      exact ⟨rfl, rfl⟩
  · intro i hi K
    refine am_iload_n (n := 3) (i := 1) dX0_size_2 rfl rfl rfl ?_
    refine am_iconst (n := 4) (v := 5) dX0_size_3 rfl rfl ?_
    refine am_icmp_ge (tgt := 22) (n := 7) dX0_size_4 (by decide) rfl (fun q => absurd q (nI_ge (show i < 5 by omega) (by decide))) (fun _ => ?_)
    refine am_iload_n (n := 8) (i := 0) dX0_size_7 rfl rfl rfl ?_
    refine am_bipush (n := 10) (v := 6) dX0_size_8 rfl rfl ?_
    refine am_iload_n (n := 11) (i := 1) dX0_size_10 rfl rfl rfl ?_
    refine am_imul (n := 12) dX0_size_11 rfl ?_
    refine am_iushr (n := 13) dX0_size_12 rfl ?_
    have hq := csz_in hi
    refine am_if_eq (tgt := 22) (n := 16) dX0_size_13 (by decide) rfl (fun q => absurd q (by rw [cd_ush hc (by omega)]; exact nI_ne0 hq (Nat.lt_of_le_of_lt (Nat.div_le_self _ _) (by omega)))) (fun _ => ?_)
    first | refine am_iincN (n := 19) dX0_size_16 rfl rfl rfl ?_ | refine am_iinc1 (n := 19) dX0_size_16 rfl rfl rfl ?_
    refine am_goto (tgt := 2) dX0_size_19 (by decide) ?_
    refine am_loc [(0, some (.int (nI c))), (1, some (.int (nI (i + 1))))] rfl ?_
    exact K
set_option maxRecDepth 100000 in
set_option maxHeartbeats 4000000 in
theorem ac_X0_numberAt (g : Gx) (c p : Nat) (h : Hp) (hc : c < 2 ^ 30) (hp : p < csz c) : AD g yX0_numberAt wsX0_numberAt rmX0_numberAt [.int (nI c), .int (nI p)] h (some (.int (nI (cdg c p)))) h := by
  have hz := csz_le c
  refine AC.of (cc := cX0_numberAt) (maxL := 3) (ret := (some .int)) (by decide +kernel) rfl (Nat.le_of_ble_eq_true rfl) ?_
  show AW g mmX0_numberAt _ 0 [(0, some (.int (nI c))), (1, some (.int (nI p)))] [] _
  refine am_iload_n (n := 1) (i := 0) dX0_numberAt_0 rfl rfl rfl ?_
  refine cdX0_numberAt_11 (n := 4) dX0_numberAt_1 ⟨rfl, rfl⟩ (ac_X0_size g c h hc) rfl rfl (Nat.le_of_ble_eq_true rfl) rfl ?_
  refine am_iconst (n := 5) (v := 1) dX0_numberAt_4 rfl rfl ?_
  refine am_isub (n := 6) dX0_numberAt_5 rfl ?_
  refine am_iload_n (n := 7) (i := 1) dX0_numberAt_6 rfl rfl rfl ?_
  refine am_isub (n := 8) dX0_numberAt_7 rfl ?_
  have e : nI (csz c) - 1 - nI p = nI (csz c - 1 - p) := by
    obtain ⟨d, hd⟩ : ∃ d, csz c = d + 1 := ⟨csz c - 1, by omega⟩
    rw [hd, nI_pred, pk_sub (by omega), Nat.add_sub_cancel]
  rw [e]
  refine am_istore_n (n := 9) (i := 2) dX0_numberAt_8 rfl (Nat.le_of_ble_eq_true rfl) rfl rfl ?_
  refine am_iload_n (n := 10) (i := 2) dX0_numberAt_9 rfl rfl rfl ?_
  refine am_if_lt (tgt := 25) (n := 13) dX0_numberAt_10 (by decide) rfl (fun q => absurd q (nI_pos (by omega))) (fun _ => ?_)
  refine am_iload_n (n := 14) (i := 0) dX0_numberAt_13 rfl rfl rfl ?_
  refine am_bipush (n := 16) (v := 6) dX0_numberAt_14 rfl rfl ?_
  refine am_iload_n (n := 17) (i := 2) dX0_numberAt_16 rfl rfl rfl ?_
  refine am_imul (n := 18) dX0_numberAt_17 rfl ?_
  refine am_iushr (n := 19) dX0_numberAt_18 rfl ?_
  refine am_bipush (n := 21) (v := 63) dX0_numberAt_19 rfl rfl ?_
  rw [cd_ush hc (by omega)]
  refine am_iand (n := 22) dX0_numberAt_21 rfl ?_
  rw [cd_63]
  refine am_goto (tgt := 26) dX0_numberAt_22 (by decide) ?_
  refine am_iret dX0_numberAt_26 rfl rfl ?_
  exact ⟨rfl, rfl⟩
