/-! THE LAW'S SMALL METHODS -/
set_option maxRecDepth 100000 in
set_option maxHeartbeats 400000 in
theorem ac_L_many (g : Gx) (n : Nat) (h : Hp) (hn : n < 2 ^ 62) : AD g yL_many wsL_many rmL_many [.long (lN n)] h (some (.int (nI (n / 2 ^ 50)))) h := by
  refine AC.of (cc := cL_many) (maxL := 2) (ret := (some .int)) (by decide +kernel) rfl (Nat.le_of_ble_eq_true rfl) ?_
  show AW g mmL_many _ 0 [(0, some (.long (lN n)))] [] _
  refine am_lload_n (n := 1) (i := 0) dL_many_0 rfl rfl rfl ?_
  refine am_bipush (n := 3) (v := 50) dL_many_1 rfl rfl ?_
  refine am_lshr (n := 4) dL_many_3 rfl ?_
  refine am_l2i (n := 5) dL_many_4 rfl ?_
  refine am_iret dL_many_5 rfl rfl ?_
  exact ⟨congrArg (fun z => some (Value.int z)) (l_many hn), rfl⟩
theorem ac_L_manyW (g : Gx) (w : Nat) (h : Hp) : AD g yL_many wsL_many rmL_many [.long (lN (lw w))] h (some (.int (nI (wsz w)))) h := by
  have := lw_lt w
  rw [← lw_many w]
  exact ac_L_many g (lw w) h (by omega)
set_option maxRecDepth 100000 in
set_option maxHeartbeats 400000 in
theorem ac_L_letter (g : Gx) (n k : Nat) (h : Hp) (hn : n < 2 ^ 62) (hk : k < 12) : AD g yL_letter wsL_letter rmL_letter [.long (lN n), .int (nI k)] h (some (.int (nI (n / 32 ^ k % 32)))) h := by
  refine AC.of (cc := cL_letter) (maxL := 3) (ret := (some .int)) (by decide +kernel) rfl (Nat.le_of_ble_eq_true rfl) ?_
  show AW g mmL_letter _ 0 [(0, some (.long (lN n))), (2, some (.int (nI k)))] [] _
  refine am_lload_n (n := 1) (i := 0) dL_letter_0 rfl rfl rfl ?_
  refine am_iconst (n := 2) (v := 5) dL_letter_1 rfl rfl ?_
  refine am_iload_n (n := 3) (i := 2) dL_letter_2 rfl rfl rfl ?_
  refine am_imul (n := 4) dL_letter_3 rfl ?_
  refine am_lshr (n := 5) dL_letter_4 rfl ?_
  refine am_ldc2 (n := 8) (v := 31) dL_letter_5 (by decide +kernel) rfl ?_
  refine am_land (n := 9) dL_letter_8 rfl ?_
  refine am_l2i (n := 10) dL_letter_9 rfl ?_
  refine am_iret dL_letter_10 rfl rfl ?_
  exact ⟨congrArg (fun z => some (Value.int z)) (l_letter hn hk), rfl⟩
theorem ac_L_letterW (g : Gx) (w k : Nat) (h : Hp) (hk : k < wsz w) : AD g yL_letter wsL_letter rmL_letter [.long (lN (lw w)), .int (nI k)] h (some (.int (nI (wl w k - 1)))) h := by
  have := lw_lt w
  have := wsz_le w
  rw [← lw_letter hk]
  exact ac_L_letter g (lw w) k h (by omega) (by omega)
/-- the law's row of names -/
def HQ (ns : List Nat) (h : Hp) : Prop := ∀ i w, ns[i]? = some w → h.2.1 40 i = lN (lw w)
theorem HQ.fm {ns : List Nat} {h h' : Hp} (q : HQ ns h) (f : FM h h') : HQ ns h' := fun i w hi => by
  rw [(f 40 (by omega) (by omega)).2]
  exact q i w hi
theorem isC_40 : isC 40 9 24 := isC_of (by decide +kernel)
theorem isC_41 : isC 41 8 2 := isC_of (by decide +kernel)
set_option maxRecDepth 100000 in
set_option maxHeartbeats 400000 in
theorem ac_L_place (g : Gx) (w : Nat) (ns : List Nat) (h : Hp) (hw : VW w) (hn : ns.length ≤ 24) (hv : ∀ v ∈ ns, VW v) (hq : HQ ns h) : AD g yL_place wsL_place rmL_place [.ref 40, .int (nI ns.length), .long (lN (lw w))] h (some (.int (nI (ix w ns)))) h := by
  have hle := ix_le w ns
  have c40 := isC_40
  refine AC.of (cc := cL_place) (maxL := 5) (ret := (some .int)) (by decide +kernel) rfl (Nat.le_of_ble_eq_true rfl) ?_
  show AW g mmL_place _ 0 [(0, some (.ref 40)), (1, some (.int (nI ns.length))), (2, some (.long (lN (lw w))))] [] _
  refine am_iconst (n := 1) (v := 0) dL_place_0 rfl rfl ?_
  refine am_istore (n := 3) dL_place_1 (Nat.le_of_ble_eq_true rfl) rfl rfl ?_
  refine am_loc [(0, some (.ref 40)), (1, some (.int (nI ns.length))), (2, some (.long (lN (lw w)))), (4, some (.int (nI 0)))] rfl ?_
  refine loop_up (Wp := fun i => AW g mmL_place _ 3 [(0, some (.ref 40)), (1, some (.int (nI ns.length))), (2, some (.long (lN (lw w)))), (4, some (.int (nI i)))] [] h) (ix w ns) ?_ ?_ 0 (Nat.zero_le _)
  · refine am_iload (n := 5) dL_place_3 rfl rfl ?_
    refine am_iload_n (n := 6) (i := 1) dL_place_5 rfl rfl rfl ?_
    rcases Nat.lt_or_ge (ix w ns) ns.length with hl | hl
    · have hi : w ∈ ns := by
        refine Classical.byContradiction (fun z => ?_)
        rw [ix_not z] at hl
        omega
      have hw2 := ix_in hi
      refine am_icmp_ge (tgt := 24) (n := 9) dL_place_6 (by decide) rfl (fun q_z => absurd q_z (nI_ge hl (by omega))) (fun _ => ?_)
      have hin : vp_in (nI (ix w ns)) 24 := vp_in_nI (by omega) (by decide)
      refine am_aload_n (n := 10) (i := 0) dL_place_9 rfl rfl rfl ?_
      refine am_iload (n := 12) dL_place_10 rfl rfl ?_
      refine am_lald (n := 13) dL_place_12 (by first | assumption | exact isC_of (by decide +kernel)) (by first | assumption | exact vp_in_nI (by omega) (by omega) | exact vp_in_iff.mpr (by decide)) rfl ?_
      rw [nI_clamp (by omega), hq _ _ hw2]
      refine am_lload_n (n := 14) (i := 2) dL_place_13 rfl rfl rfl ?_
      refine am_lcmp (n := 15) dL_place_14 rfl ?_
      refine am_if_eq (tgt := 24) (n := 18) dL_place_15 (by decide) rfl (fun _ => ?_) (fun q_z => absurd (by rw [lg_cmp_eq]) q_z)
      refine am_iload (n := 26) dL_place_24 rfl rfl ?_
      refine am_iret dL_place_26 rfl rfl ?_
      exact ⟨rfl, rfl⟩
    · refine am_icmp_ge (tgt := 24) (n := 9) dL_place_6 (by decide) rfl (fun _ => ?_) (fun q_z => absurd (nI_le hl (by omega)) q_z)
      refine am_iload (n := 26) dL_place_24 rfl rfl ?_
      refine am_iret dL_place_26 rfl rfl ?_
      exact ⟨rfl, rfl⟩
  · intro i hi K
    obtain ⟨v, hvi⟩ : ∃ v, ns[i]? = some v := ⟨ns[i]'(by omega), List.getElem?_eq_getElem (by omega)⟩
    have hne : ¬ v = w := fun e => ix_before hi (by rw [hvi, e])
    refine am_iload (n := 5) dL_place_3 rfl rfl ?_
    refine am_iload_n (n := 6) (i := 1) dL_place_5 rfl rfl rfl ?_
    refine am_icmp_ge (tgt := 24) (n := 9) dL_place_6 (by decide) rfl (fun q_z => absurd q_z (nI_ge (show i < ns.length by omega) (by omega))) (fun _ => ?_)
    have hin : vp_in (nI i) 24 := vp_in_nI (by omega) (by decide)
    refine am_aload_n (n := 10) (i := 0) dL_place_9 rfl rfl rfl ?_
    refine am_iload (n := 12) dL_place_10 rfl rfl ?_
    refine am_lald (n := 13) dL_place_12 (by first | assumption | exact isC_of (by decide +kernel)) (by first | assumption | exact vp_in_nI (by omega) (by omega) | exact vp_in_iff.mpr (by decide)) rfl ?_
    rw [nI_clamp (by omega), hq _ _ hvi]
    refine am_lload_n (n := 14) (i := 2) dL_place_13 rfl rfl rfl ?_
    refine am_lcmp (n := 15) dL_place_14 rfl ?_
    refine am_if_eq (tgt := 24) (n := 18) dL_place_15 (by decide) rfl (fun q_z => absurd q_z (by rw [lg_cmp_eq, lw_eq (hv v (List.mem_of_getElem? hvi)) hw]; exact hne)) (fun _ => ?_)
    first | refine am_iincN (n := 21) dL_place_18 rfl rfl rfl ?_ | refine am_iinc1 (n := 21) dL_place_18 rfl rfl rfl ?_
    refine am_goto (tgt := 3) dL_place_21 (by decide) ?_
    refine am_loc [(0, some (.ref 40)), (1, some (.int (nI ns.length))), (2, some (.long (lN (lw w)))), (4, some (.int (nI (i + 1))))] rfl ?_
    exact K
/-- the letters that draw takes -/
def drF (a b : Nat) (k : Nat) : Nat := b / 2 ^ (2 * k) % 5 * 4 % 26 + a / 2 ^ k % 2
def drM (a b : Nat) : Nat := 1 + a % (if b % 3 = 0 then 10 else 4)
theorem drF_lt (a b k : Nat) : drF a b k < 26 := by
  unfold drF
  have h1 : b / 2 ^ (2 * k) % 5 < 5 := Nat.mod_lt _ (by decide)
  have h2 : a / 2 ^ k % 2 < 2 := Nat.mod_lt _ (by decide)
  have h3 : b / 2 ^ (2 * k) % 5 * 4 % 26 ≤ b / 2 ^ (2 * k) % 5 * 4 := Nat.mod_le _ _
  omega
theorem drM_le (a b : Nat) : 1 ≤ drM a b ∧ drM a b ≤ 10 := by
  unfold drM
  split
  · have : a % 10 < 10 := Nat.mod_lt _ (by decide)
    omega
  · have : a % 4 < 4 := Nat.mod_lt _ (by decide)
    omega
def drW' (a b : Nat) : Nat := sm (fun i => drF a b i + 1) (drM a b)
theorem drW_VW (a b : Nat) : VW (drW' a b) := (sm_VW (drM_le a b).1 (drM_le a b).2 (fun i _ => drF_lt a b i)).1
theorem drW_lw (a b : Nat) : lw (drW' a b) = lwL (drM a b) (drF a b) := lw_sm (drM_le a b).1 (drM_le a b).2 (fun i _ => drF_lt a b i)
theorem i_rem {a : Nat} (d : Nat) (ha : a < 2 ^ 31) (h0 : 0 < d) (hd : d < 2 ^ 31) {x : Int32} (e : x = nI d) : nI a - nI a / x * x = nI (a % d) := by
  subst e
  exact pk_rem ha h0 hd
theorem i_shr {a k : Nat} (ha : a < 2 ^ 31) (hk : k < 32) : nI a >>> (nI k &&& 31) = nI (a / 2 ^ k) := pk_shrN ha _ k (s_l k hk)
set_option maxRecDepth 100000 in
set_option maxHeartbeats 1000000 in
theorem ac_L_draw (g : Gx) (a b : Nat) (h : Hp) (ha : a < 2 ^ 31) (hb : b < 2 ^ 31) : AD g yL_draw wsL_draw rmL_draw [.int (nI a), .int (nI b)] h (some (.long (lN (lw (drW' a b))))) h := by
  rw [drW_lw]
  have hm := drM_le a b
  refine AC.of (cc := cL_draw) (maxL := 6) (ret := (some .long)) (by decide +kernel) rfl (Nat.le_of_ble_eq_true rfl) ?_
  show AW g mmL_draw _ 0 [(0, some (.int (nI a))), (1, some (.int (nI b)))] [] _
  have e0 : lN (drM a b * 2 ^ 50) = lN (drM a b * 2 ^ 50 + sm (drF a b) 0) := by rw [sm, Nat.add_zero]
  have t17 : AW g mmL_draw (ZP g (fun r h2 => r = some (.long (lN (lwL (drM a b) (drF a b)))) ∧ h2 = h)) 17 [(2, some (.int (nI (drM a b)))), (0, some (.int (nI a))), (1, some (.int (nI b)))] [] h := by
    refine am_iload_n (n := 18) (i := 2) dL_draw_17 rfl rfl rfl ?_
    refine am_i2l (n := 19) dL_draw_18 rfl ?_
    refine am_bipush (n := 21) (v := 50) dL_draw_19 rfl rfl ?_
    rw [nI_l (by omega), show (50 : Int32) = nI 50 from rfl]
    refine am_lshl (n := 22) dL_draw_21 rfl ?_
    rw [wb_shl _ (by decide), e0]
    refine am_lstore_n (n := 23) (i := 3) dL_draw_22 rfl (Nat.le_of_ble_eq_true rfl) rfl rfl ?_
    refine am_iconst (n := 24) (v := 0) dL_draw_23 rfl rfl ?_
    refine am_istore (n := 26) dL_draw_24 (Nat.le_of_ble_eq_true rfl) rfl rfl ?_
    refine am_loc [(0, some (.int (nI a))), (1, some (.int (nI b))), (2, some (.int (nI (drM a b)))), (3, some (.long (lN (drM a b * 2 ^ 50 + sm (drF a b) 0)))), (5, some (.int (nI 0)))] rfl ?_
    refine loop_up (Wp := fun k => AW g mmL_draw _ 26 [(0, some (.int (nI a))), (1, some (.int (nI b))), (2, some (.int (nI (drM a b)))), (3, some (.long (lN (drM a b * 2 ^ 50 + sm (drF a b) k)))), (5, some (.int (nI k)))] [] h) (drM a b) ?_ ?_ 0 (Nat.zero_le _)
    · refine am_iload (n := 28) dL_draw_26 rfl rfl ?_
      refine am_iload_n (n := 29) (i := 2) dL_draw_28 rfl rfl rfl ?_
      refine am_icmp_ge (tgt := 67) (n := 32) dL_draw_29 (by decide) rfl (fun _ => ?_) (fun q_z => absurd (Int32.le_refl _) q_z)
      refine am_lload_n (n := 68) (i := 3) dL_draw_67 rfl rfl rfl ?_
      refine am_lret dL_draw_68 rfl ?_
      exact ⟨rfl, rfl⟩
    · intro k hk K
      refine am_iload (n := 28) dL_draw_26 rfl rfl ?_
      refine am_iload_n (n := 29) (i := 2) dL_draw_28 rfl rfl rfl ?_
      refine am_icmp_ge (tgt := 67) (n := 32) dL_draw_29 (by decide) rfl (fun q_z => absurd q_z (nI_ge hk (by omega))) (fun _ => ?_)
      refine am_lload_n (n := 33) (i := 3) dL_draw_32 rfl rfl rfl ?_
      refine am_iload_n (n := 34) (i := 1) dL_draw_33 rfl rfl rfl ?_
      refine am_iconst (n := 35) (v := 2) dL_draw_34 rfl rfl ?_
      refine am_iload (n := 37) dL_draw_35 rfl rfl ?_
      refine am_imul (n := 38) dL_draw_37 rfl ?_
      rw [show (2 : Int32) * nI k = nI (2 * k) from pk_mul 2 k]
      refine am_ishr (n := 39) dL_draw_38 rfl ?_
      rw [i_shr hb (by omega)]
      have hb2 : b / 2 ^ (2 * k) < 2 ^ 31 := Nat.lt_of_le_of_lt (Nat.div_le_self _ _) hb
      have ha2 : a / 2 ^ k < 2 ^ 31 := Nat.lt_of_le_of_lt (Nat.div_le_self _ _) ha
      have h5 : b / 2 ^ (2 * k) % 5 < 5 := Nat.mod_lt _ (by decide)
      refine am_iconst (n := 40) (v := 5) dL_draw_39 rfl rfl ?_
      refine am_irem (n := 41) dL_draw_40 (by decide) rfl ?_
      rw [i_rem (x := 5) 5 hb2 (by decide) (by decide) rfl]
      refine am_iconst (n := 42) (v := 4) dL_draw_41 rfl rfl ?_
      refine am_imul (n := 43) dL_draw_42 rfl ?_
      rw [show nI (b / 2 ^ (2 * k) % 5) * (4 : Int32) = nI (b / 2 ^ (2 * k) % 5 * 4) from pk_mul _ 4]
      refine am_bipush (n := 45) (v := 26) dL_draw_43 rfl rfl ?_
      refine am_irem (n := 46) dL_draw_45 (by decide) rfl ?_
      rw [i_rem (x := 26) 26 (by omega) (by decide) (by decide) rfl]
      refine am_iload_n (n := 47) (i := 0) dL_draw_46 rfl rfl rfl ?_
      refine am_iload (n := 49) dL_draw_47 rfl rfl ?_
      refine am_ishr (n := 50) dL_draw_49 rfl ?_
      rw [i_shr ha (by omega)]
      refine am_iconst (n := 51) (v := 1) dL_draw_50 rfl rfl ?_
      refine am_iand (n := 52) dL_draw_51 rfl ?_
      rw [show nI (a / 2 ^ k) &&& (1 : Int32) = nI (a / 2 ^ k % 2) from fa_mask (a / 2 ^ k) 1]
      refine am_iadd (n := 53) dL_draw_52 rfl ?_
      rw [nI_add, show b / 2 ^ (2 * k) % 5 * 4 % 26 + a / 2 ^ k % 2 = drF a b k from rfl]
      have hd := drF_lt a b k
      refine am_i2l (n := 54) dL_draw_53 rfl ?_
      rw [nI_l (by omega)]
      refine am_iconst (n := 55) (v := 5) dL_draw_54 rfl rfl ?_
      refine am_iload (n := 57) dL_draw_55 rfl rfl ?_
      refine am_imul (n := 58) dL_draw_57 rfl ?_
      refine am_lshl (n := 59) dL_draw_58 rfl ?_
      refine am_lor (n := 60) dL_draw_59 rfl ?_
      rw [l_more hm.2 (by omega) (fun i _ => by have := drF_lt a b i; omega)]
      refine am_lstore_n (n := 61) (i := 3) dL_draw_60 rfl (Nat.le_of_ble_eq_true rfl) rfl rfl ?_
      first | refine am_iincN (n := 64) dL_draw_61 rfl rfl rfl ?_ | refine am_iinc1 (n := 64) dL_draw_61 rfl rfl rfl ?_
      refine am_goto (tgt := 26) dL_draw_64 (by decide) ?_
      exact am_loc _ rfl K
  refine am_iconst (n := 1) (v := 1) dL_draw_0 rfl rfl ?_
  refine am_iload_n (n := 2) (i := 0) dL_draw_1 rfl rfl rfl ?_
  refine am_iload_n (n := 3) (i := 1) dL_draw_2 rfl rfl rfl ?_
  refine am_iconst (n := 4) (v := 3) dL_draw_3 rfl rfl ?_
  by_cases z : b % 3 = 0
  · have e : drM a b = 1 + a % 10 := by unfold drM; rw [if_pos z]
    refine am_irem (n := 5) dL_draw_4 (by decide) rfl ?_
    rw [i_rem (x := 3) 3 hb (by decide) (by decide) rfl]
    refine am_if_ne (tgt := 13) (n := 8) dL_draw_5 (by decide) rfl (fun q_z => absurd (by rw [z]; rfl) q_z) (fun _ => ?_)
    refine am_bipush (n := 10) (v := 10) dL_draw_8 rfl rfl ?_
    refine am_goto (tgt := 14) dL_draw_10 (by decide) ?_
    refine am_irem (n := 15) dL_draw_14 (by decide) rfl ?_
    rw [i_rem (x := 10) 10 ha (by decide) (by decide) rfl, show (1 : Int32) = nI 1 from rfl]
    refine am_iadd (n := 16) dL_draw_15 rfl ?_
    refine am_istore_n (n := 17) (i := 2) dL_draw_16 rfl (Nat.le_of_ble_eq_true rfl) rfl rfl ?_
    rw [nI_add, ← e]
    exact t17
  · have e : drM a b = 1 + a % 4 := by unfold drM; rw [if_neg z]
    refine am_irem (n := 5) dL_draw_4 (by decide) rfl ?_
    rw [i_rem (x := 3) 3 hb (by decide) (by decide) rfl]
    refine am_if_ne (tgt := 13) (n := 8) dL_draw_5 (by decide) rfl (fun _ => ?_) (fun q_z => absurd q_z (nI_ne0 (Nat.pos_of_ne_zero z) (by have : b % 3 < 3 := Nat.mod_lt _ (by decide); omega)))
    refine am_iconst (n := 14) (v := 4) dL_draw_13 rfl rfl ?_
    refine am_irem (n := 15) dL_draw_14 (by decide) rfl ?_
    rw [i_rem (x := 4) 4 ha (by decide) (by decide) rfl, show (1 : Int32) = nI 1 from rfl]
    refine am_iadd (n := 16) dL_draw_15 rfl ?_
    refine am_istore_n (n := 17) (i := 2) dL_draw_16 rfl (Nat.le_of_ble_eq_true rfl) rfl rfl ?_
    rw [nI_add, ← e]
    exact t17
