/-! Ear: reads and small writes -/
set_option maxRecDepth 100000 in
set_option maxHeartbeats 4000000 in
theorem ac_X2_lettersOf (g : Gx) (k c : Nat) (E : EV) (h : Hp) (hk : isEar k) (hE : RE k E h) (hV : VE E) (hc : c ≤ 9) : AD g yX2_lettersOf wsX2_lettersOf rmX2_lettersOf [.ref k, .int (nI c)] h (some (.int (lof E.1 c))) h := by
  obtain ⟨k0, k1, k2, k3, k4, k5, k6⟩ := hk
  refine AC.of (cc := cX2_lettersOf) (maxL := 4) (ret := (some .int)) (by decide +kernel) rfl (Nat.le_of_ble_eq_true rfl) ?_
  show AW g mmX2_lettersOf _ 0 [(0, some (.ref k)), (1, some (.int (nI c)))] [] _
  refine am_iconst (n := 1) (v := 0) dX2_lettersOf_0 rfl rfl ?_
  refine am_istore_n (n := 2) (i := 2) dX2_lettersOf_1 rfl (Nat.le_of_ble_eq_true rfl) rfl rfl ?_
  refine am_iconst (n := 3) (v := 0) dX2_lettersOf_2 rfl rfl ?_
  refine am_istore_n (n := 4) (i := 3) dX2_lettersOf_3 rfl (Nat.le_of_ble_eq_true rfl) rfl rfl ?_
  refine am_loc [(0, some (.ref k)), (1, some (.int (nI c))), (2, some (.int (orF (fun l => if E.1 l = c then sh1 l else 0) 0))), (3, some (.int (nI 0)))] rfl ?_
  refine loop_up (Wp := fun i => AW g mmX2_lettersOf _ 4 [(0, some (.ref k)), (1, some (.int (nI c))), (2, some (.int (orF (fun l => if E.1 l = c then sh1 l else 0) i))), (3, some (.int (nI i)))] [] h) 26 ?_ ?_ 0 (by omega)
  · refine am_iload_n (n := 5) (i := 3) dX2_lettersOf_4 rfl rfl rfl ?_
    refine am_bipush (n := 7) (v := 26) dX2_lettersOf_5 rfl rfl ?_
    refine am_icmp_ge (tgt := 32) (n := 10) dX2_lettersOf_7 (by decide) rfl (fun _ => ?_) (fun q => absurd (by decide) q)
    refine am_iload_n (n := 33) (i := 2) dX2_lettersOf_32 rfl rfl rfl ?_
    refine am_iret dX2_lettersOf_33 rfl rfl ?_
    exact ⟨rfl, rfl⟩
  · intro i hi K
    refine am_iload_n (n := 5) (i := 3) dX2_lettersOf_4 rfl rfl rfl ?_
    refine am_bipush (n := 7) (v := 26) dX2_lettersOf_5 rfl rfl ?_
    refine am_icmp_ge (tgt := 32) (n := 10) dX2_lettersOf_7 (by decide) rfl (fun q => absurd q (nI_ge hi (by decide))) (fun _ => ?_)
    refine am_aload_n (n := 11) (i := 0) dX2_lettersOf_10 rfl rfl rfl ?_
    refine gfX2_lettersOf_9 (n := 14) dX2_lettersOf_11 (by first | assumption | exact isC_of (by decide +kernel)) rfl ?_
    refine am_iload_n (n := 15) (i := 3) dX2_lettersOf_14 rfl rfl rfl ?_
    refine am_iald (n := 16) dX2_lettersOf_15 (by first | assumption | exact isC_of (by decide +kernel)) (by first | assumption | exact vp_in_nI (by omega) (by omega) | decide) rfl ?_
    refine am_iload_n (n := 17) (i := 1) dX2_lettersOf_16 rfl rfl rfl ?_
    have e : h.1 (k + 1) (nI i).toNatClampNeg = nI (E.1 i) := by rw [nI_clamp (by omega)]; exact (hE.1 i hi).1
    have hv := (hV.1 i hi).1
    rw [e]
    have eo : orF (fun l => if E.1 l = c then sh1 l else 0) (i + 1) = orF (fun l => if E.1 l = c then sh1 l else 0) i ||| (if E.1 i = c then sh1 i else 0) := rfl
    refine am_icmp_ne (tgt := 26) (n := 20) dX2_lettersOf_17 (by decide) rfl (fun c_17 => ?_) (fun c_17 => ?_)
    · have hn : ¬ E.1 i = c := fun q => c_17 ((nI_eq (by omega) (by omega)).mpr q)
      rw [if_neg hn, or_0] at eo
      rw [eo] at K
      first | refine am_iincN (n := 29) dX2_lettersOf_26 rfl rfl rfl ?_ | refine am_iinc1 (n := 29) dX2_lettersOf_26 rfl rfl rfl ?_
      refine am_goto (tgt := 4) dX2_lettersOf_29 (by decide) ?_
      exact am_loc _ rfl K
    · have hn : E.1 i = c := (nI_eq (by omega) (by omega)).mp c_17
      rw [if_pos hn] at eo
      rw [eo] at K
      refine am_iload_n (n := 21) (i := 2) dX2_lettersOf_20 rfl rfl rfl ?_
      refine am_iconst (n := 22) (v := 1) dX2_lettersOf_21 rfl rfl ?_
      refine am_iload_n (n := 23) (i := 3) dX2_lettersOf_22 rfl rfl rfl ?_
      refine am_ishl (n := 24) dX2_lettersOf_23 rfl ?_
      refine am_ior (n := 25) dX2_lettersOf_24 rfl ?_
      refine am_istore_n (n := 26) (i := 2) dX2_lettersOf_25 rfl (Nat.le_of_ble_eq_true rfl) rfl rfl ?_
      first | refine am_iincN (n := 29) dX2_lettersOf_26 rfl rfl rfl ?_ | refine am_iinc1 (n := 29) dX2_lettersOf_26 rfl rfl rfl ?_
      refine am_goto (tgt := 4) dX2_lettersOf_29 (by decide) ?_
      exact am_loc _ rfl K
set_option maxRecDepth 100000 in
set_option maxHeartbeats 4000000 in
theorem ac_X2_lettersWithSecond (g : Gx) (k : Nat) (E : EV) (h : Hp) (hk : isEar k) (hE : RE k E h) (hV : VE E) : AD g yX2_lettersWithSecond wsX2_lettersWithSecond rmX2_lettersWithSecond [.ref k] h (some (.int (lws E.2.1))) h := by
  obtain ⟨k0, k1, k2, k3, k4, k5, k6⟩ := hk
  refine AC.of (cc := cX2_lettersWithSecond) (maxL := 3) (ret := (some .int)) (by decide +kernel) rfl (Nat.le_of_ble_eq_true rfl) ?_
  show AW g mmX2_lettersWithSecond _ 0 [(0, some (.ref k))] [] _
  refine am_iconst (n := 1) (v := 0) dX2_lettersWithSecond_0 rfl rfl ?_
  refine am_istore_n (n := 2) (i := 1) dX2_lettersWithSecond_1 rfl (Nat.le_of_ble_eq_true rfl) rfl rfl ?_
  refine am_iconst (n := 3) (v := 0) dX2_lettersWithSecond_2 rfl rfl ?_
  refine am_istore_n (n := 4) (i := 2) dX2_lettersWithSecond_3 rfl (Nat.le_of_ble_eq_true rfl) rfl rfl ?_
  refine am_loc [(0, some (.ref k)), (1, some (.int (orF (fun l => if E.2.1 l = 0 then 0 else sh1 l) 0))), (2, some (.int (nI 0)))] rfl ?_
  refine loop_up (Wp := fun i => AW g mmX2_lettersWithSecond _ 4 [(0, some (.ref k)), (1, some (.int (orF (fun l => if E.2.1 l = 0 then 0 else sh1 l) i))), (2, some (.int (nI i)))] [] h) 26 ?_ ?_ 0 (by omega)
  · refine am_iload_n (n := 5) (i := 2) dX2_lettersWithSecond_4 rfl rfl rfl ?_
    refine am_bipush (n := 7) (v := 26) dX2_lettersWithSecond_5 rfl rfl ?_
    refine am_icmp_ge (tgt := 33) (n := 10) dX2_lettersWithSecond_7 (by decide) rfl (fun _ => ?_) (fun q => absurd (by decide) q)
    refine am_iload_n (n := 34) (i := 1) dX2_lettersWithSecond_33 rfl rfl rfl ?_
    refine am_iret dX2_lettersWithSecond_34 rfl rfl ?_
    exact ⟨rfl, rfl⟩
  · intro i hi K
    refine am_iload_n (n := 5) (i := 2) dX2_lettersWithSecond_4 rfl rfl rfl ?_
    refine am_bipush (n := 7) (v := 26) dX2_lettersWithSecond_5 rfl rfl ?_
    refine am_icmp_ge (tgt := 33) (n := 10) dX2_lettersWithSecond_7 (by decide) rfl (fun q => absurd q (nI_ge hi (by decide))) (fun _ => ?_)
    refine am_aload_n (n := 11) (i := 0) dX2_lettersWithSecond_10 rfl rfl rfl ?_
    refine gfX2_lettersWithSecond_15 (n := 14) dX2_lettersWithSecond_11 (by first | assumption | exact isC_of (by decide +kernel)) rfl ?_
    refine am_iload_n (n := 15) (i := 2) dX2_lettersWithSecond_14 rfl rfl rfl ?_
    refine am_iald (n := 16) dX2_lettersWithSecond_15 (by first | assumption | exact isC_of (by decide +kernel)) (by first | assumption | exact vp_in_nI (by omega) (by omega) | decide) rfl ?_
    refine am_bipush (n := 18) (v := (-6)) dX2_lettersWithSecond_16 rfl rfl ?_
    have e : h.1 (k + 2) (nI i).toNatClampNeg = sec (E.2.1 i) := by rw [nI_clamp (by omega)]; exact (hE.1 i hi).2
    have hv := (hV.1 i hi).2.1
    rw [e]
    have eo : orF (fun l => if E.2.1 l = 0 then 0 else sh1 l) (i + 1) = orF (fun l => if E.2.1 l = 0 then 0 else sh1 l) i ||| (if E.2.1 i = 0 then 0 else sh1 i) := rfl
    refine am_icmp_eq (tgt := 27) (n := 21) dX2_lettersWithSecond_18 (by decide) rfl (fun c_18 => ?_) (fun c_18 => ?_)
    · have hn : E.2.1 i = 0 := (sec_none hv).mp c_18
      rw [if_pos hn, or_0] at eo
      rw [eo] at K
      first | refine am_iincN (n := 30) dX2_lettersWithSecond_27 rfl rfl rfl ?_ | refine am_iinc1 (n := 30) dX2_lettersWithSecond_27 rfl rfl rfl ?_
      refine am_goto (tgt := 4) dX2_lettersWithSecond_30 (by decide) ?_
      exact am_loc _ rfl K
    · have hn : ¬ E.2.1 i = 0 := fun q => c_18 ((sec_none hv).mpr q)
      rw [if_neg hn] at eo
      rw [eo] at K
      refine am_iload_n (n := 22) (i := 1) dX2_lettersWithSecond_21 rfl rfl rfl ?_
      refine am_iconst (n := 23) (v := 1) dX2_lettersWithSecond_22 rfl rfl ?_
      refine am_iload_n (n := 24) (i := 2) dX2_lettersWithSecond_23 rfl rfl rfl ?_
      refine am_ishl (n := 25) dX2_lettersWithSecond_24 rfl ?_
      refine am_ior (n := 26) dX2_lettersWithSecond_25 rfl ?_
      refine am_istore_n (n := 27) (i := 1) dX2_lettersWithSecond_26 rfl (Nat.le_of_ble_eq_true rfl) rfl rfl ?_
      first | refine am_iincN (n := 30) dX2_lettersWithSecond_27 rfl rfl rfl ?_ | refine am_iinc1 (n := 30) dX2_lettersWithSecond_27 rfl rfl rfl ?_
      refine am_goto (tgt := 4) dX2_lettersWithSecond_30 (by decide) ?_
      exact am_loc _ rfl K
set_option maxRecDepth 100000 in
set_option maxHeartbeats 4000000 in
theorem ac_X2_loseSameSecond (g : Gx) (k l : Nat) (h : Hp) (hk : isEar k) (hl : l < 26) : AD g yX2_loseSameSecond wsX2_loseSameSecond rmX2_loseSameSecond [.ref k, .int (nI l)] h none (if h.1 (k + 2) l = h.1 (k + 1) l then setI h (k + 2) (upd (h.1 (k + 2)) l (-6)) else h) := by
  obtain ⟨k0, k1, k2, k3, k4, k5, k6⟩ := hk
  have e : (nI l).toNatClampNeg = l := nI_clamp (by omega)
  refine AC.of (cc := cX2_loseSameSecond) (maxL := 2) (ret := none) (by decide +kernel) rfl (Nat.le_of_ble_eq_true rfl) ?_
  show AW g mmX2_loseSameSecond _ 0 [(0, some (.ref k)), (1, some (.int (nI l)))] [] _
  refine am_aload_n (n := 1) (i := 0) dX2_loseSameSecond_0 rfl rfl rfl ?_
  refine gfX2_loseSameSecond_15 (n := 4) dX2_loseSameSecond_1 (by first | assumption | exact isC_of (by decide +kernel)) rfl ?_
  refine am_iload_n (n := 5) (i := 1) dX2_loseSameSecond_4 rfl rfl rfl ?_
  refine am_iald (n := 6) dX2_loseSameSecond_5 (by first | assumption | exact isC_of (by decide +kernel)) (by first | assumption | exact vp_in_nI (by omega) (by omega) | decide) rfl ?_
  refine am_aload_n (n := 7) (i := 0) dX2_loseSameSecond_6 rfl rfl rfl ?_
  refine gfX2_loseSameSecond_9 (n := 10) dX2_loseSameSecond_7 (by first | assumption | exact isC_of (by decide +kernel)) rfl ?_
  refine am_iload_n (n := 11) (i := 1) dX2_loseSameSecond_10 rfl rfl rfl ?_
  refine am_iald (n := 12) dX2_loseSameSecond_11 (by first | assumption | exact isC_of (by decide +kernel)) (by first | assumption | exact vp_in_nI (by omega) (by omega) | decide) rfl ?_
  rw [e]
  refine am_icmp_ne (tgt := 23) (n := 15) dX2_loseSameSecond_12 (by decide) rfl (fun c_12 => ?_) (fun c_12 => ?_)
  · rw [if_neg c_12]
    refine am_vret dX2_loseSameSecond_23 rfl ?_
    exact ⟨rfl, rfl⟩
  · rw [if_pos c_12]
    refine am_aload_n (n := 16) (i := 0) dX2_loseSameSecond_15 rfl rfl rfl ?_
    refine gfX2_loseSameSecond_15 (n := 19) dX2_loseSameSecond_16 (by first | assumption | exact isC_of (by decide +kernel)) rfl ?_
    refine am_iload_n (n := 20) (i := 1) dX2_loseSameSecond_19 rfl rfl rfl ?_
    refine am_bipush (n := 22) (v := (-6)) dX2_loseSameSecond_20 rfl rfl ?_
    refine am_iast (n := 23) dX2_loseSameSecond_22 (by first | assumption | exact isC_of (by decide +kernel)) (by first | assumption | exact vp_in_nI (by omega) (by omega) | decide) rfl ?_
    rw [e]
    refine am_vret dX2_loseSameSecond_23 rfl ?_
    exact ⟨rfl, rfl⟩
