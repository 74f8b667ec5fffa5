/-! Ear: whole copies, mergers -/
set_option maxRecDepth 100000 in
set_option maxHeartbeats 4000000 in
theorem ac_X2_beAsAtFirst (g : Gx) (k : Nat) (h : Hp) (hk : isEar k) : AC g yX2_beAsAtFirst wsX2_beAsAtFirst rmX2_beAsAtFirst [.ref k] h (fun r h' => r = none ∧ RE k E0 h' ∧ FrI k (k + 6) h h') := by
  obtain ⟨k0, k1, k2, k3, k4, k5, k6⟩ := hk
  refine AC.of (cc := cX2_beAsAtFirst) (maxL := 2) (ret := none) (by decide +kernel) rfl (Nat.le_of_ble_eq_true rfl) ?_
  show AW g mmX2_beAsAtFirst _ 0 [(0, some (.ref k))] [] _
  refine am_iconst (n := 1) (v := 0) dX2_beAsAtFirst_0 rfl rfl ?_
  refine am_istore_n (n := 2) (i := 1) dX2_beAsAtFirst_1 rfl (Nat.le_of_ble_eq_true rfl) rfl rfl ?_
  refine am_loc [(0, some (.ref k)), (1, some (.int (nI 0)))] rfl ?_
  refine loop_up (Wp := fun i => ∀ h1 : Hp, (∀ l, l < i → h1.1 (k + 1) l = firstK l ∧ h1.1 (k + 2) l = -6) → FrI k (k + 6) h h1 → AW g mmX2_beAsAtFirst _ 2 [(0, some (.ref k)), (1, some (.int (nI i)))] [] h1) 26 ?_ ?_ 0 (by omega) h (fun l hl => by omega) FrI.rf
  · intro h1 H F
    refine am_iload_n (n := 3) (i := 1) dX2_beAsAtFirst_2 rfl rfl rfl ?_
    refine am_bipush (n := 5) (v := 26) dX2_beAsAtFirst_3 rfl rfl ?_
    refine am_icmp_ge (tgt := 33) (n := 8) dX2_beAsAtFirst_5 (by decide) rfl (fun _ => ?_) (fun q => absurd (by decide) q)
    refine am_aload_n (n := 34) (i := 0) dX2_beAsAtFirst_33 rfl rfl rfl ?_
    refine am_iconst (n := 35) (v := 0) dX2_beAsAtFirst_34 rfl rfl ?_
    refine pfX2_beAsAtFirst_36 (n := 38) dX2_beAsAtFirst_35 (by first | assumption | exact isC_of (by decide +kernel)) rfl ?_
    refine am_aload_n (n := 39) (i := 0) dX2_beAsAtFirst_38 rfl rfl rfl ?_
    refine am_iconst (n := 40) (v := 0) dX2_beAsAtFirst_39 rfl rfl ?_
    refine pfX2_beAsAtFirst_40 (n := 43) dX2_beAsAtFirst_40 (by first | assumption | exact isC_of (by decide +kernel)) rfl ?_
    refine am_vret dX2_beAsAtFirst_43 rfl ?_
    refine ⟨rfl, ⟨fun l hl => ?_, ?_, ?_, fun j q hj => ?_⟩, (F.set _ (by omega) (by omega)).set _ (by omega) (by omega)⟩
    · simp (disch := omega) only [setI_n]
      rw [(H l hl).1, (H l hl).2]
      exact ⟨(firstKN l hl).1, rfl⟩
    · simp (disch := omega) only [setI_n, setI_s, upd]
      rfl
    · simp (disch := omega) only [setI_n, setI_s, upd]
      rfl
    · cases hj
  · intro i hi K h1 H F
    refine am_iload_n (n := 3) (i := 1) dX2_beAsAtFirst_2 rfl rfl rfl ?_
    refine am_bipush (n := 5) (v := 26) dX2_beAsAtFirst_3 rfl rfl ?_
    refine am_icmp_ge (tgt := 33) (n := 8) dX2_beAsAtFirst_5 (by decide) rfl (fun q => absurd q (nI_ge hi (by decide))) (fun _ => ?_)
    refine am_aload_n (n := 9) (i := 0) dX2_beAsAtFirst_8 rfl rfl rfl ?_
    refine gfX2_beAsAtFirst_9 (n := 12) dX2_beAsAtFirst_9 (by first | assumption | exact isC_of (by decide +kernel)) rfl ?_
    refine am_iload_n (n := 13) (i := 1) dX2_beAsAtFirst_12 rfl rfl rfl ?_
    refine am_gets (n := 16) dX2_beAsAtFirst_13 (by decide +kernel) rfl ?_
    refine am_iload_n (n := 17) (i := 1) dX2_beAsAtFirst_16 rfl rfl rfl ?_
    refine am_ti (n := 18) dX2_beAsAtFirst_17 (vp_in_nI hi (by decide)) rfl ?_
    refine am_iast (n := 19) dX2_beAsAtFirst_18 (by first | assumption | exact isC_of (by decide +kernel)) (by first | assumption | exact vp_in_nI (by omega) (by omega) | decide) rfl ?_
    refine am_aload_n (n := 20) (i := 0) dX2_beAsAtFirst_19 rfl rfl rfl ?_
    refine gfX2_beAsAtFirst_15 (n := 23) dX2_beAsAtFirst_20 (by first | assumption | exact isC_of (by decide +kernel)) rfl ?_
    refine am_iload_n (n := 24) (i := 1) dX2_beAsAtFirst_23 rfl rfl rfl ?_
    refine am_bipush (n := 26) (v := (-6)) dX2_beAsAtFirst_24 rfl rfl ?_
    refine am_iast (n := 27) dX2_beAsAtFirst_26 (by first | assumption | exact isC_of (by decide +kernel)) (by first | assumption | exact vp_in_nI (by omega) (by omega) | decide) rfl ?_
    first | refine am_iincN (n := 30) dX2_beAsAtFirst_27 rfl rfl rfl ?_ | refine am_iinc1 (n := 30) dX2_beAsAtFirst_27 rfl rfl rfl ?_
    refine am_goto (tgt := 2) dX2_beAsAtFirst_30 (by decide) ?_
    refine am_loc [(0, some (.ref k)), (1, some (.int (nI (i + 1))))] rfl ?_
    refine K _ (fun l hl => ?_) ((F.set _ (by omega) (by omega)).set _ (by omega) (by omega))
    have e : (nI i).toNatClampNeg = i := nI_clamp (by omega)
    simp (disch := omega) only [setI_n, setI_s, e]
    by_cases z : l = i
    · subst z
      simp [upd]
    · simp only [upd, if_neg z]
      exact H l (by omega)
set_option maxRecDepth 100000 in
set_option maxHeartbeats 8000000 in
theorem ac_X2_beAs (g : Gx) (k b : Nat) (E : EV) (h : Hp) (hk : isEar k) (hb : isEar b) (hE : RE b E h) (hV : VE E) (hd : k + 6 < b ∨ b + 6 < k) : AC g yX2_beAs wsX2_beAs rmX2_beAs [.ref k, .ref b] h (fun r h' => r = none ∧ RE k E h' ∧ FrI k (k + 6) h h') := by
  obtain ⟨k0, k1, k2, k3, k4, k5, k6⟩ := hk
  obtain ⟨b0, b1, b2, b3, b4, b5, b6⟩ := hb
  refine AC.of (cc := cX2_beAs) (maxL := 2) (ret := none) (by decide +kernel) rfl (Nat.le_of_ble_eq_true rfl) ?_
  show AW g mmX2_beAs _ 0 [(0, some (.ref k)), (1, some (.ref b))] [] _
  refine am_aload_n (n := 1) (i := 1) dX2_beAs_0 rfl rfl rfl ?_
  refine gfX2_beAs_9 (n := 4) dX2_beAs_1 (by first | assumption | exact isC_of (by decide +kernel)) rfl ?_
  refine am_iconst (n := 5) (v := 0) dX2_beAs_4 rfl rfl ?_
  refine am_aload_n (n := 6) (i := 0) dX2_beAs_5 rfl rfl rfl ?_
  refine gfX2_beAs_9 (n := 9) dX2_beAs_6 (by first | assumption | exact isC_of (by decide +kernel)) rfl ?_
  refine am_iconst (n := 10) (v := 0) dX2_beAs_9 rfl rfl ?_
  refine am_bipush (n := 12) (v := 26) dX2_beAs_10 rfl rfl ?_
  refine am_copyi (n := 15) dX2_beAs_12 (by decide +kernel) (by decide +kernel) (by decide +kernel) (by decide +kernel) (Nat.le_of_ble_eq_true rfl) (Nat.le_of_ble_eq_true rfl) (by first | assumption | exact isC_of (by decide +kernel)) (by first | assumption | exact isC_of (by decide +kernel)) (by decide) (by decide) (by decide) (by decide) (by decide) rfl ?_
  refine am_aload_n (n := 16) (i := 1) dX2_beAs_15 rfl rfl rfl ?_
  refine gfX2_beAs_15 (n := 19) dX2_beAs_16 (by first | assumption | exact isC_of (by decide +kernel)) rfl ?_
  refine am_iconst (n := 20) (v := 0) dX2_beAs_19 rfl rfl ?_
  refine am_aload_n (n := 21) (i := 0) dX2_beAs_20 rfl rfl rfl ?_
  refine gfX2_beAs_15 (n := 24) dX2_beAs_21 (by first | assumption | exact isC_of (by decide +kernel)) rfl ?_
  refine am_iconst (n := 25) (v := 0) dX2_beAs_24 rfl rfl ?_
  refine am_bipush (n := 27) (v := 26) dX2_beAs_25 rfl rfl ?_
  refine am_copyi (n := 30) dX2_beAs_27 (by decide +kernel) (by decide +kernel) (by decide +kernel) (by decide +kernel) (Nat.le_of_ble_eq_true rfl) (Nat.le_of_ble_eq_true rfl) (by first | assumption | exact isC_of (by decide +kernel)) (by first | assumption | exact isC_of (by decide +kernel)) (by decide) (by decide) (by decide) (by decide) (by decide) rfl ?_
  refine am_aload_n (n := 31) (i := 0) dX2_beAs_30 rfl rfl rfl ?_
  refine am_aload_n (n := 32) (i := 1) dX2_beAs_31 rfl rfl rfl ?_
  refine gfX2_beAs_36 (n := 35) dX2_beAs_32 (by first | assumption | exact isC_of (by decide +kernel)) rfl ?_
  refine pfX2_beAs_36 (n := 38) dX2_beAs_35 (by first | assumption | exact isC_of (by decide +kernel)) rfl ?_
  refine am_aload_n (n := 39) (i := 0) dX2_beAs_38 rfl rfl rfl ?_
  refine am_aload_n (n := 40) (i := 1) dX2_beAs_39 rfl rfl rfl ?_
  refine gfX2_beAs_40 (n := 43) dX2_beAs_40 (by first | assumption | exact isC_of (by decide +kernel)) rfl ?_
  refine pfX2_beAs_40 (n := 46) dX2_beAs_43 (by first | assumption | exact isC_of (by decide +kernel)) rfl ?_
  refine am_aload_n (n := 47) (i := 1) dX2_beAs_46 rfl rfl rfl ?_
  refine gfX2_beAs_18 (n := 50) dX2_beAs_47 (by first | assumption | exact isC_of (by decide +kernel)) rfl ?_
  refine am_iconst (n := 51) (v := 0) dX2_beAs_50 rfl rfl ?_
  refine am_aload_n (n := 52) (i := 0) dX2_beAs_51 rfl rfl rfl ?_
  refine gfX2_beAs_18 (n := 55) dX2_beAs_52 (by first | assumption | exact isC_of (by decide +kernel)) rfl ?_
  refine am_iconst (n := 56) (v := 0) dX2_beAs_55 rfl rfl ?_
  refine am_bipush (n := 58) (v := 6) dX2_beAs_56 rfl rfl ?_
  refine am_copyi (n := 61) dX2_beAs_58 (by decide +kernel) (by decide +kernel) (by decide +kernel) (by decide +kernel) (Nat.le_of_ble_eq_true rfl) (Nat.le_of_ble_eq_true rfl) (by first | assumption | exact isC_of (by decide +kernel)) (by first | assumption | exact isC_of (by decide +kernel)) (by decide) (by decide) (by decide) (by decide) (by decide) rfl ?_
  refine am_aload_n (n := 62) (i := 1) dX2_beAs_61 rfl rfl rfl ?_
  refine gfX2_beAs_21 (n := 65) dX2_beAs_62 (by first | assumption | exact isC_of (by decide +kernel)) rfl ?_
  refine am_iconst (n := 66) (v := 0) dX2_beAs_65 rfl rfl ?_
  refine am_aload_n (n := 67) (i := 0) dX2_beAs_66 rfl rfl rfl ?_
  refine gfX2_beAs_21 (n := 70) dX2_beAs_67 (by first | assumption | exact isC_of (by decide +kernel)) rfl ?_
  refine am_iconst (n := 71) (v := 0) dX2_beAs_70 rfl rfl ?_
  refine am_bipush (n := 73) (v := 6) dX2_beAs_71 rfl rfl ?_
  refine am_copyi (n := 76) dX2_beAs_73 (by decide +kernel) (by decide +kernel) (by decide +kernel) (by decide +kernel) (Nat.le_of_ble_eq_true rfl) (Nat.le_of_ble_eq_true rfl) (by first | assumption | exact isC_of (by decide +kernel)) (by first | assumption | exact isC_of (by decide +kernel)) (by decide) (by decide) (by decide) (by decide) (by decide) rfl ?_
  refine am_aload_n (n := 77) (i := 1) dX2_beAs_76 rfl rfl rfl ?_
  refine gfX2_beAs_24 (n := 80) dX2_beAs_77 (by first | assumption | exact isC_of (by decide +kernel)) rfl ?_
  refine am_iconst (n := 81) (v := 0) dX2_beAs_80 rfl rfl ?_
  refine am_aload_n (n := 82) (i := 0) dX2_beAs_81 rfl rfl rfl ?_
  refine gfX2_beAs_24 (n := 85) dX2_beAs_82 (by first | assumption | exact isC_of (by decide +kernel)) rfl ?_
  refine am_iconst (n := 86) (v := 0) dX2_beAs_85 rfl rfl ?_
  refine am_bipush (n := 88) (v := 6) dX2_beAs_86 rfl rfl ?_
  refine am_copyi (n := 91) dX2_beAs_88 (by decide +kernel) (by decide +kernel) (by decide +kernel) (by decide +kernel) (Nat.le_of_ble_eq_true rfl) (Nat.le_of_ble_eq_true rfl) (by first | assumption | exact isC_of (by decide +kernel)) (by first | assumption | exact isC_of (by decide +kernel)) (by decide) (by decide) (by decide) (by decide) (by decide) rfl ?_
  refine am_aload_n (n := 92) (i := 1) dX2_beAs_91 rfl rfl rfl ?_
  refine gfX2_beAs_27 (n := 95) dX2_beAs_92 (by first | assumption | exact isC_of (by decide +kernel)) rfl ?_
  refine am_iconst (n := 96) (v := 0) dX2_beAs_95 rfl rfl ?_
  refine am_aload_n (n := 97) (i := 0) dX2_beAs_96 rfl rfl rfl ?_
  refine gfX2_beAs_27 (n := 100) dX2_beAs_97 (by first | assumption | exact isC_of (by decide +kernel)) rfl ?_
  refine am_iconst (n := 101) (v := 0) dX2_beAs_100 rfl rfl ?_
  refine am_bipush (n := 103) (v := 6) dX2_beAs_101 rfl rfl ?_
  refine am_copyi (n := 106) dX2_beAs_103 (by decide +kernel) (by decide +kernel) (by decide +kernel) (by decide +kernel) (Nat.le_of_ble_eq_true rfl) (Nat.le_of_ble_eq_true rfl) (by first | assumption | exact isC_of (by decide +kernel)) (by first | assumption | exact isC_of (by decide +kernel)) (by decide) (by decide) (by decide) (by decide) (by decide) rfl ?_
  refine am_vret dX2_beAs_106 rfl ?_
  refine ⟨rfl, ⟨fun l hl => ?_, ?_, ?_, fun j q hj => ?_⟩, ((((((((FrI.rf.set _ (by omega) (by omega)).set _ (by omega) (by omega)).set _ (by omega) (by omega)).set _ (by omega) (by omega)).set _ (by omega) (by omega)).set _ (by omega) (by omega)).set _ (by omega) (by omega)).set _ (by omega) (by omega))⟩
  · simp (disch := omega) only [setI_n, setI_s]
    exact ⟨(pk_cpy_in (Nat.zero_le _) (by simpa using hl)).trans (by simpa using (hE.1 l hl).1), (pk_cpy_in (Nat.zero_le _) (by simpa using hl)).trans (by simpa using (hE.1 l hl).2)⟩
  · simp (disch := omega) only [setI_n, setI_s, upd]
    simpa using hE.2.1
  · simp (disch := omega) only [setI_n, setI_s, upd]
    simpa using hE.2.2.1
  · have hj6 : j < 6 := by
      have := (List.getElem?_eq_some_iff.mp hj).1
      have := hV.2.2.1
      omega
    obtain ⟨q1, q2, q3, q4⟩ := hE.2.2.2 j q hj
    simp (disch := omega) only [setI_n, setI_s]
    exact ⟨(pk_cpy_in (Nat.zero_le _) (by simpa using hj6)).trans (by simpa using q1), (pk_cpy_in (Nat.zero_le _) (by simpa using hj6)).trans (by simpa using q2), (pk_cpy_in (Nat.zero_le _) (by simpa using hj6)).trans (by simpa using q3), (pk_cpy_in (Nat.zero_le _) (by simpa using hj6)).trans (by simpa using q4)⟩
