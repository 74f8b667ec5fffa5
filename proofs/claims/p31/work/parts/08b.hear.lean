/-! Ear: hearing -/
set_option maxRecDepth 100000 in
set_option maxHeartbeats 8000000 in
theorem ac_X2_byHabit (g : Gx) (k n p : Nat) (E : EV) (h : Hp) (hk : isEar k) (hE : RE k E h) (hV : VE E) (hn : VW n) (hp : p < wsz n) : AD g yX2_byHabit wsX2_byHabit rmX2_byHabit [.ref k, .long (lN n), .int (nI p)] h (some (.int (nI (bh E.2.2.1 n p) - 1))) h := by
  obtain ⟨k0, k1, k2, k3, k4, k5, k6⟩ := hk
  have hz := wsz_le n
  have hh : h.1 k 2 = nI E.2.2.1 := hE.2.1
  have h8 : E.2.2.1 < 8 := Nat.lt_succ_of_le hV.2.1
  generalize hab : E.2.2.1 = ha at hh h8
  have w0 := wsz_in hp
  have w26 := hn.2.1 p
  refine AC.of (cc := cX2_byHabit) (maxL := 6) (ret := (some .int)) (by decide +kernel) rfl (Nat.le_of_ble_eq_true rfl) ?_
  show AW g mmX2_byHabit _ 0 [(0, some (.ref k)), (1, some (.long (lN n))), (3, some (.int (nI p)))] [] _
  refine am_aload_n (n := 1) (i := 0) dX2_byHabit_0 rfl rfl rfl ?_
  refine gfX2_byHabit_36 (n := 4) dX2_byHabit_1 (by first | assumption | exact isC_of (by decide +kernel)) rfl ?_
  rw [hh]
  by_cases hz0 : ha = 0
  · refine am_if_ne (tgt := 9) (n := 7) dX2_byHabit_4 (by decide) rfl (fun q => absurd (by rw [hz0]; rfl) q) (fun _ => ?_)
    refine am_iconst (n := 8) (v := (-1)) dX2_byHabit_7 rfl rfl ?_
    refine am_iret dX2_byHabit_8 rfl rfl ?_
    have e : bh ha n p = 0 := by
      subst hz0
      unfold bh
      simp
    rw [e]
    exact ⟨rfl, rfl⟩
  · refine am_if_ne (tgt := 9) (n := 7) dX2_byHabit_4 (by decide) rfl (fun _ => ?_) (fun q => absurd q (nI_ne0 (by omega) (by omega)))
    refine am_lload_n (n := 10) (i := 1) dX2_byHabit_9 rfl rfl rfl ?_
    refine am_iload_n (n := 11) (i := 3) dX2_byHabit_10 rfl rfl rfl ?_
    refine cdX2_byHabit_68 (n := 14) dX2_byHabit_11 ⟨rfl, rfl⟩ (ac_X6_letterAt g n p h hn.1 (by omega)) rfl rfl (Nat.le_of_ble_eq_true rfl) rfl ?_
    refine am_istore (n := 16) dX2_byHabit_14 (Nat.le_of_ble_eq_true rfl) rfl rfl ?_
    refine am_iload_n (n := 17) (i := 3) dX2_byHabit_16 rfl rfl rfl ?_
    by_cases hp0 : p = 0
    · subst hp0
      refine am_if_ne (tgt := 39) (n := 20) dX2_byHabit_17 (by decide) rfl (fun q => absurd rfl q) (fun _ => ?_)
      refine am_aload_n (n := 21) (i := 0) dX2_byHabit_20 rfl rfl rfl ?_
      refine gfX2_byHabit_36 (n := 24) dX2_byHabit_21 (by first | assumption | exact isC_of (by decide +kernel)) rfl ?_
      refine am_iconst (n := 25) (v := 4) dX2_byHabit_24 rfl rfl ?_
      refine am_iand (n := 26) dX2_byHabit_25 rfl ?_
      rw [hh]
      have e : bh ha n 0 = if ha / 4 % 2 = 1 then 10 + wl n 0 else 0 := by unfold bh; rw [if_pos rfl]
      rw [e]
      by_cases h4 : ha / 4 % 2 = 1
      · rw [if_pos h4]
        refine am_if_eq (tgt := 37) (n := 29) dX2_byHabit_26 (by decide) rfl (fun q => absurd q (fun q => (hab_4 ha h8).mp q h4)) (fun _ => ?_)
        refine am_bipush (n := 31) (v := 10) dX2_byHabit_29 rfl rfl ?_
        refine am_iload (n := 33) dX2_byHabit_31 rfl rfl ?_
        refine am_iadd (n := 34) dX2_byHabit_33 rfl ?_
        refine am_goto (tgt := 38) dX2_byHabit_34 (by decide) ?_
        refine am_iret dX2_byHabit_38 rfl rfl ?_
        refine ⟨congrArg (fun z => some (Value.int z)) ?_, rfl⟩
        rw [nI_m1 w0, nI_m1 (by omega), show (10 : Int32) = nI 10 from rfl, nI_add]
        congr 1
        omega
      · rw [if_neg h4]
        refine am_if_eq (tgt := 37) (n := 29) dX2_byHabit_26 (by decide) rfl (fun _ => ?_) (fun q => absurd ((hab_4 ha h8).mpr h4) q)
        refine am_iconst (n := 38) (v := (-1)) dX2_byHabit_37 rfl rfl ?_
        refine am_iret dX2_byHabit_38 rfl rfl ?_
        exact ⟨rfl, rfl⟩
    · refine am_if_ne (tgt := 39) (n := 20) dX2_byHabit_17 (by decide) rfl (fun _ => ?_) (fun q => absurd q (nI_ne0 (by omega) (by omega)))
      have e : bh ha n p = if wl n p = 8 ∧ ha % 2 = 1 ∧ (wl n (p - 1) = 3 ∨ wl n (p - 1) = 16 ∨ wl n (p - 1) = 19 ∨ wl n (p - 1) = 20) then 1 else if wl n p = 19 ∧ ha / 2 % 2 = 1 ∧ wl n (p + 1) = 0 then 1 else 0 := by unfold bh; rw [if_neg hp0]
      have t93 : ∀ l : Lo, lget l 0 = some (.ref k) → lget l 1 = some (.long (lN n)) → lget l 3 = some (.int (nI p)) → lget l 4 = some (.int (nI (wl n p) - 1)) → ¬ (wl n p = 8 ∧ ha % 2 = 1 ∧ (wl n (p - 1) = 3 ∨ wl n (p - 1) = 16 ∨ wl n (p - 1) = 19 ∨ wl n (p - 1) = 20)) → AW g mmX2_byHabit (ZP g (fun r h2 => r = some (.int (nI (bh ha n p) - 1)) ∧ h2 = h)) 93 l [] h := by
        intro l l0 l1 l3 l4 hno
        rw [e, if_neg hno]
        refine am_loc [(0, some (.ref k)), (1, some (.long (lN n))), (3, some (.int (nI p))), (4, some (.int (nI (wl n p) - 1)))] (by simp only [List.map_cons, List.map_nil, l0, l1, l3, l4]) ?_
        refine am_iload (n := 95) dX2_byHabit_93 rfl rfl ?_
        refine am_bipush (n := 97) (v := 18) dX2_byHabit_95 rfl rfl ?_
        by_cases h19 : wl n p = 19
        · refine am_icmp_ne (tgt := 122) (n := 100) dX2_byHabit_97 (by decide) rfl (fun q => absurd ((lt_eq _ (by omega) 18 (by decide)).mpr h19) q) (fun _ => ?_)
          refine am_aload_n (n := 101) (i := 0) dX2_byHabit_100 rfl rfl rfl ?_
          refine gfX2_byHabit_36 (n := 104) dX2_byHabit_101 (by first | assumption | exact isC_of (by decide +kernel)) rfl ?_
          refine am_iconst (n := 105) (v := 2) dX2_byHabit_104 rfl rfl ?_
          refine am_iand (n := 106) dX2_byHabit_105 rfl ?_
          rw [hh]
          by_cases h2 : ha / 2 % 2 = 1
          · refine am_if_eq (tgt := 122) (n := 109) dX2_byHabit_106 (by decide) rfl (fun q => absurd q (fun q => (hab_2 ha h8).mp q h2)) (fun _ => ?_)
            refine am_lload_n (n := 110) (i := 1) dX2_byHabit_109 rfl rfl rfl ?_
            refine am_iload_n (n := 111) (i := 3) dX2_byHabit_110 rfl rfl rfl ?_
            refine am_iconst (n := 112) (v := 1) dX2_byHabit_111 rfl rfl ?_
            refine am_iadd (n := 113) dX2_byHabit_112 rfl ?_
            rw [nI_1]
            refine cdX2_byHabit_68 (n := 116) dX2_byHabit_113 ⟨rfl, rfl⟩ (ac_X6_letterAt g n (p + 1) h hn.1 (by omega)) rfl rfl (Nat.le_of_ble_eq_true rfl) rfl ?_
            refine am_iconst (n := 117) (v := (-1)) dX2_byHabit_116 rfl rfl ?_
            have w1 := hn.2.1 (p + 1)
            by_cases h0 : wl n (p + 1) = 0
            · refine am_icmp_ne (tgt := 122) (n := 120) dX2_byHabit_117 (by decide) rfl (fun q => absurd ((lt_m1 _ (by omega)).mpr h0) q) (fun _ => ?_)
              refine am_iconst (n := 121) (v := 0) dX2_byHabit_120 rfl rfl ?_
              refine am_iret dX2_byHabit_121 rfl rfl ?_
              rw [if_pos ⟨h19, h2, h0⟩]
              exact ⟨rfl, rfl⟩
            · refine am_icmp_ne (tgt := 122) (n := 120) dX2_byHabit_117 (by decide) rfl (fun _ => ?_) (fun q => absurd q (fun q => h0 ((lt_m1 _ (by omega)).mp q)))
              refine am_iconst (n := 123) (v := (-1)) dX2_byHabit_122 rfl rfl ?_
              refine am_iret dX2_byHabit_123 rfl rfl ?_
              rw [if_neg (fun q => h0 q.2.2)]
              exact ⟨rfl, rfl⟩
          · refine am_if_eq (tgt := 122) (n := 109) dX2_byHabit_106 (by decide) rfl (fun _ => ?_) (fun q => absurd ((hab_2 ha h8).mpr h2) q)
            refine am_iconst (n := 123) (v := (-1)) dX2_byHabit_122 rfl rfl ?_
            refine am_iret dX2_byHabit_123 rfl rfl ?_
            rw [if_neg (fun q => h2 q.2.1)]
            exact ⟨rfl, rfl⟩
        · refine am_icmp_ne (tgt := 122) (n := 100) dX2_byHabit_97 (by decide) rfl (fun _ => ?_) (fun q => absurd q (fun q => h19 ((lt_eq _ (by omega) 18 (by decide)).mp q)))
          refine am_iconst (n := 123) (v := (-1)) dX2_byHabit_122 rfl rfl ?_
          refine am_iret dX2_byHabit_123 rfl rfl ?_
          rw [if_neg (fun q => h19 q.1)]
          exact ⟨rfl, rfl⟩
      refine am_iload (n := 41) dX2_byHabit_39 rfl rfl ?_
      refine am_bipush (n := 43) (v := 7) dX2_byHabit_41 rfl rfl ?_
      by_cases h7 : wl n p = 8
      · refine am_icmp_ne (tgt := 93) (n := 46) dX2_byHabit_43 (by decide) rfl (fun q => absurd ((lt_eq _ (by omega) 7 (by decide)).mpr h7) q) (fun _ => ?_)
        refine am_aload_n (n := 47) (i := 0) dX2_byHabit_46 rfl rfl rfl ?_
        refine gfX2_byHabit_36 (n := 50) dX2_byHabit_47 (by first | assumption | exact isC_of (by decide +kernel)) rfl ?_
        refine am_iconst (n := 51) (v := 1) dX2_byHabit_50 rfl rfl ?_
        refine am_iand (n := 52) dX2_byHabit_51 rfl ?_
        rw [hh]
        by_cases h1 : ha % 2 = 1
        · refine am_if_eq (tgt := 93) (n := 55) dX2_byHabit_52 (by decide) rfl (fun q => absurd q (fun q => (hab_1 ha h8).mp q h1)) (fun _ => ?_)
          refine am_lload_n (n := 56) (i := 1) dX2_byHabit_55 rfl rfl rfl ?_
          refine am_iload_n (n := 57) (i := 3) dX2_byHabit_56 rfl rfl rfl ?_
          refine am_iconst (n := 58) (v := 1) dX2_byHabit_57 rfl rfl ?_
          refine am_isub (n := 59) dX2_byHabit_58 rfl ?_
          obtain ⟨p', hp'⟩ : ∃ p', p = p' + 1 := ⟨p - 1, by omega⟩
          rw [show nI p - 1 = nI (p - 1) from nI_m1 (by omega)]
          refine cdX2_byHabit_68 (n := 62) dX2_byHabit_59 ⟨rfl, rfl⟩ (ac_X6_letterAt g n (p - 1) h hn.1 (by omega)) rfl rfl (Nat.le_of_ble_eq_true rfl) rfl ?_
          have w1 := hn.2.1 (p - 1)
          refine am_istore (n := 64) dX2_byHabit_62 (Nat.le_of_ble_eq_true rfl) rfl rfl ?_
          refine am_iload (n := 66) dX2_byHabit_64 rfl rfl ?_
          refine am_iconst (n := 67) (v := 2) dX2_byHabit_66 rfl rfl ?_
          have yes : (wl n (p - 1) = 3 ∨ wl n (p - 1) = 16 ∨ wl n (p - 1) = 19 ∨ wl n (p - 1) = 20) → ∀ l : Lo, AW g mmX2_byHabit (ZP g (fun r h2 => r = some (.int (nI (bh ha n p) - 1)) ∧ h2 = h)) 91 l [] h := by
            intro q l
            refine am_iconst (n := 92) (v := 0) dX2_byHabit_91 rfl rfl ?_
            refine am_iret dX2_byHabit_92 rfl rfl ?_
            rw [e, if_pos ⟨h7, h1, q⟩]
            exact ⟨rfl, rfl⟩
          by_cases a3 : wl n (p - 1) = 3
          · refine am_icmp_eq (tgt := 91) (n := 70) dX2_byHabit_67 (by decide) rfl (fun _ => ?_) (fun q => absurd ((lt_eq _ (by omega) 2 (by decide)).mpr a3) q)
            exact yes (Or.inl a3) _
          · refine am_icmp_eq (tgt := 91) (n := 70) dX2_byHabit_67 (by decide) rfl (fun q => absurd q (fun q => a3 ((lt_eq _ (by omega) 2 (by decide)).mp q))) (fun _ => ?_)
            refine am_iload (n := 72) dX2_byHabit_70 rfl rfl ?_
            refine am_bipush (n := 74) (v := 15) dX2_byHabit_72 rfl rfl ?_
            by_cases a16 : wl n (p - 1) = 16
            · refine am_icmp_eq (tgt := 91) (n := 77) dX2_byHabit_74 (by decide) rfl (fun _ => ?_) (fun q => absurd ((lt_eq _ (by omega) 15 (by decide)).mpr a16) q)
              exact yes (Or.inr (Or.inl a16)) _
            · refine am_icmp_eq (tgt := 91) (n := 77) dX2_byHabit_74 (by decide) rfl (fun q => absurd q (fun q => a16 ((lt_eq _ (by omega) 15 (by decide)).mp q))) (fun _ => ?_)
              refine am_iload (n := 79) dX2_byHabit_77 rfl rfl ?_
              refine am_bipush (n := 81) (v := 18) dX2_byHabit_79 rfl rfl ?_
              by_cases a19 : wl n (p - 1) = 19
              · refine am_icmp_eq (tgt := 91) (n := 84) dX2_byHabit_81 (by decide) rfl (fun _ => ?_) (fun q => absurd ((lt_eq _ (by omega) 18 (by decide)).mpr a19) q)
                exact yes (Or.inr (Or.inr (Or.inl a19))) _
              · refine am_icmp_eq (tgt := 91) (n := 84) dX2_byHabit_81 (by decide) rfl (fun q => absurd q (fun q => a19 ((lt_eq _ (by omega) 18 (by decide)).mp q))) (fun _ => ?_)
                refine am_iload (n := 86) dX2_byHabit_84 rfl rfl ?_
                refine am_bipush (n := 88) (v := 19) dX2_byHabit_86 rfl rfl ?_
                by_cases a20 : wl n (p - 1) = 20
                · refine am_icmp_ne (tgt := 93) (n := 91) dX2_byHabit_88 (by decide) rfl (fun q => absurd ((lt_eq _ (by omega) 19 (by decide)).mpr a20) q) (fun _ => ?_)
                  exact yes (Or.inr (Or.inr (Or.inr a20))) _
                · refine am_icmp_ne (tgt := 93) (n := 91) dX2_byHabit_88 (by decide) rfl (fun _ => ?_) (fun q => absurd q (fun q => a20 ((lt_eq _ (by omega) 19 (by decide)).mp q)))
                  exact t93 _ rfl rfl rfl rfl (fun q => by omega)
        · refine am_if_eq (tgt := 93) (n := 55) dX2_byHabit_52 (by decide) rfl (fun _ => ?_) (fun q => absurd ((hab_1 ha h8).mpr h1) q)
          exact t93 _ rfl rfl rfl rfl (fun q => h1 q.2.1)
      · refine am_icmp_ne (tgt := 93) (n := 46) dX2_byHabit_43 (by decide) rfl (fun _ => ?_) (fun q => absurd q (fun q => h7 ((lt_eq _ (by omega) 7 (by decide)).mp q)))
        exact t93 _ rfl rfl rfl rfl (fun q => h7 q.1)
