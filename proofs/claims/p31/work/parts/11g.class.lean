/-! The class's calls: code, drawer, count, alike, distance, find -/
theorem csOf_len (S : SV) (E : EV) : (csOf S E).length = S.2.2.1.length := List.length_map _
set_option maxRecDepth 100000 in
set_option maxHeartbeats 400000 in
theorem cx_code (g : Gx) (x n k p : Int32) (G : GS) (h : Hp) (hX : XI G h) : CX g yX7_code wsX7_code rmX7_code [.ref 0, .int x, .int n, .int k, .int p] h (sp_code x n k p G) := by
  have c0 := isC_0
  have c100 := isSt_now.1
  have h4 := hX.2.1.2.2.2.2.1
  have h24 := hX.2.1.2.2.1
  unfold CX sp_code
  refine AC.of (cc := cX7_code) (maxL := 9) (ret := (some .int)) (by decide +kernel) rfl (Nat.le_of_ble_eq_true rfl) ?_
  show AW g mmX7_code _ 0 [(0, some (.ref 0)), (1, some (.int x)), (2, some (.int n)), (3, some (.int k)), (4, some (.int p))] [] _
  refine am_aload_n (n := 1) (i := 0) dX7_code_0 rfl rfl rfl ?_
  refine gfX7_code_10 (n := 4) dX7_code_1 (by first | assumption | exact isC_of (by decide +kernel)) rfl ?_
  refine am_iload_n (n := 5) (i := 1) dX7_code_4 rfl rfl rfl ?_
  refine caX7_code_105 (n := 8) dX7_code_5 (by first | exact ⟨rfl, rfl⟩ | assumption) (ac_X5_earAt g 100 x G.1 h isSt_now hX.1 hX.2.1) rfl rfl (Nat.le_of_ble_eq_true rfl) (by first | assumption | exact isC_of (by decide +kernel)) rfl ?_
  rintro r h' ⟨rfl, ⟨e, he, rfl, rfl⟩ | ⟨hno, rfl⟩⟩
  · have hx := List.getElem?_eq_getElem he
    obtain ⟨e4, -, iE, rE, vE⟩ := nowE hX hx
    rw [sp_E_t _ h4 he hx]
    generalize G.1.2.2.2[e] = E at *
    have i0 := iE.1
    refine am_astore (n := 10) dX7_code_8 (Nat.le_of_ble_eq_true rfl) rfl rfl ?_
    refine am_aload (n := 12) dX7_code_10 rfl rfl ?_
    refine am_ifnull (n := 15) dX7_code_12 rfl ?_
    refine am_aload_n (n := 16) (i := 0) dX7_code_15 rfl rfl rfl ?_
    refine gfX7_code_10 (n := 19) dX7_code_16 (by first | assumption | exact isC_of (by decide +kernel)) rfl ?_
    refine am_iload_n (n := 20) (i := 2) dX7_code_19 rfl rfl rfl ?_
    refine cdX7_code_97 (n := 23) dX7_code_20 (by first | exact ⟨rfl, rfl⟩ | assumption) (ac_X5_hasName g 100 n G.1 h' isSt_now hX.1 hX.2.1) rfl rfl (Nat.le_of_ble_eq_true rfl) (by first | assumption | exact isC_of (by decide +kernel)) rfl ?_
    cases hn : inN n G.1.2.2.1.length with
    | false =>
      rw [if_neg (by decide)]
      refine am_if_ne (tgt := 28) (n := 26) dX7_code_23 (by decide) rfl (fun q_z => absurd rfl q_z) (fun _ => ?_)
      refine am_iconst (n := 27) (v := (-1)) dX7_code_26 rfl rfl ?_
      refine am_iret dX7_code_27 rfl rfl ?_
      exact ⟨rfl, hX, FM.rf⟩
    | true =>
      rw [if_pos rfl]
      obtain ⟨i, hi, rfl⟩ := inN_t (by omega) hn
      rw [tn_nI (by omega)]
      refine am_if_ne (tgt := 28) (n := 26) dX7_code_23 (by decide) rfl (fun _ => ?_) (fun q_z => absurd q_z (by decide))
      refine am_aload_n (n := 29) (i := 0) dX7_code_28 rfl rfl rfl ?_
      refine gfX7_code_41 (n := 32) dX7_code_29 (by first | assumption | exact isC_of (by decide +kernel)) rfl ?_
      refine am_aload_n (n := 33) (i := 0) dX7_code_32 rfl rfl rfl ?_
      refine gfX7_code_10 (n := 36) dX7_code_33 (by first | assumption | exact isC_of (by decide +kernel)) rfl ?_
      refine am_aload (n := 38) dX7_code_36 rfl rfl ?_
      refine caX7_code_177 (n := 41) dX7_code_38 (by first | exact ⟨rfl, rfl⟩ | assumption) (ac_X1_fill g 6 100 (100 + 10 * (e + 1)) G.1 E h' isDr_6 isSt_now iE hX.1 hX.2.1 rE vE (by omega) (by omega)) rfl rfl (Nat.le_of_ble_eq_true rfl) (by first | assumption | exact isC_of (by decide +kernel)) rfl ?_
      rintro r h1 ⟨rfl, F1, R1⟩
      have X1 := hX.scr F1 (by omega) (by omega)
      have FM1 : FM h' h1 := FM.fi F1 (by omega)
      have hV := VC_of hX.2.1 vE
      have hi2 : i < (csOf G.1 E).length := by rw [csOf_len]; exact hi
      generalize csOf G.1 E = cs at *
      have hl4 : (cN cs i).length ≤ 4 ∧ ∀ c ∈ cN cs i, c < 2 ^ 30 := by
        have q := cN_of (List.getElem?_eq_getElem hi2)
        rw [q]
        have := hV.2 _ (List.getElem_mem hi2)
        exact ⟨this.1, this.2.2.1⟩
      unfold cdS
      refine am_iload_n (n := 42) (i := 3) dX7_code_41 rfl rfl rfl ?_
      refine am_iconst (n := 43) (v := 0) dX7_code_42 rfl rfl ?_
      refine am_aload_n (n := 44) (i := 0) dX7_code_43 rfl rfl rfl ?_
      refine gfX7_code_41 (n := 47) dX7_code_44 (by first | assumption | exact isC_of (by decide +kernel)) rfl ?_
      refine am_iload_n (n := 48) (i := 2) dX7_code_47 rfl rfl rfl ?_
      refine cdX7_code_196 (n := 51) dX7_code_48 (by first | exact ⟨rfl, rfl⟩ | assumption) (ac_X1_codesOf g 6 i cs h1 isDr_6 R1 hV hi2) rfl rfl (Nat.le_of_ble_eq_true rfl) (by first | assumption | exact isC_of (by decide +kernel)) rfl ?_
      refine am_iconst (n := 52) (v := 1) dX7_code_51 rfl rfl ?_
      refine am_isub (n := 53) dX7_code_52 rfl ?_
      refine cdX7_code_62 (n := 56) dX7_code_53 (by first | exact ⟨rfl, rfl⟩ | assumption) (ac_X7_isWithin g k 0 (nI (cN cs i).length - 1) h1) rfl rfl (Nat.le_of_ble_eq_true rfl) rfl ?_
      rw [inN_pred k (show (cN cs i).length < 2 ^ 31 by omega)]
      cases hk : inN k (cN cs i).length with
      | false =>
        rw [if_neg (by decide)]
        refine am_if_ne (tgt := 61) (n := 59) dX7_code_56 (by decide) rfl (fun q_z => absurd rfl q_z) (fun _ => ?_)
        refine am_iconst (n := 60) (v := (-1)) dX7_code_59 rfl rfl ?_
        refine am_iret dX7_code_60 rfl rfl ?_
        exact ⟨rfl, X1, FM1⟩
      | true =>
        rw [if_pos rfl]
        obtain ⟨j, hj, rfl⟩ := inN_t (by omega) hk
        rw [tn_nI (by omega)]
        have hjc := gD_at hj
        have hc30 := hl4.2 _ (List.mem_of_getElem? hjc)
        generalize (cN cs i).getD j 0 = c at *
        refine am_if_ne (tgt := 61) (n := 59) dX7_code_56 (by decide) rfl (fun _ => ?_) (fun q_z => absurd q_z (by decide))
        refine am_iload (n := 63) dX7_code_61 rfl rfl ?_
        refine am_iconst (n := 64) (v := 0) dX7_code_63 rfl rfl ?_
        refine am_bipush (n := 66) (v := 6) dX7_code_64 rfl rfl ?_
        refine cdX7_code_62 (n := 69) dX7_code_66 (by first | exact ⟨rfl, rfl⟩ | assumption) (ac_X7_isWithin g p 0 6 h1) rfl rfl (Nat.le_of_ble_eq_true rfl) rfl ?_
        cases hp : inR p 0 6 with
        | false =>
          rw [if_neg (by decide), show (decide (0 ≤ p) && decide (p ≤ 6)) = false from hp]
          refine am_if_ne (tgt := 75) (n := 72) dX7_code_69 (by decide) rfl (fun q_z => absurd rfl q_z) (fun _ => ?_)
          refine am_bipush (n := 74) (v := (-2)) dX7_code_72 rfl rfl ?_
          refine am_iret dX7_code_74 rfl rfl ?_
          exact ⟨rfl, X1, FM1⟩
        | true =>
          rw [if_pos rfl, show (decide (0 ≤ p) && decide (p ≤ 6)) = true from hp]
          obtain ⟨q, -, q6, rfl⟩ := inR_t (by decide) (by decide) hp
          have hdc := cN_dl hi2 hjc
          have hsz := csz_le c
          unfold plS
          refine am_if_ne (tgt := 75) (n := 72) dX7_code_69 (by decide) rfl (fun _ => ?_) (fun q_z => absurd q_z (by decide))
          refine am_aload_n (n := 76) (i := 0) dX7_code_75 rfl rfl rfl ?_
          refine gfX7_code_41 (n := 79) dX7_code_76 (by first | assumption | exact isC_of (by decide +kernel)) rfl ?_
          refine am_iload_n (n := 80) (i := 2) dX7_code_79 rfl rfl rfl ?_
          refine am_iload_n (n := 81) (i := 3) dX7_code_80 rfl rfl rfl ?_
          refine cdX7_code_199 (n := 84) dX7_code_81 (by first | exact ⟨rfl, rfl⟩ | assumption) (ac_X1_drawerOf g 6 i j c cs h1 isDr_6 R1 hV hi2 hjc) rfl rfl (Nat.le_of_ble_eq_true rfl) (by first | assumption | exact isC_of (by decide +kernel)) rfl ?_
          generalize ix c (dl cs) = d at *
          refine am_istore (n := 86) dX7_code_84 (Nat.le_of_ble_eq_true rfl) rfl rfl ?_
          refine am_iload (n := 88) dX7_code_86 rfl rfl ?_
          refine am_bipush (n := 90) (v := 6) dX7_code_88 rfl rfl ?_
          by_cases p6 : nI q = 6
          · rw [if_pos p6]
            refine am_icmp_ne (tgt := 96) (n := 93) dX7_code_90 (by decide) rfl (fun q_z => absurd p6 q_z) (fun _ => ?_)
            refine am_iload (n := 95) dX7_code_93 rfl rfl ?_
            refine am_iret dX7_code_95 rfl rfl ?_
            exact ⟨rfl, X1, FM1⟩
          · rw [if_neg p6]
            refine am_icmp_ne (tgt := 96) (n := 93) dX7_code_90 (by decide) rfl (fun _ => ?_) (fun q_z => absurd q_z p6)
            refine am_aload_n (n := 97) (i := 0) dX7_code_96 rfl rfl rfl ?_
            refine gfX7_code_41 (n := 100) dX7_code_97 (by first | assumption | exact isC_of (by decide +kernel)) rfl ?_
            refine am_iload (n := 102) dX7_code_100 rfl rfl ?_
            refine cdX7_code_203 (n := 105) dX7_code_102 (by first | exact ⟨rfl, rfl⟩ | assumption) (ac_X1_codeAt g 6 d c cs h1 isDr_6 R1 hV hdc) rfl rfl (Nat.le_of_ble_eq_true rfl) (by first | assumption | exact isC_of (by decide +kernel)) rfl ?_
            refine am_istore (n := 107) dX7_code_105 (Nat.le_of_ble_eq_true rfl) rfl rfl ?_
            refine am_iload (n := 109) dX7_code_107 rfl rfl ?_
            refine cdX7_code_206 (n := 112) dX7_code_109 (by first | exact ⟨rfl, rfl⟩ | assumption) (ac_X0_size g c h1 hc30) rfl rfl (Nat.le_of_ble_eq_true rfl) rfl ?_
            generalize hz : csz c = s at *
            refine am_istore (n := 114) dX7_code_112 (Nat.le_of_ble_eq_true rfl) rfl rfl ?_
            refine am_iload (n := 116) dX7_code_114 rfl rfl ?_
            refine am_iconst (n := 117) (v := 5) dX7_code_116 rfl rfl ?_
            by_cases p5 : nI q = 5
            · rw [if_pos p5]
              refine am_icmp_ne (tgt := 123) (n := 120) dX7_code_117 (by decide) rfl (fun q_z => absurd p5 q_z) (fun _ => ?_)
              refine am_iload (n := 122) dX7_code_120 rfl rfl ?_
              refine am_iret dX7_code_122 rfl rfl ?_
              exact ⟨rfl, X1, FM1⟩
            · rw [if_neg p5, tn_nI (by omega)]
              refine am_icmp_ne (tgt := 123) (n := 120) dX7_code_117 (by decide) rfl (fun _ => ?_) (fun q_z => absurd q_z p5)
              refine am_iload (n := 125) dX7_code_123 rfl rfl ?_
              refine am_iload (n := 127) dX7_code_125 rfl rfl ?_
              by_cases ps : q < s
              · rw [if_pos ps]
                refine am_icmp_ge (tgt := 140) (n := 130) dX7_code_127 (by decide) rfl (fun q_z => absurd q_z (nI_ge ps (by omega))) (fun _ => ?_)
                refine am_iload (n := 132) dX7_code_130 rfl rfl ?_
                refine am_iload (n := 134) dX7_code_132 rfl rfl ?_
                refine cdX7_code_210 (n := 137) dX7_code_134 (by first | exact ⟨rfl, rfl⟩ | assumption) (ac_X0_numberAt g c q h1 hc30 (by omega)) rfl rfl (Nat.le_of_ble_eq_true rfl) rfl ?_
                generalize cdg c q = v
                refine am_goto (tgt := 142) dX7_code_137 (by decide) ?_
                refine am_iret dX7_code_142 rfl rfl ?_
                exact ⟨rfl, X1, FM1⟩
              · rw [if_neg ps]
                refine am_icmp_ge (tgt := 140) (n := 130) dX7_code_127 (by decide) rfl (fun _ => ?_) (fun q_z => absurd (nI_le (Nat.not_lt.mp ps) (by omega)) q_z)
                refine am_bipush (n := 142) (v := (-6)) dX7_code_140 rfl rfl ?_
                refine am_iret dX7_code_142 rfl rfl ?_
                exact ⟨rfl, X1, FM1⟩
  · rw [sp_E_f _ hno]
    refine am_astoreN (n := 10) dX7_code_8 (Nat.le_of_ble_eq_true rfl) rfl rfl ?_
    refine am_aloadN (n := 12) dX7_code_10 rfl rfl ?_
    refine am_ifnullN (tgt := 26) dX7_code_12 (by decide) ?_
    refine am_iconst (n := 27) (v := (-1)) dX7_code_26 rfl rfl ?_
    refine am_iret dX7_code_27 rfl rfl ?_
    exact ⟨rfl, hX, FM.rf⟩
set_option maxRecDepth 100000 in
set_option maxHeartbeats 400000 in
theorem cx_drawer (g : Gx) (x d o : Int32) (G : GS) (h : Hp) (hX : XI G h) : CX g yX7_drawer wsX7_drawer rmX7_drawer [.ref 0, .int x, .int d, .int o] h (sp_drawer x d o G) := by
  have c0 := isC_0
  have c100 := isSt_now.1
  have c6 := isDr_6.1
  have h4 := hX.2.1.2.2.2.2.1
  unfold CX sp_drawer
  refine AC.of (cc := cX7_drawer) (maxL := 5) (ret := (some .int)) (by decide +kernel) rfl (Nat.le_of_ble_eq_true rfl) ?_
  show AW g mmX7_drawer _ 0 [(0, some (.ref 0)), (1, some (.int x)), (2, some (.int d)), (3, some (.int o))] [] _
  refine am_aload_n (n := 1) (i := 0) dX7_drawer_0 rfl rfl rfl ?_
  refine gfX7_drawer_10 (n := 4) dX7_drawer_1 (by first | assumption | exact isC_of (by decide +kernel)) rfl ?_
  refine am_iload_n (n := 5) (i := 1) dX7_drawer_4 rfl rfl rfl ?_
  refine caX7_drawer_105 (n := 8) dX7_drawer_5 (by first | exact ⟨rfl, rfl⟩ | assumption) (ac_X5_earAt g 100 x G.1 h isSt_now hX.1 hX.2.1) rfl rfl (Nat.le_of_ble_eq_true rfl) (by first | assumption | exact isC_of (by decide +kernel)) rfl ?_
  rintro r h' ⟨rfl, ⟨e, he, rfl, rfl⟩ | ⟨hno, rfl⟩⟩
  · have hx := List.getElem?_eq_getElem he
    obtain ⟨e4, -, iE, rE, vE⟩ := nowE hX hx
    rw [sp_E_t _ h4 he hx]
    generalize G.1.2.2.2[e] = E at *
    have i0 := iE.1
    refine am_astore (n := 10) dX7_drawer_8 (Nat.le_of_ble_eq_true rfl) rfl rfl ?_
    refine am_aload (n := 12) dX7_drawer_10 rfl rfl ?_
    refine am_ifnonnull (tgt := 17) dX7_drawer_12 (by decide) ?_
    refine am_aload_n (n := 18) (i := 0) dX7_drawer_17 rfl rfl rfl ?_
    refine gfX7_drawer_41 (n := 21) dX7_drawer_18 (by first | assumption | exact isC_of (by decide +kernel)) rfl ?_
    refine am_aload_n (n := 22) (i := 0) dX7_drawer_21 rfl rfl rfl ?_
    refine gfX7_drawer_10 (n := 25) dX7_drawer_22 (by first | assumption | exact isC_of (by decide +kernel)) rfl ?_
    refine am_aload (n := 27) dX7_drawer_25 rfl rfl ?_
    refine caX7_drawer_177 (n := 30) dX7_drawer_27 (by first | exact ⟨rfl, rfl⟩ | assumption) (ac_X1_fill g 6 100 (100 + 10 * (e + 1)) G.1 E h' isDr_6 isSt_now iE hX.1 hX.2.1 rE vE (by omega) (by omega)) rfl rfl (Nat.le_of_ble_eq_true rfl) (by first | assumption | exact isC_of (by decide +kernel)) rfl ?_
    rintro r h1 ⟨rfl, F1, R1⟩
    have X1 := hX.scr F1 (by omega) (by omega)
    have FM1 : FM h' h1 := FM.fi F1 (by omega)
    have hV := VC_of hX.2.1 vE
    generalize csOf G.1 E = cs at *
    have hdl := dl_len hV
    have hND : ND (dl cs) := ND_dls _
    unfold drS
    refine am_iload_n (n := 31) (i := 2) dX7_drawer_30 rfl rfl rfl ?_
    refine am_iconst (n := 32) (v := 0) dX7_drawer_31 rfl rfl ?_
    refine am_aload_n (n := 33) (i := 0) dX7_drawer_32 rfl rfl rfl ?_
    refine gfX7_drawer_41 (n := 36) dX7_drawer_33 (by first | assumption | exact isC_of (by decide +kernel)) rfl ?_
    refine gfX7_drawer_181 (n := 39) dX7_drawer_36 (by first | assumption | exact isC_of (by decide +kernel)) rfl ?_
    rw [R1.2.2.1]
    refine am_iconst (n := 40) (v := 1) dX7_drawer_39 rfl rfl ?_
    refine am_isub (n := 41) dX7_drawer_40 rfl ?_
    refine cdX7_drawer_62 (n := 44) dX7_drawer_41 (by first | exact ⟨rfl, rfl⟩ | assumption) (ac_X7_isWithin g d 0 (nI (dl cs).length - 1) h1) rfl rfl (Nat.le_of_ble_eq_true rfl) rfl ?_
    rw [inN_pred d (show (dl cs).length < 2 ^ 31 by omega)]
    cases hd : inN d (dl cs).length with
    | false =>
      rw [if_neg (by decide)]
      refine am_if_ne (tgt := 49) (n := 47) dX7_drawer_44 (by decide) rfl (fun q_z => absurd rfl q_z) (fun _ => ?_)
      refine am_iconst (n := 48) (v := (-1)) dX7_drawer_47 rfl rfl ?_
      refine am_iret dX7_drawer_48 rfl rfl ?_
      exact ⟨rfl, X1, FM1⟩
    | true =>
      rw [if_pos rfl]
      obtain ⟨i, hi, rfl⟩ := inN_t (by omega) hd
      rw [tn_nI (by omega)]
      refine am_if_ne (tgt := 49) (n := 47) dX7_drawer_44 (by decide) rfl (fun _ => ?_) (fun q_z => absurd q_z (by decide))
      refine am_iload_n (n := 50) (i := 3) dX7_drawer_49 rfl rfl rfl ?_
      by_cases o0 : o = 0
      · subst o0
        rw [if_pos rfl]
        refine am_lookup (tgt := 76) dX7_drawer_50 (by decide) rfl (by decide) ?_
        refine am_aload_n (n := 77) (i := 0) dX7_drawer_76 rfl rfl rfl ?_
        refine gfX7_drawer_41 (n := 80) dX7_drawer_77 (by first | assumption | exact isC_of (by decide +kernel)) rfl ?_
        refine am_iload_n (n := 81) (i := 2) dX7_drawer_80 rfl rfl rfl ?_
        refine cdX7_drawer_213 (n := 84) dX7_drawer_81 (by first | exact ⟨rfl, rfl⟩ | assumption) (ac_X1_namesAt g 6 i _ cs h1 isDr_6 R1 hV (gD_at hi)) rfl rfl (Nat.le_of_ble_eq_true rfl) (by first | assumption | exact isC_of (by decide +kernel)) rfl ?_
        exact am_iret dX7_drawer_84 rfl rfl ⟨rfl, X1, FM1⟩
      · rw [if_neg o0]
        by_cases o1 : o = 1
        · subst o1
          rw [if_pos rfl]
          refine am_lookup (tgt := 85) dX7_drawer_50 (by decide) rfl (by decide) ?_
          refine am_aload_n (n := 86) (i := 0) dX7_drawer_85 rfl rfl rfl ?_
          refine gfX7_drawer_41 (n := 89) dX7_drawer_86 (by first | assumption | exact isC_of (by decide +kernel)) rfl ?_
          refine am_aload_n (n := 90) (i := 0) dX7_drawer_89 rfl rfl rfl ?_
          refine gfX7_drawer_41 (n := 93) dX7_drawer_90 (by first | assumption | exact isC_of (by decide +kernel)) rfl ?_
          refine am_iload_n (n := 94) (i := 2) dX7_drawer_93 rfl rfl rfl ?_
          refine caX7_drawer_216 (n := 97) dX7_drawer_94 (by first | exact ⟨rfl, rfl⟩ | assumption) (ac_X1_byCode g 6 i cs h1 isDr_6 R1 hV hi) rfl rfl (Nat.le_of_ble_eq_true rfl) (by first | assumption | exact isC_of (by decide +kernel)) rfl ?_
          rintro r h2 ⟨rfl, a, ha, hr, rfl⟩
          rw [byR_eq hND ha hr]
          refine cdX7_drawer_213 (n := 100) dX7_drawer_97 (by first | exact ⟨rfl, rfl⟩ | assumption) (ac_X1_namesAt g 6 a _ cs h2 isDr_6 R1 hV (gD_at ha)) rfl rfl (Nat.le_of_ble_eq_true rfl) (by first | assumption | exact isC_of (by decide +kernel)) rfl ?_
          exact am_iret dX7_drawer_100 rfl rfl ⟨rfl, X1, FM1⟩
        · rw [if_neg o1]
          refine am_lookup (tgt := 101) dX7_drawer_50 (by decide) (by show Op.lookupswitch.offset [(0, 26), (1, 35)] 51 o.toInt = 51; rw [lv_osw o0 (by decide), lv_osw o1 (by decide)]; rfl) (by decide) ?_
          refine am_bipush (n := 103) (v := (-2)) dX7_drawer_101 rfl rfl ?_
          refine am_iret dX7_drawer_103 rfl rfl ?_
          exact ⟨rfl, X1, FM1⟩
  · rw [sp_E_f _ hno]
    refine am_astoreN (n := 10) dX7_drawer_8 (Nat.le_of_ble_eq_true rfl) rfl rfl ?_
    refine am_aloadN (n := 12) dX7_drawer_10 rfl rfl ?_
    refine am_ifnonnullN (n := 15) dX7_drawer_12 rfl ?_
    refine am_iconst (n := 16) (v := (-1)) dX7_drawer_15 rfl rfl ?_
    refine am_iret dX7_drawer_16 rfl rfl ?_
    exact ⟨rfl, hX, FM.rf⟩
set_option maxRecDepth 100000 in
set_option maxHeartbeats 400000 in
theorem cx_count (g : Gx) (w : Int32) (G : GS) (h : Hp) (hX : XI G h) : CX g yX7_count wsX7_count rmX7_count [.ref 0, .int w] h (sp_count w G) := by
  have c0 := isC_0
  have c100 := isSt_now.1
  have c4 := isPd_4.1
  unfold CX sp_count ctS
  refine AC.of (cc := cX7_count) (maxL := 2) (ret := (some .int)) (by decide +kernel) rfl (Nat.le_of_ble_eq_true rfl) ?_
  show AW g mmX7_count _ 0 [(0, some (.ref 0)), (1, some (.int w))] [] _
  refine am_iload_n (n := 1) (i := 1) dX7_count_0 rfl rfl rfl ?_
  by_cases w0 : w = 0
  · subst w0
    rw [if_pos rfl]
    refine am_tableIn (tgt := 44) dX7_count_1 (by decide) (by decide) rfl (by decide) ?_
    refine am_aload_n (n := 45) (i := 0) dX7_count_44 rfl rfl rfl ?_
    refine gfX7_count_10 (n := 48) dX7_count_45 (by first | assumption | exact isC_of (by decide +kernel)) rfl ?_
    refine gfX7_count_87 (n := 51) dX7_count_48 (by first | assumption | exact isC_of (by decide +kernel)) rfl ?_
    rw [hX.1.2.2.1]
    refine am_iret dX7_count_51 rfl rfl ?_
    exact ⟨rfl, hX, FM.rf⟩
  · rw [if_neg w0]
    by_cases w1 : w = 1
    · subst w1
      rw [if_pos rfl]
      refine am_tableIn (tgt := 52) dX7_count_1 (by decide) (by decide) rfl (by decide) ?_
      refine am_aload_n (n := 53) (i := 0) dX7_count_52 rfl rfl rfl ?_
      refine gfX7_count_10 (n := 56) dX7_count_53 (by first | assumption | exact isC_of (by decide +kernel)) rfl ?_
      refine gfX7_count_109 (n := 59) dX7_count_56 (by first | assumption | exact isC_of (by decide +kernel)) rfl ?_
      rw [hX.1.2.2.2.1]
      refine am_iret dX7_count_59 rfl rfl ?_
      exact ⟨rfl, hX, FM.rf⟩
    · rw [if_neg w1]
      by_cases w2 : w = 2
      · subst w2
        rw [if_pos rfl]
        refine am_tableIn (tgt := 60) dX7_count_1 (by decide) (by decide) rfl (by decide) ?_
        refine am_aload_n (n := 61) (i := 0) dX7_count_60 rfl rfl rfl ?_
        refine gfX7_count_10 (n := 64) dX7_count_61 (by first | assumption | exact isC_of (by decide +kernel)) rfl ?_
        refine gfX7_count_66 (n := 67) dX7_count_64 (by first | assumption | exact isC_of (by decide +kernel)) rfl ?_
        rw [hX.1.1]
        refine am_iret dX7_count_67 rfl rfl ?_
        exact ⟨rfl, hX, FM.rf⟩
      · rw [if_neg w2]
        by_cases w3 : w = 3
        · subst w3
          rw [if_pos rfl]
          refine am_tableIn (tgt := 68) dX7_count_1 (by decide) (by decide) rfl (by decide) ?_
          refine am_aload_n (n := 69) (i := 0) dX7_count_68 rfl rfl rfl ?_
          refine gfX7_count_10 (n := 72) dX7_count_69 (by first | assumption | exact isC_of (by decide +kernel)) rfl ?_
          refine gfX7_count_72 (n := 75) dX7_count_72 (by first | assumption | exact isC_of (by decide +kernel)) rfl ?_
          rw [hX.1.2.1]
          refine am_iret dX7_count_75 rfl rfl ?_
          exact ⟨rfl, hX, FM.rf⟩
        · rw [if_neg w3]
          by_cases w4 : w = 4
          · subst w4
            rw [if_pos rfl]
            refine am_tableIn (tgt := 76) dX7_count_1 (by decide) (by decide) rfl (by decide) ?_
            refine am_aload_n (n := 77) (i := 0) dX7_count_76 rfl rfl rfl ?_
            refine gfX7_count_34 (n := 80) dX7_count_77 (by first | assumption | exact isC_of (by decide +kernel)) rfl ?_
            refine gfX7_count_94 (n := 83) dX7_count_80 (by first | assumption | exact isC_of (by decide +kernel)) rfl ?_
            rw [hX.2.2.2.2.1.1]
            refine am_iret dX7_count_83 rfl rfl ?_
            exact ⟨rfl, hX, FM.rf⟩
          · rw [if_neg w4]
            by_cases w5 : w = 5
            · subst w5
              rw [if_pos rfl]
              refine am_tableIn (tgt := 84) dX7_count_1 (by decide) (by decide) rfl (by decide) ?_
              refine am_aload_n (n := 85) (i := 0) dX7_count_84 rfl rfl rfl ?_
              refine gfX7_count_20 (n := 88) dX7_count_85 (by first | assumption | exact isC_of (by decide +kernel)) rfl ?_
              rw [hX.2.2.1.1]
              refine am_iret dX7_count_88 rfl rfl ?_
              exact ⟨rfl, hX, FM.rf⟩
            · rw [if_neg w5]
              by_cases w6 : w = 6
              · subst w6
                rw [if_pos rfl]
                refine am_tableIn (tgt := 89) dX7_count_1 (by decide) (by decide) rfl (by decide) ?_
                refine am_aload_n (n := 90) (i := 0) dX7_count_89 rfl rfl rfl ?_
                refine gfX7_count_10 (n := 93) dX7_count_90 (by first | assumption | exact isC_of (by decide +kernel)) rfl ?_
                refine cdX7_count_219 (n := 96) dX7_count_93 (by first | exact ⟨rfl, rfl⟩ | assumption) (ac_X5_lettersInNames g 100 G.1 h isSt_now hX.1 hX.2.1) rfl rfl (Nat.le_of_ble_eq_true rfl) (by first | assumption | exact isC_of (by decide +kernel)) rfl ?_
                generalize lin G.1.2.2.1 = v
                exact am_iret dX7_count_96 rfl rfl ⟨rfl, hX, FM.rf⟩
              · rw [if_neg w6]
                refine am_tableOut (tgt := 97) dX7_count_1 (sw_far (n := 6) (by decide) (fun i hi => by rcases i with _ | _ | _ | _ | _ | _ | _ | i; exact w0; exact w1; exact w2; exact w3; exact w4; exact w5; exact w6; omega)) (by decide) ?_
                refine am_bipush (n := 99) (v := (-2)) dX7_count_97 rfl rfl ?_
                refine am_iret dX7_count_99 rfl rfl ?_
                exact ⟨rfl, hX, FM.rf⟩
set_option maxRecDepth 100000 in
set_option maxHeartbeats 400000 in
theorem cx_alike (g : Gx) (x a b : Int32) (G : GS) (h : Hp) (hX : XI G h) : CX g yX7_alike wsX7_alike rmX7_alike [.ref 0, .int x, .int a, .int b] h (sp_alike x a b G) := by
  have c0 := isC_0
  have c100 := isSt_now.1
  have h4 := hX.2.1.2.2.2.2.1
  have h24 := hX.2.1.2.2.1
  unfold CX sp_alike
  refine AC.of (cc := cX7_alike) (maxL := 5) (ret := (some .int)) (by decide +kernel) rfl (Nat.le_of_ble_eq_true rfl) ?_
  show AW g mmX7_alike _ 0 [(0, some (.ref 0)), (1, some (.int x)), (2, some (.int a)), (3, some (.int b))] [] _
  refine am_aload_n (n := 1) (i := 0) dX7_alike_0 rfl rfl rfl ?_
  refine gfX7_alike_10 (n := 4) dX7_alike_1 (by first | assumption | exact isC_of (by decide +kernel)) rfl ?_
  refine am_iload_n (n := 5) (i := 1) dX7_alike_4 rfl rfl rfl ?_
  refine caX7_alike_105 (n := 8) dX7_alike_5 (by first | exact ⟨rfl, rfl⟩ | assumption) (ac_X5_earAt g 100 x G.1 h isSt_now hX.1 hX.2.1) rfl rfl (Nat.le_of_ble_eq_true rfl) (by first | assumption | exact isC_of (by decide +kernel)) rfl ?_
  rintro r h' ⟨rfl, ⟨e, he, rfl, rfl⟩ | ⟨hno, rfl⟩⟩
  · have hx := List.getElem?_eq_getElem he
    obtain ⟨e4, -, iE, rE, vE⟩ := nowE hX hx
    rw [sp_E_t _ h4 he hx]
    generalize G.1.2.2.2[e] = E at *
    have i0 := iE.1
    refine am_astore (n := 10) dX7_alike_8 (Nat.le_of_ble_eq_true rfl) rfl rfl ?_
    refine am_aload (n := 12) dX7_alike_10 rfl rfl ?_
    refine am_ifnull (n := 15) dX7_alike_12 rfl ?_
    refine am_aload_n (n := 16) (i := 0) dX7_alike_15 rfl rfl rfl ?_
    refine gfX7_alike_10 (n := 19) dX7_alike_16 (by first | assumption | exact isC_of (by decide +kernel)) rfl ?_
    refine am_iload_n (n := 20) (i := 2) dX7_alike_19 rfl rfl rfl ?_
    refine cdX7_alike_97 (n := 23) dX7_alike_20 (by first | exact ⟨rfl, rfl⟩ | assumption) (ac_X5_hasName g 100 a G.1 h' isSt_now hX.1 hX.2.1) rfl rfl (Nat.le_of_ble_eq_true rfl) (by first | assumption | exact isC_of (by decide +kernel)) rfl ?_
    cases ha : inN a G.1.2.2.1.length with
    | false =>
      rw [if_neg (fun q => by cases q.1)]
      refine am_if_eq (tgt := 37) (n := 26) dX7_alike_23 (by decide) rfl (fun _ => ?_) (fun q_z => absurd rfl q_z)
      refine am_iconst (n := 38) (v := (-1)) dX7_alike_37 rfl rfl ?_
      refine am_iret dX7_alike_38 rfl rfl ?_
      exact ⟨rfl, hX, FM.rf⟩
    | true =>
      obtain ⟨i, hi, rfl⟩ := inN_t (by omega) ha
      rw [tn_nI (by omega)]
      refine am_if_eq (tgt := 37) (n := 26) dX7_alike_23 (by decide) rfl (fun q_z => absurd q_z (by decide)) (fun _ => ?_)
      refine am_aload_n (n := 27) (i := 0) dX7_alike_26 rfl rfl rfl ?_
      refine gfX7_alike_10 (n := 30) dX7_alike_27 (by first | assumption | exact isC_of (by decide +kernel)) rfl ?_
      refine am_iload_n (n := 31) (i := 3) dX7_alike_30 rfl rfl rfl ?_
      refine cdX7_alike_97 (n := 34) dX7_alike_31 (by first | exact ⟨rfl, rfl⟩ | assumption) (ac_X5_hasName g 100 b G.1 h' isSt_now hX.1 hX.2.1) rfl rfl (Nat.le_of_ble_eq_true rfl) (by first | assumption | exact isC_of (by decide +kernel)) rfl ?_
      cases hb : inN b G.1.2.2.1.length with
      | false =>
        rw [if_neg (fun q => by cases q.2)]
        refine am_if_ne (tgt := 39) (n := 37) dX7_alike_34 (by decide) rfl (fun q_z => absurd rfl q_z) (fun _ => ?_)
        refine am_iconst (n := 38) (v := (-1)) dX7_alike_37 rfl rfl ?_
        refine am_iret dX7_alike_38 rfl rfl ?_
        exact ⟨rfl, hX, FM.rf⟩
      | true =>
        obtain ⟨j, hj, rfl⟩ := inN_t (by omega) hb
        rw [tn_nI (by omega), if_pos ⟨rfl, rfl⟩]
        refine am_if_ne (tgt := 39) (n := 37) dX7_alike_34 (by decide) rfl (fun _ => ?_) (fun q_z => absurd q_z (by decide))
        refine am_aload_n (n := 40) (i := 0) dX7_alike_39 rfl rfl rfl ?_
        refine gfX7_alike_41 (n := 43) dX7_alike_40 (by first | assumption | exact isC_of (by decide +kernel)) rfl ?_
        refine am_aload_n (n := 44) (i := 0) dX7_alike_43 rfl rfl rfl ?_
        refine gfX7_alike_10 (n := 47) dX7_alike_44 (by first | assumption | exact isC_of (by decide +kernel)) rfl ?_
        refine am_aload (n := 49) dX7_alike_47 rfl rfl ?_
        refine caX7_alike_177 (n := 52) dX7_alike_49 (by first | exact ⟨rfl, rfl⟩ | assumption) (ac_X1_fill g 6 100 (100 + 10 * (e + 1)) G.1 E h' isDr_6 isSt_now iE hX.1 hX.2.1 rE vE (by omega) (by omega)) rfl rfl (Nat.le_of_ble_eq_true rfl) (by first | assumption | exact isC_of (by decide +kernel)) rfl ?_
        rintro r h1 ⟨rfl, F1, R1⟩
        have X1 := hX.scr F1 (by omega) (by omega)
        have FM1 : FM h' h1 := FM.fi F1 (by omega)
        have hV := VC_of hX.2.1 vE
        have hi2 : i < (csOf G.1 E).length := by rw [csOf_len]; exact hi
        have hj2 : j < (csOf G.1 E).length := by rw [csOf_len]; exact hj
        generalize csOf G.1 E = cs at *
        refine am_aload_n (n := 53) (i := 0) dX7_alike_52 rfl rfl rfl ?_
        refine gfX7_alike_41 (n := 56) dX7_alike_53 (by first | assumption | exact isC_of (by decide +kernel)) rfl ?_
        refine am_iload_n (n := 57) (i := 2) dX7_alike_56 rfl rfl rfl ?_
        refine cdX7_alike_222 (n := 60) dX7_alike_57 (by first | exact ⟨rfl, rfl⟩ | assumption) (ac_X1_namesLike g 6 i cs h1 isDr_6 R1 hV hi2) rfl rfl (Nat.le_of_ble_eq_true rfl) (by first | assumption | exact isC_of (by decide +kernel)) rfl ?_
        refine am_iconst (n := 61) (v := 1) dX7_alike_60 rfl rfl ?_
        refine am_iload_n (n := 62) (i := 3) dX7_alike_61 rfl rfl rfl ?_
        refine am_ishl (n := 63) dX7_alike_62 rfl ?_
        refine am_iand (n := 64) dX7_alike_63 rfl ?_
        have hb1 : bt (lkM cs i) j = com cs i j := by
          rw [Bool.eq_iff_iff]
          unfold lkM
          rw [bt_msk (by have := hV.1; omega)]
          exact ⟨fun q => q.2, fun q => ⟨hj2, q⟩⟩
        cases hc : com cs i j with
        | true =>
          refine am_if_eq (tgt := 71) (n := 67) dX7_alike_64 (by decide) rfl (fun q_z => absurd q_z (fun q => by rw [(bt_sh1 _ _ (by omega)).mp q] at hb1; rw [hc] at hb1; cases hb1)) (fun _ => ?_)
          refine am_iconst (n := 68) (v := 1) dX7_alike_67 rfl rfl ?_
          refine am_goto (tgt := 72) dX7_alike_68 (by decide) ?_
          refine am_iret dX7_alike_72 rfl rfl ?_
          exact ⟨rfl, X1, FM1⟩
        | false =>
          refine am_if_eq (tgt := 71) (n := 67) dX7_alike_64 (by decide) rfl (fun _ => ?_) (fun q_z => absurd ((bt_sh1 _ _ (by omega)).mpr (hb1.trans hc)) q_z)
          refine am_iconst (n := 72) (v := 0) dX7_alike_71 rfl rfl ?_
          refine am_iret dX7_alike_72 rfl rfl ?_
          exact ⟨rfl, X1, FM1⟩
  · rw [sp_E_f _ hno]
    refine am_astoreN (n := 10) dX7_alike_8 (Nat.le_of_ble_eq_true rfl) rfl rfl ?_
    refine am_aloadN (n := 12) dX7_alike_10 rfl rfl ?_
    refine am_ifnullN (tgt := 37) dX7_alike_12 (by decide) ?_
    refine am_iconst (n := 38) (v := (-1)) dX7_alike_37 rfl rfl ?_
    refine am_iret dX7_alike_38 rfl rfl ?_
    exact ⟨rfl, hX, FM.rf⟩
set_option maxRecDepth 100000 in
set_option maxHeartbeats 400000 in
theorem cx_distance (g : Gx) (a b : Int32) (G : GS) (h : Hp) (hX : XI G h) : CX g yX7_distance wsX7_distance rmX7_distance [.ref 0, .int a, .int b] h (sp_distance a b G) := by
  have c0 := isC_0
  have c100 := isSt_now.1
  have c101 := isSt_now.2.1
  have h24 := hX.2.1.2.2.1
  unfold CX sp_distance
  refine AC.of (cc := cX7_distance) (maxL := 3) (ret := (some .int)) (by decide +kernel) rfl (Nat.le_of_ble_eq_true rfl) ?_
  show AW g mmX7_distance _ 0 [(0, some (.ref 0)), (1, some (.int a)), (2, some (.int b))] [] _
  refine am_aload_n (n := 1) (i := 0) dX7_distance_0 rfl rfl rfl ?_
  refine gfX7_distance_10 (n := 4) dX7_distance_1 (by first | assumption | exact isC_of (by decide +kernel)) rfl ?_
  refine am_iload_n (n := 5) (i := 1) dX7_distance_4 rfl rfl rfl ?_
  refine cdX7_distance_97 (n := 8) dX7_distance_5 (by first | exact ⟨rfl, rfl⟩ | assumption) (ac_X5_hasName g 100 a G.1 h isSt_now hX.1 hX.2.1) rfl rfl (Nat.le_of_ble_eq_true rfl) (by first | assumption | exact isC_of (by decide +kernel)) rfl ?_
  cases ha : inN a G.1.2.2.1.length with
  | false =>
    rw [if_neg (fun q => by cases q.1)]
    refine am_if_eq (tgt := 22) (n := 11) dX7_distance_8 (by decide) rfl (fun _ => ?_) (fun q_z => absurd rfl q_z)
    refine am_iconst (n := 23) (v := (-1)) dX7_distance_22 rfl rfl ?_
    refine am_iret dX7_distance_23 rfl rfl ?_
    exact ⟨rfl, hX, FM.rf⟩
  | true =>
    obtain ⟨i, hi, rfl⟩ := inN_t (by omega) ha
    refine am_if_eq (tgt := 22) (n := 11) dX7_distance_8 (by decide) rfl (fun q_z => absurd q_z (by decide)) (fun _ => ?_)
    refine am_aload_n (n := 12) (i := 0) dX7_distance_11 rfl rfl rfl ?_
    refine gfX7_distance_10 (n := 15) dX7_distance_12 (by first | assumption | exact isC_of (by decide +kernel)) rfl ?_
    refine am_iload_n (n := 16) (i := 2) dX7_distance_15 rfl rfl rfl ?_
    refine cdX7_distance_97 (n := 19) dX7_distance_16 (by first | exact ⟨rfl, rfl⟩ | assumption) (ac_X5_hasName g 100 b G.1 h isSt_now hX.1 hX.2.1) rfl rfl (Nat.le_of_ble_eq_true rfl) (by first | assumption | exact isC_of (by decide +kernel)) rfl ?_
    cases hb : inN b G.1.2.2.1.length with
    | false =>
      rw [if_neg (fun q => by cases q.2)]
      refine am_if_ne (tgt := 24) (n := 22) dX7_distance_19 (by decide) rfl (fun q_z => absurd rfl q_z) (fun _ => ?_)
      refine am_iconst (n := 23) (v := (-1)) dX7_distance_22 rfl rfl ?_
      refine am_iret dX7_distance_23 rfl rfl ?_
      exact ⟨rfl, hX, FM.rf⟩
    | true =>
      obtain ⟨j, hj, rfl⟩ := inN_t (by omega) hb
      rw [tn_nI (by omega), tn_nI (by omega), if_pos ⟨rfl, rfl⟩]
      obtain ⟨i24, hwi, vi⟩ := nowW hX hi
      obtain ⟨j24, hwj, vj⟩ := nowW hX hj
      generalize G.1.2.2.1.getD i 0 = m at *
      generalize G.1.2.2.1.getD j 0 = n at *
      have hin : vp_in (nI i) 24 := vp_in_nI i24 (by decide)
      have hin2 : vp_in (nI j) 24 := vp_in_nI j24 (by decide)
      refine am_if_ne (tgt := 24) (n := 22) dX7_distance_19 (by decide) rfl (fun _ => ?_) (fun q_z => absurd q_z (by decide))
      refine am_aload_n (n := 25) (i := 0) dX7_distance_24 rfl rfl rfl ?_
      refine gfX7_distance_58 (n := 28) dX7_distance_25 (by first | assumption | exact isC_of (by decide +kernel)) rfl ?_
      refine am_aload_n (n := 29) (i := 0) dX7_distance_28 rfl rfl rfl ?_
      refine gfX7_distance_10 (n := 32) dX7_distance_29 (by first | assumption | exact isC_of (by decide +kernel)) rfl ?_
      refine gfX7_distance_90 (n := 35) dX7_distance_32 (by first | assumption | exact isC_of (by decide +kernel)) rfl ?_
      refine am_iload_n (n := 36) (i := 1) dX7_distance_35 rfl rfl rfl ?_
      refine am_lald (n := 37) dX7_distance_36 (by first | assumption | exact isC_of (by decide +kernel)) (by first | assumption | exact vp_in_nI (by omega) (by omega) | exact vp_in_iff.mpr (by decide)) rfl ?_
      rw [nI_clamp (by omega), hwi]
      refine am_aload_n (n := 38) (i := 0) dX7_distance_37 rfl rfl rfl ?_
      refine gfX7_distance_10 (n := 41) dX7_distance_38 (by first | assumption | exact isC_of (by decide +kernel)) rfl ?_
      refine gfX7_distance_90 (n := 44) dX7_distance_41 (by first | assumption | exact isC_of (by decide +kernel)) rfl ?_
      refine am_iload_n (n := 45) (i := 2) dX7_distance_44 rfl rfl rfl ?_
      refine am_lald (n := 46) dX7_distance_45 (by first | assumption | exact isC_of (by decide +kernel)) (by first | assumption | exact vp_in_nI (by omega) (by omega) | exact vp_in_iff.mpr (by decide)) rfl ?_
      rw [nI_clamp (by omega), hwj]
      refine caX7_distance_225 (n := 49) dX7_distance_46 (by first | exact ⟨rfl, rfl⟩ | assumption) (ac_X3_between g 18 m n h isMt_18 vi vj) rfl rfl (Nat.le_of_ble_eq_true rfl) (by first | assumption | exact isC_of (by decide +kernel)) rfl ?_
      rintro r h1 ⟨rfl, F1⟩
      generalize dst m n = v
      exact am_iret dX7_distance_49 rfl rfl ⟨rfl, hX.scr F1 (by omega) (by omega), FM.fi F1 (by omega)⟩
