/-! The class's calls: ear, hear, second, habits, merge, split -/
/-- an ear of now -/
theorem nowE {G : GS} {h : Hp} (hX : XI G h) {e : Nat} {E : EV} (he : G.1.2.2.2[e]? = some E) : e < 4 ∧ e < G.1.2.2.2.length ∧ isEar (100 + 10 * (e + 1)) ∧ RE (100 + 10 * (e + 1)) E h ∧ VE E := by
  have hl := (List.getElem?_eq_some_iff.mp he).1
  have h4 := hX.2.1.2.2.2.2.1
  exact ⟨by omega, hl, isSt_now.2.2.2 e (by omega), hX.1.2.2.2.2.2 e E he, VE_at hX.2.1 he⟩
set_option maxRecDepth 100000 in
set_option maxHeartbeats 400000 in
theorem cx_ear (g : Gx) (a : Int32) (G : GS) (h : Hp) (hX : XI G h) : CX g yX7_ear wsX7_ear rmX7_ear [.ref 0, .int a] h (sp_ear a G) := by
  have c0 := isC_0
  have c100 := isSt_now.1
  have c102 := isSt_now.2.2.1
  have h4 := hX.2.1.2.2.2.2.1
  unfold CX sp_ear
  generalize hZ : ZP g (fun v h' => v = some (.int (if inN a G.1.2.2.2.length = false ∧ ¬ a = -6 then (-1, G) else if 4 ≤ G.1.2.2.2.length then (-4, G) else (nI G.1.2.2.2.length, recG G (withE G.1 (G.1.2.2.2 ++ [(eN G.1.2.2.2 a).getD E0])))).1) ∧ XI (if inN a G.1.2.2.2.length = false ∧ ¬ a = -6 then (-1, G) else if 4 ≤ G.1.2.2.2.length then (-4, G) else (nI G.1.2.2.2.length, recG G (withE G.1 (G.1.2.2.2 ++ [(eN G.1.2.2.2 a).getD E0])))).2 h' ∧ FM h h') = Z
  have z0 : Z.1 = 0 ∧ Z.2.1 = 0 := by rw [← hZ]; exact ⟨rfl, rfl⟩
  refine AC.of (cc := cX7_ear) (maxL := 4) (ret := (some .int)) (by decide +kernel) rfl (Nat.le_of_ble_eq_true rfl) ?_
  show AW g mmX7_ear _ 0 [(0, some (.ref 0)), (1, some (.int a))] [] _
  rw [hZ]
  -- the ear has come
  have t71 : ∀ (l : Lo) (E : EV) (h1 h2 : Hp), G.1.2.2.2.length < 4 → ¬ (inN a G.1.2.2.2.length = false ∧ ¬ a = -6) → (eN G.1.2.2.2 a).getD E0 = E → VE E → XI (G.1, pushP G.2.1 G.1, G.2.2) h1 → FM h h1 → RE (100 + 10 * (G.1.2.2.2.length + 1)) E h2 → FrI (100 + 10 * (G.1.2.2.2.length + 1)) (100 + 10 * (G.1.2.2.2.length + 1) + 6) h1 h2 → lget l 0 = some (.ref 0) → AW g mmX7_ear Z 71 l [] h2 := by
    intro l E h1 h2 hl hok hE hVE X1 F1 R2 F2 l0
    refine am_loc [(0, some (.ref 0))] (by simp only [List.map_cons, List.map_nil, l0]) ?_
    obtain ⟨r1, r2, r3, r4, r5, r6⟩ := X1.1
    have f0 : h2.1 100 = h1.1 100 := F2.1 100 (by omega)
    have r4' : h2.1 100 4 = nI G.1.2.2.2.length := by rw [f0]; exact r4
    refine am_aload_n (n := 72) (i := 0) dX7_ear_71 rfl rfl rfl ?_
    refine gfX7_ear_10 (n := 75) dX7_ear_72 (by first | assumption | exact isC_of (by decide +kernel)) rfl ?_
    refine am_dup (n := 76) dX7_ear_75 rfl rfl ?_
    refine gfX7_ear_109 (n := 79) dX7_ear_76 (by first | assumption | exact isC_of (by decide +kernel)) rfl ?_
    rw [r4']
    refine am_iconst (n := 80) (v := 1) dX7_ear_79 rfl rfl ?_
    refine am_iadd (n := 81) dX7_ear_80 rfl ?_
    rw [nI_1]
    refine pfX7_ear_109 (n := 84) dX7_ear_81 (by first | assumption | exact isC_of (by decide +kernel)) rfl ?_
    refine am_aload_n (n := 85) (i := 0) dX7_ear_84 rfl rfl rfl ?_
    refine gfX7_ear_10 (n := 88) dX7_ear_85 (by first | assumption | exact isC_of (by decide +kernel)) rfl ?_
    refine gfX7_ear_109 (n := 91) dX7_ear_88 (by first | assumption | exact isC_of (by decide +kernel)) rfl ?_
    simp (disch := omega) only [setI_s, pk_us]
    refine am_iconst (n := 92) (v := 1) dX7_ear_91 rfl rfl ?_
    refine am_isub (n := 93) dX7_ear_92 rfl ?_
    rw [nI_pred, ← hZ, if_neg hok, if_neg (by omega), hE]
    refine am_iret dX7_ear_93 rfl rfl ⟨rfl, ?_, (F1.tr (FM.fi F2 (by omega))).tr (fun c w1 w2 => ⟨setI_n _ _ (by omega), rfl⟩)⟩
    refine X1.now (S := withE G.1 (G.1.2.2.2 ++ [E])) ⟨?_, ?_, ?_, ?_, fun i w hw => ?_, fun e' E' he' => ?_⟩ (VS_ears X1.2.1 ?_ (fun F hF => ?_)) ((F2.toFr.wide (by omega) (by omega)).sI _ (by omega) (by omega))
    · simp (disch := omega) only [setI_s, pk_un, f0]
      exact r1
    · simp (disch := omega) only [setI_s, pk_un, f0]
      exact r2
    · simp (disch := omega) only [setI_s, pk_un, f0]
      exact r3
    · simp (disch := omega) only [setI_s, pk_us]
      show _ = nI (G.1.2.2.2 ++ [E]).length
      rw [List.length_append]
      rfl
    · show h2.2.1 101 i = _
      rw [F2.2]
      exact r5 i w hw
    · have he' : (G.1.2.2.2 ++ [E])[e']? = some E' := he'
      by_cases z : e' = G.1.2.2.2.length
      · subst z
        rw [List.getElem?_append_right (Nat.le_refl _), Nat.sub_self, List.getElem?_cons_zero] at he'
        rw [← Option.some.inj he']
        exact R2.kept (fun c w1 w2 => setI_n _ _ (by omega))
      · have hil := (List.getElem?_eq_some_iff.mp he').1
        rw [List.length_append] at hil
        simp at hil
        rw [List.getElem?_append_left (by omega)] at he'
        exact (r6 e' E' he').kept (fun c w1 w2 => (setI_n _ _ (by omega)).trans (F2.1 c (by omega)))
    · rw [List.length_append]
      show G.1.2.2.2.length + 1 ≤ 4
      omega
    · rcases List.mem_append.mp hF with z | z
      · exact X1.2.1.2.2.2.2.2 F z
      · rw [List.mem_singleton.mp z]
        exact hVE
  refine am_aload_n (n := 1) (i := 0) dX7_ear_0 rfl rfl rfl ?_
  refine gfX7_ear_10 (n := 4) dX7_ear_1 (by first | assumption | exact isC_of (by decide +kernel)) rfl ?_
  refine am_iload_n (n := 5) (i := 1) dX7_ear_4 rfl rfl rfl ?_
  refine caX7_ear_105 (n := 8) dX7_ear_5 (by first | exact ⟨rfl, rfl⟩ | assumption) (ac_X5_earAt g 100 a G.1 h isSt_now hX.1 hX.2.1) rfl rfl (Nat.le_of_ble_eq_true rfl) (by first | assumption | exact isC_of (by decide +kernel)) rfl ?_
  rintro r h' ⟨rfl, ⟨e, he, rfl, rfl⟩ | ⟨hno, rfl⟩⟩
  · -- as an ear that there is
    have hok : ¬ (inN (nI e) G.1.2.2.2.length = false ∧ ¬ nI e = -6) := by rw [inN_i he (by omega)]; exact fun q => by cases q.1
    have hx := List.getElem?_eq_getElem he
    obtain ⟨e4, -, iE, rE, vE⟩ := nowE hX hx
    have hgd : (eN G.1.2.2.2 (nI e)).getD E0 = G.1.2.2.2[e] := by rw [eN_i h4 he, hx]; rfl
    refine am_astore_n (n := 9) (i := 2) dX7_ear_8 rfl (Nat.le_of_ble_eq_true rfl) rfl rfl ?_
    refine am_aload_n (n := 10) (i := 2) dX7_ear_9 rfl rfl rfl ?_
    refine am_ifnonnull (tgt := 21) dX7_ear_10 (by decide) ?_
    refine am_aload_n (n := 22) (i := 0) dX7_ear_21 rfl rfl rfl ?_
    refine gfX7_ear_10 (n := 25) dX7_ear_22 (by first | assumption | exact isC_of (by decide +kernel)) rfl ?_
    refine gfX7_ear_109 (n := 28) dX7_ear_25 (by first | assumption | exact isC_of (by decide +kernel)) rfl ?_
    refine am_iconst (n := 29) (v := 4) dX7_ear_28 rfl rfl ?_
    rw [hX.1.2.2.2.1]
    by_cases hl : 4 ≤ G.1.2.2.2.length
    · refine am_icmp_lt (tgt := 35) (n := 32) dX7_ear_29 (by decide) rfl (fun q_z => absurd q_z (nI_nlt hl (by omega))) (fun _ => ?_)
      rw [← hZ, if_neg hok, if_pos hl]
      refine am_bipush (n := 34) (v := (-4)) dX7_ear_32 rfl rfl ?_
      refine am_iret dX7_ear_34 rfl rfl ?_
      exact ⟨rfl, hX, FM.rf⟩
    · refine am_icmp_lt (tgt := 35) (n := 32) dX7_ear_29 (by decide) rfl (fun _ => ?_) (fun q_z => absurd (nI_lt (Nat.not_le.mp hl) (by decide)) q_z)
      refine am_aload_n (n := 36) (i := 0) dX7_ear_35 rfl rfl rfl ?_
      refine caX7_ear_69 (n := 39) dX7_ear_36 (by first | exact ⟨rfl, rfl⟩ | assumption) (ac_X7_recordChange g G h' hX) rfl rfl (Nat.le_of_ble_eq_true rfl) (by first | assumption | exact isC_of (by decide +kernel)) rfl ?_
      rintro r h1 ⟨rfl, X1, F1, FN⟩
      refine am_aload_n (n := 40) (i := 0) dX7_ear_39 rfl rfl rfl ?_
      refine gfX7_ear_10 (n := 43) dX7_ear_40 (by first | assumption | exact isC_of (by decide +kernel)) rfl ?_
      refine gfX7_ear_112 (n := 46) dX7_ear_43 (by first | assumption | exact isC_of (by decide +kernel)) rfl ?_
      refine am_aload_n (n := 47) (i := 0) dX7_ear_46 rfl rfl rfl ?_
      refine gfX7_ear_10 (n := 50) dX7_ear_47 (by first | assumption | exact isC_of (by decide +kernel)) rfl ?_
      refine gfX7_ear_109 (n := 53) dX7_ear_50 (by first | assumption | exact isC_of (by decide +kernel)) rfl ?_
      rw [show h1.1 100 4 = nI G.1.2.2.2.length from X1.1.2.2.2.1]
      have hin : vp_in (nI G.1.2.2.2.length) 4 := vp_in_nI (by omega) (by decide)
      refine am_aldE (n := 54) dX7_ear_53 (by first | assumption | exact isC_of (by decide +kernel)) (by first | assumption | exact vp_in_nI (by omega) (by omega) | exact vp_in_iff.mpr (by decide)) rfl ?_
      rw [nI_clamp (by omega), show 100 + 2 + 8 + 10 * G.1.2.2.2.length = 100 + 10 * (G.1.2.2.2.length + 1) by omega]
      have iN := isSt_now.2.2.2 G.1.2.2.2.length (by omega)
      have iN0 := iN.1
      have rE1 : RE (100 + 10 * (e + 1)) G.1.2.2.2[e] h1 := X1.1.2.2.2.2.2 e _ hx
      refine am_astore_n (n := 55) (i := 3) dX7_ear_54 rfl (Nat.le_of_ble_eq_true rfl) rfl rfl ?_
      refine am_aload_n (n := 56) (i := 2) dX7_ear_55 rfl rfl rfl ?_
      refine am_ifnonnull (tgt := 66) dX7_ear_56 (by decide) ?_
      refine am_aload_n (n := 67) (i := 3) dX7_ear_66 rfl rfl rfl ?_
      refine am_aload_n (n := 68) (i := 2) dX7_ear_67 rfl rfl rfl ?_
      refine caX7_ear_119 (n := 71) dX7_ear_68 (by first | exact ⟨rfl, rfl⟩ | assumption) (ac_X2_beAs g (100 + 10 * (G.1.2.2.2.length + 1)) (100 + 10 * (e + 1)) _ h1 iN iE rE1 vE (by omega)) rfl rfl (Nat.le_of_ble_eq_true rfl) (by first | assumption | exact isC_of (by decide +kernel)) rfl ?_
      rintro r h2 ⟨rfl, R2, F2⟩
      exact t71 _ _ h1 h2 (by omega) hok hgd vE X1 F1 R2 F2 rfl
  · -- as ears are at first, or no ear
    have hen := eN_f hno
    refine am_astore_nN (n := 9) (i := 2) dX7_ear_8 rfl (Nat.le_of_ble_eq_true rfl) rfl rfl ?_
    refine am_aload_nN (n := 10) (i := 2) dX7_ear_9 rfl rfl rfl ?_
    refine am_ifnonnullN (n := 13) dX7_ear_10 rfl ?_
    refine am_iload_n (n := 14) (i := 1) dX7_ear_13 rfl rfl rfl ?_
    refine am_bipush (n := 16) (v := (-6)) dX7_ear_14 rfl rfl ?_
    by_cases h6 : a = -6
    · refine am_icmp_eq (tgt := 21) (n := 19) dX7_ear_16 (by decide) rfl (fun _ => ?_) (fun q_z => absurd h6 q_z)
      have hok : ¬ (inN a G.1.2.2.2.length = false ∧ ¬ a = -6) := fun q => q.2 h6
      refine am_aload_n (n := 22) (i := 0) dX7_ear_21 rfl rfl rfl ?_
      refine gfX7_ear_10 (n := 25) dX7_ear_22 (by first | assumption | exact isC_of (by decide +kernel)) rfl ?_
      refine gfX7_ear_109 (n := 28) dX7_ear_25 (by first | assumption | exact isC_of (by decide +kernel)) rfl ?_
      refine am_iconst (n := 29) (v := 4) dX7_ear_28 rfl rfl ?_
      rw [hX.1.2.2.2.1]
      by_cases hl : 4 ≤ G.1.2.2.2.length
      · refine am_icmp_lt (tgt := 35) (n := 32) dX7_ear_29 (by decide) rfl (fun q_z => absurd q_z (nI_nlt hl (by omega))) (fun _ => ?_)
        rw [← hZ, if_neg hok, if_pos hl]
        refine am_bipush (n := 34) (v := (-4)) dX7_ear_32 rfl rfl ?_
        refine am_iret dX7_ear_34 rfl rfl ?_
        exact ⟨rfl, hX, FM.rf⟩
      · refine am_icmp_lt (tgt := 35) (n := 32) dX7_ear_29 (by decide) rfl (fun _ => ?_) (fun q_z => absurd (nI_lt (Nat.not_le.mp hl) (by decide)) q_z)
        refine am_aload_n (n := 36) (i := 0) dX7_ear_35 rfl rfl rfl ?_
        refine caX7_ear_69 (n := 39) dX7_ear_36 (by first | exact ⟨rfl, rfl⟩ | assumption) (ac_X7_recordChange g G h' hX) rfl rfl (Nat.le_of_ble_eq_true rfl) (by first | assumption | exact isC_of (by decide +kernel)) rfl ?_
        rintro r h1 ⟨rfl, X1, F1, FN⟩
        refine am_aload_n (n := 40) (i := 0) dX7_ear_39 rfl rfl rfl ?_
        refine gfX7_ear_10 (n := 43) dX7_ear_40 (by first | assumption | exact isC_of (by decide +kernel)) rfl ?_
        refine gfX7_ear_112 (n := 46) dX7_ear_43 (by first | assumption | exact isC_of (by decide +kernel)) rfl ?_
        refine am_aload_n (n := 47) (i := 0) dX7_ear_46 rfl rfl rfl ?_
        refine gfX7_ear_10 (n := 50) dX7_ear_47 (by first | assumption | exact isC_of (by decide +kernel)) rfl ?_
        refine gfX7_ear_109 (n := 53) dX7_ear_50 (by first | assumption | exact isC_of (by decide +kernel)) rfl ?_
        rw [show h1.1 100 4 = nI G.1.2.2.2.length from X1.1.2.2.2.1]
        have hin : vp_in (nI G.1.2.2.2.length) 4 := vp_in_nI (by omega) (by decide)
        refine am_aldE (n := 54) dX7_ear_53 (by first | assumption | exact isC_of (by decide +kernel)) (by first | assumption | exact vp_in_nI (by omega) (by omega) | exact vp_in_iff.mpr (by decide)) rfl ?_
        rw [nI_clamp (by omega), show 100 + 2 + 8 + 10 * G.1.2.2.2.length = 100 + 10 * (G.1.2.2.2.length + 1) by omega]
        have iN := isSt_now.2.2.2 G.1.2.2.2.length (by omega)
        have iN0 := iN.1
        refine am_astore_n (n := 55) (i := 3) dX7_ear_54 rfl (Nat.le_of_ble_eq_true rfl) rfl rfl ?_
        refine am_aload_nN (n := 56) (i := 2) dX7_ear_55 rfl rfl rfl ?_
        refine am_ifnonnullN (n := 59) dX7_ear_56 rfl ?_
        refine am_aload_n (n := 60) (i := 3) dX7_ear_59 rfl rfl rfl ?_
        refine caX7_ear_116 (n := 63) dX7_ear_60 (by first | exact ⟨rfl, rfl⟩ | assumption) (ac_X2_beAsAtFirst g (100 + 10 * (G.1.2.2.2.length + 1)) h1 iN) rfl rfl (Nat.le_of_ble_eq_true rfl) (by first | assumption | exact isC_of (by decide +kernel)) rfl ?_
        rintro r h2 ⟨rfl, R2, F2⟩
        refine am_goto (tgt := 71) dX7_ear_63 (by decide) ?_
        exact t71 _ _ h1 h2 (by omega) hok (by rw [hen]; rfl) VE0 X1 F1 R2 F2 rfl
    · refine am_icmp_eq (tgt := 21) (n := 19) dX7_ear_16 (by decide) rfl (fun q_z => absurd q_z h6) (fun _ => ?_)
      rw [← hZ, if_pos ⟨hno, h6⟩]
      refine am_iconst (n := 20) (v := (-1)) dX7_ear_19 rfl rfl ?_
      refine am_iret dX7_ear_20 rfl rfl ?_
      exact ⟨rfl, hX, FM.rf⟩
set_option maxRecDepth 100000 in
set_option maxHeartbeats 400000 in
theorem cx_habits (g : Gx) (x b : Int32) (G : GS) (h : Hp) (hX : XI G h) : CX g yX7_habits wsX7_habits rmX7_habits [.ref 0, .int x, .int b] h (sp_habits x b G) := by
  have c0 := isC_0
  have c100 := isSt_now.1
  have h4 := hX.2.1.2.2.2.2.1
  unfold CX
  refine AC.of (cc := cX7_habits) (maxL := 5) (ret := (some .int)) (by decide +kernel) rfl (Nat.le_of_ble_eq_true rfl) ?_
  show AW g mmX7_habits _ 0 [(0, some (.ref 0)), (1, some (.int x)), (2, some (.int b))] [] _
  refine am_aload_n (n := 1) (i := 0) dX7_habits_0 rfl rfl rfl ?_
  refine gfX7_habits_10 (n := 4) dX7_habits_1 (by first | assumption | exact isC_of (by decide +kernel)) rfl ?_
  refine am_iload_n (n := 5) (i := 1) dX7_habits_4 rfl rfl rfl ?_
  refine caX7_habits_105 (n := 8) dX7_habits_5 (by first | exact ⟨rfl, rfl⟩ | assumption) (ac_X5_earAt g 100 x G.1 h isSt_now hX.1 hX.2.1) rfl rfl (Nat.le_of_ble_eq_true rfl) (by first | assumption | exact isC_of (by decide +kernel)) rfl ?_
  rintro r h' ⟨rfl, ⟨e, he, rfl, rfl⟩ | ⟨hno, rfl⟩⟩
  · have hx := List.getElem?_eq_getElem he
    obtain ⟨e4, -, iE, rE, vE⟩ := nowE hX hx
    generalize G.1.2.2.2[e] = E at *
    have hsp : sp_habits (nI e) b G = if inR b 0 7 = false then (-2, G) else (nI E.2.2.1, recG G (withE G.1 (G.1.2.2.2.set e (E.1, E.2.1, tn b, E.2.2.2)))) := by
      unfold sp_habits
      rw [eN_i h4 he, tn_nI (by omega), hx]
    rw [hsp]
    have i0 := iE.1
    refine am_astore_n (n := 9) (i := 3) dX7_habits_8 rfl (Nat.le_of_ble_eq_true rfl) rfl rfl ?_
    refine am_aload_n (n := 10) (i := 3) dX7_habits_9 rfl rfl rfl ?_
    refine am_ifnonnull (tgt := 15) dX7_habits_10 (by decide) ?_
    refine am_iload_n (n := 16) (i := 2) dX7_habits_15 rfl rfl rfl ?_
    refine am_iconst (n := 17) (v := 0) dX7_habits_16 rfl rfl ?_
    refine am_bipush (n := 19) (v := 7) dX7_habits_17 rfl rfl ?_
    refine cdX7_habits_62 (n := 22) dX7_habits_19 (by first | exact ⟨rfl, rfl⟩ | assumption) (ac_X7_isWithin g b 0 7 h') rfl rfl (Nat.le_of_ble_eq_true rfl) rfl ?_
    cases hb : inR b 0 7 with
    | false =>
      rw [show (decide (0 ≤ b) && decide (b ≤ 7)) = false from hb]
      refine am_if_ne (tgt := 28) (n := 25) dX7_habits_22 (by decide) rfl (fun q_z => absurd rfl q_z) (fun _ => ?_)
      refine am_bipush (n := 27) (v := (-2)) dX7_habits_25 rfl rfl ?_
      refine am_iret dX7_habits_27 rfl rfl ?_
      exact ⟨rfl, hX, FM.rf⟩
    | true =>
      rw [show (decide (0 ≤ b) && decide (b ≤ 7)) = true from hb]
      obtain ⟨n, -, n7, rfl⟩ := inR_t (by decide) (by decide) hb
      refine am_if_ne (tgt := 28) (n := 25) dX7_habits_22 (by decide) rfl (fun _ => ?_) (fun q_z => absurd q_z (by decide))
      refine am_aload_n (n := 29) (i := 0) dX7_habits_28 rfl rfl rfl ?_
      refine caX7_habits_69 (n := 32) dX7_habits_29 (by first | exact ⟨rfl, rfl⟩ | assumption) (ac_X7_recordChange g G h' hX) rfl rfl (Nat.le_of_ble_eq_true rfl) (by first | assumption | exact isC_of (by decide +kernel)) rfl ?_
      rintro r h1 ⟨rfl, X1, F1, -⟩
      have rE1 : RE (100 + 10 * (e + 1)) E h1 := X1.1.2.2.2.2.2 e _ hx
      refine am_aload_n (n := 33) (i := 3) dX7_habits_32 rfl rfl rfl ?_
      refine gfX7_habits_141 (n := 36) dX7_habits_33 (by first | assumption | exact isC_of (by decide +kernel)) rfl ?_
      rw [rE1.2.1]
      refine am_istore (n := 38) dX7_habits_36 (Nat.le_of_ble_eq_true rfl) rfl rfl ?_
      refine am_aload_n (n := 39) (i := 3) dX7_habits_38 rfl rfl rfl ?_
      refine am_iload_n (n := 40) (i := 2) dX7_habits_39 rfl rfl rfl ?_
      refine pfX7_habits_141 (n := 43) dX7_habits_40 (by first | assumption | exact isC_of (by decide +kernel)) rfl ?_
      refine am_iload (n := 45) dX7_habits_43 rfl rfl ?_
      refine am_iret dX7_habits_45 rfl rfl ⟨rfl, ?_, F1.tr (fun c w1 w2 => ⟨setI_n _ _ (by omega), rfl⟩)⟩
      rw [tn_nI (by omega)]
      have FF : FrI (100 + 10 * (e + 1)) (100 + 10 * (e + 1) + 6) h1 (setI h1 (100 + 10 * (e + 1)) (upd (h1.1 (100 + 10 * (e + 1))) 2 (nI n))) := FrI.rf.set _ (by omega) (by omega)
      have vE2 : VE (E.1, E.2.1, n, E.2.2.2) := ⟨vE.1, n7, vE.2.2⟩
      refine X1.now (X1.1.ear X1.2.1 FF ⟨fun l hl => ?_, ?_, ?_, fun j q hj => ?_⟩) (VS_setE X1.2.1 vE2) (FF.toFr.wide (by omega) (by omega))
      · simp (disch := omega) only [setI_n]
        exact rE1.1 l hl
      · simp (disch := omega) only [setI_s, pk_us]
      · simp (disch := omega) only [setI_s, pk_un]
        exact rE1.2.2.1
      · simp (disch := omega) only [setI_n]
        exact rE1.2.2.2 j q hj
  · have hs2 : sp_habits x b G = (-1, G) := by unfold sp_habits; rw [eN_f hno]
    rw [hs2]
    refine am_astore_nN (n := 9) (i := 3) dX7_habits_8 rfl (Nat.le_of_ble_eq_true rfl) rfl rfl ?_
    refine am_aload_nN (n := 10) (i := 3) dX7_habits_9 rfl rfl rfl ?_
    refine am_ifnonnullN (n := 13) dX7_habits_10 rfl ?_
    refine am_iconst (n := 14) (v := (-1)) dX7_habits_13 rfl rfl ?_
    refine am_iret dX7_habits_14 rfl rfl ?_
    exact ⟨rfl, hX, FM.rf⟩
set_option maxRecDepth 100000 in
set_option maxHeartbeats 400000 in
theorem cx_merge (g : Gx) (x a b : Int32) (G : GS) (h : Hp) (hX : XI G h) : CX g yX7_merge wsX7_merge rmX7_merge [.ref 0, .int x, .int a, .int b] h (sp_merge x a b G) := by
  have c0 := isC_0
  have c100 := isSt_now.1
  have h4 := hX.2.1.2.2.2.2.1
  unfold CX sp_merge
  refine AC.of (cc := cX7_merge) (maxL := 5) (ret := (some .int)) (by decide +kernel) rfl (Nat.le_of_ble_eq_true rfl) ?_
  show AW g mmX7_merge _ 0 [(0, some (.ref 0)), (1, some (.int x)), (2, some (.int a)), (3, some (.int b))] [] _
  refine am_aload_n (n := 1) (i := 0) dX7_merge_0 rfl rfl rfl ?_
  refine gfX7_merge_10 (n := 4) dX7_merge_1 (by first | assumption | exact isC_of (by decide +kernel)) rfl ?_
  refine am_iload_n (n := 5) (i := 1) dX7_merge_4 rfl rfl rfl ?_
  refine caX7_merge_105 (n := 8) dX7_merge_5 (by first | exact ⟨rfl, rfl⟩ | assumption) (ac_X5_earAt g 100 x G.1 h isSt_now hX.1 hX.2.1) rfl rfl (Nat.le_of_ble_eq_true rfl) (by first | assumption | exact isC_of (by decide +kernel)) rfl ?_
  rintro r h' ⟨rfl, ⟨e, he, rfl, rfl⟩ | ⟨hno, rfl⟩⟩
  · have hx := List.getElem?_eq_getElem he
    obtain ⟨e4, -, iE, rE, vE⟩ := nowE hX hx
    rw [eN_i h4 he, tn_nI (by omega), hx]
    generalize G.1.2.2.2[e] = E at *
    have i0 := iE.1
    refine am_astore (n := 10) dX7_merge_8 (Nat.le_of_ble_eq_true rfl) rfl rfl ?_
    refine am_aload (n := 12) dX7_merge_10 rfl rfl ?_
    refine am_ifnonnull (tgt := 17) dX7_merge_12 (by decide) ?_
    refine am_iload_n (n := 18) (i := 2) dX7_merge_17 rfl rfl rfl ?_
    refine am_iload_n (n := 19) (i := 3) dX7_merge_18 rfl rfl rfl ?_
    refine cdX7_merge_144 (n := 22) dX7_merge_19 (by first | exact ⟨rfl, rfl⟩ | assumption) (ac_X7_canMerge g a b h') rfl rfl (Nat.le_of_ble_eq_true rfl) rfl ?_
    cases hb : canM a b with
    | false =>
      refine am_if_ne (tgt := 28) (n := 25) dX7_merge_22 (by decide) rfl (fun q_z => absurd rfl q_z) (fun _ => ?_)
      refine am_bipush (n := 27) (v := (-2)) dX7_merge_25 rfl rfl ?_
      refine am_iret dX7_merge_27 rfl rfl ?_
      exact ⟨rfl, hX, FM.rf⟩
    | true =>
      have hb2 := hb
      unfold canM at hb2
      rw [Bool.and_eq_true, Bool.and_eq_true] at hb2
      obtain ⟨na, -, na9, rfl⟩ := inR_t (by decide) (by decide) hb2.1.1
      obtain ⟨nb, -, nb9, rfl⟩ := inR_t (by decide) (by decide) hb2.1.2
      rw [tn_nI (by omega), tn_nI (by omega)]
      refine am_if_ne (tgt := 28) (n := 25) dX7_merge_22 (by decide) rfl (fun _ => ?_) (fun q_z => absurd q_z (by decide))
      refine am_aload_n (n := 29) (i := 0) dX7_merge_28 rfl rfl rfl ?_
      refine caX7_merge_69 (n := 32) dX7_merge_29 (by first | exact ⟨rfl, rfl⟩ | assumption) (ac_X7_recordChange g G h' hX) rfl rfl (Nat.le_of_ble_eq_true rfl) (by first | assumption | exact isC_of (by decide +kernel)) rfl ?_
      rintro r h1 ⟨rfl, X1, F1, -⟩
      have rE1 : RE (100 + 10 * (e + 1)) E h1 := X1.1.2.2.2.2.2 e _ hx
      refine am_aload (n := 34) dX7_merge_32 rfl rfl ?_
      refine am_iload_n (n := 35) (i := 2) dX7_merge_34 rfl rfl rfl ?_
      refine am_iload_n (n := 36) (i := 3) dX7_merge_35 rfl rfl rfl ?_
      refine caX7_merge_148 (n := 39) dX7_merge_36 (by first | exact ⟨rfl, rfl⟩ | assumption) (ac_X2_mergeClasses g (100 + 10 * (e + 1)) na nb E h1 iE rE1 vE na9 nb9) rfl rfl (Nat.le_of_ble_eq_true rfl) (by first | assumption | exact isC_of (by decide +kernel)) rfl ?_
      rintro r h2 ⟨rfl, R2, F2⟩
      have vE2 := VE_merge vE na9 nb9
      refine am_aload (n := 41) dX7_merge_39 rfl rfl ?_
      refine am_iload_n (n := 42) (i := 2) dX7_merge_41 rfl rfl rfl ?_
      refine cdX7_merge_152 (n := 45) dX7_merge_42 (by first | exact ⟨rfl, rfl⟩ | assumption) (ac_X2_lettersOf g (100 + 10 * (e + 1)) na (mergeE E na nb) h2 iE R2 vE2 na9) rfl rfl (Nat.le_of_ble_eq_true rfl) (by first | assumption | exact isC_of (by decide +kernel)) rfl ?_
      refine cdX7_merge_156 (n := 48) dX7_merge_45 (by first | exact ⟨rfl, rfl⟩ | assumption) (ac_bitCount g (lof (mergeE E na nb).1 na) h2) rfl rfl (Nat.le_of_ble_eq_true rfl) rfl ?_
      exact am_iret dX7_merge_48 rfl rfl ⟨rfl, X1.now (X1.1.ear X1.2.1 F2 R2) (VS_setE X1.2.1 vE2) (F2.toFr.wide (by omega) (by omega)), F1.tr (FM.fi F2 (by omega))⟩
  · rw [eN_f hno]
    refine am_astoreN (n := 10) dX7_merge_8 (Nat.le_of_ble_eq_true rfl) rfl rfl ?_
    refine am_aloadN (n := 12) dX7_merge_10 rfl rfl ?_
    refine am_ifnonnullN (n := 15) dX7_merge_12 rfl ?_
    refine am_iconst (n := 16) (v := (-1)) dX7_merge_15 rfl rfl ?_
    refine am_iret dX7_merge_16 rfl rfl ?_
    exact ⟨rfl, hX, FM.rf⟩
set_option maxRecDepth 100000 in
set_option maxHeartbeats 400000 in
theorem cx_split (g : Gx) (x : Int32) (G : GS) (h : Hp) (hX : XI G h) : CX g yX7_split wsX7_split rmX7_split [.ref 0, .int x] h (sp_split x G) := by
  have c0 := isC_0
  have c100 := isSt_now.1
  have h4 := hX.2.1.2.2.2.2.1
  unfold CX
  refine AC.of (cc := cX7_split) (maxL := 3) (ret := (some .int)) (by decide +kernel) rfl (Nat.le_of_ble_eq_true rfl) ?_
  show AW g mmX7_split _ 0 [(0, some (.ref 0)), (1, some (.int x))] [] _
  refine am_aload_n (n := 1) (i := 0) dX7_split_0 rfl rfl rfl ?_
  refine gfX7_split_10 (n := 4) dX7_split_1 (by first | assumption | exact isC_of (by decide +kernel)) rfl ?_
  refine am_iload_n (n := 5) (i := 1) dX7_split_4 rfl rfl rfl ?_
  refine caX7_split_105 (n := 8) dX7_split_5 (by first | exact ⟨rfl, rfl⟩ | assumption) (ac_X5_earAt g 100 x G.1 h isSt_now hX.1 hX.2.1) rfl rfl (Nat.le_of_ble_eq_true rfl) (by first | assumption | exact isC_of (by decide +kernel)) rfl ?_
  rintro r h' ⟨rfl, ⟨e, he, rfl, rfl⟩ | ⟨hno, rfl⟩⟩
  · have hx := List.getElem?_eq_getElem he
    obtain ⟨e4, -, iE, rE, vE⟩ := nowE hX hx
    generalize hEg : G.1.2.2.2[e] = E at *
    have hsp : sp_split (nI e) G = match E.2.2.2.getLast? with
      | none => (-5, G)
      | some q => (nI q.2.1, recG G (withE G.1 (G.1.2.2.2.set e (splitE E q E.2.2.2.dropLast)))) := by
      unfold sp_split
      rw [eN_i h4 he, tn_nI (by omega), hx]
      rfl
    have i0 := iE.1
    have hm6 := vE.2.2.1
    refine am_astore_n (n := 9) (i := 2) dX7_split_8 rfl (Nat.le_of_ble_eq_true rfl) rfl rfl ?_
    refine am_aload_n (n := 10) (i := 2) dX7_split_9 rfl rfl rfl ?_
    refine am_ifnonnull (tgt := 15) dX7_split_10 (by decide) ?_
    refine am_aload_n (n := 16) (i := 2) dX7_split_15 rfl rfl rfl ?_
    refine gfX7_split_161 (n := 19) dX7_split_16 (by first | assumption | exact isC_of (by decide +kernel)) rfl ?_
    rw [rE.2.2.1]
    rcases List.eq_nil_or_concat E.2.2.2 with hm | ⟨ms, q, hm⟩
    · have hs2 : sp_split (nI e) G = (-5, G) := by rw [hsp, hm]; rfl
      rw [hm, hs2]
      refine am_if_gt (tgt := 25) (n := 22) dX7_split_19 (by decide) rfl (fun q_z => absurd q_z (by decide)) (fun _ => ?_)
      refine am_bipush (n := 24) (v := (-5)) dX7_split_22 rfl rfl ?_
      refine am_iret dX7_split_24 rfl rfl ?_
      exact ⟨rfl, hX, FM.rf⟩
    · rw [List.concat_eq_append] at hm
      have hs2 : sp_split (nI e) G = (nI q.2.1, recG G (withE G.1 (G.1.2.2.2.set e (splitE E q ms)))) := by
        rw [hsp, show E.2.2.2.getLast? = some q by rw [hm]; simp, show E.2.2.2.dropLast = ms by rw [hm]; simp]
      rw [hs2]
      have hlen : E.2.2.2.length = ms.length + 1 := by rw [hm, List.length_append]; rfl
      refine am_if_gt (tgt := 25) (n := 22) dX7_split_19 (by decide) rfl (fun _ => ?_) (fun q_z => absurd (by rw [hlen]; exact nI_lt (Nat.succ_pos _) (by omega)) q_z)
      refine am_aload_n (n := 26) (i := 0) dX7_split_25 rfl rfl rfl ?_
      refine caX7_split_69 (n := 29) dX7_split_26 (by first | exact ⟨rfl, rfl⟩ | assumption) (ac_X7_recordChange g G h' hX) rfl rfl (Nat.le_of_ble_eq_true rfl) (by first | assumption | exact isC_of (by decide +kernel)) rfl ?_
      rintro r h1 ⟨rfl, X1, F1, -⟩
      have rE1 : RE (100 + 10 * (e + 1)) E h1 := X1.1.2.2.2.2.2 e _ hx
      have eE : E = (E.1, E.2.1, E.2.2.1, ms ++ [q]) := by rw [← hm]
      rw [eE] at rE1
      have vE1 := vE
      rw [eE] at vE1
      refine am_aload_n (n := 30) (i := 2) dX7_split_29 rfl rfl rfl ?_
      refine caX7_split_164 (n := 33) dX7_split_30 (by first | exact ⟨rfl, rfl⟩ | assumption) (ac_X2_splitLatest g (100 + 10 * (e + 1)) E.1 E.2.1 E.2.2.1 ms q h1 iE rE1 vE1) rfl rfl (Nat.le_of_ble_eq_true rfl) (by first | assumption | exact isC_of (by decide +kernel)) rfl ?_
      rintro r h2 ⟨rfl, R2, F2⟩
      have R2 : RE (100 + 10 * (e + 1)) (splitE E q ms) h2 := R2
      have vE2 : VE (splitE E q ms) := VE_split vE (by rw [hm]; exact List.mem_append_right _ List.mem_cons_self) (fun y hy => by rw [hm]; exact List.mem_append_left _ hy) (by omega)
      exact am_iret dX7_split_33 rfl rfl ⟨rfl, X1.now (X1.1.ear X1.2.1 F2 R2) (VS_setE X1.2.1 vE2) (F2.toFr.wide (by omega) (by omega)), F1.tr (FM.fi F2 (by omega))⟩
  · have hs2 : sp_split x G = (-1, G) := by unfold sp_split; rw [eN_f hno]
    rw [hs2]
    refine am_astore_nN (n := 9) (i := 2) dX7_split_8 rfl (Nat.le_of_ble_eq_true rfl) rfl rfl ?_
    refine am_aload_nN (n := 10) (i := 2) dX7_split_9 rfl rfl rfl ?_
    refine am_ifnonnullN (n := 13) dX7_split_10 rfl ?_
    refine am_iconst (n := 14) (v := (-1)) dX7_split_13 rfl rfl ?_
    refine am_iret dX7_split_14 rfl rfl ?_
    exact ⟨rfl, hX, FM.rf⟩
