/-! The reference: ear, ifMerged -/
theorem RZ.addE {S : SV} {E' : EV} {r r' : Nat → Int32} (x : RZ 0 S r) (hV : VS S) (hl : S.2.2.2.length < 4) (f : ∀ j, j ≠ 3 → (j < 268 + 78 * S.2.2.2.length ∨ 268 + 78 * S.2.2.2.length + 78 ≤ j) → r' j = r j) (h3 : r' 3 = nI (S.2.2.2.length + 1)) (R' : REZ (268 + 78 * S.2.2.2.length) E' r') : RZ 0 (withE S (S.2.2.2 ++ [E'])) r' := by
  obtain ⟨x1, x2, x3, x4, x5, x6⟩ := x
  have h24 := hV.2.2.1
  refine ⟨(f 0 (by omega) (by omega)).trans x1, (f 1 (by omega) (by omega)).trans x2, (f 2 (by omega) (by omega)).trans x3, ?_, fun i w hi => ?_, fun e' F he' => ?_⟩
  · show r' 3 = nI (S.2.2.2 ++ [E']).length
    rw [List.length_append]
    exact h3
  · have hi : S.2.2.1[i]? = some w := hi
    have hil := (List.getElem?_eq_some_iff.mp hi).1
    obtain ⟨y1, y2⟩ := x5 i w hi
    exact ⟨(f _ (by omega) (by omega)).trans y1, fun p hp => (f _ (by omega) (by omega)).trans (y2 p hp)⟩
  · have he' : (S.2.2.2 ++ [E'])[e']? = some F := he'
    rw [Nat.zero_add]
    by_cases z : e' = S.2.2.2.length
    · subst z
      rw [List.getElem?_append_right (Nat.le_refl _), Nat.sub_self, List.getElem?_cons_zero] at he'
      rw [← Option.some.inj he']
      exact R'
    · have hil := (List.getElem?_eq_some_iff.mp he').1
      rw [List.length_append] at hil
      simp at hil
      rw [List.getElem?_append_left (by omega)] at he'
      have := x6 e' F he'
      rw [Nat.zero_add] at this
      exact this.to (hV.2.2.2.2.2 F (List.mem_of_getElem? he')) (fun j hj => f _ (by omega) (by omega))
set_option maxRecDepth 100000 in
set_option maxHeartbeats 800000 in
theorem cm_ear (g : Gx) (a : Int32) (G : GS) (h : Hp) (hX : MG G h) : CM g yX8_ear wsX8_ear rmX8_ear [.ref 40, .int a] h (sp_ear a G) := by
  have c40 := isC_40
  have c41 := isC_41
  have h4 := hX.2.1.2.2.2.2.1
  unfold CM sp_ear
  generalize hZ : ZP g (fun v h' => v = some (.int (if inN a G.1.2.2.2.length = false ∧ ¬ a = -6 then (-1, G) else if 4 ≤ G.1.2.2.2.length then (-4, G) else (nI G.1.2.2.2.length, recG G (withE G.1 (G.1.2.2.2 ++ [(eN G.1.2.2.2 a).getD E0])))).1) ∧ MG (if inN a G.1.2.2.2.length = false ∧ ¬ a = -6 then (-1, G) else if 4 ≤ G.1.2.2.2.length then (-4, G) else (nI G.1.2.2.2.length, recG G (withE G.1 (G.1.2.2.2 ++ [(eN G.1.2.2.2 a).getD E0])))).2 h' ∧ Fr 40 59 h h') = Z
  have z0 : Z.1 = 0 ∧ Z.2.1 = 0 := by rw [← hZ]; exact ⟨rfl, rfl⟩
  refine AC.of (cc := cX8_ear) (maxL := 4) (ret := (some .int)) (by decide +kernel) rfl (Nat.le_of_ble_eq_true rfl) ?_
  show AW g mmX8_ear _ 0 [(0, some (.ref 40)), (1, some (.int a))] [] _
  rw [hZ]
  have r3 : h.1 41 3 = nI G.1.2.2.2.length := hX.1.2.2.2.1
  -- the number of ears goes up
  have t103 : ∀ (l : Lo) (E : EV) (h1 h2 : Hp), G.1.2.2.2.length < 4 → ¬ (inN a G.1.2.2.2.length = false ∧ ¬ a = -6) → (eN G.1.2.2.2 a).getD E0 = E → VE E → MG (G.1, pushP G.2.1 G.1, G.2.2) h1 → Fr 40 59 h h1 → FE (268 + 78 * G.1.2.2.2.length) h1 h2 → REZ (268 + 78 * G.1.2.2.2.length) E (h2.1 41) → lget l 0 = some (.ref 40) → lget l 2 = some (.int (nI G.1.2.2.2.length)) → AW g mmX8_ear Z 103 l [] h2 := by
    intro l E h1 h2 hl hok hE hVE X1 F1 F2 R2 l0 l2
    refine am_loc [(0, some (.ref 40)), (2, some (.int (nI G.1.2.2.2.length)))] (by simp only [List.map_cons, List.map_nil, l0, l2]) ?_
    have r13 : h2.1 41 3 = nI G.1.2.2.2.length := (F2.2.2 3 (by omega)).trans X1.1.2.2.2.1
    refine am_aload_n (n := 104) (i := 0) dX8_ear_103 rfl rfl rfl ?_
    refine gfX8_ear_7 (n := 107) dX8_ear_104 (by first | assumption | exact isC_of (by decide +kernel)) rfl ?_
    refine am_iconst (n := 108) (v := 3) dX8_ear_107 rfl rfl ?_
    refine am_dup2 (n := 109) dX8_ear_108 rfl rfl rfl ?_
    refine am_iald (n := 110) dX8_ear_109 (by first | assumption | exact isC_of (by decide +kernel)) (by first | assumption | exact vp_in_nI (by omega) (by omega) | exact vp_in_iff.mpr (by decide)) rfl ?_
    rw [show (3 : Int32).toNatClampNeg = 3 from rfl, r13]
    refine am_iconst (n := 111) (v := 1) dX8_ear_110 rfl rfl ?_
    refine am_iadd (n := 112) dX8_ear_111 rfl ?_
    rw [nI_1]
    refine am_iast (n := 113) dX8_ear_112 (by first | assumption | exact isC_of (by decide +kernel)) (by first | assumption | exact vp_in_nI (by omega) (by omega) | exact vp_in_iff.mpr (by decide)) rfl ?_
    refine am_iload_n (n := 114) (i := 2) dX8_ear_113 rfl rfl rfl ?_
    rw [show (3 : Int32).toNatClampNeg = 3 from rfl, ← hZ, if_neg hok, if_neg (by omega), hE]
    refine am_iret dX8_ear_114 rfl rfl ⟨rfl, ?_, (F1.tr F2.fr).sI _ (by omega) (by omega)⟩
    refine X1.now (S := withE G.1 (G.1.2.2.2 ++ [E])) ?_ (VS_ears X1.2.1 ?_ (fun F hF => ?_)) (by rw [setI_n _ _ (by omega), F2.1 40 (by omega)]) (by rw [setI_n _ _ (by omega), F2.1 40 (by omega)]) (fun c w1 w2 => (setI_n _ _ (by omega)).trans (F2.1 c (by omega)))
    · rw [setI_s]
      exact X1.1.addE X1.2.1 hl (fun j hj hj2 => (pk_un hj).trans (F2.2.2 j hj2)) pk_us (R2.to hVE (fun j hj => pk_un (by show 268 + 78 * G.1.2.2.2.length + j ≠ 3; omega)))
    · rw [List.length_append]
      show G.1.2.2.2.length + 1 ≤ 4
      omega
    · rcases List.mem_append.mp hF with z | z
      · exact X1.2.1.2.2.2.2.2 F z
      · rw [List.mem_singleton.mp z]
        exact hVE
  have t16 : ¬ (inN a G.1.2.2.2.length = false ∧ ¬ a = -6) → AW g mmX8_ear Z 16 [(0, some (.ref 40)), (1, some (.int a))] [] h := by
    intro hok
    refine am_aload_n (n := 17) (i := 0) dX8_ear_16 rfl rfl rfl ?_
    refine gfX8_ear_7 (n := 20) dX8_ear_17 (by first | assumption | exact isC_of (by decide +kernel)) rfl ?_
    refine am_iconst (n := 21) (v := 3) dX8_ear_20 rfl rfl ?_
    refine am_iald (n := 22) dX8_ear_21 (by first | assumption | exact isC_of (by decide +kernel)) (by first | assumption | exact vp_in_nI (by omega) (by omega) | exact vp_in_iff.mpr (by decide)) rfl ?_
    rw [show (3 : Int32).toNatClampNeg = 3 from rfl, r3]
    refine am_istore_n (n := 23) (i := 2) dX8_ear_22 rfl (Nat.le_of_ble_eq_true rfl) rfl rfl ?_
    refine am_iload_n (n := 24) (i := 2) dX8_ear_23 rfl rfl rfl ?_
    refine am_iconst (n := 25) (v := 4) dX8_ear_24 rfl rfl ?_
    by_cases hl : G.1.2.2.2.length = 4
    · refine am_icmp_ne (tgt := 31) (n := 28) dX8_ear_25 (by decide) rfl (fun q_z => absurd (by rw [hl]; rfl) q_z) (fun _ => ?_)
      rw [← hZ, if_neg hok, if_pos (by omega)]
      refine am_bipush (n := 30) (v := (-4)) dX8_ear_28 rfl rfl ?_
      refine am_iret dX8_ear_30 rfl rfl ?_
      exact ⟨rfl, hX, Fr.rf⟩
    · refine am_icmp_ne (tgt := 31) (n := 28) dX8_ear_25 (by decide) rfl (fun _ => ?_) (fun q_z => absurd q_z (fun z => hl ((nI_eq (b := 4) (by omega) (by omega)).mp z)))
      refine am_aload_n (n := 32) (i := 0) dX8_ear_31 rfl rfl rfl ?_
      refine caX8_ear_63 (n := 35) dX8_ear_32 (by first | exact ⟨rfl, rfl⟩ | assumption) (m_record g G h hX) rfl rfl (Nat.le_of_ble_eq_true rfl) (by first | assumption | exact isC_of (by decide +kernel)) rfl ?_
      rintro r h1 ⟨rfl, X1, F1, -⟩
      have hl4 : G.1.2.2.2.length < 4 := by omega
      have t103' := fun l E h2 => t103 l E h1 h2 hl4 hok
      refine am_iconst (n := 36) (v := 0) dX8_ear_35 rfl rfl ?_
      refine am_istore_n (n := 37) (i := 3) dX8_ear_36 rfl (Nat.le_of_ble_eq_true rfl) rfl rfl ?_
      -- the numbers
      by_cases h6 : a = -6
      · subst h6
        have hen : (eN G.1.2.2.2 (-6)).getD E0 = E0 := by
          rw [eN_f (inN_neg (by decide))]
          rfl
        generalize G.1.2.2.2.length = len at *
        refine am_loc [(0, some (.ref 40)), (1, some (.int (-6))), (2, some (.int (nI len))), (3, some (.int (nI 0)))] rfl ?_
        refine loop_up (Wp := fun k => ∀ hh : Hp, FE (268 + 78 * len) h1 hh → (∀ j, j < k → hh.1 41 (268 + 78 * len + j) = 0) → AW g mmX8_ear Z 37 [(0, some (.ref 40)), (1, some (.int (-6))), (2, some (.int (nI len))), (3, some (.int (nI k)))] [] hh) 78 ?_ ?_ 0 (by omega) h1 FE.rf (fun j hj => by omega)
        · intro hh F e1
          refine am_iload_n (n := 38) (i := 3) dX8_ear_37 rfl rfl rfl ?_
          refine am_bipush (n := 40) (v := 78) dX8_ear_38 rfl rfl ?_
          refine am_icmp_ge (tgt := 71) (n := 43) dX8_ear_40 (by decide) rfl (fun _ => ?_) (fun q_z => absurd (by decide) q_z)
          refine am_iconst (n := 72) (v := 0) dX8_ear_71 rfl rfl ?_
          refine am_istore_n (n := 73) (i := 3) dX8_ear_72 rfl (Nat.le_of_ble_eq_true rfl) rfl rfl ?_
          refine am_loc [(0, some (.ref 40)), (1, some (.int (-6))), (2, some (.int (nI len))), (3, some (.int (nI 0)))] rfl ?_
          refine loop_up (Wp := fun k => ∀ hh : Hp, FE (268 + 78 * len) h1 hh → (∀ j, j < k → hh.1 41 (268 + 78 * len + j) = nI (firstN j)) → (∀ j, 26 ≤ j → j < 78 → hh.1 41 (268 + 78 * len + j) = 0) → AW g mmX8_ear Z 73 [(0, some (.ref 40)), (1, some (.int (-6))), (2, some (.int (nI len))), (3, some (.int (nI k)))] [] hh) 26 ?_ ?_ 0 (by omega) hh F (fun j hj => by omega) (fun j hj hj2 => e1 j hj2)
          · intro hh F e1 e2
            refine am_iload_n (n := 74) (i := 3) dX8_ear_73 rfl rfl rfl ?_
            refine am_bipush (n := 76) (v := 26) dX8_ear_74 rfl rfl ?_
            refine am_icmp_ge (tgt := 103) (n := 79) dX8_ear_76 (by decide) rfl (fun _ => ?_) (fun q_z => absurd (by decide) q_z)
            refine t103' _ E0 hh hen VE0 X1 F1 F ⟨fun l hl => ⟨e1 l hl, ?_⟩, e2 52 (by omega) (by omega), e2 53 (by omega) (by omega), fun j q hj => by cases hj⟩ rfl rfl
            rw [Nat.add_assoc]
            exact e2 (26 + l) (by omega) (by omega)
          · intro k hk K hh F e1 e2
            refine am_iload_n (n := 74) (i := 3) dX8_ear_73 rfl rfl rfl ?_
            refine am_bipush (n := 76) (v := 26) dX8_ear_74 rfl rfl ?_
            refine am_icmp_ge (tgt := 103) (n := 79) dX8_ear_76 (by decide) rfl (fun q_z => absurd q_z (nI_ge hk (by decide))) (fun _ => ?_)
            refine am_iload_n (n := 80) (i := 1) dX8_ear_79 rfl rfl rfl ?_
            refine am_bipush (n := 82) (v := (-6)) dX8_ear_80 rfl rfl ?_
            refine am_icmp_ne (tgt := 103) (n := 85) dX8_ear_82 (by decide) rfl (fun q_z => absurd rfl q_z) (fun _ => ?_)
            refine am_aload_n (n := 86) (i := 0) dX8_ear_85 rfl rfl rfl ?_
            refine am_iload_n (n := 87) (i := 2) dX8_ear_86 rfl rfl rfl ?_
            refine am_iconst (n := 88) (v := 0) dX8_ear_87 rfl rfl ?_
            refine am_iload_n (n := 89) (i := 3) dX8_ear_88 rfl rfl rfl ?_
            refine am_iadd (n := 90) dX8_ear_89 rfl ?_
            rw [show (0 : Int32) + nI k = nI (0 + k) from nI_add 0 k, Nat.zero_add]
            refine am_iload_n (n := 91) (i := 3) dX8_ear_90 rfl rfl rfl ?_
            refine cdX8_ear_163 (n := 94) dX8_ear_91 (by first | exact ⟨rfl, rfl⟩ | assumption) (m_firstKind g k hh hk) rfl rfl (Nat.le_of_ble_eq_true rfl) rfl ?_
            refine caX8_ear_159 (n := 97) dX8_ear_94 (by first | exact ⟨rfl, rfl⟩ | assumption) (m_lay g len k _ hh hl4 (by omega)) rfl rfl (Nat.le_of_ble_eq_true rfl) (by first | assumption | exact isC_of (by decide +kernel)) rfl ?_
            rintro r h3 ⟨rfl, rfl⟩
            first | refine am_iincN (n := 100) dX8_ear_97 rfl rfl rfl ?_ | refine am_iinc1 (n := 100) dX8_ear_97 rfl rfl rfl ?_
            refine am_goto (tgt := 73) dX8_ear_100 (by decide) ?_
            refine am_loc _ rfl (K _ (F.upd _ (by omega) (by omega)) (fun j hj => ?_) (fun j hj hj2 => ?_))
            · rw [setI_s]
              by_cases z : j = k
              · rw [z, pk_us]
              · rw [pk_un (by omega)]
                exact e1 j (by omega)
            · rw [setI_s, pk_un (by omega)]
              exact e2 j hj hj2
        · intro k hk K hh F e1
          refine am_iload_n (n := 38) (i := 3) dX8_ear_37 rfl rfl rfl ?_
          refine am_bipush (n := 40) (v := 78) dX8_ear_38 rfl rfl ?_
          refine am_icmp_ge (tgt := 71) (n := 43) dX8_ear_40 (by decide) rfl (fun q_z => absurd q_z (nI_ge hk (by decide))) (fun _ => ?_)
          refine am_aload_n (n := 44) (i := 0) dX8_ear_43 rfl rfl rfl ?_
          refine am_iload_n (n := 45) (i := 2) dX8_ear_44 rfl rfl rfl ?_
          refine am_iload_n (n := 46) (i := 3) dX8_ear_45 rfl rfl rfl ?_
          refine am_iload_n (n := 47) (i := 1) dX8_ear_46 rfl rfl rfl ?_
          refine am_bipush (n := 49) (v := (-6)) dX8_ear_47 rfl rfl ?_
          refine am_icmp_ne (tgt := 56) (n := 52) dX8_ear_49 (by decide) rfl (fun q_z => absurd rfl q_z) (fun _ => ?_)
          refine am_iconst (n := 53) (v := 0) dX8_ear_52 rfl rfl ?_
          refine am_goto (tgt := 62) dX8_ear_53 (by decide) ?_
          refine caX8_ear_159 (n := 65) dX8_ear_62 (by first | exact ⟨rfl, rfl⟩ | assumption) (m_lay g len k _ hh hl4 (by omega)) rfl rfl (Nat.le_of_ble_eq_true rfl) (by first | assumption | exact isC_of (by decide +kernel)) rfl ?_
          rintro r h3 ⟨rfl, rfl⟩
          first | refine am_iincN (n := 68) dX8_ear_65 rfl rfl rfl ?_ | refine am_iinc1 (n := 68) dX8_ear_65 rfl rfl rfl ?_
          refine am_goto (tgt := 37) dX8_ear_68 (by decide) ?_
          refine am_loc _ rfl (K _ (F.upd _ (by omega) (by omega)) (fun j hj => ?_))
          rw [setI_s]
          by_cases z : j = k
          · rw [z, pk_us]
          · rw [pk_un (by omega)]
            exact e1 j (by omega)
      · have hin : inN a G.1.2.2.2.length = true := by
          cases q : inN a G.1.2.2.2.length with
          | true => rfl
          | false => exact absurd ⟨q, h6⟩ hok
        obtain ⟨e, he, rfl⟩ := inN_t (by omega) hin
        have hx := List.getElem?_eq_getElem he
        have hen : (eN G.1.2.2.2 (nI e)).getD E0 = G.1.2.2.2[e] := by rw [eN_i h4 he, hx]; rfl
        obtain ⟨e4, R1, vE⟩ := mE X1.1 X1.2.1 hx
        generalize G.1.2.2.2[e] = E at *
        generalize G.1.2.2.2.length = len at *
        refine am_loc [(0, some (.ref 40)), (1, some (.int (nI e))), (2, some (.int (nI len))), (3, some (.int (nI 0)))] rfl ?_
        refine loop_up (Wp := fun k => ∀ hh : Hp, FE (268 + 78 * len) h1 hh → (∀ j, j < k → hh.1 41 (268 + 78 * len + j) = h1.1 41 (268 + 78 * e + j)) → AW g mmX8_ear Z 37 [(0, some (.ref 40)), (1, some (.int (nI e))), (2, some (.int (nI len))), (3, some (.int (nI k)))] [] hh) 78 ?_ ?_ 0 (by omega) h1 FE.rf (fun j hj => by omega)
        · intro hh F e1
          refine am_iload_n (n := 38) (i := 3) dX8_ear_37 rfl rfl rfl ?_
          refine am_bipush (n := 40) (v := 78) dX8_ear_38 rfl rfl ?_
          refine am_icmp_ge (tgt := 71) (n := 43) dX8_ear_40 (by decide) rfl (fun _ => ?_) (fun q_z => absurd (by decide) q_z)
          refine am_iconst (n := 72) (v := 0) dX8_ear_71 rfl rfl ?_
          refine am_istore_n (n := 73) (i := 3) dX8_ear_72 rfl (Nat.le_of_ble_eq_true rfl) rfl rfl ?_
          refine am_iload_n (n := 74) (i := 3) dX8_ear_73 rfl rfl rfl ?_
          refine am_bipush (n := 76) (v := 26) dX8_ear_74 rfl rfl ?_
          refine am_icmp_ge (tgt := 103) (n := 79) dX8_ear_76 (by decide) rfl (fun q_z => absurd q_z (by decide)) (fun _ => ?_)
          refine am_iload_n (n := 80) (i := 1) dX8_ear_79 rfl rfl rfl ?_
          refine am_bipush (n := 82) (v := (-6)) dX8_ear_80 rfl rfl ?_
          refine am_icmp_ne (tgt := 103) (n := 85) dX8_ear_82 (by decide) rfl (fun _ => ?_) (fun q_z => absurd q_z h6)
          exact t103' _ E hh hen vE X1 F1 F (R1.to vE e1) rfl rfl
        · intro k hk K hh F e1
          refine am_iload_n (n := 38) (i := 3) dX8_ear_37 rfl rfl rfl ?_
          refine am_bipush (n := 40) (v := 78) dX8_ear_38 rfl rfl ?_
          refine am_icmp_ge (tgt := 71) (n := 43) dX8_ear_40 (by decide) rfl (fun q_z => absurd q_z (nI_ge hk (by decide))) (fun _ => ?_)
          refine am_aload_n (n := 44) (i := 0) dX8_ear_43 rfl rfl rfl ?_
          refine am_iload_n (n := 45) (i := 2) dX8_ear_44 rfl rfl rfl ?_
          refine am_iload_n (n := 46) (i := 3) dX8_ear_45 rfl rfl rfl ?_
          refine am_iload_n (n := 47) (i := 1) dX8_ear_46 rfl rfl rfl ?_
          refine am_bipush (n := 49) (v := (-6)) dX8_ear_47 rfl rfl ?_
          refine am_icmp_ne (tgt := 56) (n := 52) dX8_ear_49 (by decide) rfl (fun _ => ?_) (fun q_z => absurd q_z h6)
          refine am_aload_n (n := 57) (i := 0) dX8_ear_56 rfl rfl rfl ?_
          refine am_iload_n (n := 58) (i := 1) dX8_ear_57 rfl rfl rfl ?_
          refine am_iload_n (n := 59) (i := 3) dX8_ear_58 rfl rfl rfl ?_
          refine cdX8_ear_106 (n := 62) dX8_ear_59 (by first | exact ⟨rfl, rfl⟩ | assumption) (m_at g e k hh e4 hk) rfl rfl (Nat.le_of_ble_eq_true rfl) (by first | assumption | exact isC_of (by decide +kernel)) rfl ?_
          rw [F.2.2 _ (by omega)]
          refine caX8_ear_159 (n := 65) dX8_ear_62 (by first | exact ⟨rfl, rfl⟩ | assumption) (m_lay g len k _ hh hl4 (by omega)) rfl rfl (Nat.le_of_ble_eq_true rfl) (by first | assumption | exact isC_of (by decide +kernel)) rfl ?_
          rintro r h3 ⟨rfl, rfl⟩
          first | refine am_iincN (n := 68) dX8_ear_65 rfl rfl rfl ?_ | refine am_iinc1 (n := 68) dX8_ear_65 rfl rfl rfl ?_
          refine am_goto (tgt := 37) dX8_ear_68 (by decide) ?_
          refine am_loc _ rfl (K _ (F.upd _ (by omega) (by omega)) (fun j hj => ?_))
          rw [setI_s]
          by_cases z : j = k
          · rw [z, pk_us]
          · rw [pk_un (by omega)]
            exact e1 j (by omega)
  refine am_iload_n (n := 1) (i := 1) dX8_ear_0 rfl rfl rfl ?_
  refine am_bipush (n := 3) (v := (-6)) dX8_ear_1 rfl rfl ?_
  by_cases h6 : a = -6
  · refine am_icmp_eq (tgt := 16) (n := 6) dX8_ear_3 (by decide) rfl (fun _ => ?_) (fun q_z => absurd h6 q_z)
    exact am_loc _ rfl (t16 (fun q => q.2 h6))
  · refine am_icmp_eq (tgt := 16) (n := 6) dX8_ear_3 (by decide) rfl (fun q_z => absurd q_z h6) (fun _ => ?_)
    refine am_aload_n (n := 7) (i := 0) dX8_ear_6 rfl rfl rfl ?_
    refine am_iload_n (n := 8) (i := 1) dX8_ear_7 rfl rfl rfl ?_
    refine cdX8_ear_156 (n := 11) dX8_ear_8 (by first | exact ⟨rfl, rfl⟩ | assumption) (m_isEar g a G.1.2.2.2.length h (by omega) r3) rfl rfl (Nat.le_of_ble_eq_true rfl) (by first | assumption | exact isC_of (by decide +kernel)) rfl ?_
    cases hin : inN a G.1.2.2.2.length with
    | false =>
      refine am_if_ne (tgt := 16) (n := 14) dX8_ear_11 (by decide) rfl (fun q_z => absurd rfl q_z) (fun _ => ?_)
      rw [← hZ, if_pos ⟨hin, h6⟩]
      refine am_iconst (n := 15) (v := (-1)) dX8_ear_14 rfl rfl ?_
      refine am_iret dX8_ear_15 rfl rfl ?_
      exact ⟨rfl, hX, Fr.rf⟩
    | true =>
      refine am_if_ne (tgt := 16) (n := 14) dX8_ear_11 (by decide) rfl (fun _ => ?_) (fun q_z => absurd q_z (show ¬ (1 : Int32) = 0 by decide))
      exact am_loc _ rfl (t16 (fun q => by rw [hin] at q; cases q.1))
set_option maxRecDepth 100000 in
set_option maxHeartbeats 400000 in
theorem m_behindMerger (g : Gx) (e a c : Nat) (p : Bool) (E : EV) (G : GS) (h : Hp) (hX : MG G h) (hx : G.1.2.2.2[e]? = some E) (ha : a ≤ 9) (hc : c ≤ 9) : AC g yX8_behindMerger wsX8_behindMerger rmX8_behindMerger [.ref 40, .int (nI e), .int (nI a), .int (nI c), .int (bI p)] h (fun v h' => v = some (.int (if p = true then prs (csOf G.1 (mergeE E a c)) else nI (dl (csOf G.1 (mergeE E a c))).length)) ∧ MG G h' ∧ Fr 40 59 h h') := by
  have c40 := isC_40
  have c41 := isC_41
  have c42 := isC_42
  obtain ⟨e4, R, vE⟩ := mE hX.1 hX.2.1 hx
  have hel := (List.getElem?_eq_some_iff.mp hx).1
  have vE2 := VE_merge vE ha hc
  refine AC.of (cc := cX8_behindMerger) (maxL := 6) (ret := (some .int)) (by decide +kernel) rfl (Nat.le_of_ble_eq_true rfl) ?_
  show AW g mmX8_behindMerger _ 0 [(0, some (.ref 40)), (1, some (.int (nI e))), (2, some (.int (nI a))), (3, some (.int (nI c))), (4, some (.int (bI p)))] [] _
  refine am_aload_n (n := 1) (i := 0) dX8_behindMerger_0 rfl rfl rfl ?_
  refine gfX8_behindMerger_7 (n := 4) dX8_behindMerger_1 (by first | assumption | exact isC_of (by decide +kernel)) rfl ?_
  refine am_iconst (n := 5) (v := 0) dX8_behindMerger_4 rfl rfl ?_
  refine am_aload_n (n := 6) (i := 0) dX8_behindMerger_5 rfl rfl rfl ?_
  refine gfX8_behindMerger_13 (n := 9) dX8_behindMerger_6 (by first | assumption | exact isC_of (by decide +kernel)) rfl ?_
  refine am_iconst (n := 10) (v := 0) dX8_behindMerger_9 rfl rfl ?_
  refine cdX8_behindMerger_59 (n := 13) dX8_behindMerger_10 (by first | exact ⟨rfl, rfl⟩ | assumption) (m_copyState g 41 42 0 0 580 580 h c41 c42 (by decide) (by omega) (by omega) (by omega) (by omega)) rfl rfl (Nat.le_of_ble_eq_true rfl) rfl ?_
  refine am_aload_n (n := 14) (i := 0) dX8_behindMerger_13 rfl rfl rfl ?_
  refine am_iload_n (n := 15) (i := 1) dX8_behindMerger_14 rfl rfl rfl ?_
  refine am_iload_n (n := 16) (i := 2) dX8_behindMerger_15 rfl rfl rfl ?_
  refine am_iload_n (n := 17) (i := 3) dX8_behindMerger_16 rfl rfl rfl ?_
  refine caX8_behindMerger_187 (n := 20) dX8_behindMerger_17 (by first | exact ⟨rfl, rfl⟩ | assumption) (m_mergeKinds g e a c E _ e4 (by rw [setI_n _ _ (by omega)]; exact R) vE ha hc) rfl rfl (Nat.le_of_ble_eq_true rfl) (by first | assumption | exact isC_of (by decide +kernel)) rfl ?_
  rintro r h2 ⟨rfl, F2, R2⟩
  have e42 : h2.1 42 = cpy (h.1 41) 0 (h.1 42) 0 580 := by rw [F2.1 42 (by omega), setI_s]
  have eo : ∀ x, x ≠ 41 → x ≠ 42 → h2.1 x = h.1 x := fun x h1 h2 => (F2.1 x h1).trans (setI_n _ _ h2)
  have FF2 : Fr 40 59 h h2 := (Fr.rf.sI _ (by omega) (by omega)).tr F2.fr
  have RS2 : RZ 0 (withE G.1 (G.1.2.2.2.set e (mergeE E a c))) (h2.1 41) := by
    refine hX.1.setE hX.2.1 (fun j hj => ?_) R2
    rw [F2.2.2 j hj, setI_n _ _ (by omega)]
  have VS2 := VS_setE (e := e) hX.2.1 vE2
  have hx2 : (withE G.1 (G.1.2.2.2.set e (mergeE E a c))).2.2.2[e]? = some (mergeE E a c) := List.getElem?_set_self hel
  have hpr := m_pairs g e _ _ h2 RS2 VS2 hx2
  rw [show csOf (withE G.1 (G.1.2.2.2.set e (mergeE E a c))) (mergeE E a c) = csOf G.1 (mergeE E a c) from rfl] at hpr
  generalize csOf G.1 (mergeE E a c) = cs at *
  generalize hZ : ZP g (fun v h' => v = some (.int (if p = true then prs cs else nI (dl cs).length)) ∧ MG G h' ∧ Fr 40 59 h h') = Z
  have z0 : Z.1 = 0 ∧ Z.2.1 = 0 := by rw [← hZ]; exact ⟨rfl, rfl⟩
  refine am_aload_n (n := 21) (i := 0) dX8_behindMerger_20 rfl rfl rfl ?_
  refine am_iload_n (n := 22) (i := 1) dX8_behindMerger_21 rfl rfl rfl ?_
  refine caX8_behindMerger_202 (n := 25) dX8_behindMerger_22 (by first | exact ⟨rfl, rfl⟩ | assumption) hpr rfl rfl (Nat.le_of_ble_eq_true rfl) (by first | assumption | exact isC_of (by decide +kernel)) rfl ?_
  rintro r h3 ⟨rfl, H3, F3⟩
  generalize prs cs = pp at *
  refine am_istore (n := 27) dX8_behindMerger_25 (Nat.le_of_ble_eq_true rfl) rfl rfl ?_
  refine am_aload_n (n := 28) (i := 0) dX8_behindMerger_27 rfl rfl rfl ?_
  refine gfX8_behindMerger_13 (n := 31) dX8_behindMerger_28 (by first | assumption | exact isC_of (by decide +kernel)) rfl ?_
  refine am_iconst (n := 32) (v := 0) dX8_behindMerger_31 rfl rfl ?_
  refine am_aload_n (n := 33) (i := 0) dX8_behindMerger_32 rfl rfl rfl ?_
  refine gfX8_behindMerger_7 (n := 36) dX8_behindMerger_33 (by first | assumption | exact isC_of (by decide +kernel)) rfl ?_
  refine am_iconst (n := 37) (v := 0) dX8_behindMerger_36 rfl rfl ?_
  refine cdX8_behindMerger_59 (n := 40) dX8_behindMerger_37 (by first | exact ⟨rfl, rfl⟩ | assumption) (m_copyState g 42 41 0 0 580 580 h3 c42 c41 (by decide) (by omega) (by omega) (by omega) (by omega)) rfl rfl (Nat.le_of_ble_eq_true rfl) rfl ?_
  have MGe : MG G (setI h3 41 (cpy (h3.1 42) 0 (h3.1 41) 0 580)) := by
    refine hX.now (S := G.1) ?_ hX.2.1 (by rw [setI_n _ _ (by omega), F3.2.2.1, eo 40 (by omega) (by omega)]) (by rw [setI_n _ _ (by omega), F3.2.2.2.1, eo 40 (by omega) (by omega)]) (fun x c1 c2 => by rw [setI_n _ _ (by omega), F3.2.2.2.2 x (by omega) (Or.inl c2), eo x (by omega) (by omega)])
    rw [setI_s, F3.2.2.2.2 42 (by omega) (by omega), e42]
    refine hX.1.to hX.2.1 (fun j hj => ?_)
    unfold cpy
    rw [if_pos (by omega), if_pos (by omega), show 0 + (0 + (0 + j - 0) - 0) = 0 + j by omega]
  have FFe : Fr 40 59 h (setI h3 41 (cpy (h3.1 42) 0 (h3.1 41) 0 580)) := (FF2.tr F3.1).sI _ (by omega) (by omega)
  refine am_iload (n := 42) dX8_behindMerger_40 rfl rfl ?_
  cases p with
  | true =>
    refine am_if_eq (tgt := 50) (n := 45) dX8_behindMerger_42 (by decide) rfl (fun q_z => absurd q_z (show ¬ (1 : Int32) = 0 by decide)) (fun _ => ?_)
    rw [← hZ, if_pos rfl]
    refine am_iload (n := 47) dX8_behindMerger_45 rfl rfl ?_
    refine am_goto (tgt := 54) dX8_behindMerger_47 (by decide) ?_
    refine am_iret dX8_behindMerger_54 rfl rfl ?_
    exact ⟨rfl, MGe, FFe⟩
  | false =>
    refine am_if_eq (tgt := 50) (n := 45) dX8_behindMerger_42 (by decide) rfl (fun _ => ?_) (fun q_z => absurd rfl q_z)
    refine am_aload_n (n := 51) (i := 0) dX8_behindMerger_50 rfl rfl rfl ?_
    refine gfX8_behindMerger_130 (n := 54) dX8_behindMerger_51 (by first | assumption | exact isC_of (by decide +kernel)) rfl ?_
    rw [setI_n _ _ (show (40 : Nat) ≠ 41 by decide), H3.1.1, ← hZ, if_neg (by decide)]
    refine am_iret dX8_behindMerger_54 rfl rfl ?_
    exact ⟨rfl, MGe, FFe⟩
set_option maxRecDepth 100000 in
set_option maxHeartbeats 400000 in
theorem cm_ifMerged (g : Gx) (x a b w : Int32) (G : GS) (h : Hp) (hX : MG G h) : CM g yX8_ifMerged wsX8_ifMerged rmX8_ifMerged [.ref 40, .int x, .int a, .int b, .int w] h (sp_ifMerged x a b w G) := by
  have c40 := isC_40
  have h4 := hX.2.1.2.2.2.2.1
  unfold CM sp_ifMerged
  refine AC.of (cc := cX8_ifMerged) (maxL := 5) (ret := (some .int)) (by decide +kernel) rfl (Nat.le_of_ble_eq_true rfl) ?_
  show AW g mmX8_ifMerged _ 0 [(0, some (.ref 40)), (1, some (.int x)), (2, some (.int a)), (3, some (.int b)), (4, some (.int w))] [] _
  refine am_aload_n (n := 1) (i := 0) dX8_ifMerged_0 rfl rfl rfl ?_
  refine am_iload_n (n := 2) (i := 1) dX8_ifMerged_1 rfl rfl rfl ?_
  refine cdX8_ifMerged_156 (n := 5) dX8_ifMerged_2 (by first | exact ⟨rfl, rfl⟩ | assumption) (m_isEar g x G.1.2.2.2.length h (by omega) hX.1.2.2.2.1) rfl rfl (Nat.le_of_ble_eq_true rfl) (by first | assumption | exact isC_of (by decide +kernel)) rfl ?_
  cases hxx : inN x G.1.2.2.2.length with
  | false =>
    rw [sp_E_f _ hxx]
    refine am_if_ne (tgt := 10) (n := 8) dX8_ifMerged_5 (by decide) rfl (fun q_z => absurd rfl q_z) (fun _ => ?_)
    refine am_iconst (n := 9) (v := (-1)) dX8_ifMerged_8 rfl rfl ?_
    refine am_iret dX8_ifMerged_9 rfl rfl ?_
    exact ⟨rfl, hX, Fr.rf⟩
  | true =>
    obtain ⟨e, he, rfl⟩ := inN_t (by omega) hxx
    have hx := List.getElem?_eq_getElem he
    rw [sp_E_t _ h4 he hx]
    generalize G.1.2.2.2[e] = E at *
    refine am_if_ne (tgt := 10) (n := 8) dX8_ifMerged_5 (by decide) rfl (fun _ => ?_) (fun q_z => absurd q_z (show ¬ (1 : Int32) = 0 by decide))
    refine am_iload_n (n := 11) (i := 2) dX8_ifMerged_10 rfl rfl rfl ?_
    refine am_iload_n (n := 12) (i := 3) dX8_ifMerged_11 rfl rfl rfl ?_
    refine cdX8_ifMerged_184 (n := 15) dX8_ifMerged_12 (by first | exact ⟨rfl, rfl⟩ | assumption) (m_areKinds g a b h) rfl rfl (Nat.le_of_ble_eq_true rfl) rfl ?_
    cases hb : canM a b with
    | false =>
      rw [if_neg (by decide)]
      refine am_if_eq (tgt := 49) (n := 18) dX8_ifMerged_15 (by decide) rfl (fun _ => ?_) (fun q_z => absurd rfl q_z)
      refine am_bipush (n := 51) (v := (-2)) dX8_ifMerged_49 rfl rfl ?_
      refine am_iret dX8_ifMerged_51 rfl rfl ?_
      exact ⟨rfl, hX, Fr.rf⟩
    | true =>
      rw [if_pos rfl]
      have hb2 := hb
      unfold canM at hb2
      rw [Bool.and_eq_true, Bool.and_eq_true] at hb2
      obtain ⟨na, -, na9, rfl⟩ := inR_t (by decide) (by decide) hb2.1.1
      obtain ⟨nb, -, nb9, rfl⟩ := inR_t (by decide) (by decide) hb2.1.2
      rw [tn_nI (by omega), tn_nI (by omega)]
      have hbm := fun p => m_behindMerger g e na nb p E G h hX hx na9 nb9
      generalize csOf G.1 (mergeE E na nb) = cs at *
      refine am_if_eq (tgt := 49) (n := 18) dX8_ifMerged_15 (by decide) rfl (fun q_z => absurd q_z (show ¬ (1 : Int32) = 0 by decide)) (fun _ => ?_)
      refine am_iload (n := 20) dX8_ifMerged_18 rfl rfl ?_
      refine am_iconst (n := 21) (v := 0) dX8_ifMerged_20 rfl rfl ?_
      refine am_iconst (n := 22) (v := 1) dX8_ifMerged_21 rfl rfl ?_
      refine cdX8_ifMerged_51 (n := 25) dX8_ifMerged_22 (by first | exact ⟨rfl, rfl⟩ | assumption) (m_in g w 0 1 h) rfl rfl (Nat.le_of_ble_eq_true rfl) rfl ?_
      by_cases w0 : w = 0
      · subst w0
        have := hbm false
        rw [if_neg (by decide)] at this
        rw [show inR 0 0 1 = true from rfl, if_pos rfl, if_pos rfl]
        refine am_if_eq (tgt := 49) (n := 28) dX8_ifMerged_25 (by decide) rfl (fun q_z => absurd q_z (by decide)) (fun _ => ?_)
        refine am_aload_n (n := 29) (i := 0) dX8_ifMerged_28 rfl rfl rfl ?_
        refine am_iload_n (n := 30) (i := 1) dX8_ifMerged_29 rfl rfl rfl ?_
        refine am_iload_n (n := 31) (i := 2) dX8_ifMerged_30 rfl rfl rfl ?_
        refine am_iload_n (n := 32) (i := 3) dX8_ifMerged_31 rfl rfl rfl ?_
        refine am_iload (n := 34) dX8_ifMerged_32 rfl rfl ?_
        refine am_iconst (n := 35) (v := 1) dX8_ifMerged_34 rfl rfl ?_
        refine am_icmp_ne (tgt := 42) (n := 38) dX8_ifMerged_35 (by decide) rfl (fun _ => ?_) (fun q_z => absurd q_z (by decide))
        refine am_iconst (n := 43) (v := 0) dX8_ifMerged_42 rfl rfl ?_
        refine caX8_ifMerged_227 (n := 46) dX8_ifMerged_43 (by first | exact ⟨rfl, rfl⟩ | assumption) this rfl rfl (Nat.le_of_ble_eq_true rfl) (by first | assumption | exact isC_of (by decide +kernel)) rfl ?_
        rintro r h1 ⟨rfl, X1, F1⟩
        refine am_goto (tgt := 51) dX8_ifMerged_46 (by decide) ?_
        refine am_iret dX8_ifMerged_51 rfl rfl ?_
        exact ⟨rfl, X1, F1⟩
      · by_cases w1 : w = 1
        · subst w1
          have := hbm true
          rw [if_pos rfl] at this
          rw [show inR 1 0 1 = true from rfl, if_pos rfl, if_neg (by decide)]
          generalize prs cs = pp at *
          refine am_if_eq (tgt := 49) (n := 28) dX8_ifMerged_25 (by decide) rfl (fun q_z => absurd q_z (by decide)) (fun _ => ?_)
          refine am_aload_n (n := 29) (i := 0) dX8_ifMerged_28 rfl rfl rfl ?_
          refine am_iload_n (n := 30) (i := 1) dX8_ifMerged_29 rfl rfl rfl ?_
          refine am_iload_n (n := 31) (i := 2) dX8_ifMerged_30 rfl rfl rfl ?_
          refine am_iload_n (n := 32) (i := 3) dX8_ifMerged_31 rfl rfl rfl ?_
          refine am_iload (n := 34) dX8_ifMerged_32 rfl rfl ?_
          refine am_iconst (n := 35) (v := 1) dX8_ifMerged_34 rfl rfl ?_
          refine am_icmp_ne (tgt := 42) (n := 38) dX8_ifMerged_35 (by decide) rfl (fun q_z => absurd (by decide) q_z) (fun _ => ?_)
          refine am_iconst (n := 39) (v := 1) dX8_ifMerged_38 rfl rfl ?_
          refine am_goto (tgt := 43) dX8_ifMerged_39 (by decide) ?_
          refine caX8_ifMerged_227 (n := 46) dX8_ifMerged_43 (by first | exact ⟨rfl, rfl⟩ | assumption) this rfl rfl (Nat.le_of_ble_eq_true rfl) (by first | assumption | exact isC_of (by decide +kernel)) rfl ?_
          rintro r h1 ⟨rfl, X1, F1⟩
          refine am_goto (tgt := 51) dX8_ifMerged_46 (by decide) ?_
          refine am_iret dX8_ifMerged_51 rfl rfl ?_
          exact ⟨rfl, X1, F1⟩
        · have hw : inR w 0 1 = false := sw_f (n := 1) (by decide) (fun i hi => by rcases i with _ | _ | i; exact w0; exact w1; omega)
          rw [hw, if_neg (by decide), show (decide (0 ≤ w) && decide (w ≤ 1)) = false from hw]
          refine am_if_eq (tgt := 49) (n := 28) dX8_ifMerged_25 (by decide) rfl (fun _ => ?_) (fun q_z => absurd rfl q_z)
          refine am_bipush (n := 51) (v := (-2)) dX8_ifMerged_49 rfl rfl ?_
          refine am_iret dX8_ifMerged_51 rfl rfl ?_
          exact ⟨rfl, hX, Fr.rf⟩
