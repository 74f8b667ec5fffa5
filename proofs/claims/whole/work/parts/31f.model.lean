/-! The reference: add, drop, distance, name -/
theorem FrS.ofI {lo hi : Nat} {h h' : Hp} (F : FrI lo hi h h') (h1 : 47 ≤ lo) (h2 : hi ≤ 52) : FrS h h' :=
  ⟨F.toFr.wide (by omega) (by omega), F.1 41 (by omega), by rw [F.1 40 (by omega)], by rw [F.1 40 (by omega)], fun c c1 c2 => F.1 c (by omega)⟩
theorem Fr.wide' {lo hi lo' hi' : Nat} {h h' : Hp} (a : FrS h h') : Fr 40 59 h h' := a.1
theorem RZ.add {S : SV} {w : Nat} {r r' : Nat → Int32} (x : RZ 0 S r) (hV : VS S) (hl : S.2.2.1.length < 24) (f : ∀ j, j ≠ 2 → (j < 4 + 11 * S.2.2.1.length ∨ 4 + 11 * S.2.2.1.length + 11 ≤ j) → r' j = r j) (h2 : r' 2 = nI (S.2.2.1.length + 1)) (hw : r' (4 + 11 * S.2.2.1.length) = nI (wsz w)) (hp : ∀ p, p < 10 → r' (4 + 11 * S.2.2.1.length + 1 + p) = nI (wl w p - 1)) : RZ 0 (S.1, S.2.1, S.2.2.1 ++ [w], S.2.2.2) r' := by
  obtain ⟨x1, x2, x3, x4, x5, x6⟩ := x
  have h4 := hV.2.2.2.2.1
  refine ⟨(f 0 (by omega) (by omega)).trans x1, (f 1 (by omega) (by omega)).trans x2, ?_, (f 3 (by omega) (by omega)).trans x4, fun i u hi => ?_, fun e E he => ?_⟩
  · show r' 2 = nI (S.2.2.1 ++ [w]).length
    rw [h2, List.length_append]
    rfl
  · have hi : (S.2.2.1 ++ [w])[i]? = some u := hi
    rw [Nat.zero_add]
    by_cases z : i = S.2.2.1.length
    · subst z
      rw [List.getElem?_append_right (Nat.le_refl _), Nat.sub_self, List.getElem?_cons_zero] at hi
      rw [← Option.some.inj hi]
      exact ⟨hw, hp⟩
    · have hil := (List.getElem?_eq_some_iff.mp hi).1
      rw [List.length_append] at hil
      simp at hil
      rw [List.getElem?_append_left (by omega)] at hi
      obtain ⟨y1, y2⟩ := x5 i u hi
      rw [Nat.zero_add] at y1 y2
      exact ⟨(f _ (by omega) (by omega)).trans y1, fun p hp => (f _ (by omega) (by omega)).trans (y2 p hp)⟩
  · have hel := (List.getElem?_eq_some_iff.mp he).1
    have hel : e < S.2.2.2.length := hel
    exact (x6 e E he).to (hV.2.2.2.2.2 E (List.mem_of_getElem? he)) (fun j hj => f _ (by omega) (by omega))
set_option maxRecDepth 100000 in
set_option maxHeartbeats 400000 in
theorem cm_add (g : Gx) (G : GS) (h : Hp) (hX : MG G h) : CM g yX8_add wsX8_add rmX8_add [.ref 40] h (sp_add G) := by
  have c40 := isC_40
  have c41 := isC_41
  have c47 := isC_47
  have hn := hX.2.1.2.2.1
  unfold CM
  generalize hZ : ZP g (fun v h' => v = some (.int (sp_add G).1) ∧ MG (sp_add G).2 h' ∧ Fr 40 59 h h') = Z
  have z0 : Z.1 = 0 ∧ Z.2.1 = 0 := by rw [← hZ]; exact ⟨rfl, rfl⟩
  unfold sp_add at hZ
  refine AC.of (cc := cX8_add) (maxL := 3) (ret := (some .int)) (by decide +kernel) rfl (Nat.le_of_ble_eq_true rfl) ?_
  show AW g mmX8_add _ 0 [(0, some (.ref 40))] [] _
  rw [show sp_add G = (if ¬ flt G.2.2.2 = -6 then (-3, G) else if G.1.2.2.1.contains (pw G.2.2.2) = true then (-5, G) else if G.1.2.1 ≤ G.1.2.2.1.length then (-4, G) else (nI G.1.2.2.1.length, ((G.1.1, G.1.2.1, G.1.2.2.1 ++ [pw G.2.2.2], G.1.2.2.2), pushP G.2.1 G.1, G.2.2.1, []))) from rfl, hZ]
  refine am_aload_n (n := 1) (i := 0) dX8_add_0 rfl rfl rfl ?_
  refine cdX8_add_71 (n := 4) dX8_add_1 (by first | exact ⟨rfl, rfl⟩ | assumption) (m_faultOf g G.2.2.2 h hX.2.2.2.2.1 hX.2.2.2.2.2) rfl rfl (Nat.le_of_ble_eq_true rfl) (by first | assumption | exact isC_of (by decide +kernel)) rfl ?_
  refine am_bipush (n := 6) (v := (-6)) dX8_add_4 rfl rfl ?_
  by_cases hf : flt G.2.2.2 = -6
  · refine am_icmp_eq (tgt := 12) (n := 9) dX8_add_6 (by decide) rfl (fun _ => ?_) (fun q_z => absurd hf q_z)
    rw [if_neg (fun q => q hf)] at hZ
    obtain ⟨hw, -⟩ := pw_ok hf
    refine am_aload_n (n := 13) (i := 0) dX8_add_12 rfl rfl rfl ?_
    refine caX8_add_86 (n := 16) dX8_add_13 (by first | exact ⟨rfl, rfl⟩ | assumption) (m_takePad g G.2.2.2 h hX.2.2.2.2.1 hX.2.2.2.2.2 hf) rfl rfl (Nat.le_of_ble_eq_true rfl) (by first | assumption | exact isC_of (by decide +kernel)) rfl ?_
    rintro v h0 ⟨rfl, W0, F0⟩
    have F0 := F0.s
    generalize pw G.2.2.2 = n at *
    have X0 := hX.s F0
    have r2 : h0.1 41 2 = nI G.1.2.2.1.length := X0.1.2.2.1
    have r1 : h0.1 41 1 = nI G.1.2.1 := X0.1.2.1
    refine am_iconst (n := 17) (v := 0) dX8_add_16 rfl rfl ?_
    refine am_istore_n (n := 18) (i := 1) dX8_add_17 rfl (Nat.le_of_ble_eq_true rfl) rfl rfl ?_
    refine am_loc [(0, some (.ref 40)), (1, some (.int (nI 0)))] rfl ?_
    have t45 : G.1.2.2.1.contains n = false → ∀ l, lget l 0 = some (.ref 40) → AW g mmX8_add Z 45 l [] h0 := by
      intro hc l l0
      rw [hc, if_neg (by decide)] at hZ
      refine am_loc [(0, some (.ref 40))] (by simp only [List.map_cons, List.map_nil, l0]) ?_
      refine am_aload_n (n := 46) (i := 0) dX8_add_45 rfl rfl rfl ?_
      refine gfX8_add_7 (n := 49) dX8_add_46 (by first | assumption | exact isC_of (by decide +kernel)) rfl ?_
      refine am_iconst (n := 50) (v := 2) dX8_add_49 rfl rfl ?_
      refine am_iald (n := 51) dX8_add_50 (by first | assumption | exact isC_of (by decide +kernel)) (by first | assumption | exact vp_in_nI (by omega) (by omega) | exact vp_in_iff.mpr (by decide)) rfl ?_
      refine am_aload_n (n := 52) (i := 0) dX8_add_51 rfl rfl rfl ?_
      refine gfX8_add_7 (n := 55) dX8_add_52 (by first | assumption | exact isC_of (by decide +kernel)) rfl ?_
      refine am_iconst (n := 56) (v := 1) dX8_add_55 rfl rfl ?_
      refine am_iald (n := 57) dX8_add_56 (by first | assumption | exact isC_of (by decide +kernel)) (by first | assumption | exact vp_in_nI (by omega) (by omega) | exact vp_in_iff.mpr (by decide)) rfl ?_
      rw [show (2 : Int32).toNatClampNeg = 2 from rfl, show (1 : Int32).toNatClampNeg = 1 from rfl, r2, r1]
      have h24 := hX.2.1.2.1.2
      by_cases hl : G.1.2.1 ≤ G.1.2.2.1.length
      · refine am_icmp_lt (tgt := 63) (n := 60) dX8_add_57 (by decide) rfl (fun q_z => absurd q_z (nI_nlt hl (by omega))) (fun _ => ?_)
        rw [← hZ, if_pos hl]
        refine am_bipush (n := 62) (v := (-4)) dX8_add_60 rfl rfl ?_
        refine am_iret dX8_add_62 rfl rfl ?_
        exact ⟨rfl, X0, F0.1⟩
      · refine am_icmp_lt (tgt := 63) (n := 60) dX8_add_57 (by decide) rfl (fun _ => ?_) (fun q_z => absurd (nI_lt (Nat.not_le.mp hl) (by omega)) q_z)
        rw [if_neg hl] at hZ
        refine am_aload_n (n := 64) (i := 0) dX8_add_63 rfl rfl rfl ?_
        refine caX8_add_63 (n := 67) dX8_add_64 (by first | exact ⟨rfl, rfl⟩ | assumption) (m_record g G h0 X0) rfl rfl (Nat.le_of_ble_eq_true rfl) (by first | assumption | exact isC_of (by decide +kernel)) rfl ?_
        rintro r h1 ⟨rfl, X1, F1, -, e47, e9⟩
        have W1 : MWd n h1 := ⟨by rw [e9]; exact W0.1, fun p hp => by rw [e47]; exact W0.2 p hp⟩
        have hsn := wsz_le n
        have hlout : ∀ p, wsz n ≤ p → wl n p = 0 := hw.2.2.1
        refine am_iconst (n := 68) (v := 4) dX8_add_67 rfl rfl ?_
        refine am_bipush (n := 70) (v := 11) dX8_add_68 rfl rfl ?_
        refine am_aload_n (n := 71) (i := 0) dX8_add_70 rfl rfl rfl ?_
        refine gfX8_add_7 (n := 74) dX8_add_71 (by first | assumption | exact isC_of (by decide +kernel)) rfl ?_
        refine am_iconst (n := 75) (v := 2) dX8_add_74 rfl rfl ?_
        refine am_iald (n := 76) dX8_add_75 (by first | assumption | exact isC_of (by decide +kernel)) (by first | assumption | exact vp_in_nI (by omega) (by omega) | exact vp_in_iff.mpr (by decide)) rfl ?_
        refine am_imul (n := 77) dX8_add_76 rfl ?_
        rw [show (2 : Int32).toNatClampNeg = 2 from rfl, show h1.1 41 2 = nI G.1.2.2.1.length from X1.1.2.2.1]
        refine am_iadd (n := 78) dX8_add_77 rfl ?_
        rw [ix_name]
        have hlen : G.1.2.2.1.length < 24 := by omega
        have hadd := fun r' => X1.1.add (w := n) (r' := r') X1.2.1 hlen
        have hVS : VS (G.1.1, G.1.2.1, G.1.2.2.1 ++ [n], G.1.2.2.2) := ⟨X1.2.1.1, X1.2.1.2.1, by show (G.1.2.2.1 ++ [n]).length ≤ 24; rw [List.length_append]; exact hlen, fun u hu => by
          rcases List.mem_append.mp hu with z | z
          · exact X1.2.1.2.2.2.1 u z
          · rw [List.mem_singleton.mp z]
            exact hw, X1.2.1.2.2.2.2⟩
        obtain ⟨w1, w2⟩ := W1
        generalize wsz n = s at *
        have r12 : h1.1 41 2 = nI G.1.2.2.1.length := X1.1.2.2.1
        have hX1 := fun S' (h' : Hp) => X1.now (S := S') (h' := h')
        clear X1
        generalize G.1.2.2.1.length = len at *
        refine am_istore_n (n := 79) (i := 1) dX8_add_78 rfl (Nat.le_of_ble_eq_true rfl) rfl rfl ?_
        refine am_aload_n (n := 80) (i := 0) dX8_add_79 rfl rfl rfl ?_
        refine gfX8_add_7 (n := 83) dX8_add_80 (by first | assumption | exact isC_of (by decide +kernel)) rfl ?_
        refine am_iload_n (n := 84) (i := 1) dX8_add_83 rfl rfl rfl ?_
        refine am_aload_n (n := 85) (i := 0) dX8_add_84 rfl rfl rfl ?_
        refine gfX8_add_75 (n := 88) dX8_add_85 (by first | assumption | exact isC_of (by decide +kernel)) rfl ?_
        rw [w1]
        refine am_iast (n := 89) dX8_add_88 (by first | assumption | exact isC_of (by decide +kernel)) (by first | assumption | exact vp_in_nI (by omega) (by omega) | exact vp_in_iff.mpr (by decide)) rfl ?_
        refine am_iconst (n := 90) (v := 0) dX8_add_89 rfl rfl ?_
        refine am_istore_n (n := 91) (i := 2) dX8_add_90 rfl (Nat.le_of_ble_eq_true rfl) rfl rfl ?_
        rw [nI_clamp (by omega)]
        refine am_loc [(0, some (.ref 40)), (1, some (.int (nI (4 + 11 * len)))), (2, some (.int (nI 0)))] rfl ?_
        refine loop_up (Wp := fun k => ∀ hh : Hp, (∀ c, c ≠ 41 → hh.1 c = h1.1 c) → hh.2 = h1.2 → hh.1 41 (4 + 11 * len) = nI s → (∀ j, j < k → hh.1 41 (4 + 11 * len + 1 + j) = nI (wl n j - 1)) → (∀ j, (j < 4 + 11 * len ∨ 4 + 11 * len + 11 ≤ j) → hh.1 41 j = h1.1 41 j) → AW g mmX8_add Z 91 [(0, some (.ref 40)), (1, some (.int (nI (4 + 11 * len)))), (2, some (.int (nI k)))] [] hh) 10 ?_ ?_ 0 (Nat.zero_le _) _ (fun c hc => setI_n _ _ hc) rfl (by rw [setI_s, pk_us]) (fun j hj => by omega) (fun j hj => by rw [setI_s, pk_un (by omega)])
        · intro hh e1 e2 e3 e4 e5
          refine am_iload_n (n := 92) (i := 2) dX8_add_91 rfl rfl rfl ?_
          refine am_bipush (n := 94) (v := 10) dX8_add_92 rfl rfl ?_
          refine am_icmp_ge (tgt := 131) (n := 97) dX8_add_94 (by decide) rfl (fun _ => ?_) (fun q_z => absurd (by decide) q_z)
          refine am_aload_n (n := 132) (i := 0) dX8_add_131 rfl rfl rfl ?_
          refine gfX8_add_7 (n := 135) dX8_add_132 (by first | assumption | exact isC_of (by decide +kernel)) rfl ?_
          refine am_iconst (n := 136) (v := 2) dX8_add_135 rfl rfl ?_
          refine am_dup2 (n := 137) dX8_add_136 rfl rfl rfl ?_
          refine am_iald (n := 138) dX8_add_137 (by first | assumption | exact isC_of (by decide +kernel)) (by first | assumption | exact vp_in_nI (by omega) (by omega) | exact vp_in_iff.mpr (by decide)) rfl ?_
          rw [show (2 : Int32).toNatClampNeg = 2 from rfl, e5 2 (by omega), r12]
          refine am_iconst (n := 139) (v := 1) dX8_add_138 rfl rfl ?_
          refine am_iadd (n := 140) dX8_add_139 rfl ?_
          rw [nI_1]
          refine am_iast (n := 141) dX8_add_140 (by first | assumption | exact isC_of (by decide +kernel)) (by first | assumption | exact vp_in_nI (by omega) (by omega) | exact vp_in_iff.mpr (by decide)) rfl ?_
          refine am_aload_n (n := 142) (i := 0) dX8_add_141 rfl rfl rfl ?_
          refine am_iconst (n := 143) (v := 0) dX8_add_142 rfl rfl ?_
          refine pfX8_add_68 (n := 146) dX8_add_143 (by first | assumption | exact isC_of (by decide +kernel)) rfl ?_
          refine am_aload_n (n := 147) (i := 0) dX8_add_146 rfl rfl rfl ?_
          refine gfX8_add_7 (n := 150) dX8_add_147 (by first | assumption | exact isC_of (by decide +kernel)) rfl ?_
          refine am_iconst (n := 151) (v := 2) dX8_add_150 rfl rfl ?_
          refine am_iald (n := 152) dX8_add_151 (by first | assumption | exact isC_of (by decide +kernel)) (by first | assumption | exact vp_in_nI (by omega) (by omega) | exact vp_in_iff.mpr (by decide)) rfl ?_
          simp (disch := omega) only [setI_n, setI_s]
          rw [show (2 : Int32).toNatClampNeg = 2 from rfl, pk_us]
          refine am_iconst (n := 153) (v := 1) dX8_add_152 rfl rfl ?_
          refine am_isub (n := 154) dX8_add_153 rfl ?_
          rw [nI_pred, ← hZ]
          refine am_iret dX8_add_154 rfl rfl ?_
          have FT : Fr 40 59 h1 (setI (setI hh 41 (upd (hh.1 41) 2 (nI (len + 1)))) 40 (upd ((setI hh 41 (upd (hh.1 41) 2 (nI (len + 1)))).1 40) 7 0)) := by
            refine Fr.sI (Fr.sI ⟨fun c hc => ⟨e1 c (by omega), by rw [e2]⟩, by rw [e2]⟩ _ (by omega) (by omega)) _ (by omega) (by omega)
          have XB : MG ((G.1.1, G.1.2.1, G.1.2.2.1 ++ [n], G.1.2.2.2), pushP G.2.1 G.1, G.2.2) (setI hh 41 (upd (hh.1 41) 2 (nI (len + 1)))) := by
            refine hX1 _ _ ?_ hVS (by rw [setI_n _ _ (by omega), e1 40 (by omega)]) (by rw [setI_n _ _ (by omega), e1 40 (by omega)]) (fun c w1 w2 => (setI_n _ _ (by omega)).trans (e1 c (by omega)))
            rw [setI_s]
            exact hadd _ (fun j j2 hj => (pk_un j2).trans (e5 j hj)) pk_us ((pk_un (by omega)).trans e3) (fun p hp => (pk_un (by omega)).trans (e4 p hp))
          exact ⟨rfl, XB.pad (p := []) ⟨by rw [setI_s, pk_us]; rfl, fun i c hi => by cases hi⟩ ⟨by decide, fun c hc => by cases hc⟩ (by rw [setI_s, pk_un (by omega), setI_n _ _ (by omega)]) (fun c w1 w2 => setI_n _ _ (by omega)), (F0.1.tr F1).tr FT⟩
        · intro k hk K hh e1 e2 e3 e4 e5
          have hin : vp_in (nI k) 10 := vp_in_nI hk (by decide)
          have b1 : vp_in (nI (4 + 11 * len + 1 + k)) 580 := vp_in_nI (by omega) (by decide)
          have t124 : ∀ x : Int32, x = nI (wl n k - 1) → AW g mmX8_add Z 124 [(0, some (.ref 40)), (1, some (.int (nI (4 + 11 * len)))), (2, some (.int (nI k)))] [.int x, .int (nI (4 + 11 * len + 1 + k)), .ref 41] hh := by
            intro x hx
            refine am_iast (n := 125) dX8_add_124 (by first | assumption | exact isC_of (by decide +kernel)) (by first | assumption | exact vp_in_nI (by omega) (by omega) | exact vp_in_iff.mpr (by decide)) rfl ?_
            first | refine am_iincN (n := 128) dX8_add_125 rfl rfl rfl ?_ | refine am_iinc1 (n := 128) dX8_add_125 rfl rfl rfl ?_
            refine am_goto (tgt := 91) dX8_add_128 (by decide) ?_
            rw [nI_clamp (by omega)]
            refine am_loc _ rfl (K _ (fun c hc => (setI_n _ _ hc).trans (e1 c hc)) e2 ?_ (fun j hj => ?_) (fun j hj => ?_))
            · rw [setI_s, pk_un (by omega)]
              exact e3
            · rw [setI_s]
              by_cases z : j = k
              · rw [z, pk_us, hx]
              · rw [pk_un (by omega)]
                exact e4 j (by omega)
            · rw [setI_s, pk_un (by omega)]
              exact e5 j hj
          refine am_iload_n (n := 92) (i := 2) dX8_add_91 rfl rfl rfl ?_
          refine am_bipush (n := 94) (v := 10) dX8_add_92 rfl rfl ?_
          refine am_icmp_ge (tgt := 131) (n := 97) dX8_add_94 (by decide) rfl (fun q_z => absurd q_z (nI_ge hk (by decide))) (fun _ => ?_)
          refine am_aload_n (n := 98) (i := 0) dX8_add_97 rfl rfl rfl ?_
          refine gfX8_add_7 (n := 101) dX8_add_98 (by first | assumption | exact isC_of (by decide +kernel)) rfl ?_
          refine am_iload_n (n := 102) (i := 1) dX8_add_101 rfl rfl rfl ?_
          refine am_iconst (n := 103) (v := 1) dX8_add_102 rfl rfl ?_
          refine am_iadd (n := 104) dX8_add_103 rfl ?_
          refine am_iload_n (n := 105) (i := 2) dX8_add_104 rfl rfl rfl ?_
          refine am_iadd (n := 106) dX8_add_105 rfl ?_
          rw [nI_1, nI_add]
          refine am_iload_n (n := 107) (i := 2) dX8_add_106 rfl rfl rfl ?_
          refine am_aload_n (n := 108) (i := 0) dX8_add_107 rfl rfl rfl ?_
          refine gfX8_add_75 (n := 111) dX8_add_108 (by first | assumption | exact isC_of (by decide +kernel)) rfl ?_
          rw [e1 40 (by omega), w1]
          by_cases q : k < s
          · refine am_icmp_ge (tgt := 123) (n := 114) dX8_add_111 (by decide) rfl (fun q_z => absurd q_z (nI_ge q (by omega))) (fun _ => ?_)
            refine am_aload_n (n := 115) (i := 0) dX8_add_114 rfl rfl rfl ?_
            refine gfX8_add_29 (n := 118) dX8_add_115 (by first | assumption | exact isC_of (by decide +kernel)) rfl ?_
            refine am_iload_n (n := 119) (i := 2) dX8_add_118 rfl rfl rfl ?_
            refine am_iald (n := 120) dX8_add_119 (by first | assumption | exact isC_of (by decide +kernel)) (by first | assumption | exact vp_in_nI (by omega) (by omega) | exact vp_in_iff.mpr (by decide)) rfl ?_
            rw [e1 47 (by omega), nI_clamp (by omega), w2 k q]
            refine am_goto (tgt := 124) dX8_add_120 (by decide) ?_
            exact t124 _ rfl
          · refine am_icmp_ge (tgt := 123) (n := 114) dX8_add_111 (by decide) rfl (fun _ => ?_) (fun q_z => absurd (nI_le (Nat.not_lt.mp q) (by omega)) q_z)
            refine am_iconst (n := 124) (v := 0) dX8_add_123 rfl rfl ?_
            refine t124 _ ?_
            rw [hlout k (Nat.not_lt.mp q)]
            rfl
    refine loop_up (Wp := fun k => (∀ j, j < k → G.1.2.2.1.getD j 0 ≠ n) → AW g mmX8_add Z 18 [(0, some (.ref 40)), (1, some (.int (nI k)))] [] h0) G.1.2.2.1.length ?_ ?_ 0 (Nat.zero_le _) (fun j hj => by omega)
    · intro H
      have hc : G.1.2.2.1.contains n = false := by
        rw [Bool.eq_false_iff]
        intro q
        obtain ⟨j, hj⟩ := List.getElem?_of_mem (List.contains_iff_mem.mp q)
        exact H j (List.getElem?_eq_some_iff.mp hj).1 (gD_of hj)
      refine am_iload_n (n := 19) (i := 1) dX8_add_18 rfl rfl rfl ?_
      refine am_aload_n (n := 20) (i := 0) dX8_add_19 rfl rfl rfl ?_
      refine gfX8_add_7 (n := 23) dX8_add_20 (by first | assumption | exact isC_of (by decide +kernel)) rfl ?_
      refine am_iconst (n := 24) (v := 2) dX8_add_23 rfl rfl ?_
      refine am_iald (n := 25) dX8_add_24 (by first | assumption | exact isC_of (by decide +kernel)) (by first | assumption | exact vp_in_nI (by omega) (by omega) | exact vp_in_iff.mpr (by decide)) rfl ?_
      rw [show (2 : Int32).toNatClampNeg = 2 from rfl, r2]
      refine am_icmp_ge (tgt := 45) (n := 28) dX8_add_25 (by decide) rfl (fun _ => ?_) (fun q_z => absurd (nI_le (Nat.le_refl _) (by omega)) q_z)
      exact t45 hc _ rfl
    · intro k hk K H
      refine am_iload_n (n := 19) (i := 1) dX8_add_18 rfl rfl rfl ?_
      refine am_aload_n (n := 20) (i := 0) dX8_add_19 rfl rfl rfl ?_
      refine gfX8_add_7 (n := 23) dX8_add_20 (by first | assumption | exact isC_of (by decide +kernel)) rfl ?_
      refine am_iconst (n := 24) (v := 2) dX8_add_23 rfl rfl ?_
      refine am_iald (n := 25) dX8_add_24 (by first | assumption | exact isC_of (by decide +kernel)) (by first | assumption | exact vp_in_nI (by omega) (by omega) | exact vp_in_iff.mpr (by decide)) rfl ?_
      rw [show (2 : Int32).toNatClampNeg = 2 from rfl, r2]
      refine am_icmp_ge (tgt := 45) (n := 28) dX8_add_25 (by decide) rfl (fun q_z => absurd q_z (nI_ge hk (by omega))) (fun _ => ?_)
      refine am_aload_n (n := 29) (i := 0) dX8_add_28 rfl rfl rfl ?_
      refine am_iload_n (n := 30) (i := 1) dX8_add_29 rfl rfl rfl ?_
      refine cdX8_add_89 (n := 33) dX8_add_30 (by first | exact ⟨rfl, rfl⟩ | assumption) (m_isWord g k n G.1 h0 X0.1 X0.2.1 hk W0 hw) rfl rfl (Nat.le_of_ble_eq_true rfl) (by first | assumption | exact isC_of (by decide +kernel)) rfl ?_
      by_cases q : G.1.2.2.1.getD k 0 = n
      · rw [decide_eq_true q]
        refine am_if_eq (tgt := 39) (n := 36) dX8_add_33 (by decide) rfl (fun q_z => absurd q_z (show ¬ (1 : Int32) = 0 by decide)) (fun _ => ?_)
        have hc : G.1.2.2.1.contains n = true := List.contains_iff_mem.mpr (by rw [← q]; exact List.mem_of_getElem? (gD_at hk))
        rw [← hZ, if_pos hc]
        refine am_bipush (n := 38) (v := (-5)) dX8_add_36 rfl rfl ?_
        refine am_iret dX8_add_38 rfl rfl ?_
        exact ⟨rfl, X0, F0.1⟩
      · rw [decide_eq_false q]
        refine am_if_eq (tgt := 39) (n := 36) dX8_add_33 (by decide) rfl (fun _ => ?_) (fun q_z => absurd rfl q_z)
        first | refine am_iincN (n := 42) dX8_add_39 rfl rfl rfl ?_ | refine am_iinc1 (n := 42) dX8_add_39 rfl rfl rfl ?_
        refine am_goto (tgt := 18) dX8_add_42 (by decide) ?_
        refine am_loc _ rfl (K (fun j hj => ?_))
        rcases Nat.lt_or_ge j k with z | z
        · exact H j z
        · rw [show j = k by omega]
          exact q
  · refine am_icmp_eq (tgt := 12) (n := 9) dX8_add_6 (by decide) rfl (fun q_z => absurd q_z hf) (fun _ => ?_)
    rw [← hZ, if_pos hf]
    refine am_bipush (n := 11) (v := (-3)) dX8_add_9 rfl rfl ?_
    refine am_iret dX8_add_11 rfl rfl ?_
    exact ⟨rfl, hX, Fr.rf⟩
