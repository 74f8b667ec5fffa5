/-! The reference: bestMerger, quarrel, deafest -/
theorem fb_pos {p : Nat → Bool} {i : Nat} : ∀ {n : Nat}, i < n → p i = true → 1 ≤ fb_ct p n := by
  intro n
  induction n with
  | zero =>
    intro h
    omega
  | succ n ih =>
    intro h hp
    rw [fb_ct_succ]
    by_cases q : i = n
    · subst q
      rw [if_pos hp]
      omega
    · have := ih (by omega) hp
      omega
theorem pc_lk {cs : List (List Nat)} (V : VC cs) {i : Nat} (hi : i < cs.length) : 1 ≤ pc (lkM cs i) ∧ pc (lkM cs i) ≤ 32 := by
  refine ⟨?_, pc_le _⟩
  unfold pc
  have V0 := V.1
  refine fb_pos (i := i) (by omega) ?_
  unfold lkM
  rw [bt_msk (by omega)]
  refine ⟨hi, ?_⟩
  unfold com
  have q := cN_of (List.getElem?_eq_getElem hi)
  have hl := (V.2 _ (List.getElem_mem hi)).2.1
  rw [List.any_eq_true]
  have h0 : (cN cs i)[0]? = some ((cN cs i).getD 0 0) := gD_at (by rw [q]; omega)
  exact ⟨_, List.mem_of_getElem? h0, decide_eq_true (List.mem_of_getElem? h0)⟩
theorem twF_nI {cs : List (List Nat)} (V : VC cs) : ∀ k, k ≤ cs.length → ∃ n, n ≤ 31 * k ∧ twF cs k = nI n
  | 0, _ => ⟨0, by omega, rfl⟩
  | k + 1, h => by
    obtain ⟨n, h1, h2⟩ := twF_nI V k (by omega)
    obtain ⟨p1, p2⟩ := pc_lk V (show k < cs.length by omega)
    refine ⟨n + (pc (lkM cs k) - 1), by omega, ?_⟩
    rw [show twF cs (k + 1) = twF cs k + (nI (pc (lkM cs k)) - 1) from rfl, h2, nI_m1 (by omega), nI_add]
theorem prs_nI {cs : List (List Nat)} (V : VC cs) : ∃ n, n < 1000 ∧ prs cs = nI n := by
  obtain ⟨n, h1, h2⟩ := twF_nI V cs.length (Nat.le_refl _)
  have V0 := V.1
  refine ⟨n / 2, by omega, ?_⟩
  unfold prs
  rw [h2]
  exact pk_div (d := 2) (by omega) (by decide) (by decide)
theorem MG.f53 {G : GS} {h h' : Hp} (x : MG G h) (F : FrI 53 53 h h') : MG G h' := x.kept (F.1 41 (by omega)) (by rw [F.1 40 (by omega)]) (by rw [F.1 40 (by omega)]) (fun c c1 c2 => F.1 c (by omega))
def okT (t : Int32 × Int32 × Int32) : Prop := t.1 = -6 ↔ t.2.2 = -6
theorem okT_bmS {S : SV} {E : EV} {a b : Nat} {t : Int32 × Int32 × Int32} (hS : VS S) (hE : VE E) (ha : a ≤ 9) (hb : b ≤ 9) (h : okT t) : okT (bmS S E a b t) := by
  unfold bmS
  split
  · exact h
  · split
    · obtain ⟨n, h1, h2⟩ := prs_nI (VC_of hS (VE_merge hE ha hb))
      unfold okT
      dsimp only
      rw [h2]
      exact ⟨fun q => absurd q (nI_ne6 (by omega)), fun q => absurd q (nI_ne6 (by omega))⟩
    · exact h
theorem okT_bmI {S : SV} {E : EV} {a : Nat} {t : Int32 × Int32 × Int32} (hS : VS S) (hE : VE E) (h : okT t) : ∀ k, a + k ≤ 9 → okT (bmI S E a t k)
  | 0, _ => h
  | k + 1, hk => okT_bmS hS hE (by omega) (by omega) (okT_bmI hS hE h k (by omega))
theorem okT_bmO {S : SV} {E : EV} (hS : VS S) (hE : VE E) : ∀ k, k ≤ 8 → okT (bmO S E k)
  | 0, _ => ⟨fun _ => rfl, fun _ => rfl⟩
  | k + 1, hk => okT_bmI hS hE (okT_bmO hS hE k (by omega)) _ (by omega)
set_option maxRecDepth 100000 in
set_option maxHeartbeats 800000 in
theorem cm_bestMerger (g : Gx) (x w : Int32) (G : GS) (h : Hp) (hX : MG G h) : CM g yX8_bestMerger wsX8_bestMerger rmX8_bestMerger [.ref 40, .int x, .int w] h (sp_bestMerger x w G) := by
  have c40 := isC_40
  have h4 := hX.2.1.2.2.2.2.1
  unfold CM sp_bestMerger
  refine AC.of (cc := cX8_bestMerger) (maxL := 11) (ret := (some .int)) (by decide +kernel) rfl (Nat.le_of_ble_eq_true rfl) ?_
  show AW g mmX8_bestMerger _ 0 [(0, some (.ref 40)), (1, some (.int x)), (2, some (.int w))] [] _
  refine am_aload_n (n := 1) (i := 0) dX8_bestMerger_0 rfl rfl rfl ?_
  refine am_iload_n (n := 2) (i := 1) dX8_bestMerger_1 rfl rfl rfl ?_
  refine cdX8_bestMerger_156 (n := 5) dX8_bestMerger_2 (by first | exact ⟨rfl, rfl⟩ | assumption) (m_isEar g x G.1.2.2.2.length h (by omega) hX.1.2.2.2.1) rfl rfl (Nat.le_of_ble_eq_true rfl) (by first | assumption | exact isC_of (by decide +kernel)) rfl ?_
  cases hxx : inN x G.1.2.2.2.length with
  | false =>
    rw [sp_E_f _ hxx]
    refine am_if_ne (tgt := 10) (n := 8) dX8_bestMerger_5 (by decide) rfl (fun q_z => absurd rfl q_z) (fun _ => ?_)
    refine am_iconst (n := 9) (v := (-1)) dX8_bestMerger_8 rfl rfl ?_
    refine am_iret dX8_bestMerger_9 rfl rfl ?_
    exact ⟨rfl, hX, Fr.rf⟩
  | true =>
    obtain ⟨e, he, rfl⟩ := inN_t (by omega) hxx
    have hx := List.getElem?_eq_getElem he
    obtain ⟨e4, -, vE⟩ := mE hX.1 hX.2.1 hx
    rw [sp_E_t _ h4 he hx]
    generalize G.1.2.2.2[e] = E at *
    refine am_if_ne (tgt := 10) (n := 8) dX8_bestMerger_5 (by decide) rfl (fun _ => ?_) (fun q_z => absurd q_z (show ¬ (1 : Int32) = 0 by decide))
    refine am_iload_n (n := 11) (i := 2) dX8_bestMerger_10 rfl rfl rfl ?_
    refine am_iconst (n := 12) (v := 0) dX8_bestMerger_11 rfl rfl ?_
    refine am_iconst (n := 13) (v := 2) dX8_bestMerger_12 rfl rfl ?_
    refine cdX8_bestMerger_51 (n := 16) dX8_bestMerger_13 (by first | exact ⟨rfl, rfl⟩ | assumption) (m_in g w 0 2 h) rfl rfl (Nat.le_of_ble_eq_true rfl) rfl ?_
    cases hw : inR w 0 2 with
    | false =>
      rw [if_neg (by decide), show (decide (0 ≤ w) && decide (w ≤ 2)) = false from hw]
      refine am_if_ne (tgt := 22) (n := 19) dX8_bestMerger_16 (by decide) rfl (fun q_z => absurd rfl q_z) (fun _ => ?_)
      refine am_bipush (n := 21) (v := (-2)) dX8_bestMerger_19 rfl rfl ?_
      refine am_iret dX8_bestMerger_21 rfl rfl ?_
      exact ⟨rfl, hX, Fr.rf⟩
    | true =>
      rw [if_pos rfl, show (decide (0 ≤ w) && decide (w ≤ 2)) = true from hw]
      refine am_if_ne (tgt := 22) (n := 19) dX8_bestMerger_16 (by decide) rfl (fun _ => ?_) (fun q_z => absurd q_z (show ¬ (1 : Int32) = 0 by decide))
      refine am_bipush (n := 24) (v := (-6)) dX8_bestMerger_22 rfl rfl ?_
      refine am_istore_n (n := 25) (i := 3) dX8_bestMerger_24 rfl (Nat.le_of_ble_eq_true rfl) rfl rfl ?_
      refine am_bipush (n := 27) (v := (-6)) dX8_bestMerger_25 rfl rfl ?_
      refine am_istore (n := 29) dX8_bestMerger_27 (Nat.le_of_ble_eq_true rfl) rfl rfl ?_
      refine am_bipush (n := 31) (v := (-6)) dX8_bestMerger_29 rfl rfl ?_
      refine am_istore (n := 33) dX8_bestMerger_31 (Nat.le_of_ble_eq_true rfl) rfl rfl ?_
      refine am_iconst (n := 34) (v := 1) dX8_bestMerger_33 rfl rfl ?_
      refine am_istore (n := 36) dX8_bestMerger_34 (Nat.le_of_ble_eq_true rfl) rfl rfl ?_
      dsimp only
      generalize hZ : ZP g (fun v h'' => v = some (.int (bmA (bmO G.1 E 9) w)) ∧ MG G h'' ∧ Fr 40 59 h h'') = Z
      have z0 : Z.1 = 0 ∧ Z.2.1 = 0 := by rw [← hZ]; exact ⟨rfl, rfl⟩
      refine am_loc [(0, some (.ref 40)), (1, some (.int (nI e))), (2, some (.int w)), (3, some (.int (bmO G.1 E 0).1)), (4, some (.int (bmO G.1 E 0).2.1)), (5, some (.int (bmO G.1 E 0).2.2)), (6, some (.int (nI (0 + 1))))] rfl ?_
      refine loop_up (Wp := fun k => ∀ h1 : Hp, MG G h1 → Fr 40 59 h h1 → AW g mmX8_bestMerger Z 36 [(0, some (.ref 40)), (1, some (.int (nI e))), (2, some (.int w)), (3, some (.int (bmO G.1 E k).1)), (4, some (.int (bmO G.1 E k).2.1)), (5, some (.int (bmO G.1 E k).2.2)), (6, some (.int (nI (k + 1))))] [] h1) 9 ?_ ?_ 0 (by omega) h hX Fr.rf
      · intro h1 X1 F1
        refine am_iload (n := 38) dX8_bestMerger_36 rfl rfl ?_
        refine am_bipush (n := 40) (v := 10) dX8_bestMerger_38 rfl rfl ?_
        refine am_icmp_ge (tgt := 181) (n := 43) dX8_bestMerger_40 (by decide) rfl (fun _ => ?_) (fun q_z => absurd (by decide) q_z)
        refine am_iload_n (n := 182) (i := 2) dX8_bestMerger_181 rfl rfl rfl ?_
        generalize bmO G.1 E 9 = T at *
        unfold bmA at hZ
        by_cases w0 : w = 0
        · refine am_if_ne (tgt := 189) (n := 185) dX8_bestMerger_182 (by decide) rfl (fun q_z => absurd w0 q_z) (fun _ => ?_)
          rw [← hZ, if_pos w0]
          refine am_iload_n (n := 186) (i := 3) dX8_bestMerger_185 rfl rfl rfl ?_
          refine am_goto (tgt := 201) dX8_bestMerger_186 (by decide) ?_
          refine am_iret dX8_bestMerger_201 rfl rfl ?_
          exact ⟨rfl, X1, F1⟩
        · refine am_if_ne (tgt := 189) (n := 185) dX8_bestMerger_182 (by decide) rfl (fun _ => ?_) (fun q_z => absurd q_z w0)
          rw [if_neg w0] at hZ
          refine am_iload_n (n := 190) (i := 2) dX8_bestMerger_189 rfl rfl rfl ?_
          refine am_iconst (n := 191) (v := 1) dX8_bestMerger_190 rfl rfl ?_
          by_cases w1 : w = 1
          · refine am_icmp_ne (tgt := 199) (n := 194) dX8_bestMerger_191 (by decide) rfl (fun q_z => absurd w1 q_z) (fun _ => ?_)
            rw [← hZ, if_pos w1]
            refine am_iload (n := 196) dX8_bestMerger_194 rfl rfl ?_
            refine am_goto (tgt := 201) dX8_bestMerger_196 (by decide) ?_
            refine am_iret dX8_bestMerger_201 rfl rfl ?_
            exact ⟨rfl, X1, F1⟩
          · refine am_icmp_ne (tgt := 199) (n := 194) dX8_bestMerger_191 (by decide) rfl (fun _ => ?_) (fun q_z => absurd q_z w1)
            rw [← hZ, if_neg w1]
            refine am_iload (n := 201) dX8_bestMerger_199 rfl rfl ?_
            refine am_iret dX8_bestMerger_201 rfl rfl ?_
            exact ⟨rfl, X1, F1⟩
      · intro k hk K h1 X1 F1
        rw [show bmO G.1 E (k + 1) = bmI G.1 E (k + 1) (bmO G.1 E k) (8 - k) from rfl] at K
        have hok := okT_bmO (E := E) hX.2.1 vE k (by omega)
        generalize bmO G.1 E k = t at *
        refine am_iload (n := 38) dX8_bestMerger_36 rfl rfl ?_
        refine am_bipush (n := 40) (v := 10) dX8_bestMerger_38 rfl rfl ?_
        refine am_icmp_ge (tgt := 181) (n := 43) dX8_bestMerger_40 (by decide) rfl (fun q_z => absurd q_z (nI_ge (show k + 1 < 10 by omega) (by decide))) (fun _ => ?_)
        refine am_iload (n := 45) dX8_bestMerger_43 rfl rfl ?_
        refine am_iconst (n := 46) (v := 1) dX8_bestMerger_45 rfl rfl ?_
        refine am_iadd (n := 47) dX8_bestMerger_46 rfl ?_
        rw [nI_1]
        refine am_istore (n := 49) dX8_bestMerger_47 (Nat.le_of_ble_eq_true rfl) rfl rfl ?_
        refine am_loc [(0, some (.ref 40)), (1, some (.int (nI e))), (2, some (.int w)), (3, some (.int (bmI G.1 E (k + 1) t 0).1)), (4, some (.int (bmI G.1 E (k + 1) t 0).2.1)), (5, some (.int (bmI G.1 E (k + 1) t 0).2.2)), (6, some (.int (nI (k + 1)))), (7, some (.int (nI (k + 1 + 1 + 0))))] rfl ?_
        refine loop_up (Wp := fun j => ∀ h1 : Hp, MG G h1 → Fr 40 59 h h1 → AW g mmX8_bestMerger Z 49 [(0, some (.ref 40)), (1, some (.int (nI e))), (2, some (.int w)), (3, some (.int (bmI G.1 E (k + 1) t j).1)), (4, some (.int (bmI G.1 E (k + 1) t j).2.1)), (5, some (.int (bmI G.1 E (k + 1) t j).2.2)), (6, some (.int (nI (k + 1)))), (7, some (.int (nI (k + 1 + 1 + j))))] [] h1) (8 - k) ?_ ?_ 0 (by omega) h1 X1 F1
        · intro h2 X2 F2
          refine am_iload (n := 51) dX8_bestMerger_49 rfl rfl ?_
          refine am_bipush (n := 53) (v := 10) dX8_bestMerger_51 rfl rfl ?_
          refine am_icmp_ge (tgt := 175) (n := 56) dX8_bestMerger_53 (by decide) rfl (fun _ => ?_) (fun q_z => absurd (nI_le (show 10 ≤ k + 1 + 1 + (8 - k) by omega) (by omega)) q_z)
          first | refine am_iincN (n := 178) dX8_bestMerger_175 rfl rfl rfl ?_ | refine am_iinc1 (n := 178) dX8_bestMerger_175 rfl rfl rfl ?_
          refine am_goto (tgt := 36) dX8_bestMerger_178 (by decide) ?_
          exact am_loc _ rfl (K h2 X2 F2)
        · intro j hj KK h2 X2 F2
          rw [show bmI G.1 E (k + 1) t (j + 1) = bmS G.1 E (k + 1) (k + 1 + 1 + j) (bmI G.1 E (k + 1) t j) from rfl, show k + 1 + 1 + (j + 1) = k + 1 + 1 + j + 1 by omega] at KK
          have hokj := okT_bmI (a := k + 1) hX.2.1 vE hok j (by omega)
          generalize bmI G.1 E (k + 1) t j = T at *
          have hd9 : k + 1 + 1 + j ≤ 9 := by omega
          generalize k + 1 + 1 + j = d at *
          have R2 := (mE X2.1 X2.2.1 hx).2.1
          have KK2 := KK
          -- the choice
          have t129 : ∀ (l : Lo) (b : Bool) (its : Int32) (h3 : Hp), MG G h3 → Fr 40 59 h h3 → bmS G.1 E (k + 1) d T = (if b = true then (nI (k + 1), nI d, its) else T) → lget l 0 = some (.ref 40) → lget l 1 = some (.int (nI e)) → lget l 2 = some (.int w) → lget l 3 = some (.int T.1) → lget l 4 = some (.int T.2.1) → lget l 5 = some (.int T.2.2) → lget l 6 = some (.int (nI (k + 1))) → lget l 7 = some (.int (nI d)) → lget l 9 = some (.int its) → lget l 10 = some (.int (bI b)) → AW g mmX8_bestMerger Z 129 l [] h3 := by
            intro l b its h3 X3 F3 hb l0 l1 l2 l3 l4 l5 l6 l7 l9 l10
            have K3 := KK h3 X3 F3
            rw [hb] at K3
            refine am_loc [(0, some (.ref 40)), (1, some (.int (nI e))), (2, some (.int w)), (3, some (.int T.1)), (4, some (.int T.2.1)), (5, some (.int T.2.2)), (6, some (.int (nI (k + 1)))), (7, some (.int (nI d))), (9, some (.int its)), (10, some (.int (bI b)))] (by simp only [List.map_cons, List.map_nil, l0, l1, l2, l3, l4, l5, l6, l7, l9, l10]) ?_
            cases b with
            | true =>
              rw [if_pos rfl] at K3
              refine am_iload (n := 131) dX8_bestMerger_129 rfl rfl ?_
              refine am_if_eq (tgt := 139) (n := 134) dX8_bestMerger_131 (by decide) rfl (fun q_z => absurd q_z (show ¬ (1 : Int32) = 0 by decide)) (fun _ => ?_)
              refine am_iload (n := 136) dX8_bestMerger_134 rfl rfl ?_
              refine am_goto (tgt := 140) dX8_bestMerger_136 (by decide) ?_
              refine am_istore_n (n := 141) (i := 3) dX8_bestMerger_140 rfl (Nat.le_of_ble_eq_true rfl) rfl rfl ?_
              refine am_iload (n := 143) dX8_bestMerger_141 rfl rfl ?_
              refine am_if_eq (tgt := 151) (n := 146) dX8_bestMerger_143 (by decide) rfl (fun q_z => absurd q_z (show ¬ (1 : Int32) = 0 by decide)) (fun _ => ?_)
              refine am_iload (n := 148) dX8_bestMerger_146 rfl rfl ?_
              refine am_goto (tgt := 153) dX8_bestMerger_148 (by decide) ?_
              refine am_istore (n := 155) dX8_bestMerger_153 (Nat.le_of_ble_eq_true rfl) rfl rfl ?_
              refine am_iload (n := 157) dX8_bestMerger_155 rfl rfl ?_
              refine am_if_eq (tgt := 165) (n := 160) dX8_bestMerger_157 (by decide) rfl (fun q_z => absurd q_z (show ¬ (1 : Int32) = 0 by decide)) (fun _ => ?_)
              refine am_iload (n := 162) dX8_bestMerger_160 rfl rfl ?_
              refine am_goto (tgt := 167) dX8_bestMerger_162 (by decide) ?_
              refine am_istore (n := 169) dX8_bestMerger_167 (Nat.le_of_ble_eq_true rfl) rfl rfl ?_
              first | refine am_iincN (n := 172) dX8_bestMerger_169 rfl rfl rfl ?_ | refine am_iinc1 (n := 172) dX8_bestMerger_169 rfl rfl rfl ?_
              refine am_goto (tgt := 49) dX8_bestMerger_172 (by decide) ?_
              exact am_loc _ rfl K3
            | false =>
              rw [if_neg (by decide)] at K3
              refine am_iload (n := 131) dX8_bestMerger_129 rfl rfl ?_
              refine am_if_eq (tgt := 139) (n := 134) dX8_bestMerger_131 (by decide) rfl (fun _ => ?_) (fun q_z => absurd rfl q_z)
              refine am_iload_n (n := 140) (i := 3) dX8_bestMerger_139 rfl rfl rfl ?_
              refine am_istore_n (n := 141) (i := 3) dX8_bestMerger_140 rfl (Nat.le_of_ble_eq_true rfl) rfl rfl ?_
              refine am_iload (n := 143) dX8_bestMerger_141 rfl rfl ?_
              refine am_if_eq (tgt := 151) (n := 146) dX8_bestMerger_143 (by decide) rfl (fun _ => ?_) (fun q_z => absurd rfl q_z)
              refine am_iload (n := 153) dX8_bestMerger_151 rfl rfl ?_
              refine am_istore (n := 155) dX8_bestMerger_153 (Nat.le_of_ble_eq_true rfl) rfl rfl ?_
              refine am_iload (n := 157) dX8_bestMerger_155 rfl rfl ?_
              refine am_if_eq (tgt := 165) (n := 160) dX8_bestMerger_157 (by decide) rfl (fun _ => ?_) (fun q_z => absurd rfl q_z)
              refine am_iload (n := 167) dX8_bestMerger_165 rfl rfl ?_
              refine am_istore (n := 169) dX8_bestMerger_167 (Nat.le_of_ble_eq_true rfl) rfl rfl ?_
              first | refine am_iincN (n := 172) dX8_bestMerger_169 rfl rfl rfl ?_ | refine am_iinc1 (n := 172) dX8_bestMerger_169 rfl rfl rfl ?_
              refine am_goto (tgt := 49) dX8_bestMerger_172 (by decide) ?_
              exact am_loc _ rfl K3
          have t80 : (lof E.1 (k + 1) = 0 ∨ lof E.1 d = 0) → AW g mmX8_bestMerger Z 80 [(0, some (.ref 40)), (1, some (.int (nI e))), (2, some (.int w)), (3, some (.int T.1)), (4, some (.int T.2.1)), (5, some (.int T.2.2)), (6, some (.int (nI (k + 1)))), (7, some (.int (nI d)))] [] h2 := by
            intro q
            have hS : bmS G.1 E (k + 1) d T = (if (false = true) then (nI (k + 1), nI d, (0 : Int32)) else T) := by
              unfold bmS
              rw [if_pos q, if_neg (by decide)]
            refine am_iconst (n := 81) (v := 0) dX8_bestMerger_80 rfl rfl ?_
            refine am_istore (n := 83) dX8_bestMerger_81 (Nat.le_of_ble_eq_true rfl) rfl rfl ?_
            refine am_iload (n := 85) dX8_bestMerger_83 rfl rfl ?_
            refine am_if_eq (tgt := 101) (n := 88) dX8_bestMerger_85 (by decide) rfl (fun _ => ?_) (fun q_z => absurd rfl q_z)
            refine am_iconst (n := 102) (v := 0) dX8_bestMerger_101 rfl rfl ?_
            refine am_istore (n := 104) dX8_bestMerger_102 (Nat.le_of_ble_eq_true rfl) rfl rfl ?_
            refine am_iload (n := 106) dX8_bestMerger_104 rfl rfl ?_
            refine am_if_eq (tgt := 126) (n := 109) dX8_bestMerger_106 (by decide) rfl (fun _ => ?_) (fun q_z => absurd rfl q_z)
            refine am_iconst (n := 127) (v := 0) dX8_bestMerger_126 rfl rfl ?_
            refine am_istore (n := 129) dX8_bestMerger_127 (Nat.le_of_ble_eq_true rfl) rfl rfl ?_
            exact t129 _ false 0 h2 X2 F2 hS rfl rfl rfl rfl rfl rfl rfl rfl rfl rfl
          refine am_iload (n := 51) dX8_bestMerger_49 rfl rfl ?_
          refine am_bipush (n := 53) (v := 10) dX8_bestMerger_51 rfl rfl ?_
          refine am_icmp_ge (tgt := 175) (n := 56) dX8_bestMerger_53 (by decide) rfl (fun q_z => absurd q_z (nI_ge (show d < 10 by omega) (by decide))) (fun _ => ?_)
          refine am_aload_n (n := 57) (i := 0) dX8_bestMerger_56 rfl rfl rfl ?_
          refine am_iload_n (n := 58) (i := 1) dX8_bestMerger_57 rfl rfl rfl ?_
          refine am_iload (n := 60) dX8_bestMerger_58 rfl rfl ?_
          refine cdX8_bestMerger_178 (n := 63) dX8_bestMerger_60 (by first | exact ⟨rfl, rfl⟩ | assumption) (m_lettersOf g e (k + 1) E h2 e4 R2 vE (by omega)) rfl rfl (Nat.le_of_ble_eq_true rfl) (by first | assumption | exact isC_of (by decide +kernel)) rfl ?_
          by_cases q1 : lof E.1 (k + 1) = 0
          · rw [q1]
            refine am_if_eq (tgt := 80) (n := 66) dX8_bestMerger_63 (by decide) rfl (fun _ => ?_) (fun q_z => absurd rfl q_z)
            exact t80 (Or.inl q1)
          · refine am_if_eq (tgt := 80) (n := 66) dX8_bestMerger_63 (by decide) rfl (fun q_z => absurd q_z q1) (fun _ => ?_)
            refine am_aload_n (n := 67) (i := 0) dX8_bestMerger_66 rfl rfl rfl ?_
            refine am_iload_n (n := 68) (i := 1) dX8_bestMerger_67 rfl rfl rfl ?_
            refine am_iload (n := 70) dX8_bestMerger_68 rfl rfl ?_
            refine cdX8_bestMerger_178 (n := 73) dX8_bestMerger_70 (by first | exact ⟨rfl, rfl⟩ | assumption) (m_lettersOf g e d E h2 e4 R2 vE hd9) rfl rfl (Nat.le_of_ble_eq_true rfl) (by first | assumption | exact isC_of (by decide +kernel)) rfl ?_
            by_cases q2 : lof E.1 d = 0
            · rw [q2]
              refine am_if_eq (tgt := 80) (n := 76) dX8_bestMerger_73 (by decide) rfl (fun _ => ?_) (fun q_z => absurd rfl q_z)
              exact t80 (Or.inr q2)
            · refine am_if_eq (tgt := 80) (n := 76) dX8_bestMerger_73 (by decide) rfl (fun q_z => absurd q_z q2) (fun _ => ?_)
              have hS : bmS G.1 E (k + 1) d T = if T.2.2 = -6 ∨ prs (csOf G.1 (mergeE E (k + 1) d)) < T.2.2 then (nI (k + 1), nI d, prs (csOf G.1 (mergeE E (k + 1) d))) else T := by
                unfold bmS
                rw [if_neg (fun q => q.elim q1 q2)]
              have hbm := m_behindMerger g e (k + 1) d true E G h2 X2 hx (by omega) hd9
              rw [if_pos rfl] at hbm
              generalize prs (csOf G.1 (mergeE E (k + 1) d)) = pp at *
              refine am_iconst (n := 77) (v := 1) dX8_bestMerger_76 rfl rfl ?_
              refine am_goto (tgt := 81) dX8_bestMerger_77 (by decide) ?_
              refine am_istore (n := 83) dX8_bestMerger_81 (Nat.le_of_ble_eq_true rfl) rfl rfl ?_
              refine am_iload (n := 85) dX8_bestMerger_83 rfl rfl ?_
              refine am_if_eq (tgt := 101) (n := 88) dX8_bestMerger_85 (by decide) rfl (fun q_z => absurd q_z (show ¬ (1 : Int32) = 0 by decide)) (fun _ => ?_)
              refine am_aload_n (n := 89) (i := 0) dX8_bestMerger_88 rfl rfl rfl ?_
              refine am_iload_n (n := 90) (i := 1) dX8_bestMerger_89 rfl rfl rfl ?_
              refine am_iload (n := 92) dX8_bestMerger_90 rfl rfl ?_
              refine am_iload (n := 94) dX8_bestMerger_92 rfl rfl ?_
              refine am_iconst (n := 95) (v := 1) dX8_bestMerger_94 rfl rfl ?_
              refine caX8_bestMerger_227 (n := 98) dX8_bestMerger_95 (by first | exact ⟨rfl, rfl⟩ | assumption) hbm rfl rfl (Nat.le_of_ble_eq_true rfl) (by first | assumption | exact isC_of (by decide +kernel)) rfl ?_
              rintro r h3 ⟨rfl, X3, F3⟩
              have F23 := F2.tr F3
              refine am_goto (tgt := 102) dX8_bestMerger_98 (by decide) ?_
              refine am_istore (n := 104) dX8_bestMerger_102 (Nat.le_of_ble_eq_true rfl) rfl rfl ?_
              refine am_iload (n := 106) dX8_bestMerger_104 rfl rfl ?_
              refine am_if_eq (tgt := 126) (n := 109) dX8_bestMerger_106 (by decide) rfl (fun q_z => absurd q_z (show ¬ (1 : Int32) = 0 by decide)) (fun _ => ?_)
              refine am_iload_n (n := 110) (i := 3) dX8_bestMerger_109 rfl rfl rfl ?_
              refine am_bipush (n := 112) (v := (-6)) dX8_bestMerger_110 rfl rfl ?_
              by_cases q3 : T.1 = -6
              · refine am_icmp_eq (tgt := 122) (n := 115) dX8_bestMerger_112 (by decide) rfl (fun _ => ?_) (fun q_z => absurd q3 q_z)
                rw [if_pos (Or.inl (hokj.mp q3))] at hS
                refine am_iconst (n := 123) (v := 1) dX8_bestMerger_122 rfl rfl ?_
                refine am_goto (tgt := 127) dX8_bestMerger_123 (by decide) ?_
                refine am_istore (n := 129) dX8_bestMerger_127 (Nat.le_of_ble_eq_true rfl) rfl rfl ?_
                exact t129 _ true pp h3 X3 F23 (by rw [hS, if_pos rfl]) rfl rfl rfl rfl rfl rfl rfl rfl rfl rfl
              · refine am_icmp_eq (tgt := 122) (n := 115) dX8_bestMerger_112 (by decide) rfl (fun q_z => absurd q_z q3) (fun _ => ?_)
                refine am_iload (n := 117) dX8_bestMerger_115 rfl rfl ?_
                refine am_iload (n := 119) dX8_bestMerger_117 rfl rfl ?_
                by_cases q4 : pp < T.2.2
                · refine am_icmp_ge (tgt := 126) (n := 122) dX8_bestMerger_119 (by decide) rfl (fun q_z => absurd q_z (Int32.not_le.mpr q4)) (fun _ => ?_)
                  rw [if_pos (Or.inr q4)] at hS
                  refine am_iconst (n := 123) (v := 1) dX8_bestMerger_122 rfl rfl ?_
                  refine am_goto (tgt := 127) dX8_bestMerger_123 (by decide) ?_
                  refine am_istore (n := 129) dX8_bestMerger_127 (Nat.le_of_ble_eq_true rfl) rfl rfl ?_
                  exact t129 _ true pp h3 X3 F23 (by rw [hS, if_pos rfl]) rfl rfl rfl rfl rfl rfl rfl rfl rfl rfl
                · refine am_icmp_ge (tgt := 126) (n := 122) dX8_bestMerger_119 (by decide) rfl (fun _ => ?_) (fun q_z => absurd (Int32.not_lt.mp q4) q_z)
                  rw [if_neg (fun q => q.elim (fun z => q3 (hokj.mpr z)) q4)] at hS
                  refine am_iconst (n := 127) (v := 0) dX8_bestMerger_126 rfl rfl ?_
                  refine am_istore (n := 129) dX8_bestMerger_127 (Nat.le_of_ble_eq_true rfl) rfl rfl ?_
                  exact t129 _ false pp h3 X3 F23 (by rw [hS, if_neg (by decide)]) rfl rfl rfl rfl rfl rfl rfl rfl rfl rfl
set_option maxRecDepth 100000 in
set_option maxHeartbeats 400000 in
theorem cm_quarrel (g : Gx) (x y : Int32) (G : GS) (h : Hp) (hX : MG G h) : CM g yX8_quarrel wsX8_quarrel rmX8_quarrel [.ref 40, .int x, .int y] h (sp_quarrel x y G) := by
  have c40 := isC_40
  have c41 := isC_41
  have c53 := isC_53
  have h4 := hX.2.1.2.2.2.2.1
  have h24 := hX.2.1.2.2.1
  unfold CM sp_quarrel
  refine AC.of (cc := cX8_quarrel) (maxL := 5) (ret := (some .int)) (by decide +kernel) rfl (Nat.le_of_ble_eq_true rfl) ?_
  show AW g mmX8_quarrel _ 0 [(0, some (.ref 40)), (1, some (.int x)), (2, some (.int y))] [] _
  refine am_aload_n (n := 1) (i := 0) dX8_quarrel_0 rfl rfl rfl ?_
  refine am_iload_n (n := 2) (i := 1) dX8_quarrel_1 rfl rfl rfl ?_
  refine cdX8_quarrel_156 (n := 5) dX8_quarrel_2 (by first | exact ⟨rfl, rfl⟩ | assumption) (m_isEar g x G.1.2.2.2.length h (by omega) hX.1.2.2.2.1) rfl rfl (Nat.le_of_ble_eq_true rfl) (by first | assumption | exact isC_of (by decide +kernel)) rfl ?_
  cases hxx : inN x G.1.2.2.2.length with
  | false =>
    rw [sp_E_f _ hxx]
    refine am_if_eq (tgt := 16) (n := 8) dX8_quarrel_5 (by decide) rfl (fun _ => ?_) (fun q_z => absurd rfl q_z)
    refine am_iconst (n := 17) (v := (-1)) dX8_quarrel_16 rfl rfl ?_
    refine am_iret dX8_quarrel_17 rfl rfl ?_
    exact ⟨rfl, hX, Fr.rf⟩
  | true =>
    obtain ⟨e, he, rfl⟩ := inN_t (by omega) hxx
    have hx := List.getElem?_eq_getElem he
    obtain ⟨e4, -, vE⟩ := mE hX.1 hX.2.1 hx
    rw [sp_E_t _ h4 he hx]
    generalize G.1.2.2.2[e] = E at *
    refine am_if_eq (tgt := 16) (n := 8) dX8_quarrel_5 (by decide) rfl (fun q_z => absurd q_z (show ¬ (1 : Int32) = 0 by decide)) (fun _ => ?_)
    refine am_aload_n (n := 9) (i := 0) dX8_quarrel_8 rfl rfl rfl ?_
    refine am_iload_n (n := 10) (i := 2) dX8_quarrel_9 rfl rfl rfl ?_
    refine cdX8_quarrel_156 (n := 13) dX8_quarrel_10 (by first | exact ⟨rfl, rfl⟩ | assumption) (m_isEar g y G.1.2.2.2.length h (by omega) hX.1.2.2.2.1) rfl rfl (Nat.le_of_ble_eq_true rfl) (by first | assumption | exact isC_of (by decide +kernel)) rfl ?_
    cases hyy : inN y G.1.2.2.2.length with
    | false =>
      rw [sp_E_f _ hyy]
      refine am_if_ne (tgt := 18) (n := 16) dX8_quarrel_13 (by decide) rfl (fun q_z => absurd rfl q_z) (fun _ => ?_)
      refine am_iconst (n := 17) (v := (-1)) dX8_quarrel_16 rfl rfl ?_
      refine am_iret dX8_quarrel_17 rfl rfl ?_
      exact ⟨rfl, hX, Fr.rf⟩
    | true =>
      obtain ⟨f, hf, rfl⟩ := inN_t (by omega) hyy
      have hy := List.getElem?_eq_getElem hf
      obtain ⟨f4, -, vF⟩ := mE hX.1 hX.2.1 hy
      rw [sp_E_t _ h4 hf hy]
      generalize G.1.2.2.2[f] = F at *
      refine am_if_ne (tgt := 18) (n := 16) dX8_quarrel_13 (by decide) rfl (fun _ => ?_) (fun q_z => absurd q_z (show ¬ (1 : Int32) = 0 by decide))
      refine am_aload_n (n := 19) (i := 0) dX8_quarrel_18 rfl rfl rfl ?_
      refine am_iload_n (n := 20) (i := 1) dX8_quarrel_19 rfl rfl rfl ?_
      refine caX8_quarrel_147 (n := 23) dX8_quarrel_20 (by first | exact ⟨rfl, rfl⟩ | assumption) (m_hearAll g e G.1 E h hX.1 hX.2.1 hx) rfl rfl (Nat.le_of_ble_eq_true rfl) (by first | assumption | exact isC_of (by decide +kernel)) rfl ?_
      rintro r h1 ⟨rfl, H1, F1⟩
      have X1 := hX.s F1
      have hall2 : ∀ hh, FrI 53 53 h1 hh → AC g yX8_hearAll wsX8_hearAll rmX8_hearAll [.ref 40, .int (nI f)] hh (fun v h' => v = none ∧ HA (csOf G.1 F) h' ∧ FrS hh h') := fun hh FF => m_hearAll g f G.1 F hh (X1.f53 FF).1 hX.2.1 hy
      have hV := VC_of hX.2.1 vE
      have hV2 := VC_of hX.2.1 vF
      have hcl := csOf_len G.1 E
      have hdl := csOf_len G.1 F
      generalize csOf G.1 E = cs at *
      generalize csOf G.1 F = ds at *
      have hr1 : h1.1 41 2 = nI G.1.2.2.1.length := X1.1.2.2.1
      dsimp only
      generalize hZ : ZP g (fun v h'' => v = some (.int (qrF cs ds G.1.2.2.1.length / 2)) ∧ MG G h'' ∧ Fr 40 59 h h'') = Z
      have z0 : Z.1 = 0 ∧ Z.2.1 = 0 := by rw [← hZ]; exact ⟨rfl, rfl⟩
      refine am_iconst (n := 24) (v := 0) dX8_quarrel_23 rfl rfl ?_
      refine am_istore_n (n := 25) (i := 3) dX8_quarrel_24 rfl (Nat.le_of_ble_eq_true rfl) rfl rfl ?_
      refine am_loc [(0, some (.ref 40)), (1, some (.int (nI e))), (2, some (.int (nI f))), (3, some (.int (nI 0)))] rfl ?_
      refine loop_up (Wp := fun k => ∀ hh : Hp, FrI 53 53 h1 hh → (∀ j, j < k → hh.1 53 j = lkM cs j) → AW g mmX8_quarrel Z 25 [(0, some (.ref 40)), (1, some (.int (nI e))), (2, some (.int (nI f))), (3, some (.int (nI k)))] [] hh) G.1.2.2.1.length ?_ ?_ 0 (Nat.zero_le _) h1 FrI.rf (fun j hj => by omega)
      · intro hh FF e1
        have FS : Fr 40 59 h1 hh := FF.toFr.wide (by omega) (by omega)
        refine am_iload_n (n := 26) (i := 3) dX8_quarrel_25 rfl rfl rfl ?_
        refine am_aload_n (n := 27) (i := 0) dX8_quarrel_26 rfl rfl rfl ?_
        refine gfX8_quarrel_7 (n := 30) dX8_quarrel_27 (by first | assumption | exact isC_of (by decide +kernel)) rfl ?_
        refine am_iconst (n := 31) (v := 2) dX8_quarrel_30 rfl rfl ?_
        refine am_iald (n := 32) dX8_quarrel_31 (by first | assumption | exact isC_of (by decide +kernel)) (by first | assumption | exact vp_in_nI (by omega) (by omega) | exact vp_in_iff.mpr (by decide)) rfl ?_
        rw [show (2 : Int32).toNatClampNeg = 2 from rfl, FF.1 41 (by omega), hr1]
        refine am_icmp_ge (tgt := 52) (n := 35) dX8_quarrel_32 (by decide) rfl (fun _ => ?_) (fun q_z => absurd (nI_le (Nat.le_refl _) (by omega)) q_z)
        refine am_aload_n (n := 53) (i := 0) dX8_quarrel_52 rfl rfl rfl ?_
        refine am_iload_n (n := 54) (i := 2) dX8_quarrel_53 rfl rfl rfl ?_
        refine caX8_quarrel_147 (n := 57) dX8_quarrel_54 (by first | exact ⟨rfl, rfl⟩ | assumption) (hall2 hh FF) rfl rfl (Nat.le_of_ble_eq_true rfl) (by first | assumption | exact isC_of (by decide +kernel)) rfl ?_
        rintro r h3 ⟨rfl, H3, F3⟩
        have e53 := F3.2.2.2.2 53 (by omega) (Or.inr rfl)
        have X3 := (X1.f53 FF).s F3
        have FF3 := (F1.1.tr FS).tr F3.1
        have hr3 : h3.1 41 2 = nI G.1.2.2.1.length := X3.1.2.2.1
        refine am_iconst (n := 58) (v := 0) dX8_quarrel_57 rfl rfl ?_
        refine am_istore_n (n := 59) (i := 3) dX8_quarrel_58 rfl (Nat.le_of_ble_eq_true rfl) rfl rfl ?_
        refine am_iconst (n := 60) (v := 0) dX8_quarrel_59 rfl rfl ?_
        refine am_istore (n := 62) dX8_quarrel_60 (Nat.le_of_ble_eq_true rfl) rfl rfl ?_
        refine am_loc [(0, some (.ref 40)), (3, some (.int (qrF cs ds 0))), (4, some (.int (nI 0)))] rfl ?_
        refine loop_up (Wp := fun k => AW g mmX8_quarrel Z 62 [(0, some (.ref 40)), (3, some (.int (qrF cs ds k))), (4, some (.int (nI k)))] [] h3) G.1.2.2.1.length ?_ ?_ 0 (Nat.zero_le _)
        · refine am_iload (n := 64) dX8_quarrel_62 rfl rfl ?_
          refine am_aload_n (n := 65) (i := 0) dX8_quarrel_64 rfl rfl rfl ?_
          refine gfX8_quarrel_7 (n := 68) dX8_quarrel_65 (by first | assumption | exact isC_of (by decide +kernel)) rfl ?_
          refine am_iconst (n := 69) (v := 2) dX8_quarrel_68 rfl rfl ?_
          refine am_iald (n := 70) dX8_quarrel_69 (by first | assumption | exact isC_of (by decide +kernel)) (by first | assumption | exact vp_in_nI (by omega) (by omega) | exact vp_in_iff.mpr (by decide)) rfl ?_
          rw [show (2 : Int32).toNatClampNeg = 2 from rfl, hr3]
          refine am_icmp_ge (tgt := 101) (n := 73) dX8_quarrel_70 (by decide) rfl (fun _ => ?_) (fun q_z => absurd (nI_le (Nat.le_refl _) (by omega)) q_z)
          rw [← hZ]
          generalize qrF cs ds G.1.2.2.1.length = q
          refine am_iload_n (n := 102) (i := 3) dX8_quarrel_101 rfl rfl rfl ?_
          refine am_iconst (n := 103) (v := 2) dX8_quarrel_102 rfl rfl ?_
          refine am_idiv (n := 104) dX8_quarrel_103 (by decide) rfl ?_
          refine am_iret dX8_quarrel_104 rfl rfl ?_
          exact ⟨rfl, X3, FF3⟩
        · intro k hk K
          rw [show qrF cs ds (k + 1) = qrF cs ds k + nI (pc (lkM cs k &&& (lkM ds k ^^^ (-1)))) from rfl] at K
          generalize qrF cs ds k = q at *
          have hin : vp_in (nI k) 24 := vp_in_nI (by omega) (by decide)
          have h26 : ∀ j, 26 ≤ j → j < 32 → bt (lkM cs k &&& (lkM ds k ^^^ (-1))) j = false := fun j j1 j2 => by
            rw [b_and, lkM_26 (by omega) k j j1 j2, Bool.false_and]
          have e1k := e1 k hk
          refine am_iload (n := 64) dX8_quarrel_62 rfl rfl ?_
          refine am_aload_n (n := 65) (i := 0) dX8_quarrel_64 rfl rfl rfl ?_
          refine gfX8_quarrel_7 (n := 68) dX8_quarrel_65 (by first | assumption | exact isC_of (by decide +kernel)) rfl ?_
          refine am_iconst (n := 69) (v := 2) dX8_quarrel_68 rfl rfl ?_
          refine am_iald (n := 70) dX8_quarrel_69 (by first | assumption | exact isC_of (by decide +kernel)) (by first | assumption | exact vp_in_nI (by omega) (by omega) | exact vp_in_iff.mpr (by decide)) rfl ?_
          rw [show (2 : Int32).toNatClampNeg = 2 from rfl, hr3]
          refine am_icmp_ge (tgt := 101) (n := 73) dX8_quarrel_70 (by decide) rfl (fun q_z => absurd q_z (nI_ge hk (by omega))) (fun _ => ?_)
          refine am_iload_n (n := 74) (i := 3) dX8_quarrel_73 rfl rfl rfl ?_
          refine am_aload_n (n := 75) (i := 0) dX8_quarrel_74 rfl rfl rfl ?_
          refine gfX8_quarrel_48 (n := 78) dX8_quarrel_75 (by first | assumption | exact isC_of (by decide +kernel)) rfl ?_
          refine am_iload (n := 80) dX8_quarrel_78 rfl rfl ?_
          refine am_iald (n := 81) dX8_quarrel_80 (by first | assumption | exact isC_of (by decide +kernel)) (by first | assumption | exact vp_in_nI (by omega) (by omega) | exact vp_in_iff.mpr (by decide)) rfl ?_
          rw [nI_clamp (by omega), e53, e1k]
          refine am_aload_n (n := 82) (i := 0) dX8_quarrel_81 rfl rfl rfl ?_
          refine am_iload (n := 84) dX8_quarrel_82 rfl rfl ?_
          refine cdX8_quarrel_150 (n := 87) dX8_quarrel_84 (by first | exact ⟨rfl, rfl⟩ | assumption) (m_likeOnes g k ds h3 H3 hV2 (by omega) (by rw [hdl]; exact hr3)) rfl rfl (Nat.le_of_ble_eq_true rfl) (by first | assumption | exact isC_of (by decide +kernel)) rfl ?_
          generalize lkM cs k = a1 at *
          generalize lkM ds k = a2 at *
          refine am_iconst (n := 88) (v := (-1)) dX8_quarrel_87 rfl rfl ?_
          refine am_ixor (n := 89) dX8_quarrel_88 rfl ?_
          refine am_iand (n := 90) dX8_quarrel_89 rfl ?_
          refine cdX8_quarrel_153 (n := 93) dX8_quarrel_90 (by first | exact ⟨rfl, rfl⟩ | assumption) (m_bits g (a1 &&& (a2 ^^^ (-1))) h3 h26) rfl rfl (Nat.le_of_ble_eq_true rfl) rfl ?_
          generalize nI (pc (a1 &&& (a2 ^^^ (-1)))) = a3 at *
          refine am_iadd (n := 94) dX8_quarrel_93 rfl ?_
          refine am_istore_n (n := 95) (i := 3) dX8_quarrel_94 rfl (Nat.le_of_ble_eq_true rfl) rfl rfl ?_
          first | refine am_iincN (n := 98) dX8_quarrel_95 rfl rfl rfl ?_ | refine am_iinc1 (n := 98) dX8_quarrel_95 rfl rfl rfl ?_
          refine am_goto (tgt := 62) dX8_quarrel_98 (by decide) ?_
          exact am_loc _ rfl K
      · intro k hk K hh FF e1
        have hin : vp_in (nI k) 24 := vp_in_nI (by omega) (by decide)
        have H2 : HA cs hh := ⟨⟨by rw [FF.1 40 (by omega)]; exact H1.1.1, fun d c hd => by rw [FF.2]; exact H1.1.2 d c hd⟩, fun i l hl => ⟨by rw [FF.1 50 (by omega)]; exact (H1.2 i l hl).1, fun j c hj => by rw [FF.2]; exact (H1.2 i l hl).2 j c hj⟩⟩
        refine am_iload_n (n := 26) (i := 3) dX8_quarrel_25 rfl rfl rfl ?_
        refine am_aload_n (n := 27) (i := 0) dX8_quarrel_26 rfl rfl rfl ?_
        refine gfX8_quarrel_7 (n := 30) dX8_quarrel_27 (by first | assumption | exact isC_of (by decide +kernel)) rfl ?_
        refine am_iconst (n := 31) (v := 2) dX8_quarrel_30 rfl rfl ?_
        refine am_iald (n := 32) dX8_quarrel_31 (by first | assumption | exact isC_of (by decide +kernel)) (by first | assumption | exact vp_in_nI (by omega) (by omega) | exact vp_in_iff.mpr (by decide)) rfl ?_
        rw [show (2 : Int32).toNatClampNeg = 2 from rfl, FF.1 41 (by omega), hr1]
        refine am_icmp_ge (tgt := 52) (n := 35) dX8_quarrel_32 (by decide) rfl (fun q_z => absurd q_z (nI_ge hk (by omega))) (fun _ => ?_)
        refine am_aload_n (n := 36) (i := 0) dX8_quarrel_35 rfl rfl rfl ?_
        refine gfX8_quarrel_48 (n := 39) dX8_quarrel_36 (by first | assumption | exact isC_of (by decide +kernel)) rfl ?_
        refine am_iload_n (n := 40) (i := 3) dX8_quarrel_39 rfl rfl rfl ?_
        refine am_aload_n (n := 41) (i := 0) dX8_quarrel_40 rfl rfl rfl ?_
        refine am_iload_n (n := 42) (i := 3) dX8_quarrel_41 rfl rfl rfl ?_
        refine cdX8_quarrel_150 (n := 45) dX8_quarrel_42 (by first | exact ⟨rfl, rfl⟩ | assumption) (m_likeOnes g k cs hh H2 hV (by omega) (by rw [FF.1 41 (by omega), hcl]; exact hr1)) rfl rfl (Nat.le_of_ble_eq_true rfl) (by first | assumption | exact isC_of (by decide +kernel)) rfl ?_
        generalize hlk : lkM cs k = a1
        refine am_iast (n := 46) dX8_quarrel_45 (by first | assumption | exact isC_of (by decide +kernel)) (by first | assumption | exact vp_in_nI (by omega) (by omega) | exact vp_in_iff.mpr (by decide)) rfl ?_
        first | refine am_iincN (n := 49) dX8_quarrel_46 rfl rfl rfl ?_ | refine am_iinc1 (n := 49) dX8_quarrel_46 rfl rfl rfl ?_
        refine am_goto (tgt := 25) dX8_quarrel_49 (by decide) ?_
        rw [nI_clamp (by omega)]
        refine am_loc _ rfl (K _ (FF.set _ (Nat.le_refl _) (Nat.le_refl _)) (fun j hj => ?_))
        rw [setI_s]
        by_cases z : j = k
        · rw [z, pk_us, hlk]
        · rw [pk_un z]
          exact e1 j (by omega)
set_option maxRecDepth 100000 in
set_option maxHeartbeats 400000 in
theorem cm_deafest (g : Gx) (G : GS) (h : Hp) (hX : MG G h) : CM g yX8_deafest wsX8_deafest rmX8_deafest [.ref 40] h (sp_deafest G) := by
  have c40 := isC_40
  have c41 := isC_41
  have h4 := hX.2.1.2.2.2.2.1
  unfold CM sp_deafest
  dsimp only
  generalize hZ : ZP g (fun v h'' => v = some (.int (dfF G.1 G.1.2.2.2.length).1) ∧ MG G h'' ∧ Fr 40 59 h h'') = Z
  have z0 : Z.1 = 0 ∧ Z.2.1 = 0 := by rw [← hZ]; exact ⟨rfl, rfl⟩
  refine AC.of (cc := cX8_deafest) (maxL := 5) (ret := (some .int)) (by decide +kernel) rfl (Nat.le_of_ble_eq_true rfl) ?_
  show AW g mmX8_deafest _ 0 [(0, some (.ref 40))] [] _
  rw [hZ]
  refine am_bipush (n := 2) (v := (-6)) dX8_deafest_0 rfl rfl ?_
  refine am_istore_n (n := 3) (i := 1) dX8_deafest_2 rfl (Nat.le_of_ble_eq_true rfl) rfl rfl ?_
  refine am_iconst (n := 4) (v := (-1)) dX8_deafest_3 rfl rfl ?_
  refine am_istore_n (n := 5) (i := 2) dX8_deafest_4 rfl (Nat.le_of_ble_eq_true rfl) rfl rfl ?_
  refine am_iconst (n := 6) (v := 0) dX8_deafest_5 rfl rfl ?_
  refine am_istore_n (n := 7) (i := 3) dX8_deafest_6 rfl (Nat.le_of_ble_eq_true rfl) rfl rfl ?_
  refine am_loc [(0, some (.ref 40)), (1, some (.int (dfF G.1 0).1)), (2, some (.int (if (0 : Nat) = 0 then -1 else (dfF G.1 0).2))), (3, some (.int (nI 0)))] (by rw [if_pos rfl]; rfl) ?_
  refine loop_up (Wp := fun k => ∀ h1 : Hp, MG G h1 → Fr 40 59 h h1 → AW g mmX8_deafest Z 7 [(0, some (.ref 40)), (1, some (.int (dfF G.1 k).1)), (2, some (.int (if k = 0 then -1 else (dfF G.1 k).2))), (3, some (.int (nI k)))] [] h1) G.1.2.2.2.length ?_ ?_ 0 (Nat.zero_le _) h hX Fr.rf
  · intro h1 X1 F1
    refine am_iload_n (n := 8) (i := 3) dX8_deafest_7 rfl rfl rfl ?_
    refine am_aload_n (n := 9) (i := 0) dX8_deafest_8 rfl rfl rfl ?_
    refine gfX8_deafest_7 (n := 12) dX8_deafest_9 (by first | assumption | exact isC_of (by decide +kernel)) rfl ?_
    refine am_iconst (n := 13) (v := 3) dX8_deafest_12 rfl rfl ?_
    refine am_iald (n := 14) dX8_deafest_13 (by first | assumption | exact isC_of (by decide +kernel)) (by first | assumption | exact vp_in_nI (by omega) (by omega) | exact vp_in_iff.mpr (by decide)) rfl ?_
    rw [show (3 : Int32).toNatClampNeg = 3 from rfl, show h1.1 41 3 = nI G.1.2.2.2.length from X1.1.2.2.2.1]
    refine am_icmp_ge (tgt := 55) (n := 17) dX8_deafest_14 (by decide) rfl (fun _ => ?_) (fun q_z => absurd (nI_le (Nat.le_refl _) (by omega)) q_z)
    rw [← hZ]
    generalize dfF G.1 G.1.2.2.2.length = T
    refine am_iload_n (n := 56) (i := 1) dX8_deafest_55 rfl rfl rfl ?_
    refine am_iret dX8_deafest_56 rfl rfl ?_
    exact ⟨rfl, X1, F1⟩
  · intro k hk K h1 X1 F1
    have hx := List.getElem?_eq_getElem hk
    rw [show dfF G.1 (k + 1) = dfS G.1 k (dfF G.1 k) from rfl] at K
    unfold dfS at K
    rw [show G.1.2.2.2.getD k E0 = G.1.2.2.2[k] by rw [List.getD_eq_getElem?_getD, hx]; rfl, if_neg (Nat.succ_ne_zero k)] at K
    have hT0 : k = 0 → dfF G.1 k = (-6, -6) := fun q => by rw [q]; rfl
    generalize dfF G.1 k = T at *
    obtain ⟨e4, -, vE⟩ := mE X1.1 X1.2.1 hx
    have hpr := m_pairs g k G.1 _ h1 X1.1 X1.2.1 hx
    obtain ⟨pn, pn1, pn2⟩ := prs_nI (VC_of hX.2.1 vE)
    rw [pn2] at K hpr
    have hcmp : ((if k = 0 then (-1 : Int32) else T.2) < nI pn ↔ T.2 < nI pn) := by
      by_cases q : k = 0
      · rw [if_pos q, hT0 q]
        have h0 := nI_pos' (n := pn) (by omega)
        refine ⟨fun _ => ?_, fun _ => ?_⟩
        · exact Int32.lt_of_lt_of_le (by decide) h0
        · exact Int32.lt_of_lt_of_le (by decide) h0
      · rw [if_neg q]
    have hkeep : ¬ T.2 < nI pn → (if k = 0 then (-1 : Int32) else T.2) = T.2 := fun q => by
      by_cases z : k = 0
      · exfalso
        apply q
        rw [hT0 z]
        exact Int32.lt_of_lt_of_le (by decide) (nI_pos' (n := pn) (by omega))
      · rw [if_neg z]
    generalize (if k = 0 then (-1 : Int32) else T.2) = mo at *
    refine am_iload_n (n := 8) (i := 3) dX8_deafest_7 rfl rfl rfl ?_
    refine am_aload_n (n := 9) (i := 0) dX8_deafest_8 rfl rfl rfl ?_
    refine gfX8_deafest_7 (n := 12) dX8_deafest_9 (by first | assumption | exact isC_of (by decide +kernel)) rfl ?_
    refine am_iconst (n := 13) (v := 3) dX8_deafest_12 rfl rfl ?_
    refine am_iald (n := 14) dX8_deafest_13 (by first | assumption | exact isC_of (by decide +kernel)) (by first | assumption | exact vp_in_nI (by omega) (by omega) | exact vp_in_iff.mpr (by decide)) rfl ?_
    rw [show (3 : Int32).toNatClampNeg = 3 from rfl, show h1.1 41 3 = nI G.1.2.2.2.length from X1.1.2.2.2.1]
    refine am_icmp_ge (tgt := 55) (n := 17) dX8_deafest_14 (by decide) rfl (fun q_z => absurd q_z (nI_ge hk (by omega))) (fun _ => ?_)
    refine am_aload_n (n := 18) (i := 0) dX8_deafest_17 rfl rfl rfl ?_
    refine am_iload_n (n := 19) (i := 3) dX8_deafest_18 rfl rfl rfl ?_
    refine caX8_deafest_202 (n := 22) dX8_deafest_19 (by first | exact ⟨rfl, rfl⟩ | assumption) hpr rfl rfl (Nat.le_of_ble_eq_true rfl) (by first | assumption | exact isC_of (by decide +kernel)) rfl ?_
    rintro r h2 ⟨rfl, H2, F2⟩
    have K2 := K h2 (X1.s F2) (F1.tr F2.1)
    refine am_istore (n := 24) dX8_deafest_22 (Nat.le_of_ble_eq_true rfl) rfl rfl ?_
    refine am_iload (n := 26) dX8_deafest_24 rfl rfl ?_
    refine am_iload_n (n := 27) (i := 2) dX8_deafest_26 rfl rfl rfl ?_
    by_cases q : T.2 < nI pn
    · rw [if_pos q] at K2
      refine am_icmp_le (tgt := 34) (n := 30) dX8_deafest_27 (by decide) rfl (fun q_z => absurd q_z (Int32.not_le.mpr (hcmp.mpr q))) (fun _ => ?_)
      refine am_iload_n (n := 31) (i := 3) dX8_deafest_30 rfl rfl rfl ?_
      refine am_goto (tgt := 35) dX8_deafest_31 (by decide) ?_
      refine am_istore_n (n := 36) (i := 1) dX8_deafest_35 rfl (Nat.le_of_ble_eq_true rfl) rfl rfl ?_
      refine am_iload (n := 38) dX8_deafest_36 rfl rfl ?_
      refine am_iload_n (n := 39) (i := 2) dX8_deafest_38 rfl rfl rfl ?_
      refine am_icmp_le (tgt := 47) (n := 42) dX8_deafest_39 (by decide) rfl (fun q_z => absurd q_z (Int32.not_le.mpr (hcmp.mpr q))) (fun _ => ?_)
      refine am_iload (n := 44) dX8_deafest_42 rfl rfl ?_
      refine am_goto (tgt := 48) dX8_deafest_44 (by decide) ?_
      refine am_istore_n (n := 49) (i := 2) dX8_deafest_48 rfl (Nat.le_of_ble_eq_true rfl) rfl rfl ?_
      first | refine am_iincN (n := 52) dX8_deafest_49 rfl rfl rfl ?_ | refine am_iinc1 (n := 52) dX8_deafest_49 rfl rfl rfl ?_
      refine am_goto (tgt := 7) dX8_deafest_52 (by decide) ?_
      exact am_loc _ rfl K2
    · rw [if_neg q] at K2
      have hk2 := hkeep q
      refine am_icmp_le (tgt := 34) (n := 30) dX8_deafest_27 (by decide) rfl (fun _ => ?_) (fun q_z => absurd (Int32.not_lt.mp (fun z => q (hcmp.mp z))) q_z)
      refine am_iload_n (n := 35) (i := 1) dX8_deafest_34 rfl rfl rfl ?_
      refine am_istore_n (n := 36) (i := 1) dX8_deafest_35 rfl (Nat.le_of_ble_eq_true rfl) rfl rfl ?_
      refine am_iload (n := 38) dX8_deafest_36 rfl rfl ?_
      refine am_iload_n (n := 39) (i := 2) dX8_deafest_38 rfl rfl rfl ?_
      refine am_icmp_le (tgt := 47) (n := 42) dX8_deafest_39 (by decide) rfl (fun _ => ?_) (fun q_z => absurd (Int32.not_lt.mp (fun z => q (hcmp.mp z))) q_z)
      refine am_iload_n (n := 48) (i := 2) dX8_deafest_47 rfl rfl rfl ?_
      refine am_istore_n (n := 49) (i := 2) dX8_deafest_48 rfl (Nat.le_of_ble_eq_true rfl) rfl rfl ?_
      first | refine am_iincN (n := 52) dX8_deafest_49 rfl rfl rfl ?_ | refine am_iinc1 (n := 52) dX8_deafest_49 rfl rfl rfl ?_
      refine am_goto (tgt := 7) dX8_deafest_52 (by decide) ?_
      rw [← hk2] at K2
      exact am_loc _ rfl K2
