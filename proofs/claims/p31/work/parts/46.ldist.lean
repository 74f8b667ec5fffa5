/-! THE LAW'S OWN DISTANCE -/
theorem wl_c {a b x y : Nat} (ha : VW a) (hb : VW b) (hx : x < wsz a) (hy : y < wsz b) : nI (wl a x - 1) = nI (wl b y - 1) ↔ wl a x = wl b y := by
  have h1 := wl_rng ha hx
  have h2 := wl_rng hb hy
  rw [nI_eq (by omega) (by omega)]
  omega
set_option maxRecDepth 100000 in
set_option maxHeartbeats 2000000 in
theorem ac_L_distance (g : Gx) (a b : Nat) (h : Hp) (hd : isD g) (ha : VW a) (hb : VW b) : AC g yL_distance wsL_distance rmL_distance [.ref 42, .long (lN (lw a)), .long (lN (lw b))] h (fun v h' => v = some (.int (nI (dst a b))) ∧ FrI 42 42 h h') := by
  have hza := wsz_le a
  have hzb := wsz_le b
  refine AC.of (cc := cL_distance) (maxL := 10) (ret := (some .int)) (by decide +kernel) rfl (Nat.le_of_ble_eq_true rfl) ?_
  show AW g mmL_distance _ 0 [(0, some (.ref 42)), (1, some (.long (lN (lw a)))), (3, some (.long (lN (lw b))))] [] _
  generalize hZ : ZP g (fun v h' => v = some (.int (nI (dst a b))) ∧ FrI 42 42 h h') = Z
  have z0 : Z.1 = 0 ∧ Z.2.1 = 0 := by rw [← hZ]; exact ⟨rfl, rfl⟩
  have hla : ∀ (k : Nat) (h1 : Hp), k < wsz a → AD g yL_letter wsL_letter rmL_letter [.long (lN (lw a)), .int (nI k)] h1 (some (.int (nI (wl a k - 1)))) h1 := fun k h1 hk => ac_L_letterW g a k h1 hk
  have hlb : ∀ (k : Nat) (h1 : Hp), k < wsz b → AD g yL_letter wsL_letter rmL_letter [.long (lN (lw b)), .int (nI k)] h1 (some (.int (nI (wl b k - 1)))) h1 := fun k h1 hk => ac_L_letterW g b k h1 hk
  have hma : ∀ h1 : Hp, AD g yL_many wsL_many rmL_many [.long (lN (lw a))] h1 (some (.int (nI (wsz a)))) h1 := fun h1 => ac_L_manyW g a h1
  have hmb : ∀ h1 : Hp, AD g yL_many wsL_many rmL_many [.long (lN (lw b))] h1 (some (.int (nI (wsz b)))) h1 := fun h1 => ac_L_manyW g b h1
  have hcc : ∀ x y, x < wsz a → y < wsz b → (nI (wl a x - 1) = nI (wl b y - 1) ↔ wl a x = wl b y) := fun x y hx hy => wl_c ha hb hx hy
  have hD : dst a b = edR (wl a) (wl b) (wsz a) (wsz b) := rfl
  generalize wsz a = N at *
  generalize wsz b = M at *
  have hle := edR_le (wl a) (wl b)
  generalize hed : edR (wl a) (wl b) = ed at hD hle
  have ed_00 : ∀ j, ed 0 j = j := fun j => by rw [← hed]; rfl
  have ed_i0 : ∀ i, ed i 0 = i := fun i => by rw [← hed]; exact edR_i0 _ _ i
  have ed_ss : ∀ i j, ed (i + 1) (j + 1) = min (ed i j + (if wl a i = wl b j then 0 else 1)) (min (ed i (j + 1)) (ed (i + 1) j) + 1) := fun i j => by rw [← hed]; rfl
  clear hed
  -- the outer loop
  have outer : ∀ i, i ≤ M → ∀ h1 : Hp, FrI 42 42 h h1 → (∀ k, k ≤ N → h1.1 42 (11 * (i % 2) + k) = nI (ed k i)) → AW g mmL_distance Z 27 [(0, some (.ref 42)), (1, some (.long (lN (lw a)))), (3, some (.long (lN (lw b)))), (5, some (.int (nI (i + 1))))] [] h1 := by
    refine loop_up (Wp := fun i => ∀ h1 : Hp, FrI 42 42 h h1 → (∀ k, k ≤ N → h1.1 42 (11 * (i % 2) + k) = nI (ed k i)) → AW g mmL_distance Z 27 [(0, some (.ref 42)), (1, some (.long (lN (lw a)))), (3, some (.long (lN (lw b)))), (5, some (.int (nI (i + 1))))] [] h1) M ?_ ?_
    · intro h1 F H
      have h2 : M % 2 < 2 := Nat.mod_lt _ (by decide)
      refine am_iload (n := 29) dL_distance_27 rfl rfl ?_
      refine am_lload_n (n := 30) (i := 3) dL_distance_29 rfl rfl rfl ?_
      refine cdL_distance_17 (n := 33) dL_distance_30 (by first | exact ⟨rfl, rfl⟩ | assumption) (hmb h1) rfl rfl (Nat.le_of_ble_eq_true rfl) rfl ?_
      refine am_icmp_gt (tgt := 187) (n := 36) dL_distance_33 (by decide) rfl (fun _ => ?_) (fun q_z => absurd (nI_lt (Nat.lt_succ_self _) (by omega)) q_z)
      refine am_aload_n (n := 188) (i := 0) dL_distance_187 rfl rfl rfl ?_
      refine am_bipush (n := 190) (v := 11) dL_distance_188 rfl rfl ?_
      refine am_lload_n (n := 191) (i := 3) dL_distance_190 rfl rfl rfl ?_
      refine cdL_distance_17 (n := 194) dL_distance_191 (by first | exact ⟨rfl, rfl⟩ | assumption) (hmb h1) rfl rfl (Nat.le_of_ble_eq_true rfl) rfl ?_
      refine am_iconst (n := 195) (v := 2) dL_distance_194 rfl rfl ?_
      refine am_irem (n := 196) dL_distance_195 (by decide) rfl ?_
      rw [i_rem (x := 2) 2 (by omega) (by decide) (by decide) rfl]
      refine am_imul (n := 197) dL_distance_196 rfl ?_
      rw [show (11 : Int32) * nI (M % 2) = nI (11 * (M % 2)) from pk_mul 11 _]
      refine am_lload_n (n := 198) (i := 1) dL_distance_197 rfl rfl rfl ?_
      refine cdL_distance_17 (n := 201) dL_distance_198 (by first | exact ⟨rfl, rfl⟩ | assumption) (hma h1) rfl rfl (Nat.le_of_ble_eq_true rfl) rfl ?_
      refine am_iadd (n := 202) dL_distance_201 rfl ?_
      rw [nI_add]
      have hin : vp_in (nI (11 * (M % 2) + N)) 22 := vp_in_nI (by omega) (by decide)
      refine am_ialdD (n := 203) dL_distance_202 (by assumption) (by first | assumption | exact vp_in_nI (by omega) (by omega) | exact vp_in_iff.mpr (by decide)) rfl ?_
      rw [nI_clamp (by omega), H N (Nat.le_refl _), ← hD, ← hZ]
      refine am_iret dL_distance_203 rfl rfl ?_
      exact ⟨rfl, F⟩
    · intro i hi K h1 F H
      have h2 : i % 2 < 2 := Nat.mod_lt _ (by decide)
      have h3 : (i + 1) % 2 = 1 - i % 2 := by omega
      refine am_iload (n := 29) dL_distance_27 rfl rfl ?_
      refine am_lload_n (n := 30) (i := 3) dL_distance_29 rfl rfl rfl ?_
      refine cdL_distance_17 (n := 33) dL_distance_30 (by first | exact ⟨rfl, rfl⟩ | assumption) (hmb h1) rfl rfl (Nat.le_of_ble_eq_true rfl) rfl ?_
      refine am_icmp_gt (tgt := 187) (n := 36) dL_distance_33 (by decide) rfl (fun q_z => absurd q_z (nI_nlt (show i + 1 ≤ M by omega) (by omega))) (fun _ => ?_)
      refine am_bipush (n := 38) (v := 11) dL_distance_36 rfl rfl ?_
      refine am_iload (n := 40) dL_distance_38 rfl rfl ?_
      refine am_iconst (n := 41) (v := 2) dL_distance_40 rfl rfl ?_
      refine am_irem (n := 42) dL_distance_41 (by decide) rfl ?_
      rw [i_rem (x := 2) 2 (by omega) (by decide) (by decide) rfl]
      refine am_imul (n := 43) dL_distance_42 rfl ?_
      rw [show (11 : Int32) * nI ((i + 1) % 2) = nI (11 * ((i + 1) % 2)) from pk_mul 11 _]
      refine am_istore (n := 45) dL_distance_43 (Nat.le_of_ble_eq_true rfl) rfl rfl ?_
      refine am_bipush (n := 47) (v := 11) dL_distance_45 rfl rfl ?_
      refine am_iload (n := 49) dL_distance_47 rfl rfl ?_
      refine am_isub (n := 50) dL_distance_49 rfl ?_
      rw [show (11 : Int32) - nI (11 * ((i + 1) % 2)) = nI (11 * (i % 2)) by rw [show (11 : Int32) = nI 11 from rfl, pk_sub (by omega), show 11 - 11 * ((i + 1) % 2) = 11 * (i % 2) by omega]]
      have hin0 : vp_in (nI (11 * ((i + 1) % 2))) 22 := vp_in_nI (by omega) (by decide)
      refine am_istore (n := 52) dL_distance_50 (Nat.le_of_ble_eq_true rfl) rfl rfl ?_
      refine am_aload_n (n := 53) (i := 0) dL_distance_52 rfl rfl rfl ?_
      refine am_iload (n := 55) dL_distance_53 rfl rfl ?_
      refine am_iload (n := 57) dL_distance_55 rfl rfl ?_
      refine am_iastD (n := 58) dL_distance_57 (by assumption) (by first | assumption | exact vp_in_nI (by omega) (by omega) | exact vp_in_iff.mpr (by decide)) rfl ?_
      rw [nI_clamp (by omega)]
      refine am_iconst (n := 59) (v := 1) dL_distance_58 rfl rfl ?_
      refine am_istore (n := 61) dL_distance_59 (Nat.le_of_ble_eq_true rfl) rfl rfl ?_
      -- the inner loop
      refine am_loc [(0, some (.ref 42)), (1, some (.long (lN (lw a)))), (3, some (.long (lN (lw b)))), (5, some (.int (nI (i + 1)))), (6, some (.int (nI (11 * ((i + 1) % 2))))), (7, some (.int (nI (11 * (i % 2))))), (8, some (.int (nI (0 + 1))))] rfl ?_
      refine loop_up (Wp := fun j => ∀ h2 : Hp, FrI 42 42 h h2 → (∀ k, k ≤ N → h2.1 42 (11 * (i % 2) + k) = nI (ed k i)) → (∀ k, k ≤ j → h2.1 42 (11 * ((i + 1) % 2) + k) = nI (ed k (i + 1))) → AW g mmL_distance Z 61 [(0, some (.ref 42)), (1, some (.long (lN (lw a)))), (3, some (.long (lN (lw b)))), (5, some (.int (nI (i + 1)))), (6, some (.int (nI (11 * ((i + 1) % 2))))), (7, some (.int (nI (11 * (i % 2))))), (8, some (.int (nI (j + 1))))] [] h2) N ?_ ?_ 0 (Nat.zero_le _) _ (F.set _ (Nat.le_refl _) (Nat.le_refl _)) (fun k hk => ?_) (fun k hk => ?_)
      · intro h2 F2 H2 H3
        refine am_iload (n := 63) dL_distance_61 rfl rfl ?_
        refine am_lload_n (n := 64) (i := 1) dL_distance_63 rfl rfl rfl ?_
        refine cdL_distance_17 (n := 67) dL_distance_64 (by first | exact ⟨rfl, rfl⟩ | assumption) (hma h2) rfl rfl (Nat.le_of_ble_eq_true rfl) rfl ?_
        refine am_icmp_gt (tgt := 181) (n := 70) dL_distance_67 (by decide) rfl (fun _ => ?_) (fun q_z => absurd (nI_lt (Nat.lt_succ_self _) (by omega)) q_z)
        first | refine am_iincN (n := 184) dL_distance_181 rfl rfl rfl ?_ | refine am_iinc1 (n := 184) dL_distance_181 rfl rfl rfl ?_
        refine am_goto (tgt := 27) dL_distance_184 (by decide) ?_
        exact am_loc _ rfl (K h2 F2 H3)
      · intro j hj K2 h2 F2 H2 H3
        have l1 := hle j i
        have l2 := hle j (i + 1)
        have l3 := hle (j + 1) i
        have l4 := hle (j + 1) (i + 1)
        have r1 : h2.1 42 (11 * (i % 2) + j) = nI (ed j i) := H2 j (by omega)
        have r2 : h2.1 42 (11 * (i % 2) + (j + 1)) = nI (ed (j + 1) i) := H2 (j + 1) (by omega)
        have r3 : h2.1 42 (11 * ((i + 1) % 2) + j) = nI (ed j (i + 1)) := H3 j (Nat.le_refl _)
        have in1 : vp_in (nI (11 * (i % 2) + j)) 22 := vp_in_nI (by omega) (by decide)
        have in2 : vp_in (nI (11 * (i % 2) + (j + 1))) 22 := vp_in_nI (by omega) (by decide)
        have in3 : vp_in (nI (11 * ((i + 1) % 2) + j)) 22 := vp_in_nI (by omega) (by decide)
        have in4 : vp_in (nI (11 * ((i + 1) % 2) + (j + 1))) 22 := vp_in_nI (by omega) (by decide)
        have c1 : nI (11 * (i % 2)) + nI (j + 1) - 1 = nI (11 * (i % 2) + j) := by rw [nI_add, ← Nat.add_assoc, nI_pred]
        have c2 : nI (11 * (i % 2)) + nI (j + 1) = nI (11 * (i % 2) + (j + 1)) := nI_add _ _
        have c3 : nI (11 * ((i + 1) % 2)) + nI (j + 1) - 1 = nI (11 * ((i + 1) % 2) + j) := by rw [nI_add, ← Nat.add_assoc, nI_pred]
        have c4 : nI (11 * ((i + 1) % 2)) + nI (j + 1) = nI (11 * ((i + 1) % 2) + (j + 1)) := nI_add _ _
        have e := ed_ss j i
        generalize hct : (if wl a j = wl b i then 0 else 1) = ct at e
        have hct1 : ct ≤ 1 := by rw [← hct]; split <;> omega
        -- behind the choice of the last number
        have t174 : ∀ l : Lo, lget l 0 = some (.ref 42) → lget l 1 = some (.long (lN (lw a))) → lget l 3 = some (.long (lN (lw b))) → lget l 5 = some (.int (nI (i + 1))) → lget l 6 = some (.int (nI (11 * ((i + 1) % 2)))) → lget l 7 = some (.int (nI (11 * (i % 2)))) → lget l 8 = some (.int (nI (j + 1))) → okst l 8 = true → AW g mmL_distance Z 174 l [.int (nI (ed (j + 1) (i + 1))), .int (nI (11 * ((i + 1) % 2) + (j + 1))), .ref 42] h2 := by
          intro l q0 q1 q3 q5 q6 q7 q8 qk
          refine am_iastD (n := 175) dL_distance_174 (by assumption) (by first | assumption | exact vp_in_nI (by omega) (by omega) | exact vp_in_iff.mpr (by decide)) rfl ?_
          refine am_iincN (n := 178) dL_distance_175 q8 qk rfl ?_
          refine am_goto (tgt := 61) dL_distance_178 (by decide) ?_
          rw [nI_clamp (by omega)]
          refine am_loc [(0, some (.ref 42)), (1, some (.long (lN (lw a)))), (3, some (.long (lN (lw b)))), (5, some (.int (nI (i + 1)))), (6, some (.int (nI (11 * ((i + 1) % 2))))), (7, some (.int (nI (11 * (i % 2))))), (8, some (.int (nI (j + 1 + 1))))] ?_ (K2 _ (F2.set _ (Nat.le_refl _) (Nat.le_refl _)) (fun k hk => ?_) (fun k hk => ?_))
          · simp only [List.map_cons, List.map_nil, lget_self, lget_ne _ _ (show (8 : Nat) ≠ 0 by decide), lget_ne _ _ (show (8 : Nat) ≠ 1 by decide), lget_ne _ _ (show (8 : Nat) ≠ 3 by decide), lget_ne _ _ (show (8 : Nat) ≠ 5 by decide), lget_ne _ _ (show (8 : Nat) ≠ 6 by decide), lget_ne _ _ (show (8 : Nat) ≠ 7 by decide), q0, q1, q3, q5, q6, q7]
          · rw [setI_s, pk_un (by omega)]
            exact H2 k hk
          · rw [setI_s]
            by_cases z : k = j + 1
            · subst z
              rw [pk_us]
            · rw [pk_un (by omega)]
              exact H3 k (by omega)
        refine am_iload (n := 63) dL_distance_61 rfl rfl ?_
        refine am_lload_n (n := 64) (i := 1) dL_distance_63 rfl rfl rfl ?_
        refine cdL_distance_17 (n := 67) dL_distance_64 (by first | exact ⟨rfl, rfl⟩ | assumption) (hma h2) rfl rfl (Nat.le_of_ble_eq_true rfl) rfl ?_
        refine am_icmp_gt (tgt := 181) (n := 70) dL_distance_67 (by decide) rfl (fun q_z => absurd q_z (nI_nlt (show j + 1 ≤ N by omega) (by omega))) (fun _ => ?_)
        refine am_aload_n (n := 71) (i := 0) dL_distance_70 rfl rfl rfl ?_
        refine am_iload (n := 73) dL_distance_71 rfl rfl ?_
        refine am_iload (n := 75) dL_distance_73 rfl rfl ?_
        refine am_iadd (n := 76) dL_distance_75 rfl ?_
        refine am_iconst (n := 77) (v := 1) dL_distance_76 rfl rfl ?_
        refine am_isub (n := 78) dL_distance_77 rfl ?_
        rw [c1]
        refine am_ialdD (n := 79) dL_distance_78 (by assumption) (by first | assumption | exact vp_in_nI (by omega) (by omega) | exact vp_in_iff.mpr (by decide)) rfl ?_
        rw [nI_clamp (by omega), r1]
        refine am_lload_n (n := 80) (i := 1) dL_distance_79 rfl rfl rfl ?_
        refine am_iload (n := 82) dL_distance_80 rfl rfl ?_
        refine am_iconst (n := 83) (v := 1) dL_distance_82 rfl rfl ?_
        refine am_isub (n := 84) dL_distance_83 rfl ?_
        rw [nI_pred]
        refine cdL_distance_26 (n := 87) dL_distance_84 (by first | exact ⟨rfl, rfl⟩ | assumption) (hla j h2 (by omega)) rfl rfl (Nat.le_of_ble_eq_true rfl) rfl ?_
        refine am_lload_n (n := 88) (i := 3) dL_distance_87 rfl rfl rfl ?_
        refine am_iload (n := 90) dL_distance_88 rfl rfl ?_
        refine am_iconst (n := 91) (v := 1) dL_distance_90 rfl rfl ?_
        refine am_isub (n := 92) dL_distance_91 rfl ?_
        rw [nI_pred]
        refine cdL_distance_26 (n := 95) dL_distance_92 (by first | exact ⟨rfl, rfl⟩ | assumption) (hlb i h2 (by omega)) rfl rfl (Nat.le_of_ble_eq_true rfl) rfl ?_
        have t103 : AW g mmL_distance Z 103 [(0, some (.ref 42)), (1, some (.long (lN (lw a)))), (3, some (.long (lN (lw b)))), (5, some (.int (nI (i + 1)))), (6, some (.int (nI (11 * ((i + 1) % 2))))), (7, some (.int (nI (11 * (i % 2))))), (8, some (.int (nI (j + 1))))] [.int (nI ct), .int (nI (ed j i))] h2 := by
          refine am_iadd (n := 104) dL_distance_103 rfl ?_
          rw [nI_add]
          refine am_istore (n := 106) dL_distance_104 (Nat.le_of_ble_eq_true rfl) rfl rfl ?_
          refine am_aload_n (n := 107) (i := 0) dL_distance_106 rfl rfl rfl ?_
          refine am_iload (n := 109) dL_distance_107 rfl rfl ?_
          refine am_iload (n := 111) dL_distance_109 rfl rfl ?_
          refine am_iadd (n := 112) dL_distance_111 rfl ?_
          rw [c2]
          refine am_ialdD (n := 113) dL_distance_112 (by assumption) (by first | assumption | exact vp_in_nI (by omega) (by omega) | exact vp_in_iff.mpr (by decide)) rfl ?_
          rw [nI_clamp (by omega), r2]
          refine am_iconst (n := 114) (v := 1) dL_distance_113 rfl rfl ?_
          refine am_iadd (n := 115) dL_distance_114 rfl ?_
          refine am_iload (n := 117) dL_distance_115 rfl rfl ?_
          rw [nI_1]
          have t134 : ∀ (x9 : Int32) (d1 : Nat), d1 = min (ed j i + ct) (ed (j + 1) i + 1) → AW g mmL_distance Z 134 [(9, some (.int x9)), (0, some (.ref 42)), (1, some (.long (lN (lw a)))), (3, some (.long (lN (lw b)))), (5, some (.int (nI (i + 1)))), (6, some (.int (nI (11 * ((i + 1) % 2))))), (7, some (.int (nI (11 * (i % 2))))), (8, some (.int (nI (j + 1))))] [.int (nI d1)] h2 := by
            intro x9 d1 hd1
            refine am_istore (n := 136) dL_distance_134 (Nat.le_of_ble_eq_true rfl) rfl rfl ?_
            refine am_aload_n (n := 137) (i := 0) dL_distance_136 rfl rfl rfl ?_
            refine am_iload (n := 139) dL_distance_137 rfl rfl ?_
            refine am_iload (n := 141) dL_distance_139 rfl rfl ?_
            refine am_iadd (n := 142) dL_distance_141 rfl ?_
            rw [c4]
            refine am_aload_n (n := 143) (i := 0) dL_distance_142 rfl rfl rfl ?_
            refine am_iload (n := 145) dL_distance_143 rfl rfl ?_
            refine am_iload (n := 147) dL_distance_145 rfl rfl ?_
            refine am_iadd (n := 148) dL_distance_147 rfl ?_
            refine am_iconst (n := 149) (v := 1) dL_distance_148 rfl rfl ?_
            refine am_isub (n := 150) dL_distance_149 rfl ?_
            rw [c3]
            refine am_ialdD (n := 151) dL_distance_150 (by assumption) (by first | assumption | exact vp_in_nI (by omega) (by omega) | exact vp_in_iff.mpr (by decide)) rfl ?_
            rw [nI_clamp (by omega), r3]
            refine am_iconst (n := 152) (v := 1) dL_distance_151 rfl rfl ?_
            refine am_iadd (n := 153) dL_distance_152 rfl ?_
            refine am_iload (n := 155) dL_distance_153 rfl rfl ?_
            rw [nI_1]
            rcases Nat.lt_or_ge (ed j (i + 1) + 1) d1 with q | q
            · refine am_icmp_ge (tgt := 172) (n := 158) dL_distance_155 (by decide) rfl (fun q_z => absurd q_z (nI_ge q (by omega))) (fun _ => ?_)
              refine am_aload_n (n := 159) (i := 0) dL_distance_158 rfl rfl rfl ?_
              refine am_iload (n := 161) dL_distance_159 rfl rfl ?_
              refine am_iload (n := 163) dL_distance_161 rfl rfl ?_
              refine am_iadd (n := 164) dL_distance_163 rfl ?_
              refine am_iconst (n := 165) (v := 1) dL_distance_164 rfl rfl ?_
              refine am_isub (n := 166) dL_distance_165 rfl ?_
              rw [c3]
              refine am_ialdD (n := 167) dL_distance_166 (by assumption) (by first | assumption | exact vp_in_nI (by omega) (by omega) | exact vp_in_iff.mpr (by decide)) rfl ?_
              rw [nI_clamp (by omega), r3]
              refine am_iconst (n := 168) (v := 1) dL_distance_167 rfl rfl ?_
              refine am_iadd (n := 169) dL_distance_168 rfl ?_
              rw [nI_1]
              refine am_goto (tgt := 174) dL_distance_169 (by decide) ?_
              rw [show ed j (i + 1) + 1 = ed (j + 1) (i + 1) by rw [e]; omega]
              exact t174 _ rfl rfl rfl rfl rfl rfl rfl rfl
            · refine am_icmp_ge (tgt := 172) (n := 158) dL_distance_155 (by decide) rfl (fun _ => ?_) (fun q_z => absurd (nI_le q (by omega)) q_z)
              refine am_iload (n := 174) dL_distance_172 rfl rfl ?_
              rw [show d1 = ed (j + 1) (i + 1) by rw [e]; omega]
              exact t174 _ rfl rfl rfl rfl rfl rfl rfl rfl
          rcases Nat.lt_or_ge (ed (j + 1) i + 1) (ed j i + ct) with q | q
          · refine am_icmp_ge (tgt := 132) (n := 120) dL_distance_117 (by decide) rfl (fun q_z => absurd q_z (nI_ge q (by omega))) (fun _ => ?_)
            refine am_aload_n (n := 121) (i := 0) dL_distance_120 rfl rfl rfl ?_
            refine am_iload (n := 123) dL_distance_121 rfl rfl ?_
            refine am_iload (n := 125) dL_distance_123 rfl rfl ?_
            refine am_iadd (n := 126) dL_distance_125 rfl ?_
            rw [c2]
            refine am_ialdD (n := 127) dL_distance_126 (by assumption) (by first | assumption | exact vp_in_nI (by omega) (by omega) | exact vp_in_iff.mpr (by decide)) rfl ?_
            rw [nI_clamp (by omega), r2]
            refine am_iconst (n := 128) (v := 1) dL_distance_127 rfl rfl ?_
            refine am_iadd (n := 129) dL_distance_128 rfl ?_
            rw [nI_1]
            refine am_goto (tgt := 134) dL_distance_129 (by decide) ?_
            exact t134 _ _ (by omega)
          · refine am_icmp_ge (tgt := 132) (n := 120) dL_distance_117 (by decide) rfl (fun _ => ?_) (fun q_z => absurd (nI_le q (by omega)) q_z)
            refine am_iload (n := 134) dL_distance_132 rfl rfl ?_
            exact t134 _ _ (by omega)
        by_cases zc : wl a j = wl b i
        · rw [if_pos zc] at hct
          subst hct
          refine am_icmp_ne (tgt := 102) (n := 98) dL_distance_95 (by decide) rfl (fun q_z => absurd ((hcc j i (by omega) (by omega)).mpr zc) q_z) (fun _ => ?_)
          refine am_iconst (n := 99) (v := 0) dL_distance_98 rfl rfl ?_
          refine am_goto (tgt := 103) dL_distance_99 (by decide) ?_
          exact t103
        · rw [if_neg zc] at hct
          subst hct
          refine am_icmp_ne (tgt := 102) (n := 98) dL_distance_95 (by decide) rfl (fun _ => ?_) (fun q_z => absurd q_z (fun q => zc ((hcc j i (by omega) (by omega)).mp q)))
          refine am_iconst (n := 103) (v := 1) dL_distance_102 rfl rfl ?_
          exact t103
      · rw [setI_s, pk_un (by omega)]
        exact H k hk
      · have : k = 0 := by omega
        subst this
        rw [setI_s, show 11 * ((i + 1) % 2) + 0 = 11 * ((i + 1) % 2) from rfl, pk_us, ed_00]
  -- the first row
  refine am_iconst (n := 1) (v := 0) dL_distance_0 rfl rfl ?_
  refine am_istore (n := 3) dL_distance_1 (Nat.le_of_ble_eq_true rfl) rfl rfl ?_
  refine am_loc [(0, some (.ref 42)), (1, some (.long (lN (lw a)))), (3, some (.long (lN (lw b)))), (5, some (.int (nI 0)))] rfl ?_
  refine loop_up (Wp := fun k => ∀ h1 : Hp, FrI 42 42 h h1 → (∀ j, j < k → h1.1 42 j = nI j) → AW g mmL_distance Z 3 [(0, some (.ref 42)), (1, some (.long (lN (lw a)))), (3, some (.long (lN (lw b)))), (5, some (.int (nI k)))] [] h1) (N + 1) ?_ ?_ 0 (Nat.zero_le _) h FrI.rf (fun j hj => absurd hj (Nat.not_lt_zero _))
  · intro h1 F H
    refine am_iload (n := 5) dL_distance_3 rfl rfl ?_
    refine am_lload_n (n := 6) (i := 1) dL_distance_5 rfl rfl rfl ?_
    refine cdL_distance_17 (n := 9) dL_distance_6 (by first | exact ⟨rfl, rfl⟩ | assumption) (hma h1) rfl rfl (Nat.le_of_ble_eq_true rfl) rfl ?_
    refine am_icmp_gt (tgt := 24) (n := 12) dL_distance_9 (by decide) rfl (fun _ => ?_) (fun q_z => absurd (nI_lt (Nat.lt_succ_self _) (by omega)) q_z)
    refine am_iconst (n := 25) (v := 1) dL_distance_24 rfl rfl ?_
    refine am_istore (n := 27) dL_distance_25 (Nat.le_of_ble_eq_true rfl) rfl rfl ?_
    refine am_loc _ rfl (outer 0 (Nat.zero_le _) h1 F (fun k hk => ?_))
    rw [Nat.zero_mod, Nat.mul_zero, Nat.zero_add, H k (by omega), ed_i0]
  · intro k hk K h1 F H
    have hin : vp_in (nI k) 22 := vp_in_nI (by omega) (by decide)
    refine am_iload (n := 5) dL_distance_3 rfl rfl ?_
    refine am_lload_n (n := 6) (i := 1) dL_distance_5 rfl rfl rfl ?_
    refine cdL_distance_17 (n := 9) dL_distance_6 (by first | exact ⟨rfl, rfl⟩ | assumption) (hma h1) rfl rfl (Nat.le_of_ble_eq_true rfl) rfl ?_
    refine am_icmp_gt (tgt := 24) (n := 12) dL_distance_9 (by decide) rfl (fun q_z => absurd q_z (nI_nlt (show k ≤ N by omega) (by omega))) (fun _ => ?_)
    refine am_aload_n (n := 13) (i := 0) dL_distance_12 rfl rfl rfl ?_
    refine am_iload (n := 15) dL_distance_13 rfl rfl ?_
    refine am_iload (n := 17) dL_distance_15 rfl rfl ?_
    refine am_iastD (n := 18) dL_distance_17 (by assumption) (by first | assumption | exact vp_in_nI (by omega) (by omega) | exact vp_in_iff.mpr (by decide)) rfl ?_
    rw [nI_clamp (by omega)]
    first | refine am_iincN (n := 21) dL_distance_18 rfl rfl rfl ?_ | refine am_iinc1 (n := 21) dL_distance_18 rfl rfl rfl ?_
    refine am_goto (tgt := 3) dL_distance_21 (by decide) ?_
    refine am_loc _ rfl (K _ (F.set _ (Nat.le_refl _) (Nat.le_refl _)) (fun j hj => ?_))
    rw [setI_s]
    by_cases z : j = k
    · subst z
      rw [pk_us]
    · rw [pk_un z]
      exact H j (by omega)
