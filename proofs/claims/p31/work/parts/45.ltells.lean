/-! THE LAW READS THE NAMES -/
theorem nm_out {x y : Int32} {G : GS} (h : inN x G.1.2.2.1.length = false) : sp_name x y G = (-1, G) := by
  unfold sp_name
  rw [h]
  rfl
theorem nm_at {i w : Nat} {y : Int32} {G : GS} (hn : G.1.2.2.1.length ≤ 24) (h : G.1.2.2.1[i]? = some w) : sp_name (nI i) y G = (nmS w y, G) := by
  have hi := (List.getElem?_eq_some_iff.mp h).1
  unfold sp_name
  rw [inN_i hi (by omega), tn_nI (by omega), if_pos rfl]
  simp [List.getD, h]
theorem inN_n {n : Nat} (h : n < 2 ^ 31) : inN (nI n) n = false := by
  unfold inN
  rw [decide_eq_false (nI_nlt (Nat.le_refl _) h), Bool.and_false]
theorem nmS_0 (w : Nat) : nmS w 0 = nI (wsz w) := rfl
theorem nmS_12 (w : Nat) : nmS w 12 = -2 := rfl
theorem nmS_m1 (w : Nat) : nmS w (-1) = -2 := rfl
theorem nmS_11 (w : Nat) : nmS w 11 = wset w := by
  unfold nmS
  rw [if_neg (by decide), if_neg (by decide), if_pos rfl]
theorem nmS_k {w k : Nat} (hk : k < 10) : nmS w (nI (k + 1)) = if wl w k = 0 then -6 else nI (wl w k - 1) := by
  unfold nmS
  rw [if_neg (nI_ne0 (by omega) (by omega)), if_pos (inR_i (by omega) (by omega) (by omega)), tn_nI (by omega), Nat.add_sub_cancel]
theorem HQ.at {ns : List Nat} {h : Hp} (q : HQ ns h) {i w : Nat} (hi : i < 2 ^ 31) (hw : ns[i]? = some w) : h.2.1 40 (nI i).toNatClampNeg = lN (lw w) := by
  rw [nI_clamp hi]
  exact q i w hw
set_option maxRecDepth 100000 in
set_option maxHeartbeats 2000000 in
theorem ac_L_tells (g : Gx) (G : GS) (h : Hp) (hX : XI G h) (hq : HQ G.1.2.2.1 h) : AC g yL_tells wsL_tells rmL_tells [.ref 0, .ref 40, .int (nI G.1.2.2.1.length)] h (fun v h' => v = some (.int 1) ∧ XI G h' ∧ FM h h') := by
  have hn := hX.2.1.2.2.1
  have hvw := hX.2.1.2.2.2.1
  have c40 := isC_40
  generalize hP : (fun (v : Option Value) (h' : Hp) => v = some (.int 1) ∧ XI G h' ∧ FM h h') = P
  generalize hns : G.1.2.2.1 = ns at *
  refine AC.of (cc := cL_tells) (maxL := 9) (ret := (some .boolean)) (by decide +kernel) rfl (Nat.le_of_ble_eq_true rfl) ?_
  show AW g mmL_tells _ 0 [(0, some (.ref 0)), (1, some (.ref 40)), (2, some (.int (nI ns.length)))] [] _
  refine am_aload_n (n := 1) (i := 0) dL_tells_0 rfl rfl rfl ?_
  refine am_iconst (n := 2) (v := 0) dL_tells_1 rfl rfl ?_
  have k1 := cx_count g 0 G h hX
  rw [ct_0, hns] at k1
  refine caL_tells_33 (n := 5) dL_tells_2 (by first | exact ⟨rfl, rfl⟩ | assumption) k1 rfl rfl (Nat.le_of_ble_eq_true rfl) (by first | assumption | exact isC_of (by decide +kernel)) rfl ?_
  rintro r h1 ⟨rfl, X1, f1⟩
  refine am_iload_n (n := 6) (i := 2) dL_tells_5 rfl rfl rfl ?_
  refine am_icmp_ne (tgt := 34) (n := 9) dL_tells_6 (by decide) rfl (fun q_z => absurd rfl q_z) (fun _ => ?_)
  refine am_aload_n (n := 10) (i := 0) dL_tells_9 rfl rfl rfl ?_
  refine am_iload_n (n := 11) (i := 2) dL_tells_10 rfl rfl rfl ?_
  refine am_bipush (n := 13) (v := 12) dL_tells_11 rfl rfl ?_
  have k2 := cx_name g (nI ns.length) 12 G h1 X1
  rw [nm_out (by rw [hns]; exact inN_n (by omega))] at k2
  refine caL_tells_37 (n := 16) dL_tells_13 (by first | exact ⟨rfl, rfl⟩ | assumption) k2 rfl rfl (Nat.le_of_ble_eq_true rfl) (by first | assumption | exact isC_of (by decide +kernel)) rfl ?_
  rintro r h2 ⟨rfl, X2, f2⟩
  refine am_iconst (n := 17) (v := (-1)) dL_tells_16 rfl rfl ?_
  refine am_icmp_ne (tgt := 34) (n := 20) dL_tells_17 (by decide) rfl (fun q_z => absurd rfl q_z) (fun _ => ?_)
  refine am_aload_n (n := 21) (i := 0) dL_tells_20 rfl rfl rfl ?_
  refine am_iconst (n := 22) (v := (-1)) dL_tells_21 rfl rfl ?_
  refine am_iconst (n := 23) (v := 0) dL_tells_22 rfl rfl ?_
  have k3 := cx_name g (-1) 0 G h2 X2
  rw [nm_out (inN_neg (by decide))] at k3
  refine caL_tells_37 (n := 26) dL_tells_23 (by first | exact ⟨rfl, rfl⟩ | assumption) k3 rfl rfl (Nat.le_of_ble_eq_true rfl) (by first | assumption | exact isC_of (by decide +kernel)) rfl ?_
  rintro r h3 ⟨rfl, X3, f3⟩
  refine am_iconst (n := 27) (v := (-1)) dL_tells_26 rfl rfl ?_
  refine am_icmp_ne (tgt := 34) (n := 30) dL_tells_27 (by decide) rfl (fun q_z => absurd rfl q_z) (fun _ => ?_)
  refine am_iconst (n := 31) (v := 1) dL_tells_30 rfl rfl ?_
  refine am_goto (tgt := 35) dL_tells_31 (by decide) ?_
  refine am_istore_n (n := 36) (i := 3) dL_tells_35 rfl (Nat.le_of_ble_eq_true rfl) rfl rfl ?_
  refine am_iconst (n := 37) (v := 0) dL_tells_36 rfl rfl ?_
  refine am_istore (n := 39) dL_tells_37 (Nat.le_of_ble_eq_true rfl) rfl rfl ?_
  refine am_iconst (n := 40) (v := 0) dL_tells_39 rfl rfl ?_
  refine am_istore (n := 42) dL_tells_40 (Nat.le_of_ble_eq_true rfl) rfl rfl ?_
  refine am_loc [(0, some (.ref 0)), (1, some (.ref 40)), (2, some (.int (nI ns.length))), (3, some (.int 1)), (4, some (.int (orF (fun i => wset (ns.getD i 0)) 0))), (5, some (.int (nI 0)))] rfl ?_
  refine loop_up (Wp := fun i => ∀ h1 : Hp, XI G h1 → FM h h1 → AW g mmL_tells (ZP g P) 42 [(0, some (.ref 0)), (1, some (.ref 40)), (2, some (.int (nI ns.length))), (3, some (.int 1)), (4, some (.int (orF (fun i => wset (ns.getD i 0)) i))), (5, some (.int (nI i)))] [] h1) ns.length ?_ ?_ 0 (Nat.zero_le _) h3 X3 ((f1.tr f2).tr f3)
  · intro h1 X1 f1
    refine am_iload (n := 44) dL_tells_42 rfl rfl ?_
    refine am_iload_n (n := 45) (i := 2) dL_tells_44 rfl rfl rfl ?_
    refine am_icmp_ge (tgt := 241) (n := 48) dL_tells_45 (by decide) rfl (fun _ => ?_) (fun q_z => absurd (Int32.le_refl _) q_z)
    refine am_iload_n (n := 242) (i := 3) dL_tells_241 rfl rfl rfl ?_
    refine am_if_eq (tgt := 260) (n := 245) dL_tells_242 (by decide) rfl (fun q_z => absurd q_z (by decide)) (fun _ => ?_)
    refine am_aload_n (n := 246) (i := 0) dL_tells_245 rfl rfl rfl ?_
    refine am_bipush (n := 248) (v := 6) dL_tells_246 rfl rfl ?_
    have k4 := cx_count g 6 G h1 X1
    rw [ct_6, hns] at k4
    refine caL_tells_33 (n := 251) dL_tells_248 (by first | exact ⟨rfl, rfl⟩ | assumption) k4 rfl rfl (Nat.le_of_ble_eq_true rfl) (by first | assumption | exact isC_of (by decide +kernel)) rfl ?_
    rintro r h2 ⟨rfl, X2, f2⟩
    refine am_iload (n := 253) dL_tells_251 rfl rfl ?_
    refine am_icmp_ne (tgt := 260) (n := 256) dL_tells_253 (by decide) rfl (fun q_z => absurd rfl q_z) (fun _ => ?_)
    refine am_iconst (n := 257) (v := 1) dL_tells_256 rfl rfl ?_
    refine am_goto (tgt := 261) dL_tells_257 (by decide) ?_
    subst hP
    refine am_iret dL_tells_261 rfl rfl ?_
    exact ⟨rfl, X2, f1.tr f2⟩
  · intro i hi K h1 X1 f1
    obtain ⟨w, hwi⟩ : ∃ w, ns[i]? = some w := ⟨ns[i]'hi, List.getElem?_eq_getElem hi⟩
    have hw := hvw w (List.mem_of_getElem? hwi)
    have hz := wsz_le w
    have hgd : ns.getD i 0 = w := by simp [List.getD, hwi]
    have hin : vp_in (nI i) 24 := vp_in_nI (by omega) (by decide)
    have hnm : ∀ (y : Int32) (h2 : Hp), XI G h2 → CX g yX7_name wsX7_name rmX7_name [.ref 0, .int (nI i), .int y] h2 (nmS w y, G) := by
      intro y h2 X2
      have := cx_name g (nI i) y G h2 X2
      rw [nm_at (w := w) (by rw [hns]; exact hn) (by rw [hns]; exact hwi)] at this
      exact this
    have hqa : ∀ h2 : Hp, FM h h2 → h2.2.1 40 (nI i).toNatClampNeg = lN (lw w) := fun h2 f2 => (hq.fm f2).at (by omega) hwi
    refine am_iload (n := 44) dL_tells_42 rfl rfl ?_
    refine am_iload_n (n := 45) (i := 2) dL_tells_44 rfl rfl rfl ?_
    refine am_icmp_ge (tgt := 241) (n := 48) dL_tells_45 (by decide) rfl (fun q_z => absurd q_z (nI_ge hi (by omega))) (fun _ => ?_)
    refine am_iload_n (n := 49) (i := 3) dL_tells_48 rfl rfl rfl ?_
    refine am_if_eq (tgt := 241) (n := 52) dL_tells_49 (by decide) rfl (fun q_z => absurd q_z (by decide)) (fun _ => ?_)
    refine am_iconst (n := 53) (v := 0) dL_tells_52 rfl rfl ?_
    refine am_istore (n := 55) dL_tells_53 (Nat.le_of_ble_eq_true rfl) rfl rfl ?_
    refine am_aload_n (n := 56) (i := 0) dL_tells_55 rfl rfl rfl ?_
    refine am_iload (n := 58) dL_tells_56 rfl rfl ?_
    refine am_iconst (n := 59) (v := 0) dL_tells_58 rfl rfl ?_
    refine caL_tells_37 (n := 62) dL_tells_59 (by first | exact ⟨rfl, rfl⟩ | assumption) (hnm 0 h1 X1) rfl rfl (Nat.le_of_ble_eq_true rfl) (by first | assumption | exact isC_of (by decide +kernel)) rfl ?_
    rintro r h2 ⟨rfl, X2, f2⟩
    refine am_aload_n (n := 63) (i := 1) dL_tells_62 rfl rfl rfl ?_
    refine am_iload (n := 65) dL_tells_63 rfl rfl ?_
    refine am_lald (n := 66) dL_tells_65 (by first | assumption | exact isC_of (by decide +kernel)) (by first | assumption | exact vp_in_nI (by omega) (by omega) | exact vp_in_iff.mpr (by decide)) rfl ?_
    rw [hqa h2 (f1.tr f2)]
    refine cdL_tells_17 (n := 69) dL_tells_66 (by first | exact ⟨rfl, rfl⟩ | assumption) (ac_L_manyW g w h2) rfl rfl (Nat.le_of_ble_eq_true rfl) rfl ?_
    refine am_icmp_ne (tgt := 101) (n := 72) dL_tells_69 (by decide) rfl (fun q_z => absurd (nmS_0 w) q_z) (fun _ => ?_)
    refine am_aload_n (n := 73) (i := 0) dL_tells_72 rfl rfl rfl ?_
    refine am_iload (n := 75) dL_tells_73 rfl rfl ?_
    refine am_bipush (n := 77) (v := 12) dL_tells_75 rfl rfl ?_
    refine caL_tells_37 (n := 80) dL_tells_77 (by first | exact ⟨rfl, rfl⟩ | assumption) (hnm 12 h2 X2) rfl rfl (Nat.le_of_ble_eq_true rfl) (by first | assumption | exact isC_of (by decide +kernel)) rfl ?_
    rintro r h3 ⟨rfl, X3, f3⟩
    refine am_bipush (n := 82) (v := (-2)) dL_tells_80 rfl rfl ?_
    refine am_icmp_ne (tgt := 101) (n := 85) dL_tells_82 (by decide) rfl (fun q_z => absurd (nmS_12 w) q_z) (fun _ => ?_)
    refine am_aload_n (n := 86) (i := 0) dL_tells_85 rfl rfl rfl ?_
    refine am_iload (n := 88) dL_tells_86 rfl rfl ?_
    refine am_iconst (n := 89) (v := (-1)) dL_tells_88 rfl rfl ?_
    refine caL_tells_37 (n := 92) dL_tells_89 (by first | exact ⟨rfl, rfl⟩ | assumption) (hnm (-1) h3 X3) rfl rfl (Nat.le_of_ble_eq_true rfl) (by first | assumption | exact isC_of (by decide +kernel)) rfl ?_
    rintro r h4 ⟨rfl, X4, f4⟩
    refine am_bipush (n := 94) (v := (-2)) dL_tells_92 rfl rfl ?_
    refine am_icmp_ne (tgt := 101) (n := 97) dL_tells_94 (by decide) rfl (fun q_z => absurd (nmS_m1 w) q_z) (fun _ => ?_)
    refine am_iconst (n := 98) (v := 1) dL_tells_97 rfl rfl ?_
    refine am_goto (tgt := 102) dL_tells_98 (by decide) ?_
    refine am_istore_n (n := 103) (i := 3) dL_tells_102 rfl (Nat.le_of_ble_eq_true rfl) rfl rfl ?_
    refine am_iconst (n := 104) (v := 0) dL_tells_103 rfl rfl ?_
    refine am_istore (n := 106) dL_tells_104 (Nat.le_of_ble_eq_true rfl) rfl rfl ?_
    refine am_loc [(0, some (.ref 0)), (1, some (.ref 40)), (2, some (.int (nI ns.length))), (3, some (.int 1)), (4, some (.int (orF (fun i => wset (ns.getD i 0)) i))), (5, some (.int (nI i))), (6, some (.int (orF (fun p => sh1 (wl w p - 1)) (min 0 (wsz w))))), (7, some (.int (nI 0)))] (by rw [Nat.zero_min]; rfl) ?_
    refine loop_up (Wp := fun k => ∀ h5 : Hp, XI G h5 → FM h h5 → AW g mmL_tells (ZP g P) 106 [(0, some (.ref 0)), (1, some (.ref 40)), (2, some (.int (nI ns.length))), (3, some (.int 1)), (4, some (.int (orF (fun i => wset (ns.getD i 0)) i))), (5, some (.int (nI i))), (6, some (.int (orF (fun p => sh1 (wl w p - 1)) (min k (wsz w))))), (7, some (.int (nI k)))] [] h5) 10 ?_ ?_ 0 (Nat.zero_le _) h4 X4 (((f1.tr f2).tr f3).tr f4)
    · intro h5 X5 f5
      refine am_iload (n := 108) dL_tells_106 rfl rfl ?_
      refine am_bipush (n := 110) (v := 10) dL_tells_108 rfl rfl ?_
      refine am_icmp_ge (tgt := 205) (n := 113) dL_tells_110 (by decide) rfl (fun _ => ?_) (fun q_z => absurd (by decide) q_z)
      refine am_iload_n (n := 206) (i := 3) dL_tells_205 rfl rfl rfl ?_
      refine am_if_eq (tgt := 226) (n := 209) dL_tells_206 (by decide) rfl (fun q_z => absurd q_z (by decide)) (fun _ => ?_)
      refine am_aload_n (n := 210) (i := 0) dL_tells_209 rfl rfl rfl ?_
      refine am_iload (n := 212) dL_tells_210 rfl rfl ?_
      refine am_bipush (n := 214) (v := 11) dL_tells_212 rfl rfl ?_
      have k11 := hnm 11 h5 X5
      have e : orF (fun i => wset (ns.getD i 0)) (i + 1) = orF (fun i => wset (ns.getD i 0)) i ||| wset w := by
        rw [orF, hgd]
      have e2 : orF (fun p => sh1 (wl w p - 1)) (min 10 (wsz w)) = wset w := by
        rw [show min 10 (wsz w) = wsz w by omega, wset]
      rw [nmS_11] at k11
      rw [e2]
      replace K := fun h6 X6 f6 => K h6 X6 f6
      rw [e] at K
      generalize wset w = S at k11 K ⊢
      refine caL_tells_37 (n := 217) dL_tells_214 (by first | exact ⟨rfl, rfl⟩ | assumption) k11 rfl rfl (Nat.le_of_ble_eq_true rfl) (by first | assumption | exact isC_of (by decide +kernel)) rfl ?_
      rintro r h6 ⟨rfl, X6, f6⟩
      refine am_iload (n := 219) dL_tells_217 rfl rfl ?_
      refine am_icmp_ne (tgt := 226) (n := 222) dL_tells_219 (by decide) rfl (fun q_z => absurd rfl q_z) (fun _ => ?_)
      refine am_iconst (n := 223) (v := 1) dL_tells_222 rfl rfl ?_
      refine am_goto (tgt := 227) dL_tells_223 (by decide) ?_
      refine am_istore_n (n := 228) (i := 3) dL_tells_227 rfl (Nat.le_of_ble_eq_true rfl) rfl rfl ?_
      refine am_iload (n := 230) dL_tells_228 rfl rfl ?_
      refine am_iload (n := 232) dL_tells_230 rfl rfl ?_
      refine am_ior (n := 233) dL_tells_232 rfl ?_
      refine am_istore (n := 235) dL_tells_233 (Nat.le_of_ble_eq_true rfl) rfl rfl ?_
      first | refine am_iincN (n := 238) dL_tells_235 rfl rfl rfl ?_ | refine am_iinc1 (n := 238) dL_tells_235 rfl rfl rfl ?_
      refine am_goto (tgt := 42) dL_tells_238 (by decide) ?_
      exact am_loc _ rfl (K h6 X6 (f5.tr f6))
    · intro k hk K5 h5 X5 f5
      refine am_iload (n := 108) dL_tells_106 rfl rfl ?_
      refine am_bipush (n := 110) (v := 10) dL_tells_108 rfl rfl ?_
      refine am_icmp_ge (tgt := 205) (n := 113) dL_tells_110 (by decide) rfl (fun q_z => absurd q_z (nI_ge hk (by decide))) (fun _ => ?_)
      refine am_iload_n (n := 114) (i := 3) dL_tells_113 rfl rfl rfl ?_
      refine am_if_eq (tgt := 205) (n := 117) dL_tells_114 (by decide) rfl (fun q_z => absurd q_z (by decide)) (fun _ => ?_)
      refine am_iload (n := 119) dL_tells_117 rfl rfl ?_
      refine am_aload_n (n := 120) (i := 1) dL_tells_119 rfl rfl rfl ?_
      refine am_iload (n := 122) dL_tells_120 rfl rfl ?_
      refine am_lald (n := 123) dL_tells_122 (by first | assumption | exact isC_of (by decide +kernel)) (by first | assumption | exact vp_in_nI (by omega) (by omega) | exact vp_in_iff.mpr (by decide)) rfl ?_
      rw [hqa h5 f5]
      refine cdL_tells_17 (n := 126) dL_tells_123 (by first | exact ⟨rfl, rfl⟩ | assumption) (ac_L_manyW g w h5) rfl rfl (Nat.le_of_ble_eq_true rfl) rfl ?_
      rcases Nat.lt_or_ge k (wsz w) with hl | hl
      · have hr := wl_rng hw hl
        refine am_icmp_ge (tgt := 133) (n := 129) dL_tells_126 (by decide) rfl (fun q_z => absurd q_z (nI_ge hl (by omega))) (fun _ => ?_)
        refine am_iconst (n := 130) (v := 1) dL_tells_129 rfl rfl ?_
        refine am_goto (tgt := 134) dL_tells_130 (by decide) ?_
        refine am_istore (n := 136) dL_tells_134 (Nat.le_of_ble_eq_true rfl) rfl rfl ?_
        refine am_iload (n := 138) dL_tells_136 rfl rfl ?_
        refine am_iload (n := 140) dL_tells_138 rfl rfl ?_
        refine am_if_eq (tgt := 157) (n := 143) dL_tells_140 (by decide) rfl (fun q_z => absurd q_z (by decide)) (fun _ => ?_)
        refine am_iconst (n := 144) (v := 1) dL_tells_143 rfl rfl ?_
        refine am_aload_n (n := 145) (i := 1) dL_tells_144 rfl rfl rfl ?_
        refine am_iload (n := 147) dL_tells_145 rfl rfl ?_
        refine am_lald (n := 148) dL_tells_147 (by first | assumption | exact isC_of (by decide +kernel)) (by first | assumption | exact vp_in_nI (by omega) (by omega) | exact vp_in_iff.mpr (by decide)) rfl ?_
        rw [hqa h5 f5]
        refine am_iload (n := 150) dL_tells_148 rfl rfl ?_
        refine cdL_tells_26 (n := 153) dL_tells_150 (by first | exact ⟨rfl, rfl⟩ | assumption) (ac_L_letterW g w k h5 hl) rfl rfl (Nat.le_of_ble_eq_true rfl) rfl ?_
        refine am_ishl (n := 154) dL_tells_153 rfl ?_
        refine am_goto (tgt := 158) dL_tells_154 (by decide) ?_
        refine am_ior (n := 159) dL_tells_158 rfl ?_
        refine am_istore (n := 161) dL_tells_159 (Nat.le_of_ble_eq_true rfl) rfl rfl ?_
        refine am_aload_n (n := 162) (i := 0) dL_tells_161 rfl rfl rfl ?_
        refine am_iload (n := 164) dL_tells_162 rfl rfl ?_
        refine am_iload (n := 166) dL_tells_164 rfl rfl ?_
        refine am_iconst (n := 167) (v := 1) dL_tells_166 rfl rfl ?_
        refine am_iadd (n := 168) dL_tells_167 rfl ?_
        rw [nI_1]
        refine caL_tells_37 (n := 171) dL_tells_168 (by first | exact ⟨rfl, rfl⟩ | assumption) (hnm (nI (k + 1)) h5 X5) rfl rfl (Nat.le_of_ble_eq_true rfl) (by first | assumption | exact isC_of (by decide +kernel)) rfl ?_
        rintro r h6 ⟨rfl, X6, f6⟩
        refine am_iload (n := 173) dL_tells_171 rfl rfl ?_
        refine am_if_eq (tgt := 188) (n := 176) dL_tells_173 (by decide) rfl (fun q_z => absurd q_z (by decide)) (fun _ => ?_)
        refine am_aload_n (n := 177) (i := 1) dL_tells_176 rfl rfl rfl ?_
        refine am_iload (n := 179) dL_tells_177 rfl rfl ?_
        refine am_lald (n := 180) dL_tells_179 (by first | assumption | exact isC_of (by decide +kernel)) (by first | assumption | exact vp_in_nI (by omega) (by omega) | exact vp_in_iff.mpr (by decide)) rfl ?_
        rw [hqa h6 (f5.tr f6)]
        refine am_iload (n := 182) dL_tells_180 rfl rfl ?_
        refine cdL_tells_26 (n := 185) dL_tells_182 (by first | exact ⟨rfl, rfl⟩ | assumption) (ac_L_letterW g w k h6 hl) rfl rfl (Nat.le_of_ble_eq_true rfl) rfl ?_
        refine am_goto (tgt := 190) dL_tells_185 (by decide) ?_
        refine am_icmp_ne (tgt := 197) (n := 193) dL_tells_190 (by decide) rfl (fun q_z => absurd (by show nmS w (nI (k + 1)) = _; rw [nmS_k hk, if_neg (by omega)]) q_z) (fun _ => ?_)
        refine am_iconst (n := 194) (v := 1) dL_tells_193 rfl rfl ?_
        refine am_goto (tgt := 198) dL_tells_194 (by decide) ?_
        refine am_istore_n (n := 199) (i := 3) dL_tells_198 rfl (Nat.le_of_ble_eq_true rfl) rfl rfl ?_
        first | refine am_iincN (n := 202) dL_tells_199 rfl rfl rfl ?_ | refine am_iinc1 (n := 202) dL_tells_199 rfl rfl rfl ?_
        refine am_goto (tgt := 106) dL_tells_202 (by decide) ?_
        refine am_loc _ ?_ (K5 h6 X6 (f5.tr f6))
        rw [show min k (wsz w) = k by omega, show min (k + 1) (wsz w) = k + 1 by omega]
        rfl
      · have h0 : wl w k = 0 := hw.2.2.1 k hl
        refine am_icmp_ge (tgt := 133) (n := 129) dL_tells_126 (by decide) rfl (fun _ => ?_) (fun q_z => absurd (nI_le hl (by omega)) q_z)
        refine am_iconst (n := 134) (v := 0) dL_tells_133 rfl rfl ?_
        refine am_istore (n := 136) dL_tells_134 (Nat.le_of_ble_eq_true rfl) rfl rfl ?_
        refine am_iload (n := 138) dL_tells_136 rfl rfl ?_
        refine am_iload (n := 140) dL_tells_138 rfl rfl ?_
        refine am_if_eq (tgt := 157) (n := 143) dL_tells_140 (by decide) rfl (fun _ => ?_) (fun q_z => absurd rfl q_z)
        refine am_iconst (n := 158) (v := 0) dL_tells_157 rfl rfl ?_
        refine am_ior (n := 159) dL_tells_158 rfl ?_
        rw [or_0]
        refine am_istore (n := 161) dL_tells_159 (Nat.le_of_ble_eq_true rfl) rfl rfl ?_
        refine am_aload_n (n := 162) (i := 0) dL_tells_161 rfl rfl rfl ?_
        refine am_iload (n := 164) dL_tells_162 rfl rfl ?_
        refine am_iload (n := 166) dL_tells_164 rfl rfl ?_
        refine am_iconst (n := 167) (v := 1) dL_tells_166 rfl rfl ?_
        refine am_iadd (n := 168) dL_tells_167 rfl ?_
        rw [nI_1]
        refine caL_tells_37 (n := 171) dL_tells_168 (by first | exact ⟨rfl, rfl⟩ | assumption) (hnm (nI (k + 1)) h5 X5) rfl rfl (Nat.le_of_ble_eq_true rfl) (by first | assumption | exact isC_of (by decide +kernel)) rfl ?_
        rintro r h6 ⟨rfl, X6, f6⟩
        refine am_iload (n := 173) dL_tells_171 rfl rfl ?_
        refine am_if_eq (tgt := 188) (n := 176) dL_tells_173 (by decide) rfl (fun _ => ?_) (fun q_z => absurd rfl q_z)
        refine am_bipush (n := 190) (v := (-6)) dL_tells_188 rfl rfl ?_
        refine am_icmp_ne (tgt := 197) (n := 193) dL_tells_190 (by decide) rfl (fun q_z => absurd (by show nmS w (nI (k + 1)) = _; rw [nmS_k hk, if_pos h0]) q_z) (fun _ => ?_)
        refine am_iconst (n := 194) (v := 1) dL_tells_193 rfl rfl ?_
        refine am_goto (tgt := 198) dL_tells_194 (by decide) ?_
        refine am_istore_n (n := 199) (i := 3) dL_tells_198 rfl (Nat.le_of_ble_eq_true rfl) rfl rfl ?_
        first | refine am_iincN (n := 202) dL_tells_199 rfl rfl rfl ?_ | refine am_iinc1 (n := 202) dL_tells_199 rfl rfl rfl ?_
        refine am_goto (tgt := 106) dL_tells_202 (by decide) ?_
        refine am_loc _ ?_ (K5 h6 X6 (f5.tr f6))
        rw [show min k (wsz w) = wsz w by omega, show min (k + 1) (wsz w) = wsz w by omega]
        rfl
