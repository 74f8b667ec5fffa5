/-! WHAT THE LAW SEES OF A STATE, AS ONE NUMBER -/
def sS (S : SV) : GS := (S, [], (none, none), [])
def seA (S : SV) : Nat → Int64
  | 0 => 41
  | k + 1 => 31 * seA S k + (sp_count (nI k) (sS S)).1.toInt64
def seN (S : SV) (i : Nat) (x : Int64) : Nat → Int64
  | 0 => x
  | k + 1 => 31 * seN S i x k + (sp_name (nI i) (nI k) (sS S)).1.toInt64
def seM (S : SV) : Nat → Int64
  | 0 => seA S 4
  | i + 1 => seN S i (seM S i) 11
def seO (S : SV) : Nat → Int64
  | 0 => seM S S.2.2.1.length
  | k + 1 => 31 * (31 * seO S k + (sp_of (nI (k / 26)) (nI (k % 26)) 0 (sS S)).1.toInt64) + (sp_of (nI (k / 26)) (nI (k % 26)) 1 (sS S)).1.toInt64
def seE (S : SV) : Nat → Int64
  | 0 => seO S 104
  | k + 1 => 31 * seE S k + (sp_ofEar (nI (k / 8)) (nI (k % 8)) (sS S)).1.toInt64
def seV (S : SV) : Int64 := 31 * seE S 32 + (sp_deafest (sS S)).1.toInt64
theorem se_ct {G : GS} {k : Nat} (hk : k < 4) : sp_count (nI k) G = ((sp_count (nI k) (sS G.1)).1, G) := by
  match k, hk with
  | 0, _ => rfl
  | 1, _ => rfl
  | 2, _ => rfl
  | 3, _ => rfl
  | z + 4, q => exact absurd q (by omega)
theorem se_nm (G : GS) (x y : Int32) : sp_name x y G = ((sp_name x y (sS G.1)).1, G) := rfl
theorem se_of (G : GS) (x y z : Int32) : sp_of x y z G = ((sp_of x y z (sS G.1)).1, G) := rfl
theorem se_oe (G : GS) (x y : Int32) : sp_ofEar x y G = ((sp_ofEar x y (sS G.1)).1, G) := rfl
theorem se_df (G : GS) : sp_deafest G = ((sp_deafest (sS G.1)).1, G) := rfl
theorem i_div {a : Nat} (d : Nat) (ha : a < 2 ^ 31) (h0 : 0 < d) (hd : d < 2 ^ 31) {x : Int32} (e : x = nI d) : nI a / x = nI (a / d) := by
  subst e
  exact pk_div ha h0 hd
set_option maxRecDepth 100000 in
set_option maxHeartbeats 2000000 in
theorem ac_L_seen (g : Gx) (G : GS) (h : Hp) (hX : XI G h) : AC g yL_seen wsL_seen rmL_seen [.ref 0] h (fun v h' => v = some (.long (seV G.1)) ∧ XI G h' ∧ FM h h') := by
  have hn := hX.2.1.2.2.1
  generalize hP : (fun (v : Option Value) (h' : Hp) => v = some (.long (seV G.1)) ∧ XI G h' ∧ FM h h') = P
  refine AC.of (cc := cL_seen) (maxL := 5) (ret := (some .long)) (by decide +kernel) rfl (Nat.le_of_ble_eq_true rfl) ?_
  show AW g mmL_seen _ 0 [(0, some (.ref 0))] [] _
  -- the ears' numbers, and the deafest
  have t134 : ∀ h1 : Hp, XI G h1 → FM h h1 → AW g mmL_seen (ZP g P) 134 [(0, some (.ref 0)), (1, some (.long (seE G.1 0))), (3, some (.int (nI 0)))] [] h1 := by
    refine loop_up (Wp := fun k => ∀ h1 : Hp, XI G h1 → FM h h1 → AW g mmL_seen (ZP g P) 134 [(0, some (.ref 0)), (1, some (.long (seE G.1 k))), (3, some (.int (nI k)))] [] h1) 32 ?_ ?_ 0 (Nat.zero_le _)
    · intro h1 X1 f1
      refine am_iload_n (n := 135) (i := 3) dL_seen_134 rfl rfl rfl ?_
      refine am_bipush (n := 137) (v := 32) dL_seen_135 rfl rfl ?_
      refine am_icmp_ge (tgt := 166) (n := 140) dL_seen_137 (by decide) rfl (fun _ => ?_) (fun q_z => absurd (by decide) q_z)
      refine am_ldc2 (n := 169) (v := 31) dL_seen_166 (by decide +kernel) rfl ?_
      refine am_lload_n (n := 170) (i := 1) dL_seen_169 rfl rfl rfl ?_
      refine am_lmul (n := 171) dL_seen_170 rfl ?_
      refine am_aload_n (n := 172) (i := 0) dL_seen_171 rfl rfl rfl ?_
      have k1 := cx_deafest g G h1 X1
      rw [se_df] at k1
      refine caL_seen_56 (n := 175) dL_seen_172 (by first | exact ⟨rfl, rfl⟩ | assumption) k1 rfl rfl (Nat.le_of_ble_eq_true rfl) (by first | assumption | exact isC_of (by decide +kernel)) rfl ?_
      rintro r h2 ⟨rfl, X2, f2⟩
      refine am_i2l (n := 176) dL_seen_175 rfl ?_
      refine am_ladd (n := 177) dL_seen_176 rfl ?_
      subst hP
      refine am_lret dL_seen_177 rfl ?_
      exact ⟨rfl, X2, f1.tr f2⟩
    · intro k hk K h1 X1 f1
      refine am_iload_n (n := 135) (i := 3) dL_seen_134 rfl rfl rfl ?_
      refine am_bipush (n := 137) (v := 32) dL_seen_135 rfl rfl ?_
      refine am_icmp_ge (tgt := 166) (n := 140) dL_seen_137 (by decide) rfl (fun q_z => absurd q_z (nI_ge hk (by decide))) (fun _ => ?_)
      refine am_ldc2 (n := 143) (v := 31) dL_seen_140 (by decide +kernel) rfl ?_
      refine am_lload_n (n := 144) (i := 1) dL_seen_143 rfl rfl rfl ?_
      refine am_lmul (n := 145) dL_seen_144 rfl ?_
      refine am_aload_n (n := 146) (i := 0) dL_seen_145 rfl rfl rfl ?_
      refine am_iload_n (n := 147) (i := 3) dL_seen_146 rfl rfl rfl ?_
      refine am_bipush (n := 149) (v := 8) dL_seen_147 rfl rfl ?_
      refine am_idiv (n := 150) dL_seen_149 (by decide) rfl ?_
      rw [i_div (x := 8) 8 (by omega) (by decide) (by decide) rfl]
      refine am_iload_n (n := 151) (i := 3) dL_seen_150 rfl rfl rfl ?_
      refine am_bipush (n := 153) (v := 8) dL_seen_151 rfl rfl ?_
      refine am_irem (n := 154) dL_seen_153 (by decide) rfl ?_
      rw [i_rem (x := 8) 8 (by omega) (by decide) (by decide) rfl]
      have k1 := cx_ofEar g (nI (k / 8)) (nI (k % 8)) G h1 X1
      rw [se_oe] at k1
      refine caL_seen_53 (n := 157) dL_seen_154 (by first | exact ⟨rfl, rfl⟩ | assumption) k1 rfl rfl (Nat.le_of_ble_eq_true rfl) (by first | assumption | exact isC_of (by decide +kernel)) rfl ?_
      rintro r h2 ⟨rfl, X2, f2⟩
      refine am_i2l (n := 158) dL_seen_157 rfl ?_
      refine am_ladd (n := 159) dL_seen_158 rfl ?_
      refine am_lstore_n (n := 160) (i := 1) dL_seen_159 rfl (Nat.le_of_ble_eq_true rfl) rfl rfl ?_
      first | refine am_iincN (n := 163) dL_seen_160 rfl rfl rfl ?_ | refine am_iinc1 (n := 163) dL_seen_160 rfl rfl rfl ?_
      refine am_goto (tgt := 134) dL_seen_163 (by decide) ?_
      exact am_loc _ rfl (K h2 X2 (f1.tr f2))
  have t80 : ∀ h1 : Hp, XI G h1 → FM h h1 → AW g mmL_seen (ZP g P) 80 [(0, some (.ref 0)), (1, some (.long (seO G.1 0))), (3, some (.int (nI 0)))] [] h1 := by
    refine loop_up (Wp := fun k => ∀ h1 : Hp, XI G h1 → FM h h1 → AW g mmL_seen (ZP g P) 80 [(0, some (.ref 0)), (1, some (.long (seO G.1 k))), (3, some (.int (nI k)))] [] h1) 104 ?_ ?_ 0 (Nat.zero_le _)
    · intro h1 X1 f1
      refine am_iload_n (n := 81) (i := 3) dL_seen_80 rfl rfl rfl ?_
      refine am_bipush (n := 83) (v := 104) dL_seen_81 rfl rfl ?_
      refine am_icmp_ge (tgt := 132) (n := 86) dL_seen_83 (by decide) rfl (fun _ => ?_) (fun q_z => absurd (by decide) q_z)
      refine am_iconst (n := 133) (v := 0) dL_seen_132 rfl rfl ?_
      refine am_istore_n (n := 134) (i := 3) dL_seen_133 rfl (Nat.le_of_ble_eq_true rfl) rfl rfl ?_
      exact am_loc _ rfl (t134 h1 X1 f1)
    · intro k hk K h1 X1 f1
      refine am_iload_n (n := 81) (i := 3) dL_seen_80 rfl rfl rfl ?_
      refine am_bipush (n := 83) (v := 104) dL_seen_81 rfl rfl ?_
      refine am_icmp_ge (tgt := 132) (n := 86) dL_seen_83 (by decide) rfl (fun q_z => absurd q_z (nI_ge hk (by decide))) (fun _ => ?_)
      refine am_ldc2 (n := 89) (v := 31) dL_seen_86 (by decide +kernel) rfl ?_
      refine am_ldc2 (n := 92) (v := 31) dL_seen_89 (by decide +kernel) rfl ?_
      refine am_lload_n (n := 93) (i := 1) dL_seen_92 rfl rfl rfl ?_
      refine am_lmul (n := 94) dL_seen_93 rfl ?_
      refine am_aload_n (n := 95) (i := 0) dL_seen_94 rfl rfl rfl ?_
      refine am_iload_n (n := 96) (i := 3) dL_seen_95 rfl rfl rfl ?_
      refine am_bipush (n := 98) (v := 26) dL_seen_96 rfl rfl ?_
      refine am_idiv (n := 99) dL_seen_98 (by decide) rfl ?_
      rw [i_div (x := 26) 26 (by omega) (by decide) (by decide) rfl]
      refine am_iload_n (n := 100) (i := 3) dL_seen_99 rfl rfl rfl ?_
      refine am_bipush (n := 102) (v := 26) dL_seen_100 rfl rfl ?_
      refine am_irem (n := 103) dL_seen_102 (by decide) rfl ?_
      rw [i_rem (x := 26) 26 (by omega) (by decide) (by decide) rfl]
      refine am_iconst (n := 104) (v := 0) dL_seen_103 rfl rfl ?_
      have k1 := cx_of g (nI (k / 26)) (nI (k % 26)) 0 G h1 X1
      rw [se_of] at k1
      refine caL_seen_49 (n := 107) dL_seen_104 (by first | exact ⟨rfl, rfl⟩ | assumption) k1 rfl rfl (Nat.le_of_ble_eq_true rfl) (by first | assumption | exact isC_of (by decide +kernel)) rfl ?_
      rintro r h2 ⟨rfl, X2, f2⟩
      refine am_i2l (n := 108) dL_seen_107 rfl ?_
      refine am_ladd (n := 109) dL_seen_108 rfl ?_
      refine am_lmul (n := 110) dL_seen_109 rfl ?_
      refine am_aload_n (n := 111) (i := 0) dL_seen_110 rfl rfl rfl ?_
      refine am_iload_n (n := 112) (i := 3) dL_seen_111 rfl rfl rfl ?_
      refine am_bipush (n := 114) (v := 26) dL_seen_112 rfl rfl ?_
      refine am_idiv (n := 115) dL_seen_114 (by decide) rfl ?_
      rw [i_div (x := 26) 26 (by omega) (by decide) (by decide) rfl]
      refine am_iload_n (n := 116) (i := 3) dL_seen_115 rfl rfl rfl ?_
      refine am_bipush (n := 118) (v := 26) dL_seen_116 rfl rfl ?_
      refine am_irem (n := 119) dL_seen_118 (by decide) rfl ?_
      rw [i_rem (x := 26) 26 (by omega) (by decide) (by decide) rfl]
      refine am_iconst (n := 120) (v := 1) dL_seen_119 rfl rfl ?_
      have k2 := cx_of g (nI (k / 26)) (nI (k % 26)) 1 G h2 X2
      rw [se_of] at k2
      refine caL_seen_49 (n := 123) dL_seen_120 (by first | exact ⟨rfl, rfl⟩ | assumption) k2 rfl rfl (Nat.le_of_ble_eq_true rfl) (by first | assumption | exact isC_of (by decide +kernel)) rfl ?_
      rintro r h3 ⟨rfl, X3, f3⟩
      refine am_i2l (n := 124) dL_seen_123 rfl ?_
      refine am_ladd (n := 125) dL_seen_124 rfl ?_
      refine am_lstore_n (n := 126) (i := 1) dL_seen_125 rfl (Nat.le_of_ble_eq_true rfl) rfl rfl ?_
      first | refine am_iincN (n := 129) dL_seen_126 rfl rfl rfl ?_ | refine am_iinc1 (n := 129) dL_seen_126 rfl rfl rfl ?_
      refine am_goto (tgt := 80) dL_seen_129 (by decide) ?_
      exact am_loc _ rfl (K h3 X3 ((f1.tr f2).tr f3))
  have t32 : ∀ h1 : Hp, XI G h1 → FM h h1 → AW g mmL_seen (ZP g P) 32 [(0, some (.ref 0)), (1, some (.long (seM G.1 0))), (3, some (.int (nI 0)))] [] h1 := by
    refine loop_up (Wp := fun i => ∀ h1 : Hp, XI G h1 → FM h h1 → AW g mmL_seen (ZP g P) 32 [(0, some (.ref 0)), (1, some (.long (seM G.1 i))), (3, some (.int (nI i)))] [] h1) G.1.2.2.1.length ?_ ?_ 0 (Nat.zero_le _)
    · intro h1 X1 f1
      refine am_iload_n (n := 33) (i := 3) dL_seen_32 rfl rfl rfl ?_
      refine am_aload_n (n := 34) (i := 0) dL_seen_33 rfl rfl rfl ?_
      refine am_iconst (n := 35) (v := 0) dL_seen_34 rfl rfl ?_
      have k1 := cx_count g 0 G h1 X1
      rw [ct_0] at k1
      refine caL_seen_33 (n := 38) dL_seen_35 (by first | exact ⟨rfl, rfl⟩ | assumption) k1 rfl rfl (Nat.le_of_ble_eq_true rfl) (by first | assumption | exact isC_of (by decide +kernel)) rfl ?_
      rintro r h2 ⟨rfl, X2, f2⟩
      refine am_icmp_ge (tgt := 78) (n := 41) dL_seen_38 (by decide) rfl (fun _ => ?_) (fun q_z => absurd (Int32.le_refl _) q_z)
      refine am_iconst (n := 79) (v := 0) dL_seen_78 rfl rfl ?_
      refine am_istore_n (n := 80) (i := 3) dL_seen_79 rfl (Nat.le_of_ble_eq_true rfl) rfl rfl ?_
      exact am_loc _ rfl (t80 h2 X2 (f1.tr f2))
    · intro i hi K h1 X1 f1
      refine am_iload_n (n := 33) (i := 3) dL_seen_32 rfl rfl rfl ?_
      refine am_aload_n (n := 34) (i := 0) dL_seen_33 rfl rfl rfl ?_
      refine am_iconst (n := 35) (v := 0) dL_seen_34 rfl rfl ?_
      have k1 := cx_count g 0 G h1 X1
      rw [ct_0] at k1
      refine caL_seen_33 (n := 38) dL_seen_35 (by first | exact ⟨rfl, rfl⟩ | assumption) k1 rfl rfl (Nat.le_of_ble_eq_true rfl) (by first | assumption | exact isC_of (by decide +kernel)) rfl ?_
      rintro r h2 ⟨rfl, X2, f2⟩
      refine am_icmp_ge (tgt := 78) (n := 41) dL_seen_38 (by decide) rfl (fun q_z => absurd q_z (nI_ge hi (by omega))) (fun _ => ?_)
      refine am_iconst (n := 42) (v := 0) dL_seen_41 rfl rfl ?_
      refine am_istore (n := 44) dL_seen_42 (Nat.le_of_ble_eq_true rfl) rfl rfl ?_
      refine am_loc [(0, some (.ref 0)), (1, some (.long (seN G.1 i (seM G.1 i) 0))), (3, some (.int (nI i))), (4, some (.int (nI 0)))] rfl ?_
      refine loop_up (Wp := fun k => ∀ h1 : Hp, XI G h1 → FM h h1 → AW g mmL_seen (ZP g P) 44 [(0, some (.ref 0)), (1, some (.long (seN G.1 i (seM G.1 i) k))), (3, some (.int (nI i))), (4, some (.int (nI k)))] [] h1) 11 ?_ ?_ 0 (Nat.zero_le _) h2 X2 (f1.tr f2)
      · intro h3 X3 f3
        refine am_iload (n := 46) dL_seen_44 rfl rfl ?_
        refine am_bipush (n := 48) (v := 11) dL_seen_46 rfl rfl ?_
        refine am_icmp_ge (tgt := 72) (n := 51) dL_seen_48 (by decide) rfl (fun _ => ?_) (fun q_z => absurd (by decide) q_z)
        first | refine am_iincN (n := 75) dL_seen_72 rfl rfl rfl ?_ | refine am_iinc1 (n := 75) dL_seen_72 rfl rfl rfl ?_
        refine am_goto (tgt := 32) dL_seen_75 (by decide) ?_
        exact am_loc _ rfl (K h3 X3 f3)
      · intro k hk K2 h3 X3 f3
        refine am_iload (n := 46) dL_seen_44 rfl rfl ?_
        refine am_bipush (n := 48) (v := 11) dL_seen_46 rfl rfl ?_
        refine am_icmp_ge (tgt := 72) (n := 51) dL_seen_48 (by decide) rfl (fun q_z => absurd q_z (nI_ge hk (by decide))) (fun _ => ?_)
        refine am_ldc2 (n := 54) (v := 31) dL_seen_51 (by decide +kernel) rfl ?_
        refine am_lload_n (n := 55) (i := 1) dL_seen_54 rfl rfl rfl ?_
        refine am_lmul (n := 56) dL_seen_55 rfl ?_
        refine am_aload_n (n := 57) (i := 0) dL_seen_56 rfl rfl rfl ?_
        refine am_iload_n (n := 58) (i := 3) dL_seen_57 rfl rfl rfl ?_
        refine am_iload (n := 60) dL_seen_58 rfl rfl ?_
        have k2 := cx_name g (nI i) (nI k) G h3 X3
        rw [se_nm] at k2
        refine caL_seen_37 (n := 63) dL_seen_60 (by first | exact ⟨rfl, rfl⟩ | assumption) k2 rfl rfl (Nat.le_of_ble_eq_true rfl) (by first | assumption | exact isC_of (by decide +kernel)) rfl ?_
        rintro r h4 ⟨rfl, X4, f4⟩
        refine am_i2l (n := 64) dL_seen_63 rfl ?_
        refine am_ladd (n := 65) dL_seen_64 rfl ?_
        refine am_lstore_n (n := 66) (i := 1) dL_seen_65 rfl (Nat.le_of_ble_eq_true rfl) rfl rfl ?_
        first | refine am_iincN (n := 69) dL_seen_66 rfl rfl rfl ?_ | refine am_iinc1 (n := 69) dL_seen_66 rfl rfl rfl ?_
        refine am_goto (tgt := 44) dL_seen_69 (by decide) ?_
        exact am_loc _ rfl (K2 h4 X4 (f3.tr f4))
  refine am_ldc2 (n := 3) (v := 41) dL_seen_0 (by decide +kernel) rfl ?_
  refine am_lstore_n (n := 4) (i := 1) dL_seen_3 rfl (Nat.le_of_ble_eq_true rfl) rfl rfl ?_
  refine am_iconst (n := 5) (v := 0) dL_seen_4 rfl rfl ?_
  refine am_istore_n (n := 6) (i := 3) dL_seen_5 rfl (Nat.le_of_ble_eq_true rfl) rfl rfl ?_
  refine am_loc [(0, some (.ref 0)), (1, some (.long (seA G.1 0))), (3, some (.int (nI 0)))] rfl ?_
  refine loop_up (Wp := fun k => ∀ h1 : Hp, XI G h1 → FM h h1 → AW g mmL_seen (ZP g P) 6 [(0, some (.ref 0)), (1, some (.long (seA G.1 k))), (3, some (.int (nI k)))] [] h1) 4 ?_ ?_ 0 (Nat.zero_le _) h hX FM.rf
  · intro h1 X1 f1
    refine am_iload_n (n := 7) (i := 3) dL_seen_6 rfl rfl rfl ?_
    refine am_iconst (n := 8) (v := 4) dL_seen_7 rfl rfl ?_
    refine am_icmp_ge (tgt := 30) (n := 11) dL_seen_8 (by decide) rfl (fun _ => ?_) (fun q_z => absurd (by decide) q_z)
    refine am_iconst (n := 31) (v := 0) dL_seen_30 rfl rfl ?_
    refine am_istore_n (n := 32) (i := 3) dL_seen_31 rfl (Nat.le_of_ble_eq_true rfl) rfl rfl ?_
    exact am_loc _ rfl (t32 h1 X1 f1)
  · intro k hk K h1 X1 f1
    refine am_iload_n (n := 7) (i := 3) dL_seen_6 rfl rfl rfl ?_
    refine am_iconst (n := 8) (v := 4) dL_seen_7 rfl rfl ?_
    refine am_icmp_ge (tgt := 30) (n := 11) dL_seen_8 (by decide) rfl (fun q_z => absurd q_z (nI_ge hk (by decide))) (fun _ => ?_)
    refine am_ldc2 (n := 14) (v := 31) dL_seen_11 (by decide +kernel) rfl ?_
    refine am_lload_n (n := 15) (i := 1) dL_seen_14 rfl rfl rfl ?_
    refine am_lmul (n := 16) dL_seen_15 rfl ?_
    refine am_aload_n (n := 17) (i := 0) dL_seen_16 rfl rfl rfl ?_
    refine am_iload_n (n := 18) (i := 3) dL_seen_17 rfl rfl rfl ?_
    have k1 := cx_count g (nI k) G h1 X1
    rw [se_ct hk] at k1
    refine caL_seen_33 (n := 21) dL_seen_18 (by first | exact ⟨rfl, rfl⟩ | assumption) k1 rfl rfl (Nat.le_of_ble_eq_true rfl) (by first | assumption | exact isC_of (by decide +kernel)) rfl ?_
    rintro r h2 ⟨rfl, X2, f2⟩
    refine am_i2l (n := 22) dL_seen_21 rfl ?_
    refine am_ladd (n := 23) dL_seen_22 rfl ?_
    refine am_lstore_n (n := 24) (i := 1) dL_seen_23 rfl (Nat.le_of_ble_eq_true rfl) rfl rfl ?_
    first | refine am_iincN (n := 27) dL_seen_24 rfl rfl rfl ?_ | refine am_iinc1 (n := 27) dL_seen_24 rfl rfl rfl ?_
    refine am_goto (tgt := 6) dL_seen_27 (by decide) ?_
    exact am_loc _ rfl (K h2 X2 (f1.tr f2))
