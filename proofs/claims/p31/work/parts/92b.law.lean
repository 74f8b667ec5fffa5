/-! THE LAW'S LOOP -/
def S00 : SV := (4, 24, [], [])
/-- what holds of class and law between two turns -/
def KI (G : GS) (h : Hp) : Prop := XI G h ∧ LQ G h ∧ 0 < G.1.2.2.2.length ∧ G.2.2.1.2 = some S00
theorem un_at {G : GS} {S : SV} {past : List SV} (e : G.2.1 = past ++ [S]) : sp_undo G = (nI past.length, (S, past, G.2.2)) := by
  unfold sp_undo
  rw [e, List.getLast?_concat]
  show (nI ((past ++ [S]).length - 1), (S, (past ++ [S]).dropLast, G.2.2)) = _
  rw [List.dropLast_concat, List.length_append]
  rfl
theorem pushP_lt {past : List SV} {S : SV} (h : past.length < 6) : pushP past S = past ++ [S] := if_pos h
theorem pushP_ge {past : List SV} {S : SV} (h : ¬ past.length < 6) : pushP past S = past.tail ++ [S] := if_neg h
theorem rs_0 (G : GS) : sp_restore 0 G = rsS G G.2.2.1.1 := rfl
theorem rs_1 (G : GS) : sp_restore 1 G = rsS G G.2.2.1.2 := rfl
theorem rs_s {G : GS} {o : Option SV} {S : SV} (e : o = some S) : rsS G o = (nI S.2.2.1.length, recG G S) := by rw [e]; rfl
theorem sv_0 (G : GS) : sp_save 0 G = (nI G.1.2.2.1.length, (G.1, G.2.1, (some G.1, G.2.2.1.2), G.2.2.2)) := rfl
theorem sv_1 (G : GS) : sp_save 1 G = (nI G.1.2.2.1.length, (G.1, G.2.1, (G.2.2.1.1, some G.1), G.2.2.2)) := rfl
abbrev L6 (t : Nat) : Lo := [(0, some (.ref 61)), (1, some (.ref 0)), (2, some (.ref 40)), (3, some (.ref 41)), (4, some (.int 1)), (5, some (.int (nI t)))]
abbrev L8 (t x y : Nat) : Lo := [(0, some (.ref 61)), (1, some (.ref 0)), (2, some (.ref 40)), (3, some (.ref 41)), (4, some (.int 1)), (5, some (.int (nI t))), (6, some (.int (nI x))), (7, some (.int (nI y)))]
section LAW
variable {g : Gx} {L : Nat} {xs : Nat → Int32} {t x y : Nat}
set_option maxRecDepth 100000 in
set_option maxHeartbeats 2000000 in
theorem law_386 (ht : t < 40) (next : ∀ (G' : GS) (h' : Hp), KI G' h' → AW g mmL_law (ZL g L xs (t + 1)) 96 (L6 (t + 1)) [] h') : ∀ (G : GS) (h : Hp), KI G h → AW g mmL_law (ZL g L xs (t + 1)) 386 (L8 t x y) [] h := by
  intro G h K
  refine am_iconst (n := 387) (v := 1) dL_law_386 rfl rfl ?_
  refine am_goto (tgt := 391) dL_law_387 (by decide) ?_
  refine am_istore (n := 393) dL_law_391 (Nat.le_of_ble_eq_true rfl) rfl rfl ?_
  first | refine am_iincN (n := 396) dL_law_393 rfl rfl rfl ?_ | refine am_iinc1 (n := 396) dL_law_393 rfl rfl rfl ?_
  refine am_goto (tgt := 96) dL_law_396 (by decide) ?_
  exact am_loc _ rfl (next G h K)
set_option maxRecDepth 100000 in
set_option maxHeartbeats 2000000 in
theorem law_354 (h42 : g.2.1 42 = 0) (ht : t < 40) (hy : y < 2 ^ 31) (next : ∀ (G' : GS) (h' : Hp), KI G' h' → AW g mmL_law (ZL g L xs (t + 1)) 96 (L6 (t + 1)) [] h') : ∀ (G : GS) (h : Hp), KI G h → AW g mmL_law (ZL g L xs t) 354 (L8 t x y) [] h := by
  have n386 := law_386 (x := x) (y := y) ht next
  intro G h K
  obtain ⟨hX, hq, hE, hs⟩ := K
  have c41 := isC_41
  refine am_iload (n := 356) dL_law_354 rfl rfl ?_
  refine am_bipush (n := 358) (v := 10) dL_law_356 rfl rfl ?_
  refine am_irem (n := 359) dL_law_358 (by decide) rfl ?_
  rw [i_rem (x := 10) 10 (by omega) (by decide) (by decide) rfl]
  refine am_bipush (n := 361) (v := 9) dL_law_359 rfl rfl ?_
  by_cases z : t % 10 = 9
  · refine am_icmp_ne (tgt := 386) (n := 364) dL_law_361 (by decide) rfl (fun q_z => absurd (by rw [z]; rfl) q_z) (fun _ => ?_)
    refine am_aload_n (n := 365) (i := 1) dL_law_364 rfl rfl rfl ?_
    refine am_aload_n (n := 366) (i := 2) dL_law_365 rfl rfl rfl ?_
    refine am_aload_n (n := 367) (i := 3) dL_law_366 rfl rfl rfl ?_
    refine am_iconst (n := 368) (v := 0) dL_law_367 rfl rfl ?_
    refine am_iald (n := 369) dL_law_368 (by first | assumption | exact isC_of (by decide +kernel)) (by first | assumption | exact vp_in_nI (by omega) (by omega) | exact vp_in_iff.mpr (by decide)) rfl ?_
    rw [hq.z0]
    refine caL_law_171 (n := 372) dL_law_369 ht (ac_L_distances g G h h42 hX hq.1) rfl rfl (Nat.le_of_ble_eq_true rfl) rfl ?_
    rintro r h1 ⟨rfl, X1, f1⟩
    have q1 := hq.fq f1
    have ht1 : t + 1 ≤ 40 := ht
    refine am_if_eq (tgt := 390) (n := 375) dL_law_372 (by decide) rfl (fun q_z => absurd q_z (by decide)) (fun _ => ?_)
    refine am_aload_n (n := 376) (i := 1) dL_law_375 rfl rfl rfl ?_
    refine am_iload (n := 378) dL_law_376 rfl rfl ?_
    refine am_iconst (n := 379) (v := 3) dL_law_378 rfl rfl ?_
    refine am_idiv (n := 380) dL_law_379 (by decide) rfl ?_
    rw [i_div (x := 3) 3 hy (by decide) (by decide) rfl]
    refine caL_law_174 (n := 383) dL_law_380 (by first | exact ⟨rfl, rfl⟩ | assumption) (ac_L_faults g (y / 3) G h1 X1 (Nat.lt_of_le_of_lt (Nat.div_le_self _ _) hy)) rfl rfl (Nat.le_of_ble_eq_true rfl) rfl ?_
    rintro r h2 ⟨rfl, X2, f2⟩
    refine am_if_eq (tgt := 390) (n := 386) dL_law_383 (by decide) rfl (fun q_z => absurd q_z (by decide)) (fun _ => ?_)
    exact am_loc _ rfl (n386 (padG G []) h2 ⟨X2, (q1.fm f2).of rfl rfl, hE, hs⟩)
  · refine am_icmp_ne (tgt := 386) (n := 364) dL_law_361 (by decide) rfl (fun _ => ?_) (fun q_z => absurd q_z (fun e => z ((nI_eq (by omega) (by decide)).mp e)))
    exact am_wide (am_loc _ rfl (n386 G h ⟨hX, hq, hE, hs⟩))
set_option maxRecDepth 100000 in
set_option maxHeartbeats 2000000 in
theorem law_328 (h42 : g.2.1 42 = 0) (ht : t < 40) (hx : x < 2 ^ 31) (hy : y < 2 ^ 31) (next : ∀ (G' : GS) (h' : Hp), KI G' h' → AW g mmL_law (ZL g L xs (t + 1)) 96 (L6 (t + 1)) [] h') : ∀ (G : GS) (h : Hp), KI G h → AW g mmL_law (ZL g L xs t) 328 (L8 t x y) [] h := by
  have n354 := law_354 (x := x) h42 ht hy next
  have ht0 : t ≤ 40 := Nat.le_of_lt ht
  intro G h K
  obtain ⟨hX, hq, hE, hs⟩ := K
  refine am_iload (n := 330) dL_law_328 rfl rfl ?_
  refine am_if_eq (tgt := 390) (n := 333) dL_law_330 (by decide) rfl (fun q_z => absurd q_z (by decide)) (fun _ => ?_)
  refine am_iload (n := 335) dL_law_333 rfl rfl ?_
  refine am_bipush (n := 337) (v := 8) dL_law_335 rfl rfl ?_
  refine am_irem (n := 338) dL_law_337 (by decide) rfl ?_
  rw [i_rem (x := 8) 8 (by omega) (by decide) (by decide) rfl]
  refine am_bipush (n := 340) (v := 7) dL_law_338 rfl rfl ?_
  by_cases z : t % 8 = 7
  · refine am_icmp_ne (tgt := 354) (n := 343) dL_law_340 (by decide) rfl (fun q_z => absurd (by rw [z]; rfl) q_z) (fun _ => ?_)
    refine am_aload_n (n := 344) (i := 1) dL_law_343 rfl rfl rfl ?_
    refine am_iload (n := 346) dL_law_344 rfl rfl ?_
    refine am_iconst (n := 347) (v := 3) dL_law_346 rfl rfl ?_
    refine am_idiv (n := 348) dL_law_347 (by decide) rfl ?_
    rw [i_div (x := 3) 3 hx (by decide) (by decide) rfl]
    refine caL_law_168 (n := 351) dL_law_348 (by first | exact ⟨rfl, rfl⟩ | assumption) (ac_L_refuses g (x / 3) G h hX (Nat.lt_of_le_of_lt (Nat.div_le_self _ _) hx) hE) rfl rfl (Nat.le_of_ble_eq_true rfl) rfl ?_
    rintro r h1 ⟨rfl, X1, f1⟩
    refine am_if_eq (tgt := 390) (n := 354) dL_law_351 (by decide) rfl (fun q_z => absurd q_z (by decide)) (fun _ => ?_)
    exact am_loc _ rfl (n354 G h1 ⟨X1, hq.fm f1, hE, hs⟩)
  · refine am_icmp_ne (tgt := 354) (n := 343) dL_law_340 (by decide) rfl (fun _ => ?_) (fun q_z => absurd q_z (fun e => z ((nI_eq (by omega) (by decide)).mp e)))
    exact am_loc _ rfl (n354 G h ⟨hX, hq, hE, hs⟩)
set_option maxRecDepth 100000 in
set_option maxHeartbeats 4000000 in
theorem law_turn (h42 : g.2.1 42 = 0) (hL : L ≤ 260) (ht : t < 40) {G : GS} {h : Hp} (K : KI G h) (next : ∀ (G' : GS) (h' : Hp), KI G' h' → AW g mmL_law (ZL g L xs (t + 1)) 96 (L6 (t + 1)) [] h') : AW g mmL_law (ZL g L xs t) 96 (L6 t) [] h := by
  have ht0 : t ≤ 40 := Nat.le_of_lt ht
  obtain ⟨hX, hq, hE, hs⟩ := K
  have c41 := isC_41
  refine am_iload (n := 98) dL_law_96 rfl rfl ?_
  refine am_bipush (n := 100) (v := 40) dL_law_98 rfl rfl ?_
  refine am_icmp_ge (tgt := 399) (n := 103) dL_law_100 (by decide) rfl (fun q_z => absurd q_z (nI_ge ht (by decide))) (fun _ => ?_)
  refine am_iload (n := 105) dL_law_103 rfl rfl ?_
  refine am_if_eq (tgt := 399) (n := 108) dL_law_105 (by decide) rfl (fun q_z => absurd q_z (by decide)) (fun _ => ?_)
  refine am_aload_n (n := 109) (i := 0) dL_law_108 rfl rfl rfl ?_
  refine am_iconst (n := 110) (v := 2) dL_law_109 rfl rfl ?_
  refine am_iload (n := 112) dL_law_110 rfl rfl ?_
  refine am_imul (n := 113) dL_law_112 rfl ?_
  rw [show (2 : Int32) * nI t = nI (2 * t) from pk_mul 2 t]
  refine caL_law_156 (n := 116) dL_law_113 ht0 (by omega) (by omega) (Nat.le_of_ble_eq_true rfl) rfl (fun x hx => ?_)
  refine am_istore (n := 118) dL_law_116 (Nat.le_of_ble_eq_true rfl) rfl rfl ?_
  refine am_aload_n (n := 119) (i := 0) dL_law_118 rfl rfl rfl ?_
  refine am_iconst (n := 120) (v := 2) dL_law_119 rfl rfl ?_
  refine am_iload (n := 122) dL_law_120 rfl rfl ?_
  refine am_imul (n := 123) dL_law_122 rfl ?_
  rw [show (2 : Int32) * nI t = nI (2 * t) from pk_mul 2 t]
  refine am_iconst (n := 124) (v := 1) dL_law_123 rfl rfl ?_
  refine am_iadd (n := 125) dL_law_124 rfl ?_
  rw [nI_1]
  refine caL_law_156 (n := 128) dL_law_125 ht0 (by omega) (by omega) (Nat.le_of_ble_eq_true rfl) rfl (fun y hy => ?_)
  have n328 := law_328 (L := L) (xs := xs) h42 ht hx hy next
  refine am_istore (n := 130) dL_law_128 (Nat.le_of_ble_eq_true rfl) rfl rfl ?_
  refine am_aload_n (n := 131) (i := 1) dL_law_130 rfl rfl rfl ?_
  refine caL_law_116 (n := 134) dL_law_131 (by first | exact ⟨rfl, rfl⟩ | assumption) (ac_L_seen g G h hX) rfl rfl (Nat.le_of_ble_eq_true rfl) rfl ?_
  rintro r h1 ⟨rfl, X1, f1⟩
  have q1 := hq.fm f1
  refine am_lstore (n := 136) dL_law_134 (Nat.le_of_ble_eq_true rfl) rfl rfl ?_
  refine am_aload_n (n := 137) (i := 1) dL_law_136 rfl rfl rfl ?_
  refine am_iconst (n := 138) (v := 5) dL_law_137 rfl rfl ?_
  have k1 := cx_count g 5 G h1 X1
  rw [ct_5] at k1
  refine caL_law_33 (n := 141) dL_law_138 (by first | exact ⟨rfl, rfl⟩ | assumption) k1 rfl rfl (Nat.le_of_ble_eq_true rfl) (by first | assumption | exact isC_of (by decide +kernel)) rfl ?_
  rintro r h2 ⟨rfl, X2, f2⟩
  have q2 := q1.fm f2
  refine am_istore (n := 143) dL_law_141 (Nat.le_of_ble_eq_true rfl) rfl rfl ?_
  refine am_aload_n (n := 144) (i := 1) dL_law_143 rfl rfl rfl ?_
  refine am_aload_n (n := 145) (i := 2) dL_law_144 rfl rfl rfl ?_
  refine am_aload_n (n := 146) (i := 3) dL_law_145 rfl rfl rfl ?_
  refine am_iload (n := 148) dL_law_146 rfl rfl ?_
  refine am_iload (n := 150) dL_law_148 rfl rfl ?_
  refine caL_law_160 (n := 153) dL_law_150 (by first | exact ⟨rfl, rfl⟩ | assumption) (ac_L_acts g x y G h2 X2 q2 hE hx hy) rfl rfl (Nat.le_of_ble_eq_true rfl) rfl ?_
  rintro r h3 ⟨rfl, G1, X3, q3, hA1, hA2, hE1⟩
  have hs1 : G1.2.2.1.2 = some S00 := by rw [hA1]; exact hs
  have h6 : G.2.1.length ≤ 6 := X2.2.2.1.2.1
  have h61 : G1.2.1.length ≤ 6 := X3.2.2.1.2.1
  refine am_if_eq (tgt := 171) (n := 156) dL_law_153 (by decide) rfl (fun q_z => absurd q_z (by decide)) (fun _ => ?_)
  refine am_aload_n (n := 157) (i := 1) dL_law_156 rfl rfl rfl ?_
  refine am_aload_n (n := 158) (i := 2) dL_law_157 rfl rfl rfl ?_
  refine am_aload_n (n := 159) (i := 3) dL_law_158 rfl rfl rfl ?_
  refine am_iconst (n := 160) (v := 0) dL_law_159 rfl rfl ?_
  refine am_iald (n := 161) dL_law_160 (by first | assumption | exact isC_of (by decide +kernel)) (by first | assumption | exact vp_in_nI (by omega) (by omega) | exact vp_in_iff.mpr (by decide)) rfl ?_
  rw [q3.z0]
  refine caL_law_164 (n := 164) dL_law_161 (by first | exact ⟨rfl, rfl⟩ | assumption) (ac_L_tells g G1 h3 X3 q3.1) rfl rfl (Nat.le_of_ble_eq_true rfl) rfl ?_
  rintro r h4 ⟨rfl, X4, f4⟩
  have q4 := q3.fm f4
  refine am_if_eq (tgt := 171) (n := 167) dL_law_164 (by decide) rfl (fun q_z => absurd q_z (by decide)) (fun _ => ?_)
  refine am_iconst (n := 168) (v := 1) dL_law_167 rfl rfl ?_
  refine am_goto (tgt := 172) dL_law_168 (by decide) ?_
  refine am_istore (n := 174) dL_law_172 (Nat.le_of_ble_eq_true rfl) rfl rfl ?_
  refine am_aload_n (n := 175) (i := 1) dL_law_174 rfl rfl rfl ?_
  refine am_iconst (n := 176) (v := 5) dL_law_175 rfl rfl ?_
  have k2 := cx_count g 5 G1 h4 X4
  rw [ct_5] at k2
  refine caL_law_33 (n := 179) dL_law_176 (by first | exact ⟨rfl, rfl⟩ | assumption) k2 rfl rfl (Nat.le_of_ble_eq_true rfl) (by first | assumption | exact isC_of (by decide +kernel)) rfl ?_
  rintro r h5 ⟨rfl, X5, f5⟩
  have q5 := q4.fm f5
  refine am_istore (n := 181) dL_law_179 (Nat.le_of_ble_eq_true rfl) rfl rfl ?_
  refine am_iload (n := 183) dL_law_181 rfl rfl ?_
  refine am_if_eq (tgt := 237) (n := 186) dL_law_183 (by decide) rfl (fun q_z => absurd q_z (by decide)) (fun _ => ?_)
  refine am_iload (n := 188) dL_law_186 rfl rfl ?_
  refine am_iload (n := 190) dL_law_188 rfl rfl ?_
  rcases Nat.lt_or_ge G.2.1.length 6 with hl | hl
  · rcases hA2 with ⟨a1, a2⟩ | a2
    · -- nothing was recorded
      refine am_icmp_eq (tgt := 202) (n := 193) dL_law_190 (by decide) rfl (fun _ => ?_) (fun q_z => absurd (by rw [a2]) q_z)
      refine am_iload (n := 204) dL_law_202 rfl rfl ?_
      refine am_bipush (n := 206) (v := 6) dL_law_204 rfl rfl ?_
      refine am_icmp_gt (tgt := 237) (n := 209) dL_law_206 (by decide) rfl (fun q_z => absurd q_z (nI_nlt h61 (by decide))) (fun _ => ?_)
      refine am_iload (n := 211) dL_law_209 rfl rfl ?_
      refine am_iload (n := 213) dL_law_211 rfl rfl ?_
      refine am_icmp_gt (tgt := 233) (n := 216) dL_law_213 (by decide) rfl (fun q_z => absurd q_z (nI_nlt (by rw [a2]; exact Nat.le_refl _) (by omega))) (fun _ => ?_)
      refine am_iload (n := 218) dL_law_216 rfl rfl ?_
      refine am_bipush (n := 220) (v := 6) dL_law_218 rfl rfl ?_
      refine am_icmp_eq (tgt := 233) (n := 223) dL_law_220 (by decide) rfl (fun q_z => absurd q_z (fun e => by have := (nI_eq (a := G.2.1.length) (b := 6) (by omega) (by decide)).mp e; omega)) (fun _ => ?_)
      refine am_aload_n (n := 224) (i := 1) dL_law_223 rfl rfl rfl ?_
      refine caL_law_116 (n := 227) dL_law_224 (by first | exact ⟨rfl, rfl⟩ | assumption) (ac_L_seen g G1 h5 X5) rfl rfl (Nat.le_of_ble_eq_true rfl) rfl ?_
      rintro r h6 ⟨rfl, X6, f6⟩
      refine am_lload (n := 229) dL_law_227 rfl rfl ?_
      refine am_lcmp (n := 230) dL_law_229 rfl ?_
      refine am_if_ne (tgt := 237) (n := 233) dL_law_230 (by decide) rfl (fun q_z => absurd (by rw [lg_cmp_eq, a1]) q_z) (fun _ => ?_)
      refine am_iconst (n := 234) (v := 1) dL_law_233 rfl rfl ?_
      refine am_goto (tgt := 238) dL_law_234 (by decide) ?_
      refine am_istore (n := 240) dL_law_238 (Nat.le_of_ble_eq_true rfl) rfl rfl ?_
      refine am_iload (n := 242) dL_law_240 rfl rfl ?_
      refine am_if_eq (tgt := 328) (n := 245) dL_law_242 (by decide) rfl (fun q_z => absurd q_z (by decide)) (fun _ => ?_)
      refine am_iload (n := 247) dL_law_245 rfl rfl ?_
      refine am_iload (n := 249) dL_law_247 rfl rfl ?_
      refine am_icmp_le (tgt := 328) (n := 252) dL_law_249 (by decide) rfl (fun _ => ?_) (fun q_z => absurd (nI_le (by rw [a2]; exact Nat.le_refl _) (by omega)) q_z)
      exact am_loc _ rfl (n328 G1 h6 ⟨X6, q5.fm f6, hE1, hs1⟩)
    · -- a state was recorded
      have hp : G1.2.1 = G.2.1 ++ [G.1] := a2.trans (pushP_lt hl)
      have hpl : G1.2.1.length = G.2.1.length + 1 := by rw [hp, List.length_append]; rfl
      rw [hpl]
      refine am_icmp_eq (tgt := 202) (n := 193) dL_law_190 (by decide) rfl (fun q_z => absurd q_z (fun e => by have := (nI_eq (a := G.2.1.length + 1) (b := G.2.1.length) (by omega) (by omega)).mp e; omega)) (fun _ => ?_)
      refine am_iload (n := 195) dL_law_193 rfl rfl ?_
      refine am_iload (n := 197) dL_law_195 rfl rfl ?_
      refine am_iconst (n := 198) (v := 1) dL_law_197 rfl rfl ?_
      refine am_iadd (n := 199) dL_law_198 rfl ?_
      rw [nI_1]
      refine am_icmp_ne (tgt := 237) (n := 202) dL_law_199 (by decide) rfl (fun q_z => absurd rfl q_z) (fun _ => ?_)
      refine am_iload (n := 204) dL_law_202 rfl rfl ?_
      refine am_bipush (n := 206) (v := 6) dL_law_204 rfl rfl ?_
      refine am_icmp_gt (tgt := 237) (n := 209) dL_law_206 (by decide) rfl (fun q_z => absurd q_z (show ¬ (6 : Int32) < nI (G.2.1.length + 1) from nI_nlt (a := 6) (by omega) (by decide))) (fun _ => ?_)
      refine am_iload (n := 211) dL_law_209 rfl rfl ?_
      refine am_iload (n := 213) dL_law_211 rfl rfl ?_
      refine am_icmp_gt (tgt := 233) (n := 216) dL_law_213 (by decide) rfl (fun _ => ?_) (fun q_z => absurd (nI_lt (Nat.lt_succ_self _) (by omega)) q_z)
      refine am_iconst (n := 234) (v := 1) dL_law_233 rfl rfl ?_
      refine am_goto (tgt := 238) dL_law_234 (by decide) ?_
      refine am_istore (n := 240) dL_law_238 (Nat.le_of_ble_eq_true rfl) rfl rfl ?_
      refine am_iload (n := 242) dL_law_240 rfl rfl ?_
      refine am_if_eq (tgt := 328) (n := 245) dL_law_242 (by decide) rfl (fun q_z => absurd q_z (by decide)) (fun _ => ?_)
      refine am_iload (n := 247) dL_law_245 rfl rfl ?_
      refine am_iload (n := 249) dL_law_247 rfl rfl ?_
      refine am_icmp_le (tgt := 328) (n := 252) dL_law_249 (by decide) rfl (fun q_z => absurd q_z (nI_ge (Nat.lt_succ_self _) (by omega))) (fun _ => ?_)
      refine am_aload_n (n := 253) (i := 1) dL_law_252 rfl rfl rfl ?_
      refine caL_law_116 (n := 256) dL_law_253 (by first | exact ⟨rfl, rfl⟩ | assumption) (ac_L_seen g G1 h5 X5) rfl rfl (Nat.le_of_ble_eq_true rfl) rfl ?_
      rintro r h6 ⟨rfl, X6, f6⟩
      have q6 := q5.fm f6
      refine am_lstore (n := 258) dL_law_256 (Nat.le_of_ble_eq_true rfl) rfl rfl ?_
      refine am_aload_n (n := 259) (i := 1) dL_law_258 rfl rfl rfl ?_
      refine am_iconst (n := 260) (v := 0) dL_law_259 rfl rfl ?_
      have k3 := cx_save g 0 G1 h6 X6
      rw [sv_0] at k3
      refine caL_law_102 (n := 263) dL_law_260 (by first | exact ⟨rfl, rfl⟩ | assumption) k3 rfl rfl (Nat.le_of_ble_eq_true rfl) (by first | assumption | exact isC_of (by decide +kernel)) rfl ?_
      rintro r h7 ⟨rfl, X7, f7⟩
      have q7 := q6.fm f7
      refine am_aload_n (n := 264) (i := 3) dL_law_263 rfl rfl rfl ?_
      refine am_iconst (n := 265) (v := 0) dL_law_264 rfl rfl ?_
      refine am_iald (n := 266) dL_law_265 (by first | assumption | exact isC_of (by decide +kernel)) (by first | assumption | exact vp_in_nI (by omega) (by omega) | exact vp_in_iff.mpr (by decide)) rfl ?_
      rw [q7.z0]
      refine am_icmp_ne (tgt := 325) (n := 269) dL_law_266 (by decide) rfl (fun q_z => absurd rfl q_z) (fun _ => ?_)
      refine am_aload_n (n := 270) (i := 1) dL_law_269 rfl rfl rfl ?_
      have k4 := cx_undo g (G1.1, G1.2.1, (some G1.1, G1.2.2.1.2), G1.2.2.2) h7 X7
      rw [un_at (G := (G1.1, G1.2.1, (some G1.1, G1.2.2.1.2), G1.2.2.2)) hp] at k4
      refine caL_law_153 (n := 273) dL_law_270 (by first | exact ⟨rfl, rfl⟩ | assumption) k4 rfl rfl (Nat.le_of_ble_eq_true rfl) (by first | assumption | exact isC_of (by decide +kernel)) rfl ?_
      rintro r h8 ⟨rfl, X8, f8⟩
      replace X8 : XI (G.1, G.2.1, (some G1.1, G1.2.2.1.2), G1.2.2.2) h8 := X8
      have q8 := q7.fm f8
      refine am_iload (n := 275) dL_law_273 rfl rfl ?_
      refine am_icmp_ne (tgt := 325) (n := 278) dL_law_275 (by decide) rfl (fun q_z => absurd rfl q_z) (fun _ => ?_)
      refine am_aload_n (n := 279) (i := 1) dL_law_278 rfl rfl rfl ?_
      refine caL_law_116 (n := 282) dL_law_279 (by first | exact ⟨rfl, rfl⟩ | assumption) (ac_L_seen g _ h8 X8) rfl rfl (Nat.le_of_ble_eq_true rfl) rfl ?_
      rintro r h9 ⟨rfl, X9, f9⟩
      have q9 := q8.fm f9
      refine am_lload (n := 284) dL_law_282 rfl rfl ?_
      refine am_lcmp (n := 285) dL_law_284 rfl ?_
      refine am_if_ne (tgt := 325) (n := 288) dL_law_285 (by decide) rfl (fun q_z => absurd (by rw [lg_cmp_eq]) q_z) (fun _ => ?_)
      refine am_aload_n (n := 289) (i := 1) dL_law_288 rfl rfl rfl ?_
      refine am_iconst (n := 290) (v := 0) dL_law_289 rfl rfl ?_
      have k5 := cx_restore g 0 (G.1, G.2.1, (some G1.1, G1.2.2.1.2), G1.2.2.2) h9 X9
      rw [rs_0, rs_s (S := G1.1) rfl] at k5
      refine caL_law_105 (n := 293) dL_law_290 (by first | exact ⟨rfl, rfl⟩ | assumption) k5 rfl rfl (Nat.le_of_ble_eq_true rfl) (by first | assumption | exact isC_of (by decide +kernel)) rfl ?_
      rintro r h10 ⟨rfl, X10, f10⟩
      replace X10 : XI (G1.1, pushP G.2.1 G.1, (some G1.1, G1.2.2.1.2), G1.2.2.2) h10 := X10
      have q10 := q9.fm f10
      refine am_aload_n (n := 294) (i := 3) dL_law_293 rfl rfl rfl ?_
      refine am_iconst (n := 295) (v := 0) dL_law_294 rfl rfl ?_
      refine am_iald (n := 296) dL_law_295 (by first | assumption | exact isC_of (by decide +kernel)) (by first | assumption | exact vp_in_nI (by omega) (by omega) | exact vp_in_iff.mpr (by decide)) rfl ?_
      rw [q10.z0]
      refine am_icmp_ne (tgt := 325) (n := 299) dL_law_296 (by decide) rfl (fun q_z => absurd rfl q_z) (fun _ => ?_)
      refine am_aload_n (n := 300) (i := 1) dL_law_299 rfl rfl rfl ?_
      refine caL_law_116 (n := 303) dL_law_300 (by first | exact ⟨rfl, rfl⟩ | assumption) (ac_L_seen g _ h10 X10) rfl rfl (Nat.le_of_ble_eq_true rfl) rfl ?_
      rintro r h11 ⟨rfl, X11, f11⟩
      have q11 := q10.fm f11
      refine am_lload (n := 305) dL_law_303 rfl rfl ?_
      refine am_lcmp (n := 306) dL_law_305 rfl ?_
      refine am_if_ne (tgt := 325) (n := 309) dL_law_306 (by decide) rfl (fun q_z => absurd (by rw [lg_cmp_eq]) q_z) (fun _ => ?_)
      refine am_aload_n (n := 310) (i := 1) dL_law_309 rfl rfl rfl ?_
      refine am_iconst (n := 311) (v := 5) dL_law_310 rfl rfl ?_
      have k6 := cx_count g 5 _ h11 X11
      rw [ct_5] at k6
      refine caL_law_33 (n := 314) dL_law_311 (by first | exact ⟨rfl, rfl⟩ | assumption) k6 rfl rfl (Nat.le_of_ble_eq_true rfl) (by first | assumption | exact isC_of (by decide +kernel)) rfl ?_
      rintro r h12 ⟨rfl, X12, f12⟩
      have q12 := q11.fm f12
      refine am_iload (n := 316) dL_law_314 rfl rfl ?_
      refine am_iconst (n := 317) (v := 1) dL_law_316 rfl rfl ?_
      refine am_iadd (n := 318) dL_law_317 rfl ?_
      rw [nI_1]
      refine am_icmp_ne (tgt := 325) (n := 321) dL_law_318 (by decide) rfl (fun q_z => absurd (by show nI (pushP G.2.1 G.1).length = _; rw [← a2, hpl]) q_z) (fun _ => ?_)
      refine am_iconst (n := 322) (v := 1) dL_law_321 rfl rfl ?_
      refine am_goto (tgt := 326) dL_law_322 (by decide) ?_
      refine am_istore (n := 328) dL_law_326 (Nat.le_of_ble_eq_true rfl) rfl rfl ?_
      exact am_loc _ rfl (n328 _ h12 ⟨X12, q12.of rfl rfl, hE1, hs1⟩)
  · -- the history is full
    have e6 : G.2.1.length = 6 := by omega
    have e61 : G1.2.1.length = 6 := by
      rcases hA2 with ⟨a1, a2⟩ | a2
      · rw [a2]
        exact e6
      · rw [a2, pushP_ge (by omega), List.length_append, List.length_tail, e6]
        rfl
    rw [e6, e61]
    refine am_icmp_eq (tgt := 202) (n := 193) dL_law_190 (by decide) rfl (fun _ => ?_) (fun q_z => absurd rfl q_z)
    refine am_iload (n := 204) dL_law_202 rfl rfl ?_
    refine am_bipush (n := 206) (v := 6) dL_law_204 rfl rfl ?_
    refine am_icmp_gt (tgt := 237) (n := 209) dL_law_206 (by decide) rfl (fun q_z => absurd q_z (show ¬ (6 : Int32) < nI 6 by decide)) (fun _ => ?_)
    refine am_iload (n := 211) dL_law_209 rfl rfl ?_
    refine am_iload (n := 213) dL_law_211 rfl rfl ?_
    refine am_icmp_gt (tgt := 233) (n := 216) dL_law_213 (by decide) rfl (fun q_z => absurd q_z (show ¬ nI 6 < nI 6 by decide)) (fun _ => ?_)
    refine am_iload (n := 218) dL_law_216 rfl rfl ?_
    refine am_bipush (n := 220) (v := 6) dL_law_218 rfl rfl ?_
    refine am_icmp_eq (tgt := 233) (n := 223) dL_law_220 (by decide) rfl (fun _ => ?_) (fun q_z => absurd rfl q_z)
    refine am_iconst (n := 234) (v := 1) dL_law_233 rfl rfl ?_
    refine am_goto (tgt := 238) dL_law_234 (by decide) ?_
    refine am_istore (n := 240) dL_law_238 (Nat.le_of_ble_eq_true rfl) rfl rfl ?_
    refine am_iload (n := 242) dL_law_240 rfl rfl ?_
    refine am_if_eq (tgt := 328) (n := 245) dL_law_242 (by decide) rfl (fun q_z => absurd q_z (by decide)) (fun _ => ?_)
    refine am_iload (n := 247) dL_law_245 rfl rfl ?_
    refine am_iload (n := 249) dL_law_247 rfl rfl ?_
    refine am_icmp_le (tgt := 328) (n := 252) dL_law_249 (by decide) rfl (fun _ => ?_) (fun q_z => absurd (show nI 6 ≤ nI 6 from Int32.le_refl _) q_z)
    exact am_loc _ rfl (n328 G1 h5 ⟨X5, q5, hE1, hs1⟩)
set_option maxRecDepth 100000 in
set_option maxHeartbeats 4000000 in
theorem law_last {G : GS} {h : Hp} (K : KI G h) : AW g mmL_law (ZL g L xs 40) 96 (L6 40) [] h := by
  have ht0 : 40 ≤ 40 := Nat.le_refl _
  obtain ⟨hX, hq, hE, hs⟩ := K
  have c41 := isC_41
  have h6 : G.2.1.length ≤ 6 := hX.2.2.1.2.1
  refine am_iload (n := 98) dL_law_96 rfl rfl ?_
  refine am_bipush (n := 100) (v := 40) dL_law_98 rfl rfl ?_
  refine am_icmp_ge (tgt := 399) (n := 103) dL_law_100 (by decide) rfl (fun _ => ?_) (fun q_z => absurd (by decide) q_z)
  refine am_aload_n (n := 400) (i := 1) dL_law_399 rfl rfl rfl ?_
  refine am_iconst (n := 401) (v := 5) dL_law_400 rfl rfl ?_
  have k1 := cx_count g 5 G h hX
  rw [ct_5] at k1
  refine caL_law_33 (n := 404) dL_law_401 (by first | exact ⟨rfl, rfl⟩ | assumption) k1 rfl rfl (Nat.le_of_ble_eq_true rfl) (by first | assumption | exact isC_of (by decide +kernel)) rfl ?_
  rintro r h1 ⟨rfl, X1, f1⟩
  have q1 := hq.fm f1
  refine am_istore (n := 406) dL_law_404 (Nat.le_of_ble_eq_true rfl) rfl rfl ?_
  refine am_iload (n := 408) dL_law_406 rfl rfl ?_
  refine am_if_eq (tgt := 470) (n := 411) dL_law_408 (by decide) rfl (fun q_z => absurd q_z (by decide)) (fun _ => ?_)
  refine am_aload_n (n := 412) (i := 1) dL_law_411 rfl rfl rfl ?_
  refine am_iconst (n := 413) (v := 1) dL_law_412 rfl rfl ?_
  have k2 := cx_restore g 1 G h1 X1
  rw [rs_1, rs_s hs] at k2
  refine caL_law_105 (n := 416) dL_law_413 (by first | exact ⟨rfl, rfl⟩ | assumption) k2 rfl rfl (Nat.le_of_ble_eq_true rfl) (by first | assumption | exact isC_of (by decide +kernel)) rfl ?_
  rintro r h2 ⟨rfl, X2, f2⟩
  have q2 := q1.fm f2
  refine am_if_ne (tgt := 470) (n := 419) dL_law_416 (by decide) rfl (fun q_z => absurd rfl q_z) (fun _ => ?_)
  refine am_aload_n (n := 420) (i := 1) dL_law_419 rfl rfl rfl ?_
  refine am_iconst (n := 421) (v := 1) dL_law_420 rfl rfl ?_
  have k3 := cx_count g 1 _ h2 X2
  rw [ct_1] at k3
  refine caL_law_33 (n := 424) dL_law_421 (by first | exact ⟨rfl, rfl⟩ | assumption) k3 rfl rfl (Nat.le_of_ble_eq_true rfl) (by first | assumption | exact isC_of (by decide +kernel)) rfl ?_
  rintro r h3 ⟨rfl, X3, f3⟩
  have q3 := q2.fm f3
  refine am_if_ne (tgt := 470) (n := 427) dL_law_424 (by decide) rfl (fun q_z => absurd rfl q_z) (fun _ => ?_)
  refine am_aload_n (n := 428) (i := 1) dL_law_427 rfl rfl rfl ?_
  refine am_iconst (n := 429) (v := 0) dL_law_428 rfl rfl ?_
  have k4 := cx_count g 0 _ h3 X3
  rw [ct_0] at k4
  refine caL_law_33 (n := 432) dL_law_429 (by first | exact ⟨rfl, rfl⟩ | assumption) k4 rfl rfl (Nat.le_of_ble_eq_true rfl) (by first | assumption | exact isC_of (by decide +kernel)) rfl ?_
  rintro r h4 ⟨rfl, X4, f4⟩
  have q4 := q3.fm f4
  refine am_if_ne (tgt := 470) (n := 435) dL_law_432 (by decide) rfl (fun q_z => absurd rfl q_z) (fun _ => ?_)
  refine am_aload_n (n := 436) (i := 1) dL_law_435 rfl rfl rfl ?_
  obtain ⟨past, hp, hpl⟩ : ∃ past : List SV, pushP G.2.1 G.1 = past ++ [G.1] ∧ past.length = (if G.2.1.length < 6 then G.2.1.length else 5) := by
    by_cases z : G.2.1.length < 6
    · exact ⟨_, pushP_lt z, by rw [if_pos z]⟩
    · exact ⟨_, pushP_ge z, by rw [if_neg z, List.length_tail]; omega⟩
  have k5 := cx_undo g _ h4 X4
  rw [un_at (show (recG G S00).2.1 = past ++ [G.1] from hp)] at k5
  refine caL_law_153 (n := 439) dL_law_436 (by first | exact ⟨rfl, rfl⟩ | assumption) k5 rfl rfl (Nat.le_of_ble_eq_true rfl) (by first | assumption | exact isC_of (by decide +kernel)) rfl ?_
  rintro r h5 ⟨rfl, X5, f5⟩
  have q5 := q4.fm f5
  have t452 : ∀ l : Lo, lget l 1 = some (.ref 0) → lget l 3 = some (.ref 41) → AW g mmL_law (ZL g L xs 40) 452 l [.int (nI past.length), .int (nI past.length)] h5 := by
    intro l l1 l3
    refine am_icmp_ne (tgt := 470) (n := 455) dL_law_452 (by decide) rfl (fun q_z => absurd rfl q_z) (fun _ => ?_)
    refine am_aload_n (n := 456) (i := 1) dL_law_455 rfl l1 rfl ?_
    refine am_iconst (n := 457) (v := 0) dL_law_456 rfl rfl ?_
    have k6 := cx_count g 0 _ h5 X5
    rw [ct_0] at k6
    refine caL_law_33 (n := 460) dL_law_457 (by first | exact ⟨rfl, rfl⟩ | assumption) k6 rfl rfl (Nat.le_of_ble_eq_true rfl) (by first | assumption | exact isC_of (by decide +kernel)) rfl ?_
    rintro r h6 ⟨rfl, X6, f6⟩
    refine am_aload_n (n := 461) (i := 3) dL_law_460 rfl l3 rfl ?_
    refine am_iconst (n := 462) (v := 0) dL_law_461 rfl rfl ?_
    refine am_iald (n := 463) dL_law_462 (by first | assumption | exact isC_of (by decide +kernel)) (by first | assumption | exact vp_in_nI (by omega) (by omega) | exact vp_in_iff.mpr (by decide)) rfl ?_
    rw [(q5.fm f6).z0]
    refine am_icmp_ne (tgt := 470) (n := 466) dL_law_463 (by decide) rfl (fun q_z => absurd rfl q_z) (fun _ => ?_)
    refine am_iconst (n := 467) (v := 1) dL_law_466 rfl rfl ?_
    refine am_goto (tgt := 471) dL_law_467 (by decide) ?_
    exact am_end ht0 dL_law_471
  refine am_iload (n := 441) dL_law_439 rfl rfl ?_
  refine am_bipush (n := 443) (v := 6) dL_law_441 rfl rfl ?_
  by_cases z : G.2.1.length < 6
  · rw [if_pos z] at hpl
    refine am_icmp_ge (tgt := 451) (n := 446) dL_law_443 (by decide) rfl (fun q_z => absurd q_z (nI_ge z (by decide))) (fun _ => ?_)
    refine am_iload (n := 448) dL_law_446 rfl rfl ?_
    refine am_goto (tgt := 452) dL_law_448 (by decide) ?_
    rw [← hpl]
    exact t452 _ rfl rfl
  · rw [if_neg z] at hpl
    refine am_icmp_ge (tgt := 451) (n := 446) dL_law_443 (by decide) rfl (fun _ => ?_) (fun q_z => absurd (nI_le (Nat.not_lt.mp z) (by omega)) q_z)
    refine am_iconst (n := 452) (v := 5) dL_law_451 rfl rfl ?_
    rw [show (5 : Int32) = nI past.length by rw [hpl]; rfl]
    exact t452 _ rfl rfl
set_option maxRecDepth 100000 in
theorem law_loop (h42 : g.2.1 42 = 0) (hL : L ≤ 260) {G : GS} {h : Hp} (K : KI G h) : AW g mmL_law (ZL g L xs 0) 96 (L6 0) [] h := by
  refine loop_up (Wp := fun t => ∀ (G : GS) (h : Hp), KI G h → AW g mmL_law (ZL g L xs t) 96 (L6 t) [] h) 40 (fun G h K => law_last K) (fun t ht next G h K => law_turn h42 hL ht K next) 0 (Nat.zero_le _) G h K
end LAW
