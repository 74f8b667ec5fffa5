/-! PADS THAT TELL NO NAME -/
theorem fa_first_is {p : Nat → Bool} {n k : Nat} (hk : k < n) (h1 : p k = true) (h2 : ∀ j, j < k → p j = false) : fa_first p n = k := by
  rcases Nat.lt_trichotomy (fa_first p n) k with z | z | z
  · have := fa_first_yes p n (by omega)
    rw [h2 _ z] at this
    cases this
  · exact z
  · have := fa_first_no p n k z
    rw [h1] at this
    cases this
theorem flt_at {p : List Nat} {k : Nat} (hk : k < p.length) (h1 : fbad p k = true) (h2 : ∀ j, j < k → fbad p j = false) : flt p = nI k := by
  have e := fa_first_is (p := fbad p) hk h1 h2
  unfold flt
  rw [if_neg (by omega), e, if_pos hk]
theorem nI_m6 {n : Nat} (h : n < 2 ^ 31) : ¬ nI n = -6 := fun e => by
  have := congrArg Int32.toInt e
  rw [nI_toInt h] at this
  have e2 : (-6 : Int32).toInt = -6 := by decide
  omega
theorem wp_p (G : GS) (p : List Nat) : sp_wipe (padG G p) = (nI p.length, padG G []) := rfl
theorem fl_p (G : GS) (p : List Nat) : sp_fault (padG G p) = (flt p, padG G p) := rfl
theorem ct4_p (G : GS) (p : List Nat) : sp_count 4 (padG G p) = (nI p.length, padG G p) := rfl
theorem add_p {G : GS} {p : List Nat} (h : ¬ flt p = -6) : sp_add (padG G p) = (-3, padG G p) := by
  unfold sp_add
  exact if_pos h
theorem find_p {G : GS} {p : List Nat} {x r w : Int32} (h : ¬ flt p = -6) : sp_find x r w (padG G p) = (-3, padG G p) := by
  unfold sp_find
  exact if_neg h
theorem sp_putc {n m : Nat} {G : GS} {p q : List Nat} (h1 : cin n = m) (h0 : 0 < m) (h2 : p.length + m ≤ 80) (h3 : bD n m = q) : sp_put n (padG G p) = (nI (p.length + m), padG G (p ++ q)) := by
  subst h1
  subst h3
  unfold sp_put
  rw [if_neg (by omega), if_neg (by show ¬ 80 < p.length + cin n; omega)]
  rfl
theorem sp_putL {n m : Nat} {G : GS} {p : List Nat} (h1 : cin n = m) (h0 : 0 < m) (h2 : 80 < p.length + m) : sp_put n (padG G p) = (-4, padG G p) := by
  subst h1
  unfold sp_put
  rw [if_neg (by omega)]
  exact if_pos h2
/-- the letters ahead of the one that is none -/
def fpK (x k : Nat) : List Nat := (List.range k).map (fun i => 97 + x / 2 ^ i % 26)
theorem fpK_len (x k : Nat) : (fpK x k).length = k := by simp [fpK]
theorem fpK_s (x k : Nat) : fpK x (k + 1) = fpK x k ++ [97 + x / 2 ^ k % 26] := by simp [fpK, List.range_succ]
theorem fpK_flt {x a o : Nat} (ha : a < 10) (ho : o < 97 ∨ 122 < o) : flt (fpK x a ++ [o, 97]) = nI a := by
  refine flt_at (by simp [fpK_len]) ?_ (fun j hj => ?_)
  · have e : (fpK x a ++ [o, 97]).getD a 0 = o := by
      rw [List.getD, List.getElem?_append_right (by rw [fpK_len]; exact Nat.le_refl _), fpK_len, Nat.sub_self]
      rfl
    unfold fbad
    rw [e]
    rcases ho with z | z
    · rw [decide_eq_false (show ¬ 97 ≤ o by omega), Bool.false_and, Bool.not_false, Bool.or_true]
    · rw [decide_eq_false (show ¬ o ≤ 122 by omega), Bool.and_false, Bool.not_false, Bool.or_true]
  · have e : (fpK x a ++ [o, 97]).getD j 0 = 97 + x / 2 ^ j % 26 := by
      rw [List.getD, List.getElem?_append_left (by rw [fpK_len]; exact hj)]
      simp [fpK, hj]
    have hm : x / 2 ^ j % 26 < 26 := Nat.mod_lt _ (by decide)
    unfold fbad
    rw [e, decide_eq_true (show 97 ≤ 97 + x / 2 ^ j % 26 by omega), decide_eq_true (show 97 + x / 2 ^ j % 26 ≤ 122 by omega)]
    have : Nat.beq j 10 = false := by
      cases hb : Nat.beq j 10 with
      | false => rfl
      | true =>
        have := Nat.eq_of_beq_eq_true hb
        omega
    rw [this]
    rfl
theorem cin_2 {o : Nat} (h1 : 33 ≤ o) (h2 : o ≤ 126) : cin (o * 256 + 97) = 2 ∧ bD (o * 256 + 97) 2 = [o, 97] := by
  constructor
  · unfold cin
    rw [cinF, if_neg (by omega), if_pos (by omega), cinF, if_neg (by omega), if_pos (by omega), show (o * 256 + 97) / 256 / 256 = 0 by omega]
    rfl
  · show [(o * 256 + 97) / 256 ^ 1 % 256, (o * 256 + 97) / 256 ^ 0 % 256] = _
    rw [Nat.pow_one, Nat.pow_zero, Nat.div_one, show (o * 256 + 97) / 256 % 256 = o by omega, show (o * 256 + 97) % 256 = 97 by omega]
def q8 : List Nat := [97, 98, 97, 98, 97, 98, 97, 98]
def q10 : List Nat := q8 ++ [97, 98]
def q11 : List Nat := q10 ++ [97]
def q12 : List Nat := q11 ++ [123]
def qk : Nat → List Nat
  | 0 => q12
  | k + 1 => qk k ++ [97, 98, 97, 98]
theorem qk_len : ∀ k, (qk k).length = 12 + 4 * k
  | 0 => rfl
  | k + 1 => by
    rw [qk, List.length_append, qk_len k]
    show 12 + 4 * k + 4 = _
    omega
theorem pt_8 (G : GS) : sp_put 7017278244565180770 (padG G []) = (8, padG G q8) := sp_putc (p := []) (m := 8) (q := q8) (by decide +kernel) (by decide) (by decide) (by decide +kernel)
theorem pt_10 (G : GS) : sp_put 24930 (padG G q8) = (10, padG G q10) := sp_putc (m := 2) (by decide +kernel) (by decide) (by decide) (by decide +kernel)
theorem pt_11 (G : GS) : sp_put 97 (padG G q10) = (11, padG G q11) := sp_putc (m := 1) (by decide +kernel) (by decide) (by decide) (by decide +kernel)
theorem pt_12 (G : GS) : sp_put 123 (padG G q11) = (12, padG G q12) := sp_putc (m := 1) (by decide +kernel) (by decide) (by decide) (by decide +kernel)
theorem pt_k (G : GS) {k : Nat} (hk : k < 17) : sp_put 1633837410 (padG G (qk k)) = (nI (16 + 4 * k), padG G (qk (k + 1))) := by
  have := sp_putc (G := G) (p := qk k) (n := 1633837410) (m := 4) (q := [97, 98, 97, 98]) (by decide +kernel) (by decide) (by rw [qk_len]; omega) (by decide +kernel)
  rw [qk_len, show 12 + 4 * k + 4 = 16 + 4 * k by omega] at this
  exact this
theorem fl_8 : flt q8 = -6 := by decide +kernel
theorem fl_10 : flt q10 = -6 := by decide +kernel
theorem fl_11 : flt q11 = 10 := by decide +kernel
theorem fl_12 : flt q12 = 10 := by decide +kernel
theorem fl_80 : flt (qk 17) = 10 := by decide +kernel
theorem fl_nil : flt [] = 0 := rfl
set_option maxRecDepth 100000 in
set_option maxHeartbeats 2000000 in
theorem ac_L_faults (g : Gx) (x : Nat) (G : GS) (h : Hp) (hX : XI G h) (hx : x < 2 ^ 31) : AC g yL_faults wsL_faults rmL_faults [.ref 0, .int (nI x)] h (fun v h' => v = some (.int 1) ∧ XI (padG G []) h' ∧ FM h h') := by
  have hv := hX.2.2.2.2.2.1
  have ha : x % 10 < 10 := Nat.mod_lt _ (by decide)
  generalize hP : (fun (v : Option Value) (h' : Hp) => v = some (.int 1) ∧ XI (padG G []) h' ∧ FM h h') = P
  refine AC.of (cc := cL_faults) (maxL := 6) (ret := (some .boolean)) (by decide +kernel) rfl (Nat.le_of_ble_eq_true rfl) ?_
  show AW g mmL_faults _ 0 [(0, some (.ref 0)), (1, some (.int (nI x)))] [] _
  -- behind the first part: pads that are the same for every number
  have t187 : ∀ (h1 : Hp), XI (padG G []) h1 → FM h h1 → AW g mmL_faults (ZP g P) 187 [(0, some (.ref 0)), (3, some (.int 1))] [] h1 := by
    intro h1 X1 f1
    refine am_iload_n (n := 188) (i := 3) dL_faults_187 rfl rfl rfl ?_
    refine am_if_eq (tgt := 288) (n := 191) dL_faults_188 (by decide) rfl (fun q_z => absurd q_z (by decide)) (fun _ => ?_)
    refine am_aload_n (n := 192) (i := 0) dL_faults_191 rfl rfl rfl ?_
    refine am_ldc2 (n := 195) (v := 7017278244565180770) dL_faults_192 (by decide +kernel) rfl ?_
    have k1 := cx_put g 7017278244565180770 _ h1 X1 (by decide)
    rw [pt_8] at k1
    refine caL_faults_30 (n := 198) dL_faults_195 (by first | exact ⟨rfl, rfl⟩ | assumption) k1 rfl rfl (Nat.le_of_ble_eq_true rfl) (by first | assumption | exact isC_of (by decide +kernel)) rfl ?_
    rintro r h2 ⟨rfl, X2, f2⟩
    refine am_bipush (n := 200) (v := 8) dL_faults_198 rfl rfl ?_
    refine am_icmp_ne (tgt := 288) (n := 203) dL_faults_200 (by decide) rfl (fun q_z => absurd rfl q_z) (fun _ => ?_)
    refine am_aload_n (n := 204) (i := 0) dL_faults_203 rfl rfl rfl ?_
    have k2 := cx_fault g _ h2 X2
    rw [fl_p, fl_8] at k2
    refine caL_faults_23 (n := 207) dL_faults_204 (by first | exact ⟨rfl, rfl⟩ | assumption) k2 rfl rfl (Nat.le_of_ble_eq_true rfl) (by first | assumption | exact isC_of (by decide +kernel)) rfl ?_
    rintro r h3 ⟨rfl, X3, f3⟩
    refine am_bipush (n := 209) (v := (-6)) dL_faults_207 rfl rfl ?_
    refine am_icmp_ne (tgt := 288) (n := 212) dL_faults_209 (by decide) rfl (fun q_z => absurd rfl q_z) (fun _ => ?_)
    refine am_aload_n (n := 213) (i := 0) dL_faults_212 rfl rfl rfl ?_
    refine am_ldc2 (n := 216) (v := 24930) dL_faults_213 (by decide +kernel) rfl ?_
    have k3 := cx_put g 24930 _ h3 X3 (by decide)
    rw [pt_10] at k3
    refine caL_faults_30 (n := 219) dL_faults_216 (by first | exact ⟨rfl, rfl⟩ | assumption) k3 rfl rfl (Nat.le_of_ble_eq_true rfl) (by first | assumption | exact isC_of (by decide +kernel)) rfl ?_
    rintro r h4 ⟨rfl, X4, f4⟩
    refine am_bipush (n := 221) (v := 10) dL_faults_219 rfl rfl ?_
    refine am_icmp_ne (tgt := 288) (n := 224) dL_faults_221 (by decide) rfl (fun q_z => absurd rfl q_z) (fun _ => ?_)
    refine am_aload_n (n := 225) (i := 0) dL_faults_224 rfl rfl rfl ?_
    have k4 := cx_fault g _ h4 X4
    rw [fl_p, fl_10] at k4
    refine caL_faults_23 (n := 228) dL_faults_225 (by first | exact ⟨rfl, rfl⟩ | assumption) k4 rfl rfl (Nat.le_of_ble_eq_true rfl) (by first | assumption | exact isC_of (by decide +kernel)) rfl ?_
    rintro r h5 ⟨rfl, X5, f5⟩
    refine am_bipush (n := 230) (v := (-6)) dL_faults_228 rfl rfl ?_
    refine am_icmp_ne (tgt := 288) (n := 233) dL_faults_230 (by decide) rfl (fun q_z => absurd rfl q_z) (fun _ => ?_)
    refine am_aload_n (n := 234) (i := 0) dL_faults_233 rfl rfl rfl ?_
    refine am_ldc2 (n := 237) (v := 97) dL_faults_234 (by decide +kernel) rfl ?_
    have k5 := cx_put g 97 _ h5 X5 (by decide)
    rw [pt_11] at k5
    refine caL_faults_30 (n := 240) dL_faults_237 (by first | exact ⟨rfl, rfl⟩ | assumption) k5 rfl rfl (Nat.le_of_ble_eq_true rfl) (by first | assumption | exact isC_of (by decide +kernel)) rfl ?_
    rintro r h6 ⟨rfl, X6, f6⟩
    refine am_bipush (n := 242) (v := 11) dL_faults_240 rfl rfl ?_
    refine am_icmp_ne (tgt := 288) (n := 245) dL_faults_242 (by decide) rfl (fun q_z => absurd rfl q_z) (fun _ => ?_)
    refine am_aload_n (n := 246) (i := 0) dL_faults_245 rfl rfl rfl ?_
    have k6 := cx_fault g _ h6 X6
    rw [fl_p, fl_11] at k6
    refine caL_faults_23 (n := 249) dL_faults_246 (by first | exact ⟨rfl, rfl⟩ | assumption) k6 rfl rfl (Nat.le_of_ble_eq_true rfl) (by first | assumption | exact isC_of (by decide +kernel)) rfl ?_
    rintro r h7 ⟨rfl, X7, f7⟩
    refine am_bipush (n := 251) (v := 10) dL_faults_249 rfl rfl ?_
    refine am_icmp_ne (tgt := 288) (n := 254) dL_faults_251 (by decide) rfl (fun q_z => absurd rfl q_z) (fun _ => ?_)
    refine am_aload_n (n := 255) (i := 0) dL_faults_254 rfl rfl rfl ?_
    refine am_ldc2 (n := 258) (v := 123) dL_faults_255 (by decide +kernel) rfl ?_
    have k7 := cx_put g 123 _ h7 X7 (by decide)
    rw [pt_12] at k7
    refine caL_faults_30 (n := 261) dL_faults_258 (by first | exact ⟨rfl, rfl⟩ | assumption) k7 rfl rfl (Nat.le_of_ble_eq_true rfl) (by first | assumption | exact isC_of (by decide +kernel)) rfl ?_
    rintro r h8 ⟨rfl, X8, f8⟩
    refine am_bipush (n := 263) (v := 12) dL_faults_261 rfl rfl ?_
    refine am_icmp_ne (tgt := 288) (n := 266) dL_faults_263 (by decide) rfl (fun q_z => absurd rfl q_z) (fun _ => ?_)
    refine am_aload_n (n := 267) (i := 0) dL_faults_266 rfl rfl rfl ?_
    have k8 := cx_fault g _ h8 X8
    rw [fl_p, fl_12] at k8
    refine caL_faults_23 (n := 270) dL_faults_267 (by first | exact ⟨rfl, rfl⟩ | assumption) k8 rfl rfl (Nat.le_of_ble_eq_true rfl) (by first | assumption | exact isC_of (by decide +kernel)) rfl ?_
    rintro r h9 ⟨rfl, X9, f9⟩
    refine am_bipush (n := 272) (v := 10) dL_faults_270 rfl rfl ?_
    refine am_icmp_ne (tgt := 288) (n := 275) dL_faults_272 (by decide) rfl (fun q_z => absurd rfl q_z) (fun _ => ?_)
    refine am_aload_n (n := 276) (i := 0) dL_faults_275 rfl rfl rfl ?_
    have k9 := cx_add g _ h9 X9
    rw [add_p (by rw [fl_12]; decide)] at k9
    refine caL_faults_124 (n := 279) dL_faults_276 (by first | exact ⟨rfl, rfl⟩ | assumption) k9 rfl rfl (Nat.le_of_ble_eq_true rfl) (by first | assumption | exact isC_of (by decide +kernel)) rfl ?_
    rintro r h10 ⟨rfl, X10, f10⟩
    refine am_bipush (n := 281) (v := (-3)) dL_faults_279 rfl rfl ?_
    refine am_icmp_ne (tgt := 288) (n := 284) dL_faults_281 (by decide) rfl (fun q_z => absurd rfl q_z) (fun _ => ?_)
    refine am_iconst (n := 285) (v := 1) dL_faults_284 rfl rfl ?_
    refine am_goto (tgt := 289) dL_faults_285 (by decide) ?_
    refine am_istore_n (n := 290) (i := 3) dL_faults_289 rfl (Nat.le_of_ble_eq_true rfl) rfl rfl ?_
    refine am_iconst (n := 291) (v := 0) dL_faults_290 rfl rfl ?_
    refine am_istore (n := 293) dL_faults_291 (Nat.le_of_ble_eq_true rfl) rfl rfl ?_
    have fA : FM h h10 := (((((((((f1.tr f2).tr f3).tr f4).tr f5).tr f6).tr f7).tr f8).tr f9).tr f10)
    refine am_loc [(0, some (.ref 0)), (3, some (.int 1)), (5, some (.int (nI 0)))] rfl ?_
    refine loop_up (Wp := fun k => ∀ h1 : Hp, XI (padG G (qk k)) h1 → FM h h1 → AW g mmL_faults (ZP g P) 293 [(0, some (.ref 0)), (3, some (.int 1)), (5, some (.int (nI k)))] [] h1) 17 ?_ ?_ 0 (Nat.zero_le _) h10 X10 fA
    · intro h1 X1 f1
      refine am_iload (n := 295) dL_faults_293 rfl rfl ?_
      refine am_bipush (n := 297) (v := 17) dL_faults_295 rfl rfl ?_
      refine am_icmp_ge (tgt := 333) (n := 300) dL_faults_297 (by decide) rfl (fun _ => ?_) (fun q_z => absurd (by decide) q_z)
      refine am_iload_n (n := 334) (i := 3) dL_faults_333 rfl rfl rfl ?_
      refine am_if_eq (tgt := 400) (n := 337) dL_faults_334 (by decide) rfl (fun q_z => absurd q_z (by decide)) (fun _ => ?_)
      refine am_aload_n (n := 338) (i := 0) dL_faults_337 rfl rfl rfl ?_
      refine am_iconst (n := 339) (v := 4) dL_faults_338 rfl rfl ?_
      have k1 := cx_count g 4 _ h1 X1
      rw [ct4_p, qk_len] at k1
      refine caL_faults_33 (n := 342) dL_faults_339 (by first | exact ⟨rfl, rfl⟩ | assumption) k1 rfl rfl (Nat.le_of_ble_eq_true rfl) (by first | assumption | exact isC_of (by decide +kernel)) rfl ?_
      rintro r h2 ⟨rfl, X2, f2⟩
      refine am_bipush (n := 344) (v := 80) dL_faults_342 rfl rfl ?_
      refine am_icmp_ne (tgt := 400) (n := 347) dL_faults_344 (by decide) rfl (fun q_z => absurd rfl q_z) (fun _ => ?_)
      refine am_aload_n (n := 348) (i := 0) dL_faults_347 rfl rfl rfl ?_
      refine am_ldc2 (n := 351) (v := 97) dL_faults_348 (by decide +kernel) rfl ?_
      have k2 := cx_put g 97 _ h2 X2 (by decide)
      rw [sp_putL (m := 1) (by decide +kernel) (by decide) (by rw [qk_len]; decide)] at k2
      refine caL_faults_30 (n := 354) dL_faults_351 (by first | exact ⟨rfl, rfl⟩ | assumption) k2 rfl rfl (Nat.le_of_ble_eq_true rfl) (by first | assumption | exact isC_of (by decide +kernel)) rfl ?_
      rintro r h3 ⟨rfl, X3, f3⟩
      refine am_bipush (n := 356) (v := (-4)) dL_faults_354 rfl rfl ?_
      refine am_icmp_ne (tgt := 400) (n := 359) dL_faults_356 (by decide) rfl (fun q_z => absurd rfl q_z) (fun _ => ?_)
      refine am_aload_n (n := 360) (i := 0) dL_faults_359 rfl rfl rfl ?_
      refine am_ldc2 (n := 363) (v := 32) dL_faults_360 (by decide +kernel) rfl ?_
      have k3 := cx_put g 32 _ h3 X3 (by decide)
      rw [rf_put (by decide +kernel)] at k3
      refine caL_faults_30 (n := 366) dL_faults_363 (by first | exact ⟨rfl, rfl⟩ | assumption) k3 rfl rfl (Nat.le_of_ble_eq_true rfl) (by first | assumption | exact isC_of (by decide +kernel)) rfl ?_
      rintro r h4 ⟨rfl, X4, f4⟩
      refine am_bipush (n := 368) (v := (-2)) dL_faults_366 rfl rfl ?_
      refine am_icmp_ne (tgt := 400) (n := 371) dL_faults_368 (by decide) rfl (fun q_z => absurd rfl q_z) (fun _ => ?_)
      refine am_aload_n (n := 372) (i := 0) dL_faults_371 rfl rfl rfl ?_
      have k4 := cx_fault g _ h4 X4
      rw [fl_p, fl_80] at k4
      refine caL_faults_23 (n := 375) dL_faults_372 (by first | exact ⟨rfl, rfl⟩ | assumption) k4 rfl rfl (Nat.le_of_ble_eq_true rfl) (by first | assumption | exact isC_of (by decide +kernel)) rfl ?_
      rintro r h5 ⟨rfl, X5, f5⟩
      refine am_bipush (n := 377) (v := 10) dL_faults_375 rfl rfl ?_
      refine am_icmp_ne (tgt := 400) (n := 380) dL_faults_377 (by decide) rfl (fun q_z => absurd rfl q_z) (fun _ => ?_)
      refine am_aload_n (n := 381) (i := 0) dL_faults_380 rfl rfl rfl ?_
      have k5 := cx_wipe g _ h5 X5
      rw [wp_p, qk_len] at k5
      refine caL_faults_11 (n := 384) dL_faults_381 (by first | exact ⟨rfl, rfl⟩ | assumption) k5 rfl rfl (Nat.le_of_ble_eq_true rfl) (by first | assumption | exact isC_of (by decide +kernel)) rfl ?_
      rintro r h6 ⟨rfl, X6, f6⟩
      refine am_bipush (n := 386) (v := 80) dL_faults_384 rfl rfl ?_
      refine am_icmp_ne (tgt := 400) (n := 389) dL_faults_386 (by decide) rfl (fun q_z => absurd rfl q_z) (fun _ => ?_)
      refine am_aload_n (n := 390) (i := 0) dL_faults_389 rfl rfl rfl ?_
      have k6 := cx_wipe g _ h6 X6
      rw [wp_p] at k6
      refine caL_faults_11 (n := 393) dL_faults_390 (by first | exact ⟨rfl, rfl⟩ | assumption) k6 rfl rfl (Nat.le_of_ble_eq_true rfl) (by first | assumption | exact isC_of (by decide +kernel)) rfl ?_
      rintro r h7 ⟨rfl, X7, f7⟩
      refine am_if_ne (tgt := 400) (n := 396) dL_faults_393 (by decide) rfl (fun q_z => absurd rfl q_z) (fun _ => ?_)
      refine am_iconst (n := 397) (v := 1) dL_faults_396 rfl rfl ?_
      refine am_goto (tgt := 401) dL_faults_397 (by decide) ?_
      subst hP
      refine am_iret dL_faults_401 rfl rfl ?_
      exact ⟨rfl, X7, ((((((f1.tr f2).tr f3).tr f4).tr f5).tr f6).tr f7)⟩
    · intro k hk K h1 X1 f1
      refine am_iload (n := 295) dL_faults_293 rfl rfl ?_
      refine am_bipush (n := 297) (v := 17) dL_faults_295 rfl rfl ?_
      refine am_icmp_ge (tgt := 333) (n := 300) dL_faults_297 (by decide) rfl (fun q_z => absurd q_z (nI_ge hk (by decide))) (fun _ => ?_)
      refine am_iload_n (n := 301) (i := 3) dL_faults_300 rfl rfl rfl ?_
      refine am_if_eq (tgt := 333) (n := 304) dL_faults_301 (by decide) rfl (fun q_z => absurd q_z (by decide)) (fun _ => ?_)
      refine am_aload_n (n := 305) (i := 0) dL_faults_304 rfl rfl rfl ?_
      refine am_ldc2 (n := 308) (v := 1633837410) dL_faults_305 (by decide +kernel) rfl ?_
      have k1 := cx_put g 1633837410 _ h1 X1 (by decide)
      rw [pt_k G hk] at k1
      refine caL_faults_30 (n := 311) dL_faults_308 (by first | exact ⟨rfl, rfl⟩ | assumption) k1 rfl rfl (Nat.le_of_ble_eq_true rfl) (by first | assumption | exact isC_of (by decide +kernel)) rfl ?_
      rintro r h2 ⟨rfl, X2, f2⟩
      refine am_bipush (n := 313) (v := 16) dL_faults_311 rfl rfl ?_
      refine am_iconst (n := 314) (v := 4) dL_faults_313 rfl rfl ?_
      refine am_iload (n := 316) dL_faults_314 rfl rfl ?_
      refine am_imul (n := 317) dL_faults_316 rfl ?_
      rw [show (4 : Int32) * nI k = nI (4 * k) from pk_mul 4 k, show (16 : Int32) = nI 16 from rfl]
      refine am_iadd (n := 318) dL_faults_317 rfl ?_
      rw [nI_add]
      refine am_icmp_ne (tgt := 325) (n := 321) dL_faults_318 (by decide) rfl (fun q_z => absurd rfl q_z) (fun _ => ?_)
      refine am_iconst (n := 322) (v := 1) dL_faults_321 rfl rfl ?_
      refine am_goto (tgt := 326) dL_faults_322 (by decide) ?_
      refine am_istore_n (n := 327) (i := 3) dL_faults_326 rfl (Nat.le_of_ble_eq_true rfl) rfl rfl ?_
      first | refine am_iincN (n := 330) dL_faults_327 rfl rfl rfl ?_ | refine am_iinc1 (n := 330) dL_faults_327 rfl rfl rfl ?_
      refine am_goto (tgt := 293) dL_faults_330 (by decide) ?_
      exact am_loc _ rfl (K h2 X2 (f1.tr f2))
  -- the first part
  have t117 : ∀ (o : Nat) (h1 : Hp), 33 ≤ o → o ≤ 126 → (o < 97 ∨ 122 < o) → XI (padG G (fpK x (x % 10))) h1 → FM h h1 → AW g mmL_faults (ZP g P) 117 [(0, some (.ref 0)), (1, some (.int (nI x))), (2, some (.int (nI (x % 10)))), (3, some (.int 1))] [.int (nI o)] h1 := by
    intro o h1 o1 o2 o3 X1 f1
    obtain ⟨c1, c2⟩ := cin_2 o1 o2
    have e2 : nI (x % 10) + 2 = nI (x % 10 + 2) := nI_add _ 2
    refine am_istore (n := 119) dL_faults_117 (Nat.le_of_ble_eq_true rfl) rfl rfl ?_
    refine am_iload_n (n := 120) (i := 3) dL_faults_119 rfl rfl rfl ?_
    refine am_if_eq (tgt := 185) (n := 123) dL_faults_120 (by decide) rfl (fun q_z => absurd q_z (by decide)) (fun _ => ?_)
    refine am_aload_n (n := 124) (i := 0) dL_faults_123 rfl rfl rfl ?_
    refine am_iload (n := 126) dL_faults_124 rfl rfl ?_
    refine am_i2l (n := 127) dL_faults_126 rfl ?_
    rw [nI_l (by omega)]
    refine am_bipush (n := 129) (v := 8) dL_faults_127 rfl rfl ?_
    refine am_lshl (n := 130) dL_faults_129 rfl ?_
    rw [show (8 : Int32) = nI 8 from rfl, wb_shl _ (by decide)]
    refine am_ldc2 (n := 133) (v := 97) dL_faults_130 (by decide +kernel) rfl ?_
    refine am_lor (n := 134) dL_faults_133 rfl ?_
    rw [show (97 : Int64) = lN 97 from rfl, g_or (k := 8) (p := 2 ^ 8) rfl (by decide) (by omega)]
    have k1 := cx_put g (o * 256 + 97) _ h1 X1 (by omega)
    rw [sp_putc c1 (by decide) (by rw [fpK_len]; omega) c2, fpK_len] at k1
    refine caL_faults_30 (n := 137) dL_faults_134 (by first | exact ⟨rfl, rfl⟩ | assumption) k1 rfl rfl (Nat.le_of_ble_eq_true rfl) (by first | assumption | exact isC_of (by decide +kernel)) rfl ?_
    rintro r h2 ⟨rfl, X2, f2⟩
    refine am_iload_n (n := 138) (i := 2) dL_faults_137 rfl rfl rfl ?_
    refine am_iconst (n := 139) (v := 2) dL_faults_138 rfl rfl ?_
    refine am_iadd (n := 140) dL_faults_139 rfl ?_
    rw [e2]
    refine am_icmp_ne (tgt := 185) (n := 143) dL_faults_140 (by decide) rfl (fun q_z => absurd rfl q_z) (fun _ => ?_)
    have hfl := fpK_flt (x := x) ha o3
    refine am_aload_n (n := 144) (i := 0) dL_faults_143 rfl rfl rfl ?_
    have k2 := cx_fault g _ h2 X2
    rw [fl_p, hfl] at k2
    refine caL_faults_23 (n := 147) dL_faults_144 (by first | exact ⟨rfl, rfl⟩ | assumption) k2 rfl rfl (Nat.le_of_ble_eq_true rfl) (by first | assumption | exact isC_of (by decide +kernel)) rfl ?_
    rintro r h3 ⟨rfl, X3, f3⟩
    refine am_iload_n (n := 148) (i := 2) dL_faults_147 rfl rfl rfl ?_
    refine am_icmp_ne (tgt := 185) (n := 151) dL_faults_148 (by decide) rfl (fun q_z => absurd rfl q_z) (fun _ => ?_)
    refine am_aload_n (n := 152) (i := 0) dL_faults_151 rfl rfl rfl ?_
    have k3 := cx_add g _ h3 X3
    rw [add_p (by rw [hfl]; exact nI_m6 (by omega))] at k3
    refine caL_faults_124 (n := 155) dL_faults_152 (by first | exact ⟨rfl, rfl⟩ | assumption) k3 rfl rfl (Nat.le_of_ble_eq_true rfl) (by first | assumption | exact isC_of (by decide +kernel)) rfl ?_
    rintro r h4 ⟨rfl, X4, f4⟩
    refine am_bipush (n := 157) (v := (-3)) dL_faults_155 rfl rfl ?_
    refine am_icmp_ne (tgt := 185) (n := 160) dL_faults_157 (by decide) rfl (fun q_z => absurd rfl q_z) (fun _ => ?_)
    refine am_aload_n (n := 161) (i := 0) dL_faults_160 rfl rfl rfl ?_
    refine am_iconst (n := 162) (v := 4) dL_faults_161 rfl rfl ?_
    have hln : (fpK x (x % 10) ++ [o, 97]).length = x % 10 + 2 := by rw [List.length_append, fpK_len]; rfl
    have k4 := cx_count g 4 _ h4 X4
    rw [ct4_p, hln] at k4
    refine caL_faults_33 (n := 165) dL_faults_162 (by first | exact ⟨rfl, rfl⟩ | assumption) k4 rfl rfl (Nat.le_of_ble_eq_true rfl) (by first | assumption | exact isC_of (by decide +kernel)) rfl ?_
    rintro r h5 ⟨rfl, X5, f5⟩
    refine am_iload_n (n := 166) (i := 2) dL_faults_165 rfl rfl rfl ?_
    refine am_iconst (n := 167) (v := 2) dL_faults_166 rfl rfl ?_
    refine am_iadd (n := 168) dL_faults_167 rfl ?_
    rw [e2]
    refine am_icmp_ne (tgt := 185) (n := 171) dL_faults_168 (by decide) rfl (fun q_z => absurd rfl q_z) (fun _ => ?_)
    refine am_aload_n (n := 172) (i := 0) dL_faults_171 rfl rfl rfl ?_
    have k5 := cx_wipe g _ h5 X5
    rw [wp_p, hln] at k5
    refine caL_faults_11 (n := 175) dL_faults_172 (by first | exact ⟨rfl, rfl⟩ | assumption) k5 rfl rfl (Nat.le_of_ble_eq_true rfl) (by first | assumption | exact isC_of (by decide +kernel)) rfl ?_
    rintro r h6 ⟨rfl, X6, f6⟩
    refine am_iload_n (n := 176) (i := 2) dL_faults_175 rfl rfl rfl ?_
    refine am_iconst (n := 177) (v := 2) dL_faults_176 rfl rfl ?_
    refine am_iadd (n := 178) dL_faults_177 rfl ?_
    rw [e2]
    refine am_icmp_ne (tgt := 185) (n := 181) dL_faults_178 (by decide) rfl (fun q_z => absurd rfl q_z) (fun _ => ?_)
    refine am_iconst (n := 182) (v := 1) dL_faults_181 rfl rfl ?_
    refine am_goto (tgt := 186) dL_faults_182 (by decide) ?_
    refine am_istore_n (n := 187) (i := 3) dL_faults_186 rfl (Nat.le_of_ble_eq_true rfl) rfl rfl ?_
    exact am_loc _ rfl (t187 h6 X6 (((((f1.tr f2).tr f3).tr f4).tr f5).tr f6))
  refine am_iload_n (n := 1) (i := 1) dL_faults_0 rfl rfl rfl ?_
  refine am_bipush (n := 3) (v := 10) dL_faults_1 rfl rfl ?_
  refine am_irem (n := 4) dL_faults_3 (by decide) rfl ?_
  rw [i_rem (x := 10) 10 hx (by decide) (by decide) rfl]
  refine am_istore_n (n := 5) (i := 2) dL_faults_4 rfl (Nat.le_of_ble_eq_true rfl) rfl rfl ?_
  refine am_aload_n (n := 6) (i := 0) dL_faults_5 rfl rfl rfl ?_
  have k1 := cx_wipe g G h hX
  rw [wp_e] at k1
  refine caL_faults_11 (n := 9) dL_faults_6 (by first | exact ⟨rfl, rfl⟩ | assumption) k1 rfl rfl (Nat.le_of_ble_eq_true rfl) (by first | assumption | exact isC_of (by decide +kernel)) rfl ?_
  rintro r h1 ⟨rfl, X1, f1⟩
  refine am_if_lt (tgt := 46) (n := 12) dL_faults_9 (by decide) rfl (fun q_z => absurd q_z (show ¬ nI G.2.2.2.length < 0 from nI_pos (by omega))) (fun _ => ?_)
  refine am_aload_n (n := 13) (i := 0) dL_faults_12 rfl rfl rfl ?_
  have k2 := cx_fault g _ h1 X1
  rw [fl_p, fl_nil] at k2
  refine caL_faults_23 (n := 16) dL_faults_13 (by first | exact ⟨rfl, rfl⟩ | assumption) k2 rfl rfl (Nat.le_of_ble_eq_true rfl) (by first | assumption | exact isC_of (by decide +kernel)) rfl ?_
  rintro r h2 ⟨rfl, X2, f2⟩
  refine am_if_ne (tgt := 46) (n := 19) dL_faults_16 (by decide) rfl (fun q_z => absurd rfl q_z) (fun _ => ?_)
  refine am_aload_n (n := 20) (i := 0) dL_faults_19 rfl rfl rfl ?_
  have k3 := cx_add g _ h2 X2
  rw [add_p (by rw [fl_nil]; decide)] at k3
  refine caL_faults_124 (n := 23) dL_faults_20 (by first | exact ⟨rfl, rfl⟩ | assumption) k3 rfl rfl (Nat.le_of_ble_eq_true rfl) (by first | assumption | exact isC_of (by decide +kernel)) rfl ?_
  rintro r h3 ⟨rfl, X3, f3⟩
  refine am_bipush (n := 25) (v := (-3)) dL_faults_23 rfl rfl ?_
  refine am_icmp_ne (tgt := 46) (n := 28) dL_faults_25 (by decide) rfl (fun q_z => absurd rfl q_z) (fun _ => ?_)
  refine am_aload_n (n := 29) (i := 0) dL_faults_28 rfl rfl rfl ?_
  refine am_bipush (n := 31) (v := 9) dL_faults_29 rfl rfl ?_
  refine am_iconst (n := 32) (v := 0) dL_faults_31 rfl rfl ?_
  refine am_bipush (n := 34) (v := 9) dL_faults_32 rfl rfl ?_
  have k4 := cx_find g 9 0 9 _ h3 X3
  rw [find_p (by rw [fl_nil]; decide)] at k4
  refine caL_faults_127 (n := 37) dL_faults_34 (by first | exact ⟨rfl, rfl⟩ | assumption) k4 rfl rfl (Nat.le_of_ble_eq_true rfl) (by first | assumption | exact isC_of (by decide +kernel)) rfl ?_
  rintro r h4 ⟨rfl, X4, f4⟩
  refine am_bipush (n := 39) (v := (-3)) dL_faults_37 rfl rfl ?_
  refine am_icmp_ne (tgt := 46) (n := 42) dL_faults_39 (by decide) rfl (fun q_z => absurd rfl q_z) (fun _ => ?_)
  refine am_iconst (n := 43) (v := 1) dL_faults_42 rfl rfl ?_
  refine am_goto (tgt := 47) dL_faults_43 (by decide) ?_
  refine am_istore_n (n := 48) (i := 3) dL_faults_47 rfl (Nat.le_of_ble_eq_true rfl) rfl rfl ?_
  refine am_iconst (n := 49) (v := 0) dL_faults_48 rfl rfl ?_
  refine am_istore (n := 51) dL_faults_49 (Nat.le_of_ble_eq_true rfl) rfl rfl ?_
  refine am_loc [(0, some (.ref 0)), (1, some (.int (nI x))), (2, some (.int (nI (x % 10)))), (3, some (.int 1)), (4, some (.int (nI 0)))] rfl ?_
  refine loop_up (Wp := fun k => ∀ h1 : Hp, XI (padG G (fpK x k)) h1 → FM h h1 → AW g mmL_faults (ZP g P) 51 [(0, some (.ref 0)), (1, some (.int (nI x))), (2, some (.int (nI (x % 10)))), (3, some (.int 1)), (4, some (.int (nI k)))] [] h1) (x % 10) ?_ ?_ 0 (Nat.zero_le _) h4 X4 (((f1.tr f2).tr f3).tr f4)
  · intro h1 X1 f1
    refine am_iload (n := 53) dL_faults_51 rfl rfl ?_
    refine am_iload_n (n := 54) (i := 2) dL_faults_53 rfl rfl rfl ?_
    refine am_icmp_ge (tgt := 95) (n := 57) dL_faults_54 (by decide) rfl (fun _ => ?_) (fun q_z => absurd (Int32.le_refl _) q_z)
    refine am_iload_n (n := 96) (i := 1) dL_faults_95 rfl rfl rfl ?_
    refine am_iconst (n := 97) (v := 3) dL_faults_96 rfl rfl ?_
    refine am_irem (n := 98) dL_faults_97 (by decide) rfl ?_
    rw [i_rem (x := 3) 3 hx (by decide) (by decide) rfl]
    have m4 : x % 4 < 4 := Nat.mod_lt _ (by decide)
    have m64 : x % 64 < 64 := Nat.mod_lt _ (by decide)
    by_cases z : x % 3 = 0
    · refine am_if_ne (tgt := 110) (n := 101) dL_faults_98 (by decide) rfl (fun q_z => absurd (by rw [z]; rfl) q_z) (fun _ => ?_)
      refine am_bipush (n := 103) (v := 123) dL_faults_101 rfl rfl ?_
      refine am_iload_n (n := 104) (i := 1) dL_faults_103 rfl rfl rfl ?_
      refine am_iconst (n := 105) (v := 4) dL_faults_104 rfl rfl ?_
      refine am_irem (n := 106) dL_faults_105 (by decide) rfl ?_
      rw [i_rem (x := 4) 4 hx (by decide) (by decide) rfl, show (123 : Int32) = nI 123 from rfl]
      refine am_iadd (n := 107) dL_faults_106 rfl ?_
      rw [nI_add]
      refine am_goto (tgt := 117) dL_faults_107 (by decide) ?_
      exact am_loc _ rfl (t117 _ h1 (by omega) (by omega) (by omega) X1 f1)
    · refine am_if_ne (tgt := 110) (n := 101) dL_faults_98 (by decide) rfl (fun _ => ?_) (fun q_z => absurd q_z (nI_ne0 (Nat.pos_of_ne_zero z) (by have : x % 3 < 3 := Nat.mod_lt _ (by decide); omega)))
      refine am_bipush (n := 112) (v := 33) dL_faults_110 rfl rfl ?_
      refine am_iload_n (n := 113) (i := 1) dL_faults_112 rfl rfl rfl ?_
      refine am_bipush (n := 115) (v := 64) dL_faults_113 rfl rfl ?_
      refine am_irem (n := 116) dL_faults_115 (by decide) rfl ?_
      rw [i_rem (x := 64) 64 hx (by decide) (by decide) rfl, show (33 : Int32) = nI 33 from rfl]
      refine am_iadd (n := 117) dL_faults_116 rfl ?_
      rw [nI_add]
      exact am_loc _ rfl (t117 _ h1 (by omega) (by omega) (by omega) X1 f1)
  · intro k hk K h1 X1 f1
    have hm : x / 2 ^ k % 26 < 26 := Nat.mod_lt _ (by decide)
    refine am_iload (n := 53) dL_faults_51 rfl rfl ?_
    refine am_iload_n (n := 54) (i := 2) dL_faults_53 rfl rfl rfl ?_
    refine am_icmp_ge (tgt := 95) (n := 57) dL_faults_54 (by decide) rfl (fun q_z => absurd q_z (nI_ge hk (by omega))) (fun _ => ?_)
    refine am_iload_n (n := 58) (i := 3) dL_faults_57 rfl rfl rfl ?_
    refine am_if_eq (tgt := 95) (n := 61) dL_faults_58 (by decide) rfl (fun q_z => absurd q_z (by decide)) (fun _ => ?_)
    refine am_aload_n (n := 62) (i := 0) dL_faults_61 rfl rfl rfl ?_
    refine am_bipush (n := 64) (v := 97) dL_faults_62 rfl rfl ?_
    refine am_iload_n (n := 65) (i := 1) dL_faults_64 rfl rfl rfl ?_
    refine am_iload (n := 67) dL_faults_65 rfl rfl ?_
    refine am_ishr (n := 68) dL_faults_67 rfl ?_
    rw [i_shr hx (by omega)]
    refine am_bipush (n := 70) (v := 26) dL_faults_68 rfl rfl ?_
    refine am_irem (n := 71) dL_faults_70 (by decide) rfl ?_
    rw [i_rem (x := 26) 26 (Nat.lt_of_le_of_lt (Nat.div_le_self _ _) hx) (by decide) (by decide) rfl, show (97 : Int32) = nI 97 from rfl]
    refine am_iadd (n := 72) dL_faults_71 rfl ?_
    rw [nI_add]
    refine am_i2l (n := 73) dL_faults_72 rfl ?_
    rw [nI_l (by omega)]
    have k1 := cx_put g (97 + x / 2 ^ k % 26) _ h1 X1 (by omega)
    rw [sp_put1 (by omega) (by omega) (by rw [fpK_len]; omega), fpK_len, ← fpK_s] at k1
    refine caL_faults_30 (n := 76) dL_faults_73 (by first | exact ⟨rfl, rfl⟩ | assumption) k1 rfl rfl (Nat.le_of_ble_eq_true rfl) (by first | assumption | exact isC_of (by decide +kernel)) rfl ?_
    rintro r h2 ⟨rfl, X2, f2⟩
    refine am_iload (n := 78) dL_faults_76 rfl rfl ?_
    refine am_iconst (n := 79) (v := 1) dL_faults_78 rfl rfl ?_
    refine am_iadd (n := 80) dL_faults_79 rfl ?_
    rw [nI_1]
    refine am_icmp_ne (tgt := 87) (n := 83) dL_faults_80 (by decide) rfl (fun q_z => absurd rfl q_z) (fun _ => ?_)
    refine am_iconst (n := 84) (v := 1) dL_faults_83 rfl rfl ?_
    refine am_goto (tgt := 88) dL_faults_84 (by decide) ?_
    refine am_istore_n (n := 89) (i := 3) dL_faults_88 rfl (Nat.le_of_ble_eq_true rfl) rfl rfl ?_
    first | refine am_iincN (n := 92) dL_faults_89 rfl rfl rfl ?_ | refine am_iinc1 (n := 92) dL_faults_89 rfl rfl rfl ?_
    refine am_goto (tgt := 51) dL_faults_92 (by decide) ?_
    exact am_loc _ rfl (K h2 X2 (f1.tr f2))
