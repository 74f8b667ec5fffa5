/-! Drawers: by their codes; names heard like a word -/
def rkD (ds : List Nat) (d : Nat) : Nat := fb_ct (fun o => decide (ds.getD o 0 < ds.getD d 0)) ds.length
theorem gD_of {l : List Nat} {i x : Nat} (h : l[i]? = some x) : l.getD i 0 = x := by
  rw [List.getD_eq_getElem?_getD, h]
  rfl
theorem gD_at {l : List Nat} {i : Nat} (h : i < l.length) : l[i]? = some (l.getD i 0) := by
  rw [List.getD_eq_getElem?_getD, List.getElem?_eq_getElem h]
  rfl
theorem rkD_lt {ds : List Nat} {a b : Nat} (ha : a < ds.length) (h : ds.getD a 0 < ds.getD b 0) : rkD ds a < rkD ds b := by
  have h1 : fb_ct (fun o => decide (ds.getD o 0 < ds.getD a 0)) ds.length ≤ fb_ct (fun o => decide (ds.getD o 0 < ds.getD b 0) && decide (o ≠ a)) ds.length := by
    refine fb_ct_sub (fun o _ ho => ?_)
    have := of_decide_eq_true ho
    simp only [Bool.and_eq_true, decide_eq_true_eq]
    refine ⟨by omega, fun q => ?_⟩
    subst q
    omega
  have h2 := fb_ct_upd (fun o => decide (ds.getD o 0 < ds.getD b 0)) false ha
  have h3 : fb_ct (fun o => decide (ds.getD o 0 < ds.getD b 0) && decide (o ≠ a)) ds.length = fb_ct (fun k => if k = a then false else decide (ds.getD k 0 < ds.getD b 0)) ds.length := by
    refine fb_ct_cong (fun k _ => ?_)
    by_cases z : k = a
    · simp [z]
    · simp [z]
  rw [if_pos (decide_eq_true h), if_neg (by decide : ¬ false = true)] at h2
  unfold rkD
  omega
theorem ND_ne {ds : List Nat} (h : ND ds) {a b : Nat} (ha : a < ds.length) (hb : b < ds.length) (hab : a ≠ b) : ds.getD a 0 ≠ ds.getD b 0 := by
  intro e
  have h1 := h a _ (gD_at ha)
  have h2 := h b _ (gD_at hb)
  rw [e] at h1
  exact hab (h1.symm.trans h2)
theorem rkD_inj {ds : List Nat} (h : ND ds) {a b : Nat} (ha : a < ds.length) (hb : b < ds.length) (e : rkD ds a = rkD ds b) : a = b := by
  rcases Nat.lt_trichotomy (ds.getD a 0) (ds.getD b 0) with q | q | q
  · have := rkD_lt ha q
    omega
  · rcases Nat.decEq a b with z | z
    · exact absurd q (ND_ne h ha hb z)
    · exact z
  · have := rkD_lt hb q
    omega
theorem rkD_bd {ds : List Nat} {a : Nat} (ha : a < ds.length) : rkD ds a < ds.length := by
  have h2 := fb_ct_upd (fun o => decide (ds.getD o 0 < ds.getD a 0)) true ha
  have h3 := fb_ct_le (fun k => if k = a then true else decide (ds.getD k 0 < ds.getD a 0)) ds.length
  rw [if_neg (fun q => Nat.lt_irrefl _ (of_decide_eq_true q)), if_pos rfl] at h2
  unfold rkD
  omega
theorem rkD_onto {ds : List Nat} (h : ND ds) {r : Nat} (hr : r < ds.length) : ∃ d, d < ds.length ∧ rkD ds d = r :=
  fb_onto (f := rkD ds) (fun i hi => rkD_bd hi) (fun i j hij hj e => by have := rkD_inj h (Nat.lt_trans hij hj) hj e; omega) hr
set_option maxRecDepth 100000 in
set_option maxHeartbeats 400000 in
theorem ac_X1_byCode (g : Gx) (k r : Nat) (cs : List (List Nat)) (h : Hp) (hk : isDr k) (hR : RD k cs h) (hV : VC cs) (hr : r < (dl cs).length) : AC g yX1_byCode wsX1_byCode rmX1_byCode [.ref k, .int (nI r)] h (fun v h' => h' = h ∧ ∃ d, d < (dl cs).length ∧ rkD (dl cs) d = r ∧ v = some (.int (nI d))) := by
  obtain ⟨k0, k1, k2, k3, k4, k5⟩ := hk
  have hl := dl_len hV
  have hr3 := hR.2.2.1
  have hcd := hR.2.2.2
  have hND : ND (dl cs) := ND_dls _
  have h30 : ∀ x ∈ dl cs, x < 2 ^ 30 := fun x hx => by
    obtain ⟨i, l, hi, hc⟩ := mem_dl.mp hx
    exact (hV.2 l (List.mem_of_getElem? hi)).2.2.1 x hc
  generalize dl cs = ds at *
  obtain ⟨d0, hd0, e0, hbef⟩ := fb_first (p := fun d => rkD ds d = r) (rkD_onto hND hr)
  refine AC.of (cc := cX1_byCode) (maxL := 5) (ret := (some .int)) (by decide +kernel) rfl (Nat.le_of_ble_eq_true rfl) ?_
  show AW g mmX1_byCode _ 0 [(0, some (.ref k)), (1, some (.int (nI r)))] [] _
  refine am_iconst (n := 1) (v := 0) dX1_byCode_0 rfl rfl ?_
  refine am_istore_n (n := 2) (i := 2) dX1_byCode_1 rfl (Nat.le_of_ble_eq_true rfl) rfl rfl ?_
  refine am_loc [(0, some (.ref k)), (1, some (.int (nI r))), (2, some (.int (nI 0)))] rfl ?_
  have body : ∀ d, d < ds.length → (rkD ds d = r → AW g mmX1_byCode (ZP g (fun v h' => h' = h ∧ ∃ d, d < ds.length ∧ rkD ds d = r ∧ v = some (.int (nI d)))) 54 [(0, some (.ref k)), (1, some (.int (nI r))), (2, some (.int (nI d)))] [] h) → (¬ rkD ds d = r → AW g mmX1_byCode (ZP g (fun v h' => h' = h ∧ ∃ d, d < ds.length ∧ rkD ds d = r ∧ v = some (.int (nI d)))) 56 [(0, some (.ref k)), (1, some (.int (nI r))), (2, some (.int (nI d)))] [] h) → AW g mmX1_byCode (ZP g (fun v h' => h' = h ∧ ∃ d, d < ds.length ∧ rkD ds d = r ∧ v = some (.int (nI d)))) 2 [(0, some (.ref k)), (1, some (.int (nI r))), (2, some (.int (nI d)))] [] h := by
    intro d hd Ky Kn
    have hdx := (hcd d _ (gD_at hd)).1
    have hd30 := h30 _ (List.mem_of_getElem? (gD_at hd))
    refine am_iload_n (n := 3) (i := 2) dX1_byCode_2 rfl rfl rfl ?_
    refine am_aload_n (n := 4) (i := 0) dX1_byCode_3 rfl rfl rfl ?_
    refine gfX1_byCode_34 (n := 7) dX1_byCode_4 (by first | assumption | exact isC_of (by decide +kernel)) rfl ?_
    rw [hr3]
    refine am_icmp_ge (tgt := 62) (n := 10) dX1_byCode_7 (by decide) rfl (fun q => absurd q (nI_ge hd (by omega))) (fun _ => ?_)
    refine am_iconst (n := 11) (v := 0) dX1_byCode_10 rfl rfl ?_
    refine am_istore_n (n := 12) (i := 3) dX1_byCode_11 rfl (Nat.le_of_ble_eq_true rfl) rfl rfl ?_
    refine am_iconst (n := 13) (v := 0) dX1_byCode_12 rfl rfl ?_
    refine am_istore (n := 15) dX1_byCode_13 (Nat.le_of_ble_eq_true rfl) rfl rfl ?_
    refine am_loc [(0, some (.ref k)), (1, some (.int (nI r))), (2, some (.int (nI d))), (3, some (.int (nI (fb_ct (fun o => decide (ds.getD o 0 < ds.getD d 0)) 0)))), (4, some (.int (nI 0)))] rfl ?_
    refine loop_up (Wp := fun o => AW g mmX1_byCode _ 15 [(0, some (.ref k)), (1, some (.int (nI r))), (2, some (.int (nI d))), (3, some (.int (nI (fb_ct (fun o => decide (ds.getD o 0 < ds.getD d 0)) o)))), (4, some (.int (nI o)))] [] h) ds.length ?_ ?_ 0 (Nat.zero_le _)
    · refine am_iload (n := 17) dX1_byCode_15 rfl rfl ?_
      refine am_aload_n (n := 18) (i := 0) dX1_byCode_17 rfl rfl rfl ?_
      refine gfX1_byCode_34 (n := 21) dX1_byCode_18 (by first | assumption | exact isC_of (by decide +kernel)) rfl ?_
      rw [hr3]
      refine am_icmp_ge (tgt := 49) (n := 24) dX1_byCode_21 (by decide) rfl (fun _ => ?_) (fun q => absurd (Int32.le_refl _) q)
      have hbd := rkD_bd hd
      rw [show fb_ct (fun o => decide (ds.getD o 0 < ds.getD d 0)) ds.length = rkD ds d from rfl]
      refine am_iload_n (n := 50) (i := 3) dX1_byCode_49 rfl rfl rfl ?_
      refine am_iload_n (n := 51) (i := 1) dX1_byCode_50 rfl rfl rfl ?_
      by_cases z : rkD ds d = r
      · refine am_icmp_ne (tgt := 56) (n := 54) dX1_byCode_51 (by decide) rfl (fun q => absurd (congrArg nI z) q) (fun _ => ?_)
        exact am_loc _ rfl (Ky z)
      · refine am_icmp_ne (tgt := 56) (n := 54) dX1_byCode_51 (by decide) rfl (fun _ => ?_) (fun q => absurd q (fun q => z ((nI_eq (by omega) (by omega)).mp q)))
        exact am_loc _ rfl (Kn z)
    · intro o ho K
      have hox := (hcd o _ (gD_at ho)).1
      have ho30 := h30 _ (List.mem_of_getElem? (gD_at ho))
      have eo : fb_ct (fun o => decide (ds.getD o 0 < ds.getD d 0)) (o + 1) = fb_ct (fun o => decide (ds.getD o 0 < ds.getD d 0)) o + (if decide (ds.getD o 0 < ds.getD d 0) then 1 else 0) := rfl
      refine am_iload (n := 17) dX1_byCode_15 rfl rfl ?_
      refine am_aload_n (n := 18) (i := 0) dX1_byCode_17 rfl rfl rfl ?_
      refine gfX1_byCode_34 (n := 21) dX1_byCode_18 (by first | assumption | exact isC_of (by decide +kernel)) rfl ?_
      rw [hr3]
      refine am_icmp_ge (tgt := 49) (n := 24) dX1_byCode_21 (by decide) rfl (fun q => absurd q (nI_ge ho (by omega))) (fun _ => ?_)
      refine am_aload_n (n := 25) (i := 0) dX1_byCode_24 rfl rfl rfl ?_
      refine gfX1_byCode_18 (n := 28) dX1_byCode_25 (by first | assumption | exact isC_of (by decide +kernel)) rfl ?_
      refine am_iload (n := 30) dX1_byCode_28 rfl rfl ?_
      refine am_iald (n := 31) dX1_byCode_30 (by first | assumption | exact isC_of (by decide +kernel)) (by first | assumption | exact vp_in_nI (by omega) (by omega) | decide) rfl ?_
      rw [nI_clamp (by omega), hox]
      refine am_aload_n (n := 32) (i := 0) dX1_byCode_31 rfl rfl rfl ?_
      refine gfX1_byCode_18 (n := 35) dX1_byCode_32 (by first | assumption | exact isC_of (by decide +kernel)) rfl ?_
      refine am_iload_n (n := 36) (i := 2) dX1_byCode_35 rfl rfl rfl ?_
      refine am_iald (n := 37) dX1_byCode_36 (by first | assumption | exact isC_of (by decide +kernel)) (by first | assumption | exact vp_in_nI (by omega) (by omega) | decide) rfl ?_
      rw [nI_clamp (by omega), hdx]
      by_cases z : ds.getD o 0 < ds.getD d 0
      · rw [if_pos (decide_eq_true z)] at eo
        rw [eo] at K
        refine am_icmp_ge (tgt := 43) (n := 40) dX1_byCode_37 (by decide) rfl (fun q => absurd q (nI_ge z (by omega))) (fun _ => ?_)
        first | refine am_iincN (n := 43) dX1_byCode_40 rfl rfl rfl ?_ | refine am_iinc1 (n := 43) dX1_byCode_40 rfl rfl rfl ?_
        first | refine am_iincN (n := 46) dX1_byCode_43 rfl rfl rfl ?_ | refine am_iinc1 (n := 46) dX1_byCode_43 rfl rfl rfl ?_
        refine am_goto (tgt := 15) dX1_byCode_46 (by decide) ?_
        exact am_loc _ rfl K
      · rw [if_neg (fun q => z (of_decide_eq_true q)), Nat.add_zero] at eo
        rw [eo] at K
        refine am_icmp_ge (tgt := 43) (n := 40) dX1_byCode_37 (by decide) rfl (fun _ => ?_) (fun q => absurd (nI_le (Nat.not_lt.mp z) (by omega)) q)
        first | refine am_iincN (n := 46) dX1_byCode_43 rfl rfl rfl ?_ | refine am_iinc1 (n := 46) dX1_byCode_43 rfl rfl rfl ?_
        refine am_goto (tgt := 15) dX1_byCode_46 (by decide) ?_
        exact am_loc _ rfl K
  refine loop_up (Wp := fun d => AW g mmX1_byCode _ 2 [(0, some (.ref k)), (1, some (.int (nI r))), (2, some (.int (nI d)))] [] h) d0 ?_ ?_ 0 (Nat.zero_le _)
  · refine body d0 hd0 (fun _ => ?_) (fun q => absurd e0 q)
    refine am_iload_n (n := 55) (i := 2) dX1_byCode_54 rfl rfl rfl ?_
    refine am_iret dX1_byCode_55 rfl rfl ?_
    exact ⟨rfl, d0, hd0, e0, rfl⟩
  · intro d hd K
    refine body d (by omega) (fun q => absurd q (hbef d hd)) (fun _ => ?_)
    first | refine am_iincN (n := 59) dX1_byCode_56 rfl rfl rfl ?_ | refine am_iinc1 (n := 59) dX1_byCode_56 rfl rfl rfl ?_
    refine am_goto (tgt := 2) dX1_byCode_59 (by decide) ?_
    exact am_loc _ rfl K
theorem or_idem (x y : Int32) : x ||| y ||| y = x ||| y := by
  refine b_ext (fun i _ => ?_)
  rw [b_or, b_or]
  cases bt x i <;> cases bt y i <;> rfl
theorem hlM_orF {cs : List (List Nat)} (hn : cs.length ≤ 24) (xs : List Nat) : orF (fun d => if (dl cs).getD d 0 ∈ xs then mkC cs ((dl cs).getD d 0) cs.length else 0) (dl cs).length = hlM cs xs := by
  refine bt_ext (fun m hm => ?_)
  unfold hlM
  rw [bt_orF, bt_msk (by omega), List.any_eq_true]
  constructor
  · rintro ⟨d, hd, hb⟩
    by_cases hx : (dl cs).getD d 0 ∈ xs
    · rw [if_pos hx, mkC_msk, bt_msk (by omega)] at hb
      exact ⟨hb.1, _, hx, hb.2⟩
    · rw [if_neg hx, b_0] at hb
      cases hb
  · rintro ⟨h1, c, hc, h2⟩
    have hmem : c ∈ dl cs := mem_dl.mpr ⟨m, cN cs m, by rw [cN_of (List.getElem?_eq_getElem h1)]; exact List.getElem?_eq_getElem h1, of_decide_eq_true h2⟩
    refine ⟨ix c (dl cs), ix_lt hmem, ?_⟩
    rw [gD_of (ix_in hmem), if_pos hc, mkC_msk, bt_msk (by omega)]
    exact ⟨h1, h2⟩
set_option maxRecDepth 100000 in
set_option maxHeartbeats 800000 in
theorem ac_X1_namesHeardLike (g : Gx) (k n b ke : Nat) (S : SV) (E : EV) (cs : List (List Nat)) (h : Hp) (hk : isDr k) (hb : isSt b) (he : isEar ke) (hS : RS b S h) (hVS : VS S) (hE : RE ke E h) (hVE : VE E) (hn : VW n) (hR : RD k cs h) (hV : VC cs) (d2 : k + 5 < ke) : AC g yX1_namesHeardLike wsX1_namesHeardLike rmX1_namesHeardLike [.ref k, .long (lN n), .ref b, .ref ke] h (fun v h' => v = some (.int (hlM cs (codes E S.1 n))) ∧ FrI (k + 5) (k + 5) h h') := by
  obtain ⟨k0, k1, k2, k3, k4, k5⟩ := hk
  obtain ⟨b0, b1, b2, -⟩ := hb
  have hl := dl_len hV
  have hfL := hS.1
  have hL := hVS.1.2
  have h30 : ∀ x ∈ dl cs, x < 2 ^ 30 := fun x hx => by
    obtain ⟨i, l, hi, hc⟩ := mem_dl.mp hx
    exact (hV.2 l (List.mem_of_getElem? hi)).2.2.1 x hc
  rw [← hlM_orF hV.1]
  have hx4 : (codes E S.1 n).length ≤ 4 := dd_le _ 4
  have hx30 : ∀ c ∈ codes E S.1 n, c < 2 ^ 30 := fun c hc => by
    obtain ⟨v, -, e⟩ := dd_mem.mp hc
    rw [← e]
    exact cw_lt hVE hn hL
  generalize hZ : ZP g (fun v h' => v = some (.int (orF (fun d => if (dl cs).getD d 0 ∈ codes E S.1 n then mkC cs ((dl cs).getD d 0) cs.length else 0) (dl cs).length)) ∧ FrI (k + 5) (k + 5) h h') = Z
  have z0 : Z.1 = 0 ∧ Z.2.1 = 0 := by rw [← hZ]; exact ⟨rfl, rfl⟩
  refine AC.of (cc := cX1_namesHeardLike) (maxL := 9) (ret := (some .int)) (by decide +kernel) rfl (Nat.le_of_ble_eq_true rfl) ?_
  show AW g mmX1_namesHeardLike _ 0 [(0, some (.ref k)), (1, some (.long (lN n))), (3, some (.ref b)), (4, some (.ref ke))] [] _
  rw [hZ]
  refine am_aload (n := 2) dX1_namesHeardLike_0 rfl rfl ?_
  refine am_lload_n (n := 3) (i := 1) dX1_namesHeardLike_2 rfl rfl rfl ?_
  refine am_aload_n (n := 4) (i := 3) dX1_namesHeardLike_3 rfl rfl rfl ?_
  refine gfX1_namesHeardLike_41 (n := 7) dX1_namesHeardLike_4 (by first | assumption | exact isC_of (by decide +kernel)) rfl ?_
  rw [hfL]
  refine am_aload_n (n := 8) (i := 0) dX1_namesHeardLike_7 rfl rfl rfl ?_
  refine gfX1_namesHeardLike_24 (n := 11) dX1_namesHeardLike_8 (by first | assumption | exact isC_of (by decide +kernel)) rfl ?_
  refine caX1_namesHeardLike_44 (n := 14) dX1_namesHeardLike_11 z0 (ac_X2_writeCodes g ke n S.1 (k + 5) E h he hE hVE hn hL k5 (by omega)) rfl rfl (Nat.le_of_ble_eq_true rfl) he.1 rfl ?_
  rintro r h1 ⟨rfl, F1, w1⟩
  have hR1 : RD k cs h1 := hR.kept (fun c c1 c2 => F1.1 c (by omega))
  generalize codes E S.1 n = xs at *
  have hr3 := hR1.2.2.1
  have hcd := hR1.2.2.2
  generalize dl cs = ds at *
  refine am_istore (n := 16) dX1_namesHeardLike_14 (Nat.le_of_ble_eq_true rfl) rfl rfl ?_
  refine am_iconst (n := 17) (v := 0) dX1_namesHeardLike_16 rfl rfl ?_
  refine am_istore (n := 19) dX1_namesHeardLike_17 (Nat.le_of_ble_eq_true rfl) rfl rfl ?_
  refine am_iconst (n := 20) (v := 0) dX1_namesHeardLike_19 rfl rfl ?_
  refine am_istore (n := 22) dX1_namesHeardLike_20 (Nat.le_of_ble_eq_true rfl) rfl rfl ?_
  refine am_loc [(0, some (.ref k)), (5, some (.int (nI xs.length))), (6, some (.int (orF (fun d => if ds.getD d 0 ∈ xs then mkC cs (ds.getD d 0) cs.length else 0) 0))), (7, some (.int (nI 0)))] rfl ?_
  refine loop_up (Wp := fun d => AW g mmX1_namesHeardLike Z 22 [(0, some (.ref k)), (5, some (.int (nI xs.length))), (6, some (.int (orF (fun d => if ds.getD d 0 ∈ xs then mkC cs (ds.getD d 0) cs.length else 0) d))), (7, some (.int (nI d)))] [] h1) ds.length ?_ ?_ 0 (Nat.zero_le _)
  · refine am_iload (n := 24) dX1_namesHeardLike_22 rfl rfl ?_
    refine am_aload_n (n := 25) (i := 0) dX1_namesHeardLike_24 rfl rfl rfl ?_
    refine gfX1_namesHeardLike_34 (n := 28) dX1_namesHeardLike_25 (by first | assumption | exact isC_of (by decide +kernel)) rfl ?_
    rw [hr3]
    refine am_icmp_ge (tgt := 92) (n := 31) dX1_namesHeardLike_28 (by decide) rfl (fun _ => ?_) (fun q => absurd (Int32.le_refl _) q)
    rw [← hZ]
    refine am_iload (n := 94) dX1_namesHeardLike_92 rfl rfl ?_
    refine am_iret dX1_namesHeardLike_94 rfl rfl ?_
    exact ⟨rfl, F1⟩
  · intro d hd K
    obtain ⟨hdx, hdm⟩ := hcd d _ (gD_at hd)
    have hd30 := h30 _ (List.mem_of_getElem? (gD_at hd))
    have eo : orF (fun d => if ds.getD d 0 ∈ xs then mkC cs (ds.getD d 0) cs.length else 0) (d + 1) = orF (fun d => if ds.getD d 0 ∈ xs then mkC cs (ds.getD d 0) cs.length else 0) d ||| (if ds.getD d 0 ∈ xs then mkC cs (ds.getD d 0) cs.length else 0) := rfl
    rw [eo] at K
    generalize orF (fun d => if ds.getD d 0 ∈ xs then mkC cs (ds.getD d 0) cs.length else 0) d = acc at K ⊢
    generalize hM : mkC cs (ds.getD d 0) cs.length = M at K hdm
    generalize ds.getD d 0 = c at K hdx hd30
    refine am_iload (n := 24) dX1_namesHeardLike_22 rfl rfl ?_
    refine am_aload_n (n := 25) (i := 0) dX1_namesHeardLike_24 rfl rfl rfl ?_
    refine gfX1_namesHeardLike_34 (n := 28) dX1_namesHeardLike_25 (by first | assumption | exact isC_of (by decide +kernel)) rfl ?_
    rw [hr3]
    refine am_icmp_ge (tgt := 92) (n := 31) dX1_namesHeardLike_28 (by decide) rfl (fun q => absurd q (nI_ge hd (by omega))) (fun _ => ?_)
    refine am_iconst (n := 32) (v := 0) dX1_namesHeardLike_31 rfl rfl ?_
    refine am_istore (n := 34) dX1_namesHeardLike_32 (Nat.le_of_ble_eq_true rfl) rfl rfl ?_
    refine am_loc [(0, some (.ref k)), (5, some (.int (nI xs.length))), (6, some (.int (acc ||| (if c ∈ xs.take 0 then M else 0)))), (7, some (.int (nI d))), (8, some (.int (nI 0)))] (by simp only [List.take_zero, List.not_mem_nil, if_false, or_0]; rfl) ?_
    refine loop_up (Wp := fun j => AW g mmX1_namesHeardLike Z 34 [(0, some (.ref k)), (5, some (.int (nI xs.length))), (6, some (.int (acc ||| (if c ∈ xs.take j then M else 0)))), (7, some (.int (nI d))), (8, some (.int (nI j)))] [] h1) xs.length ?_ ?_ 0 (Nat.zero_le _)
    · rw [List.take_length]
      refine am_iload (n := 36) dX1_namesHeardLike_34 rfl rfl ?_
      refine am_iload (n := 38) dX1_namesHeardLike_36 rfl rfl ?_
      refine am_icmp_ge (tgt := 86) (n := 41) dX1_namesHeardLike_38 (by decide) rfl (fun _ => ?_) (fun q => absurd (Int32.le_refl _) q)
      first | refine am_iincN (n := 89) dX1_namesHeardLike_86 rfl rfl rfl ?_ | refine am_iinc1 (n := 89) dX1_namesHeardLike_86 rfl rfl rfl ?_
      refine am_goto (tgt := 22) dX1_namesHeardLike_89 (by decide) ?_
      exact am_loc _ rfl K
    · intro j hj K2
      have hjx := w1 j _ (gD_at hj)
      have hj30 := hx30 _ (List.mem_of_getElem? (gD_at hj))
      have htk : xs.take (j + 1) = xs.take j ++ [xs.getD j 0] := by rw [List.take_succ, gD_at hj]; rfl
      rw [htk] at K2
      refine am_iload (n := 36) dX1_namesHeardLike_34 rfl rfl ?_
      refine am_iload (n := 38) dX1_namesHeardLike_36 rfl rfl ?_
      refine am_icmp_ge (tgt := 86) (n := 41) dX1_namesHeardLike_38 (by decide) rfl (fun q => absurd q (nI_ge hj (by omega))) (fun _ => ?_)
      refine am_iload (n := 43) dX1_namesHeardLike_41 rfl rfl ?_
      refine am_aload_n (n := 44) (i := 0) dX1_namesHeardLike_43 rfl rfl rfl ?_
      refine gfX1_namesHeardLike_24 (n := 47) dX1_namesHeardLike_44 (by first | assumption | exact isC_of (by decide +kernel)) rfl ?_
      refine am_alen (n := 48) dX1_namesHeardLike_47 (by first | assumption | exact isC_of (by decide +kernel)) (by decide) rfl rfl ?_
      refine am_icmp_ge (tgt := 86) (n := 51) dX1_namesHeardLike_48 (by decide) rfl (fun q => absurd q (nI_ge (show j < 4 by omega) (by decide))) (fun _ => ?_)
      refine am_aload_n (n := 52) (i := 0) dX1_namesHeardLike_51 rfl rfl rfl ?_
      refine gfX1_namesHeardLike_24 (n := 55) dX1_namesHeardLike_52 (by first | assumption | exact isC_of (by decide +kernel)) rfl ?_
      refine am_iload (n := 57) dX1_namesHeardLike_55 rfl rfl ?_
      refine am_iald (n := 58) dX1_namesHeardLike_57 (by first | assumption | exact isC_of (by decide +kernel)) (by first | assumption | exact vp_in_nI (by omega) (by omega) | decide) rfl ?_
      rw [nI_clamp (by omega), hjx]
      refine am_aload_n (n := 59) (i := 0) dX1_namesHeardLike_58 rfl rfl rfl ?_
      refine gfX1_namesHeardLike_18 (n := 62) dX1_namesHeardLike_59 (by first | assumption | exact isC_of (by decide +kernel)) rfl ?_
      refine am_iload (n := 64) dX1_namesHeardLike_62 rfl rfl ?_
      refine am_iald (n := 65) dX1_namesHeardLike_64 (by first | assumption | exact isC_of (by decide +kernel)) (by first | assumption | exact vp_in_nI (by omega) (by omega) | decide) rfl ?_
      rw [nI_clamp (by omega), hdx]
      by_cases z : xs.getD j 0 = c
      · rw [z, if_pos (List.mem_append_right _ List.mem_cons_self)] at K2
        refine am_icmp_ne (tgt := 80) (n := 68) dX1_namesHeardLike_65 (by decide) rfl (fun q => absurd (congrArg nI z) q) (fun _ => ?_)
        refine am_iload (n := 70) dX1_namesHeardLike_68 rfl rfl ?_
        refine am_aload_n (n := 71) (i := 0) dX1_namesHeardLike_70 rfl rfl rfl ?_
        refine gfX1_namesHeardLike_21 (n := 74) dX1_namesHeardLike_71 (by first | assumption | exact isC_of (by decide +kernel)) rfl ?_
        refine am_iload (n := 76) dX1_namesHeardLike_74 rfl rfl ?_
        refine am_iald (n := 77) dX1_namesHeardLike_76 (by first | assumption | exact isC_of (by decide +kernel)) (by first | assumption | exact vp_in_nI (by omega) (by omega) | decide) rfl ?_
        rw [nI_clamp (by omega), hdm]
        refine am_ior (n := 78) dX1_namesHeardLike_77 rfl ?_
        refine am_istore (n := 80) dX1_namesHeardLike_78 (Nat.le_of_ble_eq_true rfl) rfl rfl ?_
        first | refine am_iincN (n := 83) dX1_namesHeardLike_80 rfl rfl rfl ?_ | refine am_iinc1 (n := 83) dX1_namesHeardLike_80 rfl rfl rfl ?_
        refine am_goto (tgt := 34) dX1_namesHeardLike_83 (by decide) ?_
        have e : (acc ||| (if c ∈ xs.take j then M else 0)) ||| M = acc ||| M := by
          by_cases q : c ∈ xs.take j
          · rw [if_pos q, or_idem]
          · rw [if_neg q, or_0]
        rw [e]
        exact am_loc _ rfl K2
      · have e : (c ∈ xs.take j ++ [xs.getD j 0]) ↔ c ∈ xs.take j := by
          rw [List.mem_append, List.mem_singleton]
          exact ⟨fun q => q.elim id (fun q => absurd q.symm z), Or.inl⟩
        simp only [e] at K2
        refine am_icmp_ne (tgt := 80) (n := 68) dX1_namesHeardLike_65 (by decide) rfl (fun _ => ?_) (fun q => absurd q (fun q => z ((nI_eq (by omega) (by omega)).mp q)))
        first | refine am_iincN (n := 83) dX1_namesHeardLike_80 rfl rfl rfl ?_ | refine am_iinc1 (n := 83) dX1_namesHeardLike_80 rfl rfl rfl ?_
        refine am_goto (tgt := 34) dX1_namesHeardLike_83 (by decide) ?_
        exact am_loc _ rfl K2
