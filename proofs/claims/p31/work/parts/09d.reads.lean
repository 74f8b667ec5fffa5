/-! Drawers: reads -/
def com (cs : List (List Nat)) (i o : Nat) : Bool := (cN cs i).any (fun c => decide (c ∈ cN cs o))
def lkM (cs : List (List Nat)) (i : Nat) : Int32 := msk (com cs i) cs.length
def hlM (cs : List (List Nat)) (xs : List Nat) : Int32 := msk (fun o => xs.any (fun c => decide (c ∈ cN cs o))) cs.length
def twF (cs : List (List Nat)) : Nat → Int32
  | 0 => 0
  | i + 1 => twF cs i + (nI (pc (lkM cs i)) - 1)
/-- pairs of names that are heard alike -/
def prs (cs : List (List Nat)) : Int32 := twF cs cs.length / 2
def svM (cs : List (List Nat)) : Int32 := orF (fun i => if 1 < (cN cs i).length then sh1 i else 0) cs.length
def mxF (f : Nat → Nat) : Nat → Nat
  | 0 => 0
  | n + 1 => if mxF f n < f n then f n else mxF f n
def fuM (cs : List (List Nat)) : Nat := mxF (fun d => pc (mkC cs ((dl cs).getD d 0) cs.length)) (dl cs).length
theorem pc_le (x : Int32) : pc x ≤ 32 := fb_ct_le _ _
theorem mxF_le {f : Nat → Nat} {b : Nat} (h : ∀ i, f i ≤ b) : ∀ n, mxF f n ≤ b := by
  intro n
  induction n with
  | zero => exact Nat.zero_le _
  | succ n ih =>
    unfold mxF
    split
    · exact h n
    · exact ih
theorem RD.n {k : Nat} {cs : List (List Nat)} {h : Hp} (r : RD k cs h) : h.1 k 0 = nI cs.length := r.1
theorem RD.kept {k : Nat} {cs : List (List Nat)} {h h' : Hp} (r : RD k cs h) (f : ∀ c, k ≤ c → c ≤ k + 4 → h'.1 c = h.1 c) : RD k cs h' := by
  obtain ⟨r1, r2, r3, r4⟩ := r
  refine ⟨by rw [f k (by omega) (by omega)]; exact r1, fun i l hi => ?_, by rw [f k (by omega) (by omega)]; exact r3, fun d c hd => ?_⟩
  · rw [f (k + 1) (by omega) (by omega), f (k + 2) (by omega) (by omega)]
    exact r2 i l hi
  · rw [f (k + 3) (by omega) (by omega), f (k + 4) (by omega) (by omega)]
    exact r4 d c hd
set_option maxRecDepth 100000 in
set_option maxHeartbeats 400000 in
theorem ac_X1_codesOf (g : Gx) (k i : Nat) (cs : List (List Nat)) (h : Hp) (hk : isDr k) (hR : RD k cs h) (hV : VC cs) (hi : i < cs.length) : AD g yX1_codesOf wsX1_codesOf rmX1_codesOf [.ref k, .int (nI i)] h (some (.int (nI (cN cs i).length))) h := by
  obtain ⟨k0, k1, k2, k3, k4, k5⟩ := hk
  have hn := hV.1
  have hx : cs[i]? = some cs[i] := List.getElem?_eq_getElem hi
  obtain ⟨q1, -⟩ := hR.2.1 i _ hx
  rw [cN_of hx]
  refine AC.of (cc := cX1_codesOf) (maxL := 2) (ret := (some .int)) (by decide +kernel) rfl (Nat.le_of_ble_eq_true rfl) ?_
  show AW g mmX1_codesOf _ 0 [(0, some (.ref k)), (1, some (.int (nI i)))] [] _
  refine am_iload_n (n := 1) (i := 1) dX1_codesOf_0 rfl rfl rfl ?_
  refine am_if_lt (tgt := 21) (n := 4) dX1_codesOf_1 (by decide) rfl (fun q => absurd q (nI_pos (by omega))) (fun _ => ?_)
  refine am_iload_n (n := 5) (i := 1) dX1_codesOf_4 rfl rfl rfl ?_
  refine am_aload_n (n := 6) (i := 0) dX1_codesOf_5 rfl rfl rfl ?_
  refine gfX1_codesOf_33 (n := 9) dX1_codesOf_6 (by first | assumption | exact isC_of (by decide +kernel)) rfl ?_
  rw [hR.n]
  refine am_icmp_ge (tgt := 21) (n := 12) dX1_codesOf_9 (by decide) rfl (fun q => absurd q (nI_ge hi (by omega))) (fun _ => ?_)
  refine am_aload_n (n := 13) (i := 0) dX1_codesOf_12 rfl rfl rfl ?_
  refine gfX1_codesOf_9 (n := 16) dX1_codesOf_13 (by first | assumption | exact isC_of (by decide +kernel)) rfl ?_
  refine am_iload_n (n := 17) (i := 1) dX1_codesOf_16 rfl rfl rfl ?_
  refine am_iald (n := 18) dX1_codesOf_17 (by first | assumption | exact isC_of (by decide +kernel)) (by first | assumption | exact vp_in_nI (by omega) (by omega) | decide) rfl ?_
  rw [nI_clamp (by omega), q1]
  refine am_goto (tgt := 22) dX1_codesOf_18 (by decide) ?_
  refine am_iret dX1_codesOf_22 rfl rfl ?_
  exact ⟨rfl, rfl⟩
set_option maxRecDepth 100000 in
set_option maxHeartbeats 400000 in
theorem ac_X1_drawerOf (g : Gx) (k i j c : Nat) (cs : List (List Nat)) (h : Hp) (hk : isDr k) (hR : RD k cs h) (hV : VC cs) (hi : i < cs.length) (hj : (cN cs i)[j]? = some c) : AD g yX1_drawerOf wsX1_drawerOf rmX1_drawerOf [.ref k, .int (nI i), .int (nI j)] h (some (.int (nI (ix c (dl cs))))) h := by
  have hk' := hk
  obtain ⟨k0, k1, k2, k3, k4, k5⟩ := hk
  have hn := hV.1
  have hx : cs[i]? = some cs[i] := List.getElem?_eq_getElem hi
  obtain ⟨-, q2⟩ := hR.2.1 i _ hx
  have hc := ac_X1_codesOf g k i cs h hk' hR hV hi
  have hl4 := (hV.2 _ (List.mem_of_getElem? hx)).1
  rw [cN_of hx] at hj hc
  have q3 := q2 j c hj
  have hjl := (List.getElem?_eq_some_iff.mp hj).1
  refine AC.of (cc := cX1_drawerOf) (maxL := 3) (ret := (some .int)) (by decide +kernel) rfl (Nat.le_of_ble_eq_true rfl) ?_
  show AW g mmX1_drawerOf _ 0 [(0, some (.ref k)), (1, some (.int (nI i))), (2, some (.int (nI j)))] [] _
  refine am_iload_n (n := 1) (i := 2) dX1_drawerOf_0 rfl rfl rfl ?_
  refine am_if_lt (tgt := 26) (n := 4) dX1_drawerOf_1 (by decide) rfl (fun q => absurd q (nI_pos (by omega))) (fun _ => ?_)
  refine am_iload_n (n := 5) (i := 2) dX1_drawerOf_4 rfl rfl rfl ?_
  refine am_aload_n (n := 6) (i := 0) dX1_drawerOf_5 rfl rfl rfl ?_
  refine am_iload_n (n := 7) (i := 1) dX1_drawerOf_6 rfl rfl rfl ?_
  refine cdX1_drawerOf_54 (n := 10) dX1_drawerOf_7 ⟨rfl, rfl⟩ hc rfl rfl (Nat.le_of_ble_eq_true rfl) (by first | assumption | exact isC_of (by decide +kernel)) rfl ?_
  refine am_icmp_ge (tgt := 26) (n := 13) dX1_drawerOf_10 (by decide) rfl (fun q => absurd q (nI_ge hjl (by omega))) (fun _ => ?_)
  refine am_aload_n (n := 14) (i := 0) dX1_drawerOf_13 rfl rfl rfl ?_
  refine gfX1_drawerOf_15 (n := 17) dX1_drawerOf_14 (by first | assumption | exact isC_of (by decide +kernel)) rfl ?_
  refine am_iconst (n := 18) (v := 4) dX1_drawerOf_17 rfl rfl ?_
  refine am_iload_n (n := 19) (i := 1) dX1_drawerOf_18 rfl rfl rfl ?_
  refine am_imul (n := 20) dX1_drawerOf_19 rfl ?_
  refine am_iload_n (n := 21) (i := 2) dX1_drawerOf_20 rfl rfl rfl ?_
  refine am_iadd (n := 22) dX1_drawerOf_21 rfl ?_
  rw [show (4 : Int32) * nI i + nI j = nI (4 * i + j) by rw [show (4 : Int32) * nI i = nI (4 * i) from pk_mul 4 i, nI_add]]
  refine am_iald (n := 23) dX1_drawerOf_22 (by first | assumption | exact isC_of (by decide +kernel)) (by first | assumption | exact vp_in_nI (by omega) (by omega) | decide) rfl ?_
  rw [nI_clamp (by omega), q3]
  refine am_goto (tgt := 27) dX1_drawerOf_23 (by decide) ?_
  refine am_iret dX1_drawerOf_27 rfl rfl ?_
  exact ⟨rfl, rfl⟩
set_option maxRecDepth 100000 in
set_option maxHeartbeats 400000 in
theorem ac_X1_codeAt (g : Gx) (k d c : Nat) (cs : List (List Nat)) (h : Hp) (hk : isDr k) (hR : RD k cs h) (hV : VC cs) (hd : (dl cs)[d]? = some c) : AD g yX1_codeAt wsX1_codeAt rmX1_codeAt [.ref k, .int (nI d)] h (some (.int (nI c))) h := by
  obtain ⟨k0, k1, k2, k3, k4, k5⟩ := hk
  have hl := dl_len hV
  have hdl := (List.getElem?_eq_some_iff.mp hd).1
  obtain ⟨q1, -⟩ := hR.2.2.2 d c hd
  refine AC.of (cc := cX1_codeAt) (maxL := 2) (ret := (some .int)) (by decide +kernel) rfl (Nat.le_of_ble_eq_true rfl) ?_
  show AW g mmX1_codeAt _ 0 [(0, some (.ref k)), (1, some (.int (nI d)))] [] _
  refine am_iload_n (n := 1) (i := 1) dX1_codeAt_0 rfl rfl rfl ?_
  refine am_if_lt (tgt := 21) (n := 4) dX1_codeAt_1 (by decide) rfl (fun q => absurd q (nI_pos (by omega))) (fun _ => ?_)
  refine am_iload_n (n := 5) (i := 1) dX1_codeAt_4 rfl rfl rfl ?_
  refine am_aload_n (n := 6) (i := 0) dX1_codeAt_5 rfl rfl rfl ?_
  refine gfX1_codeAt_34 (n := 9) dX1_codeAt_6 (by first | assumption | exact isC_of (by decide +kernel)) rfl ?_
  rw [hR.2.2.1]
  refine am_icmp_ge (tgt := 21) (n := 12) dX1_codeAt_9 (by decide) rfl (fun q => absurd q (nI_ge hdl (by omega))) (fun _ => ?_)
  refine am_aload_n (n := 13) (i := 0) dX1_codeAt_12 rfl rfl rfl ?_
  refine gfX1_codeAt_18 (n := 16) dX1_codeAt_13 (by first | assumption | exact isC_of (by decide +kernel)) rfl ?_
  refine am_iload_n (n := 17) (i := 1) dX1_codeAt_16 rfl rfl rfl ?_
  refine am_iald (n := 18) dX1_codeAt_17 (by first | assumption | exact isC_of (by decide +kernel)) (by first | assumption | exact vp_in_nI (by omega) (by omega) | decide) rfl ?_
  rw [nI_clamp (by omega), q1]
  refine am_goto (tgt := 22) dX1_codeAt_18 (by decide) ?_
  refine am_iret dX1_codeAt_22 rfl rfl ?_
  exact ⟨rfl, rfl⟩
set_option maxRecDepth 100000 in
set_option maxHeartbeats 400000 in
theorem ac_X1_namesAt (g : Gx) (k d c : Nat) (cs : List (List Nat)) (h : Hp) (hk : isDr k) (hR : RD k cs h) (hV : VC cs) (hd : (dl cs)[d]? = some c) : AD g yX1_namesAt wsX1_namesAt rmX1_namesAt [.ref k, .int (nI d)] h (some (.int (mkC cs c cs.length))) h := by
  obtain ⟨k0, k1, k2, k3, k4, k5⟩ := hk
  have hl := dl_len hV
  have hdl := (List.getElem?_eq_some_iff.mp hd).1
  obtain ⟨-, q1⟩ := hR.2.2.2 d c hd
  refine AC.of (cc := cX1_namesAt) (maxL := 2) (ret := (some .int)) (by decide +kernel) rfl (Nat.le_of_ble_eq_true rfl) ?_
  show AW g mmX1_namesAt _ 0 [(0, some (.ref k)), (1, some (.int (nI d)))] [] _
  refine am_iload_n (n := 1) (i := 1) dX1_namesAt_0 rfl rfl rfl ?_
  refine am_if_lt (tgt := 21) (n := 4) dX1_namesAt_1 (by decide) rfl (fun q => absurd q (nI_pos (by omega))) (fun _ => ?_)
  refine am_iload_n (n := 5) (i := 1) dX1_namesAt_4 rfl rfl rfl ?_
  refine am_aload_n (n := 6) (i := 0) dX1_namesAt_5 rfl rfl rfl ?_
  refine gfX1_namesAt_34 (n := 9) dX1_namesAt_6 (by first | assumption | exact isC_of (by decide +kernel)) rfl ?_
  rw [hR.2.2.1]
  refine am_icmp_ge (tgt := 21) (n := 12) dX1_namesAt_9 (by decide) rfl (fun q => absurd q (nI_ge hdl (by omega))) (fun _ => ?_)
  refine am_aload_n (n := 13) (i := 0) dX1_namesAt_12 rfl rfl rfl ?_
  refine gfX1_namesAt_21 (n := 16) dX1_namesAt_13 (by first | assumption | exact isC_of (by decide +kernel)) rfl ?_
  refine am_iload_n (n := 17) (i := 1) dX1_namesAt_16 rfl rfl rfl ?_
  refine am_iald (n := 18) dX1_namesAt_17 (by first | assumption | exact isC_of (by decide +kernel)) (by first | assumption | exact vp_in_nI (by omega) (by omega) | decide) rfl ?_
  rw [nI_clamp (by omega), q1]
  refine am_goto (tgt := 22) dX1_namesAt_18 (by decide) ?_
  refine am_iret dX1_namesAt_22 rfl rfl ?_
  exact ⟨rfl, rfl⟩
theorem cN_dl {cs : List (List Nat)} {i j c : Nat} (hi : i < cs.length) (hj : (cN cs i)[j]? = some c) : (dl cs)[ix c (dl cs)]? = some c := by
  have hx : cs[i]? = some cs[i] := List.getElem?_eq_getElem hi
  rw [cN_of hx] at hj
  exact ix_in (mem_dl.mpr ⟨i, _, hx, List.mem_of_getElem? hj⟩)
theorem lkM_orF {cs : List (List Nat)} (hn : cs.length ≤ 24) (i : Nat) : orF (fun j => mkC cs ((cN cs i).getD j 0) cs.length) (cN cs i).length = lkM cs i := by
  refine bt_ext (fun m hm => ?_)
  unfold lkM
  rw [bt_orF, bt_msk (by omega)]
  unfold com
  rw [List.any_eq_true]
  constructor
  · rintro ⟨j, hj, hb⟩
    rw [mkC_msk, bt_msk (by omega)] at hb
    refine ⟨hb.1, (cN cs i).getD j 0, ?_, hb.2⟩
    rw [List.getD_eq_getElem?_getD, List.getElem?_eq_getElem hj]
    exact List.getElem_mem hj
  · rintro ⟨h1, c, hc, h2⟩
    obtain ⟨j, hj⟩ := List.getElem?_of_mem hc
    refine ⟨j, (List.getElem?_eq_some_iff.mp hj).1, ?_⟩
    rw [mkC_msk, bt_msk (by omega), List.getD_eq_getElem?_getD, hj]
    exact ⟨h1, h2⟩
set_option maxRecDepth 100000 in
set_option maxHeartbeats 400000 in
theorem ac_X1_namesLike (g : Gx) (k i : Nat) (cs : List (List Nat)) (h : Hp) (hk : isDr k) (hR : RD k cs h) (hV : VC cs) (hi : i < cs.length) : AD g yX1_namesLike wsX1_namesLike rmX1_namesLike [.ref k, .int (nI i)] h (some (.int (lkM cs i))) h := by
  have hk' := hk
  obtain ⟨k0, k1, k2, k3, k4, k5⟩ := hk
  have hn := hV.1
  rw [← lkM_orF hn i]
  have hl4 : (cN cs i).length ≤ 4 := by
    have hx : cs[i]? = some cs[i] := List.getElem?_eq_getElem hi
    rw [cN_of hx]
    exact (hV.2 _ (List.mem_of_getElem? hx)).1
  refine AC.of (cc := cX1_namesLike) (maxL := 5) (ret := (some .int)) (by decide +kernel) rfl (Nat.le_of_ble_eq_true rfl) ?_
  show AW g mmX1_namesLike _ 0 [(0, some (.ref k)), (1, some (.int (nI i)))] [] _
  refine am_iconst (n := 1) (v := 0) dX1_namesLike_0 rfl rfl ?_
  refine am_istore_n (n := 2) (i := 2) dX1_namesLike_1 rfl (Nat.le_of_ble_eq_true rfl) rfl rfl ?_
  refine am_aload_n (n := 3) (i := 0) dX1_namesLike_2 rfl rfl rfl ?_
  refine am_iload_n (n := 4) (i := 1) dX1_namesLike_3 rfl rfl rfl ?_
  refine cdX1_namesLike_54 (n := 7) dX1_namesLike_4 ⟨rfl, rfl⟩ (ac_X1_codesOf g k i cs h hk' hR hV hi) rfl rfl (Nat.le_of_ble_eq_true rfl) (by first | assumption | exact isC_of (by decide +kernel)) rfl ?_
  refine am_istore_n (n := 8) (i := 3) dX1_namesLike_7 rfl (Nat.le_of_ble_eq_true rfl) rfl rfl ?_
  refine am_iconst (n := 9) (v := 0) dX1_namesLike_8 rfl rfl ?_
  refine am_istore (n := 11) dX1_namesLike_9 (Nat.le_of_ble_eq_true rfl) rfl rfl ?_
  refine am_loc [(0, some (.ref k)), (1, some (.int (nI i))), (2, some (.int (orF (fun j => mkC cs ((cN cs i).getD j 0) cs.length) 0))), (3, some (.int (nI (cN cs i).length))), (4, some (.int (nI 0)))] rfl ?_
  refine loop_up (Wp := fun j => AW g mmX1_namesLike _ 11 [(0, some (.ref k)), (1, some (.int (nI i))), (2, some (.int (orF (fun j => mkC cs ((cN cs i).getD j 0) cs.length) j))), (3, some (.int (nI (cN cs i).length))), (4, some (.int (nI j)))] [] h) (cN cs i).length ?_ ?_ 0 (Nat.zero_le _)
  · refine am_iload (n := 13) dX1_namesLike_11 rfl rfl ?_
    refine am_iload_n (n := 14) (i := 3) dX1_namesLike_13 rfl rfl rfl ?_
    refine am_icmp_ge (tgt := 37) (n := 17) dX1_namesLike_14 (by decide) rfl (fun _ => ?_) (fun q => absurd (Int32.le_refl _) q)
    refine am_iload_n (n := 38) (i := 2) dX1_namesLike_37 rfl rfl rfl ?_
    refine am_iret dX1_namesLike_38 rfl rfl ?_
    exact ⟨rfl, rfl⟩
  · intro j hj K
    have hx : (cN cs i)[j]? = some ((cN cs i).getD j 0) := by rw [List.getD_eq_getElem?_getD, List.getElem?_eq_getElem hj]; rfl
    refine am_iload (n := 13) dX1_namesLike_11 rfl rfl ?_
    refine am_iload_n (n := 14) (i := 3) dX1_namesLike_13 rfl rfl rfl ?_
    refine am_icmp_ge (tgt := 37) (n := 17) dX1_namesLike_14 (by decide) rfl (fun q => absurd q (nI_ge hj (by omega))) (fun _ => ?_)
    refine am_iload_n (n := 18) (i := 2) dX1_namesLike_17 rfl rfl rfl ?_
    refine am_aload_n (n := 19) (i := 0) dX1_namesLike_18 rfl rfl rfl ?_
    refine am_aload_n (n := 20) (i := 0) dX1_namesLike_19 rfl rfl rfl ?_
    refine am_iload_n (n := 21) (i := 1) dX1_namesLike_20 rfl rfl rfl ?_
    refine am_iload (n := 23) dX1_namesLike_21 rfl rfl ?_
    refine cdX1_namesLike_68 (n := 26) dX1_namesLike_23 ⟨rfl, rfl⟩ (ac_X1_drawerOf g k i j _ cs h hk' hR hV hi hx) rfl rfl (Nat.le_of_ble_eq_true rfl) (by first | assumption | exact isC_of (by decide +kernel)) rfl ?_
    refine cdX1_namesLike_71 (n := 29) dX1_namesLike_26 ⟨rfl, rfl⟩ (ac_X1_namesAt g k _ _ cs h hk' hR hV (cN_dl hi hx)) rfl rfl (Nat.le_of_ble_eq_true rfl) (by first | assumption | exact isC_of (by decide +kernel)) rfl ?_
    refine am_ior (n := 30) dX1_namesLike_29 rfl ?_
    refine am_istore_n (n := 31) (i := 2) dX1_namesLike_30 rfl (Nat.le_of_ble_eq_true rfl) rfl rfl ?_
    first | refine am_iincN (n := 34) dX1_namesLike_31 rfl rfl rfl ?_ | refine am_iinc1 (n := 34) dX1_namesLike_31 rfl rfl rfl ?_
    refine am_goto (tgt := 11) dX1_namesLike_34 (by decide) ?_
    exact am_loc _ rfl K
set_option maxRecDepth 100000 in
set_option maxHeartbeats 400000 in
theorem ac_X1_alikePairs (g : Gx) (k : Nat) (cs : List (List Nat)) (h : Hp) (hk : isDr k) (hR : RD k cs h) (hV : VC cs) : AD g yX1_alikePairs wsX1_alikePairs rmX1_alikePairs [.ref k] h (some (.int (prs cs))) h := by
  have hk' := hk
  obtain ⟨k0, k1, k2, k3, k4, k5⟩ := hk
  have hn := hV.1
  refine AC.of (cc := cX1_alikePairs) (maxL := 3) (ret := (some .int)) (by decide +kernel) rfl (Nat.le_of_ble_eq_true rfl) ?_
  show AW g mmX1_alikePairs _ 0 [(0, some (.ref k))] [] _
  refine am_iconst (n := 1) (v := 0) dX1_alikePairs_0 rfl rfl ?_
  refine am_istore_n (n := 2) (i := 1) dX1_alikePairs_1 rfl (Nat.le_of_ble_eq_true rfl) rfl rfl ?_
  refine am_iconst (n := 3) (v := 0) dX1_alikePairs_2 rfl rfl ?_
  refine am_istore_n (n := 4) (i := 2) dX1_alikePairs_3 rfl (Nat.le_of_ble_eq_true rfl) rfl rfl ?_
  refine am_loc [(0, some (.ref k)), (1, some (.int (twF cs 0))), (2, some (.int (nI 0)))] rfl ?_
  refine loop_up (Wp := fun i => AW g mmX1_alikePairs _ 4 [(0, some (.ref k)), (1, some (.int (twF cs i))), (2, some (.int (nI i)))] [] h) cs.length ?_ ?_ 0 (Nat.zero_le _)
  · refine am_iload_n (n := 5) (i := 2) dX1_alikePairs_4 rfl rfl rfl ?_
    refine am_aload_n (n := 6) (i := 0) dX1_alikePairs_5 rfl rfl rfl ?_
    refine gfX1_alikePairs_33 (n := 9) dX1_alikePairs_6 (by first | assumption | exact isC_of (by decide +kernel)) rfl ?_
    rw [hR.n]
    refine am_icmp_ge (tgt := 31) (n := 12) dX1_alikePairs_9 (by decide) rfl (fun _ => ?_) (fun q => absurd (Int32.le_refl _) q)
    refine am_iload_n (n := 32) (i := 1) dX1_alikePairs_31 rfl rfl rfl ?_
    refine am_iconst (n := 33) (v := 2) dX1_alikePairs_32 rfl rfl ?_
    refine am_idiv (n := 34) dX1_alikePairs_33 (by decide) rfl ?_
    refine am_iret dX1_alikePairs_34 rfl rfl ?_
    exact ⟨rfl, rfl⟩
  · intro i hi K
    refine am_iload_n (n := 5) (i := 2) dX1_alikePairs_4 rfl rfl rfl ?_
    refine am_aload_n (n := 6) (i := 0) dX1_alikePairs_5 rfl rfl rfl ?_
    refine gfX1_alikePairs_33 (n := 9) dX1_alikePairs_6 (by first | assumption | exact isC_of (by decide +kernel)) rfl ?_
    rw [hR.n]
    refine am_icmp_ge (tgt := 31) (n := 12) dX1_alikePairs_9 (by decide) rfl (fun q => absurd q (nI_ge hi (by omega))) (fun _ => ?_)
    refine am_iload_n (n := 13) (i := 1) dX1_alikePairs_12 rfl rfl rfl ?_
    refine am_aload_n (n := 14) (i := 0) dX1_alikePairs_13 rfl rfl rfl ?_
    refine am_iload_n (n := 15) (i := 2) dX1_alikePairs_14 rfl rfl rfl ?_
    refine cdX1_alikePairs_74 (n := 18) dX1_alikePairs_15 ⟨rfl, rfl⟩ (ac_X1_namesLike g k i cs h hk' hR hV hi) rfl rfl (Nat.le_of_ble_eq_true rfl) (by first | assumption | exact isC_of (by decide +kernel)) rfl ?_
    refine cdX1_alikePairs_57 (n := 21) dX1_alikePairs_18 ⟨rfl, rfl⟩ (ac_bitCount g (lkM cs i) h) rfl rfl (Nat.le_of_ble_eq_true rfl) rfl ?_
    refine am_iconst (n := 22) (v := 1) dX1_alikePairs_21 rfl rfl ?_
    refine am_isub (n := 23) dX1_alikePairs_22 rfl ?_
    refine am_iadd (n := 24) dX1_alikePairs_23 rfl ?_
    refine am_istore_n (n := 25) (i := 1) dX1_alikePairs_24 rfl (Nat.le_of_ble_eq_true rfl) rfl rfl ?_
    first | refine am_iincN (n := 28) dX1_alikePairs_25 rfl rfl rfl ?_ | refine am_iinc1 (n := 28) dX1_alikePairs_25 rfl rfl rfl ?_
    refine am_goto (tgt := 4) dX1_alikePairs_28 (by decide) ?_
    exact am_loc _ rfl K
set_option maxRecDepth 100000 in
set_option maxHeartbeats 400000 in
theorem ac_X1_namesInSeveral (g : Gx) (k : Nat) (cs : List (List Nat)) (h : Hp) (hk : isDr k) (hR : RD k cs h) (hV : VC cs) : AD g yX1_namesInSeveral wsX1_namesInSeveral rmX1_namesInSeveral [.ref k] h (some (.int (svM cs))) h := by
  obtain ⟨k0, k1, k2, k3, k4, k5⟩ := hk
  have hn := hV.1
  unfold svM
  refine AC.of (cc := cX1_namesInSeveral) (maxL := 3) (ret := (some .int)) (by decide +kernel) rfl (Nat.le_of_ble_eq_true rfl) ?_
  show AW g mmX1_namesInSeveral _ 0 [(0, some (.ref k))] [] _
  refine am_iconst (n := 1) (v := 0) dX1_namesInSeveral_0 rfl rfl ?_
  refine am_istore_n (n := 2) (i := 1) dX1_namesInSeveral_1 rfl (Nat.le_of_ble_eq_true rfl) rfl rfl ?_
  refine am_iconst (n := 3) (v := 0) dX1_namesInSeveral_2 rfl rfl ?_
  refine am_istore_n (n := 4) (i := 2) dX1_namesInSeveral_3 rfl (Nat.le_of_ble_eq_true rfl) rfl rfl ?_
  refine am_loc [(0, some (.ref k)), (1, some (.int (orF (fun i => if 1 < (cN cs i).length then sh1 i else 0) 0))), (2, some (.int (nI 0)))] rfl ?_
  refine loop_up (Wp := fun i => AW g mmX1_namesInSeveral _ 4 [(0, some (.ref k)), (1, some (.int (orF (fun i => if 1 < (cN cs i).length then sh1 i else 0) i))), (2, some (.int (nI i)))] [] h) cs.length ?_ ?_ 0 (Nat.zero_le _)
  · refine am_iload_n (n := 5) (i := 2) dX1_namesInSeveral_4 rfl rfl rfl ?_
    refine am_aload_n (n := 6) (i := 0) dX1_namesInSeveral_5 rfl rfl rfl ?_
    refine gfX1_namesInSeveral_33 (n := 9) dX1_namesInSeveral_6 (by first | assumption | exact isC_of (by decide +kernel)) rfl ?_
    rw [hR.n]
    refine am_icmp_ge (tgt := 34) (n := 12) dX1_namesInSeveral_9 (by decide) rfl (fun _ => ?_) (fun q => absurd (Int32.le_refl _) q)
    refine am_iload_n (n := 35) (i := 1) dX1_namesInSeveral_34 rfl rfl rfl ?_
    refine am_iret dX1_namesInSeveral_35 rfl rfl ?_
    exact ⟨rfl, rfl⟩
  · intro i hi K
    have hx : cs[i]? = some cs[i] := List.getElem?_eq_getElem hi
    obtain ⟨q1, -⟩ := hR.2.1 i _ hx
    have hl4 := (hV.2 _ (List.mem_of_getElem? hx)).1
    have eo : orF (fun i => if 1 < (cN cs i).length then sh1 i else 0) (i + 1) = orF (fun i => if 1 < (cN cs i).length then sh1 i else 0) i ||| (if 1 < (cN cs i).length then sh1 i else 0) := rfl
    rw [cN_of hx] at eo
    refine am_iload_n (n := 5) (i := 2) dX1_namesInSeveral_4 rfl rfl rfl ?_
    refine am_aload_n (n := 6) (i := 0) dX1_namesInSeveral_5 rfl rfl rfl ?_
    refine gfX1_namesInSeveral_33 (n := 9) dX1_namesInSeveral_6 (by first | assumption | exact isC_of (by decide +kernel)) rfl ?_
    rw [hR.n]
    refine am_icmp_ge (tgt := 34) (n := 12) dX1_namesInSeveral_9 (by decide) rfl (fun q => absurd q (nI_ge hi (by omega))) (fun _ => ?_)
    refine am_aload_n (n := 13) (i := 0) dX1_namesInSeveral_12 rfl rfl rfl ?_
    refine gfX1_namesInSeveral_9 (n := 16) dX1_namesInSeveral_13 (by first | assumption | exact isC_of (by decide +kernel)) rfl ?_
    refine am_iload_n (n := 17) (i := 2) dX1_namesInSeveral_16 rfl rfl rfl ?_
    refine am_iald (n := 18) dX1_namesInSeveral_17 (by first | assumption | exact isC_of (by decide +kernel)) (by first | assumption | exact vp_in_nI (by omega) (by omega) | decide) rfl ?_
    refine am_iconst (n := 19) (v := 1) dX1_namesInSeveral_18 rfl rfl ?_
    rw [nI_clamp (by omega), q1]
    by_cases h1 : 1 < cs[i].length
    · rw [if_pos h1] at eo
      rw [eo] at K
      refine am_icmp_le (tgt := 28) (n := 22) dX1_namesInSeveral_19 (by decide) rfl (fun q => absurd q (nI_ge h1 (by omega))) (fun _ => ?_)
      refine am_iload_n (n := 23) (i := 1) dX1_namesInSeveral_22 rfl rfl rfl ?_
      refine am_iconst (n := 24) (v := 1) dX1_namesInSeveral_23 rfl rfl ?_
      refine am_iload_n (n := 25) (i := 2) dX1_namesInSeveral_24 rfl rfl rfl ?_
      refine am_ishl (n := 26) dX1_namesInSeveral_25 rfl ?_
      refine am_ior (n := 27) dX1_namesInSeveral_26 rfl ?_
      refine am_istore_n (n := 28) (i := 1) dX1_namesInSeveral_27 rfl (Nat.le_of_ble_eq_true rfl) rfl rfl ?_
      first | refine am_iincN (n := 31) dX1_namesInSeveral_28 rfl rfl rfl ?_ | refine am_iinc1 (n := 31) dX1_namesInSeveral_28 rfl rfl rfl ?_
      refine am_goto (tgt := 4) dX1_namesInSeveral_31 (by decide) ?_
      exact am_loc _ rfl K
    · rw [if_neg h1, or_0] at eo
      rw [eo] at K
      refine am_icmp_le (tgt := 28) (n := 22) dX1_namesInSeveral_19 (by decide) rfl (fun _ => ?_) (fun q => absurd (nI_le (Nat.not_lt.mp h1) (by decide)) q)
      first | refine am_iincN (n := 31) dX1_namesInSeveral_28 rfl rfl rfl ?_ | refine am_iinc1 (n := 31) dX1_namesInSeveral_28 rfl rfl rfl ?_
      refine am_goto (tgt := 4) dX1_namesInSeveral_31 (by decide) ?_
      exact am_loc _ rfl K
set_option maxRecDepth 100000 in
set_option maxHeartbeats 400000 in
theorem ac_X1_namesInFullest (g : Gx) (k : Nat) (cs : List (List Nat)) (h : Hp) (hk : isDr k) (hR : RD k cs h) (hV : VC cs) : AD g yX1_namesInFullest wsX1_namesInFullest rmX1_namesInFullest [.ref k] h (some (.int (nI (fuM cs)))) h := by
  obtain ⟨k0, k1, k2, k3, k4, k5⟩ := hk
  have hl := dl_len hV
  have hr3 := hR.2.2.1
  unfold fuM
  generalize hf : (fun d => pc (mkC cs ((dl cs).getD d 0) cs.length)) = f
  have hfl : ∀ i, f i ≤ 32 := fun i => by rw [← hf]; exact pc_le _
  refine AC.of (cc := cX1_namesInFullest) (maxL := 3) (ret := (some .int)) (by decide +kernel) rfl (Nat.le_of_ble_eq_true rfl) ?_
  show AW g mmX1_namesInFullest _ 0 [(0, some (.ref k))] [] _
  refine am_iconst (n := 1) (v := 0) dX1_namesInFullest_0 rfl rfl ?_
  refine am_istore_n (n := 2) (i := 1) dX1_namesInFullest_1 rfl (Nat.le_of_ble_eq_true rfl) rfl rfl ?_
  refine am_iconst (n := 3) (v := 0) dX1_namesInFullest_2 rfl rfl ?_
  refine am_istore_n (n := 4) (i := 2) dX1_namesInFullest_3 rfl (Nat.le_of_ble_eq_true rfl) rfl rfl ?_
  refine am_loc [(0, some (.ref k)), (1, some (.int (nI (mxF f 0)))), (2, some (.int (nI 0)))] rfl ?_
  refine loop_up (Wp := fun i => AW g mmX1_namesInFullest _ 4 [(0, some (.ref k)), (1, some (.int (nI (mxF f i)))), (2, some (.int (nI i)))] [] h) (dl cs).length ?_ ?_ 0 (Nat.zero_le _)
  · refine am_iload_n (n := 5) (i := 2) dX1_namesInFullest_4 rfl rfl rfl ?_
    refine am_aload_n (n := 6) (i := 0) dX1_namesInFullest_5 rfl rfl rfl ?_
    refine gfX1_namesInFullest_34 (n := 9) dX1_namesInFullest_6 (by first | assumption | exact isC_of (by decide +kernel)) rfl ?_
    rw [hr3]
    refine am_icmp_ge (tgt := 32) (n := 12) dX1_namesInFullest_9 (by decide) rfl (fun _ => ?_) (fun q => absurd (Int32.le_refl _) q)
    refine am_iload_n (n := 33) (i := 1) dX1_namesInFullest_32 rfl rfl rfl ?_
    refine am_iret dX1_namesInFullest_33 rfl rfl ?_
    exact ⟨rfl, rfl⟩
  · intro i hi K
    have hx : (dl cs)[i]? = some ((dl cs).getD i 0) := by rw [List.getD_eq_getElem?_getD, List.getElem?_eq_getElem hi]; rfl
    obtain ⟨-, q1⟩ := hR.2.2.2 i _ hx
    have hm := mxF_le hfl i
    have hfi := hfl i
    refine am_iload_n (n := 5) (i := 2) dX1_namesInFullest_4 rfl rfl rfl ?_
    refine am_aload_n (n := 6) (i := 0) dX1_namesInFullest_5 rfl rfl rfl ?_
    refine gfX1_namesInFullest_34 (n := 9) dX1_namesInFullest_6 (by first | assumption | exact isC_of (by decide +kernel)) rfl ?_
    rw [hr3]
    refine am_icmp_ge (tgt := 32) (n := 12) dX1_namesInFullest_9 (by decide) rfl (fun q => absurd q (nI_ge hi (by omega))) (fun _ => ?_)
    refine am_iload_n (n := 13) (i := 1) dX1_namesInFullest_12 rfl rfl rfl ?_
    refine am_aload_n (n := 14) (i := 0) dX1_namesInFullest_13 rfl rfl rfl ?_
    refine gfX1_namesInFullest_21 (n := 17) dX1_namesInFullest_14 (by first | assumption | exact isC_of (by decide +kernel)) rfl ?_
    refine am_iload_n (n := 18) (i := 2) dX1_namesInFullest_17 rfl rfl rfl ?_
    refine am_iald (n := 19) dX1_namesInFullest_18 (by first | assumption | exact isC_of (by decide +kernel)) (by first | assumption | exact vp_in_nI (by omega) (by omega) | decide) rfl ?_
    rw [nI_clamp (by omega), q1]
    refine cdX1_namesInFullest_57 (n := 22) dX1_namesInFullest_19 ⟨rfl, rfl⟩ (ac_bitCount g (mkC cs ((dl cs).getD i 0) cs.length) h) rfl rfl (Nat.le_of_ble_eq_true rfl) rfl ?_
    have hp : pc (mkC cs ((dl cs).getD i 0) cs.length) = f i := by rw [← hf]
    rw [hp]
    refine am_mmax (n := 25) dX1_namesInFullest_22 (by decide +kernel) (by decide +kernel) (by decide +kernel) (by decide +kernel) (Nat.le_of_ble_eq_true rfl) (Nat.le_of_ble_eq_true rfl) ⟨(Nat.le_of_ble_eq_true rfl), (Nat.le_of_ble_eq_true rfl)⟩ rfl ?_
    have e : (if nI (mxF f i) < nI (f i) then nI (f i) else nI (mxF f i)) = nI (mxF f (i + 1)) := by
      rw [mxF]
      by_cases z : mxF f i < f i
      · rw [if_pos z, if_pos (nI_lt z (by omega))]
      · rw [if_neg z, if_neg (fun q => z ((nI_ltI (by omega) (by omega)).mp q))]
    rw [e]
    refine am_istore_n (n := 26) (i := 1) dX1_namesInFullest_25 rfl (Nat.le_of_ble_eq_true rfl) rfl rfl ?_
    first | refine am_iincN (n := 29) dX1_namesInFullest_26 rfl rfl rfl ?_ | refine am_iinc1 (n := 29) dX1_namesInFullest_26 rfl rfl rfl ?_
    refine am_goto (tgt := 4) dX1_namesInFullest_29 (by decide) ?_
    exact am_loc _ rfl K
