/-! The reference's small methods -/
set_option maxRecDepth 100000 in
set_option maxHeartbeats 400000 in
theorem m_in (g : Gx) (x a b : Int32) (h : Hp) : AD g yX8_in wsX8_in rmX8_in [.int x, .int a, .int b] h (some (.int (bI (decide (a ≤ x) && decide (x ≤ b))))) h := by
  refine AC.of (cc := cX8_in) (maxL := 3) (ret := (some .boolean)) (by decide +kernel) rfl (Nat.le_of_ble_eq_true rfl) ?_
  show AW g mmX8_in _ 0 [(0, some (.int x)), (1, some (.int a)), (2, some (.int b))] [] _
  refine am_iload_n (n := 1) (i := 0) dX8_in_0 rfl rfl rfl ?_
  refine am_iload_n (n := 2) (i := 1) dX8_in_1 rfl rfl rfl ?_
  by_cases h1 : x < a
  · refine am_icmp_lt (tgt := 14) (n := 5) dX8_in_2 (by decide) rfl (fun _ => ?_) (fun q_z => absurd h1 q_z)
    refine am_iconst (n := 15) (v := 0) dX8_in_14 rfl rfl ?_
    refine am_iret dX8_in_15 rfl rfl ?_
    rw [decide_eq_false (Int32.not_le.mpr h1)]
    exact ⟨rfl, rfl⟩
  · refine am_icmp_lt (tgt := 14) (n := 5) dX8_in_2 (by decide) rfl (fun q_z => absurd q_z h1) (fun _ => ?_)
    rw [decide_eq_true (Int32.not_lt.mp h1)]
    refine am_iload_n (n := 6) (i := 0) dX8_in_5 rfl rfl rfl ?_
    refine am_iload_n (n := 7) (i := 2) dX8_in_6 rfl rfl rfl ?_
    by_cases h2 : b < x
    · refine am_icmp_gt (tgt := 14) (n := 10) dX8_in_7 (by decide) rfl (fun _ => ?_) (fun q_z => absurd h2 q_z)
      refine am_iconst (n := 15) (v := 0) dX8_in_14 rfl rfl ?_
      refine am_iret dX8_in_15 rfl rfl ?_
      rw [decide_eq_false (Int32.not_le.mpr h2)]
      exact ⟨rfl, rfl⟩
    · refine am_icmp_gt (tgt := 14) (n := 10) dX8_in_7 (by decide) rfl (fun q_z => absurd q_z h2) (fun _ => ?_)
      refine am_iconst (n := 11) (v := 1) dX8_in_10 rfl rfl ?_
      refine am_goto (tgt := 15) dX8_in_11 (by decide) ?_
      refine am_iret dX8_in_15 rfl rfl ?_
      rw [decide_eq_true (Int32.not_lt.mp h2)]
      exact ⟨rfl, rfl⟩
theorem nar_bI (b : Bool) : narrow .boolean (.int (bI b)) = .int (bI b) := by cases b <;> rfl
theorem isC_40 : isC 40 6 0 := isC_of (by decide +kernel)
theorem isC_41 : isC 41 8 580 := isC_of (by decide +kernel)
theorem isC_42 : isC 42 8 580 := isC_of (by decide +kernel)
theorem isC_43 : isC 43 8 3480 := isC_of (by decide +kernel)
theorem isC_44 : isC 44 8 1160 := isC_of (by decide +kernel)
theorem isC_45 : isC 45 10 2 := isC_of (by decide +kernel)
theorem isC_46 : isC 46 8 80 := isC_of (by decide +kernel)
theorem isC_47 : isC 47 8 10 := isC_of (by decide +kernel)
theorem isC_48 : isC 48 9 4 := isC_of (by decide +kernel)
theorem isC_49 : isC 49 9 96 := isC_of (by decide +kernel)
theorem isC_50 : isC 50 8 24 := isC_of (by decide +kernel)
theorem isC_51 : isC 51 9 96 := isC_of (by decide +kernel)
theorem isC_52 : isC 52 8 11 := isC_of (by decide +kernel)
theorem isC_53 : isC 53 8 24 := isC_of (by decide +kernel)
set_option maxRecDepth 100000 in
set_option maxHeartbeats 400000 in
theorem m_isName (g : Gx) (x : Int32) (n : Nat) (h : Hp) (hn : n < 2 ^ 31) (hz : h.1 41 2 = nI n) : AD g yX8_isName wsX8_isName rmX8_isName [.ref 40, .int x] h (some (.int (bI (inN x n)))) h := by
  have c40 := isC_40
  have c41 := isC_41
  refine AC.of (cc := cX8_isName) (maxL := 2) (ret := (some .boolean)) (by decide +kernel) rfl (Nat.le_of_ble_eq_true rfl) ?_
  show AW g mmX8_isName _ 0 [(0, some (.ref 40)), (1, some (.int x))] [] _
  refine am_iload_n (n := 1) (i := 1) dX8_isName_0 rfl rfl rfl ?_
  refine am_iconst (n := 2) (v := 0) dX8_isName_1 rfl rfl ?_
  refine am_aload_n (n := 3) (i := 0) dX8_isName_2 rfl rfl rfl ?_
  refine gfX8_isName_7 (n := 6) dX8_isName_3 (by first | assumption | exact isC_of (by decide +kernel)) rfl ?_
  refine am_iconst (n := 7) (v := 2) dX8_isName_6 rfl rfl ?_
  refine am_iald (n := 8) dX8_isName_7 (by first | assumption | exact isC_of (by decide +kernel)) (by first | assumption | exact vp_in_nI (by omega) (by omega) | exact vp_in_iff.mpr (by decide)) rfl ?_
  rw [show (2 : Int32).toNatClampNeg = 2 from rfl, hz]
  refine am_iconst (n := 9) (v := 1) dX8_isName_8 rfl rfl ?_
  refine am_isub (n := 10) dX8_isName_9 rfl ?_
  refine cdX8_isName_51 (n := 13) dX8_isName_10 (by first | exact ⟨rfl, rfl⟩ | assumption) (m_in g x 0 (nI n - 1) h) rfl rfl (Nat.le_of_ble_eq_true rfl) rfl ?_
  rw [inN_pred x hn]
  exact am_iret dX8_isName_13 rfl (nar_bI _) ⟨rfl, rfl⟩
set_option maxRecDepth 100000 in
set_option maxHeartbeats 400000 in
theorem m_isEar (g : Gx) (x : Int32) (n : Nat) (h : Hp) (hn : n < 2 ^ 31) (hz : h.1 41 3 = nI n) : AD g yX8_isEar wsX8_isEar rmX8_isEar [.ref 40, .int x] h (some (.int (bI (inN x n)))) h := by
  have c40 := isC_40
  have c41 := isC_41
  refine AC.of (cc := cX8_isEar) (maxL := 2) (ret := (some .boolean)) (by decide +kernel) rfl (Nat.le_of_ble_eq_true rfl) ?_
  show AW g mmX8_isEar _ 0 [(0, some (.ref 40)), (1, some (.int x))] [] _
  refine am_iload_n (n := 1) (i := 1) dX8_isEar_0 rfl rfl rfl ?_
  refine am_iconst (n := 2) (v := 0) dX8_isEar_1 rfl rfl ?_
  refine am_aload_n (n := 3) (i := 0) dX8_isEar_2 rfl rfl rfl ?_
  refine gfX8_isEar_7 (n := 6) dX8_isEar_3 (by first | assumption | exact isC_of (by decide +kernel)) rfl ?_
  refine am_iconst (n := 7) (v := 3) dX8_isEar_6 rfl rfl ?_
  refine am_iald (n := 8) dX8_isEar_7 (by first | assumption | exact isC_of (by decide +kernel)) (by first | assumption | exact vp_in_nI (by omega) (by omega) | exact vp_in_iff.mpr (by decide)) rfl ?_
  rw [show (3 : Int32).toNatClampNeg = 3 from rfl, hz]
  refine am_iconst (n := 9) (v := 1) dX8_isEar_8 rfl rfl ?_
  refine am_isub (n := 10) dX8_isEar_9 rfl ?_
  refine cdX8_isEar_51 (n := 13) dX8_isEar_10 (by first | exact ⟨rfl, rfl⟩ | assumption) (m_in g x 0 (nI n - 1) h) rfl rfl (Nat.le_of_ble_eq_true rfl) rfl ?_
  rw [inN_pred x hn]
  exact am_iret dX8_isEar_13 rfl (nar_bI _) ⟨rfl, rfl⟩
set_option maxRecDepth 100000 in
set_option maxHeartbeats 400000 in
theorem m_isLetter (g : Gx) (x : Int32) (h : Hp) : AD g yX8_isLetter wsX8_isLetter rmX8_isLetter [.int x] h (some (.int (bI (isLtr x)))) h := by
  refine AC.of (cc := cX8_isLetter) (maxL := 1) (ret := (some .boolean)) (by decide +kernel) rfl (Nat.le_of_ble_eq_true rfl) ?_
  show AW g mmX8_isLetter _ 0 [(0, some (.int x))] [] _
  refine am_iload_n (n := 1) (i := 0) dX8_isLetter_0 rfl rfl rfl ?_
  refine am_iconst (n := 2) (v := 0) dX8_isLetter_1 rfl rfl ?_
  refine am_bipush (n := 4) (v := 25) dX8_isLetter_2 rfl rfl ?_
  refine cdX8_isLetter_51 (n := 7) dX8_isLetter_4 (by first | exact ⟨rfl, rfl⟩ | assumption) (m_in g x 0 25 h) rfl rfl (Nat.le_of_ble_eq_true rfl) rfl ?_
  have e : (decide (0 ≤ x) && decide (x ≤ 25)) = isLtr x := inN_pred x (n := 26) (by decide)
  rw [e]
  exact am_iret dX8_isLetter_7 rfl (nar_bI _) ⟨rfl, rfl⟩
set_option maxRecDepth 100000 in
set_option maxHeartbeats 400000 in
theorem m_isKind (g : Gx) (x : Int32) (h : Hp) : AD g yX8_isKind wsX8_isKind rmX8_isKind [.int x] h (some (.int (bI (inR x 0 9)))) h := by
  refine AC.of (cc := cX8_isKind) (maxL := 1) (ret := (some .boolean)) (by decide +kernel) rfl (Nat.le_of_ble_eq_true rfl) ?_
  show AW g mmX8_isKind _ 0 [(0, some (.int x))] [] _
  refine am_iload_n (n := 1) (i := 0) dX8_isKind_0 rfl rfl rfl ?_
  refine am_iconst (n := 2) (v := 0) dX8_isKind_1 rfl rfl ?_
  refine am_bipush (n := 4) (v := 9) dX8_isKind_2 rfl rfl ?_
  refine cdX8_isKind_51 (n := 7) dX8_isKind_4 (by first | exact ⟨rfl, rfl⟩ | assumption) (m_in g x 0 9 h) rfl rfl (Nat.le_of_ble_eq_true rfl) rfl ?_
  exact am_iret dX8_isKind_7 rfl (nar_bI _) ⟨rfl, rfl⟩
set_option maxRecDepth 100000 in
set_option maxHeartbeats 400000 in
theorem m_areKinds (g : Gx) (a b : Int32) (h : Hp) : AD g yX8_areKinds wsX8_areKinds rmX8_areKinds [.int a, .int b] h (some (.int (bI (canM a b)))) h := by
  unfold canM
  refine AC.of (cc := cX8_areKinds) (maxL := 2) (ret := (some .boolean)) (by decide +kernel) rfl (Nat.le_of_ble_eq_true rfl) ?_
  show AW g mmX8_areKinds _ 0 [(0, some (.int a)), (1, some (.int b))] [] _
  refine am_iload_n (n := 1) (i := 0) dX8_areKinds_0 rfl rfl rfl ?_
  refine cdX8_areKinds_169 (n := 4) dX8_areKinds_1 (by first | exact ⟨rfl, rfl⟩ | assumption) (m_isKind g a h) rfl rfl (Nat.le_of_ble_eq_true rfl) rfl ?_
  cases h1 : inR a 0 9 with
  | false =>
    refine am_if_eq (tgt := 23) (n := 7) dX8_areKinds_4 (by decide) rfl (fun _ => ?_) (fun q_z => absurd rfl q_z)
    refine am_iconst (n := 24) (v := 0) dX8_areKinds_23 rfl rfl ?_
    refine am_iret dX8_areKinds_24 rfl rfl ?_
    exact ⟨rfl, rfl⟩
  | true =>
    refine am_if_eq (tgt := 23) (n := 7) dX8_areKinds_4 (by decide) rfl (fun q_z => absurd q_z (by decide)) (fun _ => ?_)
    refine am_iload_n (n := 8) (i := 1) dX8_areKinds_7 rfl rfl rfl ?_
    refine cdX8_areKinds_169 (n := 11) dX8_areKinds_8 (by first | exact ⟨rfl, rfl⟩ | assumption) (m_isKind g b h) rfl rfl (Nat.le_of_ble_eq_true rfl) rfl ?_
    cases h2 : inR b 0 9 with
    | false =>
      refine am_if_eq (tgt := 23) (n := 14) dX8_areKinds_11 (by decide) rfl (fun _ => ?_) (fun q_z => absurd rfl q_z)
      refine am_iconst (n := 24) (v := 0) dX8_areKinds_23 rfl rfl ?_
      refine am_iret dX8_areKinds_24 rfl rfl ?_
      exact ⟨rfl, rfl⟩
    | true =>
      refine am_if_eq (tgt := 23) (n := 14) dX8_areKinds_11 (by decide) rfl (fun q_z => absurd q_z (by decide)) (fun _ => ?_)
      refine am_iload_n (n := 15) (i := 0) dX8_areKinds_14 rfl rfl rfl ?_
      refine am_iload_n (n := 16) (i := 1) dX8_areKinds_15 rfl rfl rfl ?_
      by_cases e : a = b
      · refine am_icmp_eq (tgt := 23) (n := 19) dX8_areKinds_16 (by decide) rfl (fun _ => ?_) (fun q_z => absurd e q_z)
        refine am_iconst (n := 24) (v := 0) dX8_areKinds_23 rfl rfl ?_
        refine am_iret dX8_areKinds_24 rfl rfl ?_
        rw [decide_eq_false (fun q => q e)]
        exact ⟨rfl, rfl⟩
      · refine am_icmp_eq (tgt := 23) (n := 19) dX8_areKinds_16 (by decide) rfl (fun q_z => absurd q_z e) (fun _ => ?_)
        refine am_iconst (n := 20) (v := 1) dX8_areKinds_19 rfl rfl ?_
        refine am_goto (tgt := 24) dX8_areKinds_20 (by decide) ?_
        refine am_iret dX8_areKinds_24 rfl rfl ?_
        rw [decide_eq_true e]
        exact ⟨rfl, rfl⟩
set_option maxRecDepth 100000 in
set_option maxHeartbeats 400000 in
theorem m_letterOf (g : Gx) (i p : Nat) (h : Hp) (hi : i < 24) (hp : p < 10) : AD g yX8_letterOf wsX8_letterOf rmX8_letterOf [.ref 40, .int (nI i), .int (nI p)] h (some (.int (h.1 41 (4 + 11 * i + 1 + p)))) h := by
  have c40 := isC_40
  have c41 := isC_41
  refine AC.of (cc := cX8_letterOf) (maxL := 3) (ret := (some .int)) (by decide +kernel) rfl (Nat.le_of_ble_eq_true rfl) ?_
  show AW g mmX8_letterOf _ 0 [(0, some (.ref 40)), (1, some (.int (nI i))), (2, some (.int (nI p)))] [] _
  refine am_aload_n (n := 1) (i := 0) dX8_letterOf_0 rfl rfl rfl ?_
  refine gfX8_letterOf_7 (n := 4) dX8_letterOf_1 (by first | assumption | exact isC_of (by decide +kernel)) rfl ?_
  refine am_iconst (n := 5) (v := 4) dX8_letterOf_4 rfl rfl ?_
  refine am_bipush (n := 7) (v := 11) dX8_letterOf_5 rfl rfl ?_
  refine am_iload_n (n := 8) (i := 1) dX8_letterOf_7 rfl rfl rfl ?_
  refine am_imul (n := 9) dX8_letterOf_8 rfl ?_
  refine am_iadd (n := 10) dX8_letterOf_9 rfl ?_
  refine am_iconst (n := 11) (v := 1) dX8_letterOf_10 rfl rfl ?_
  refine am_iadd (n := 12) dX8_letterOf_11 rfl ?_
  refine am_iload_n (n := 13) (i := 2) dX8_letterOf_12 rfl rfl rfl ?_
  refine am_iadd (n := 14) dX8_letterOf_13 rfl ?_
  rw [ix_ltr]
  refine am_iald (n := 15) dX8_letterOf_14 (by first | assumption | exact isC_of (by decide +kernel)) (by first | assumption | exact vp_in_nI (by omega) (by omega) | exact vp_in_iff.mpr (by decide)) rfl ?_
  rw [nI_clamp (by omega)]
  refine am_iret dX8_letterOf_15 rfl rfl ?_
  exact ⟨rfl, rfl⟩
set_option maxRecDepth 100000 in
set_option maxHeartbeats 400000 in
theorem m_lengthOf (g : Gx) (i : Nat) (h : Hp) (hi : i < 24) : AD g yX8_lengthOf wsX8_lengthOf rmX8_lengthOf [.ref 40, .int (nI i)] h (some (.int (h.1 41 (4 + 11 * i)))) h := by
  have c40 := isC_40
  have c41 := isC_41
  refine AC.of (cc := cX8_lengthOf) (maxL := 2) (ret := (some .int)) (by decide +kernel) rfl (Nat.le_of_ble_eq_true rfl) ?_
  show AW g mmX8_lengthOf _ 0 [(0, some (.ref 40)), (1, some (.int (nI i)))] [] _
  refine am_aload_n (n := 1) (i := 0) dX8_lengthOf_0 rfl rfl rfl ?_
  refine gfX8_lengthOf_7 (n := 4) dX8_lengthOf_1 (by first | assumption | exact isC_of (by decide +kernel)) rfl ?_
  refine am_iconst (n := 5) (v := 4) dX8_lengthOf_4 rfl rfl ?_
  refine am_bipush (n := 7) (v := 11) dX8_lengthOf_5 rfl rfl ?_
  refine am_iload_n (n := 8) (i := 1) dX8_lengthOf_7 rfl rfl rfl ?_
  refine am_imul (n := 9) dX8_lengthOf_8 rfl ?_
  refine am_iadd (n := 10) dX8_lengthOf_9 rfl ?_
  rw [ix_name]
  refine am_iald (n := 11) dX8_lengthOf_10 (by first | assumption | exact isC_of (by decide +kernel)) (by first | assumption | exact vp_in_nI (by omega) (by omega) | exact vp_in_iff.mpr (by decide)) rfl ?_
  rw [nI_clamp (by omega)]
  refine am_iret dX8_lengthOf_11 rfl rfl ?_
  exact ⟨rfl, rfl⟩
set_option maxRecDepth 100000 in
set_option maxHeartbeats 400000 in
theorem m_at (g : Gx) (e w : Nat) (h : Hp) (he : e < 4) (hw : w < 78) : AD g yX8_at wsX8_at rmX8_at [.ref 40, .int (nI e), .int (nI w)] h (some (.int (h.1 41 (268 + 78 * e + w)))) h := by
  have c40 := isC_40
  have c41 := isC_41
  refine AC.of (cc := cX8_at) (maxL := 3) (ret := (some .int)) (by decide +kernel) rfl (Nat.le_of_ble_eq_true rfl) ?_
  show AW g mmX8_at _ 0 [(0, some (.ref 40)), (1, some (.int (nI e))), (2, some (.int (nI w)))] [] _
  refine am_aload_n (n := 1) (i := 0) dX8_at_0 rfl rfl rfl ?_
  refine gfX8_at_7 (n := 4) dX8_at_1 (by first | assumption | exact isC_of (by decide +kernel)) rfl ?_
  refine am_sipush (n := 7) (v := 268) dX8_at_4 rfl rfl ?_
  refine am_bipush (n := 9) (v := 78) dX8_at_7 rfl rfl ?_
  refine am_iload_n (n := 10) (i := 1) dX8_at_9 rfl rfl rfl ?_
  refine am_imul (n := 11) dX8_at_10 rfl ?_
  refine am_iadd (n := 12) dX8_at_11 rfl ?_
  refine am_iload_n (n := 13) (i := 2) dX8_at_12 rfl rfl rfl ?_
  refine am_iadd (n := 14) dX8_at_13 rfl ?_
  rw [ix_ear]
  refine am_iald (n := 15) dX8_at_14 (by first | assumption | exact isC_of (by decide +kernel)) (by first | assumption | exact vp_in_nI (by omega) (by omega) | exact vp_in_iff.mpr (by decide)) rfl ?_
  rw [nI_clamp (by omega)]
  refine am_iret dX8_at_15 rfl rfl ?_
  exact ⟨rfl, rfl⟩
set_option maxRecDepth 100000 in
set_option maxHeartbeats 400000 in
theorem m_lay (g : Gx) (e w : Nat) (v : Int32) (h : Hp) (he : e < 4) (hw : w < 78) : AD g yX8_lay wsX8_lay rmX8_lay [.ref 40, .int (nI e), .int (nI w), .int v] h none (setI h 41 (upd (h.1 41) (268 + 78 * e + w) v)) := by
  have c40 := isC_40
  have c41 := isC_41
  refine AC.of (cc := cX8_lay) (maxL := 4) (ret := none) (by decide +kernel) rfl (Nat.le_of_ble_eq_true rfl) ?_
  show AW g mmX8_lay _ 0 [(0, some (.ref 40)), (1, some (.int (nI e))), (2, some (.int (nI w))), (3, some (.int v))] [] _
  refine am_aload_n (n := 1) (i := 0) dX8_lay_0 rfl rfl rfl ?_
  refine gfX8_lay_7 (n := 4) dX8_lay_1 (by first | assumption | exact isC_of (by decide +kernel)) rfl ?_
  refine am_sipush (n := 7) (v := 268) dX8_lay_4 rfl rfl ?_
  refine am_bipush (n := 9) (v := 78) dX8_lay_7 rfl rfl ?_
  refine am_iload_n (n := 10) (i := 1) dX8_lay_9 rfl rfl rfl ?_
  refine am_imul (n := 11) dX8_lay_10 rfl ?_
  refine am_iadd (n := 12) dX8_lay_11 rfl ?_
  refine am_iload_n (n := 13) (i := 2) dX8_lay_12 rfl rfl rfl ?_
  refine am_iadd (n := 14) dX8_lay_13 rfl ?_
  rw [ix_ear]
  refine am_iload_n (n := 15) (i := 3) dX8_lay_14 rfl rfl rfl ?_
  refine am_iast (n := 16) dX8_lay_15 (by first | assumption | exact isC_of (by decide +kernel)) (by first | assumption | exact vp_in_nI (by omega) (by omega) | exact vp_in_iff.mpr (by decide)) rfl ?_
  rw [nI_clamp (by omega)]
  refine am_vret dX8_lay_16 rfl ?_
  exact ⟨rfl, rfl⟩
set_option maxRecDepth 100000 in
set_option maxHeartbeats 400000 in
theorem m_least (g : Gx) (a b : Int32) (h : Hp) : AD g yX8_least wsX8_least rmX8_least [.int a, .int b] h (some (.int (if a < b then a else b))) h := by
  refine AC.of (cc := cX8_least) (maxL := 2) (ret := (some .int)) (by decide +kernel) rfl (Nat.le_of_ble_eq_true rfl) ?_
  show AW g mmX8_least _ 0 [(0, some (.int a)), (1, some (.int b))] [] _
  refine am_iload_n (n := 1) (i := 0) dX8_least_0 rfl rfl rfl ?_
  refine am_iload_n (n := 2) (i := 1) dX8_least_1 rfl rfl rfl ?_
  by_cases q : a < b
  · rw [if_pos q]
    refine am_icmp_ge (tgt := 9) (n := 5) dX8_least_2 (by decide) rfl (fun q_z => absurd q_z (Int32.not_le.mpr q)) (fun _ => ?_)
    refine am_iload_n (n := 6) (i := 0) dX8_least_5 rfl rfl rfl ?_
    refine am_goto (tgt := 10) dX8_least_6 (by decide) ?_
    refine am_iret dX8_least_10 rfl rfl ?_
    exact ⟨rfl, rfl⟩
  · rw [if_neg q]
    refine am_icmp_ge (tgt := 9) (n := 5) dX8_least_2 (by decide) rfl (fun _ => ?_) (fun q_z => absurd (Int32.not_lt.mp q) q_z)
    refine am_iload_n (n := 10) (i := 1) dX8_least_9 rfl rfl rfl ?_
    refine am_iret dX8_least_10 rfl rfl ?_
    exact ⟨rfl, rfl⟩
theorem setI_I (h : Hp) (k : Nat) (r s : Nat → Int32) : setI (setI h k r) k s = setI h k s := by
  unfold setI
  refine Prod.ext ?_ rfl
  funext c
  show va_up (va_up h.1 k r) k s c = va_up h.1 k s c
  by_cases q : c = k
  · rw [q, va_up_self, va_up_self]
  · rw [va_up_ne _ _ q, va_up_ne _ _ q, va_up_ne _ _ q]
theorem setI_same (h : Hp) (k : Nat) : setI h k (h.1 k) = h := by
  unfold setI
  refine Prod.ext ?_ rfl
  funext c
  show va_up h.1 k (h.1 k) c = h.1 c
  by_cases q : c = k
  · rw [q, va_up_self]
  · rw [va_up_ne _ _ q]
/-- so many numbers from one row to another -/
def cpy (r : Nat → Int32) (fa : Nat) (s : Nat → Int32) (ta n : Nat) (j : Nat) : Int32 := if ta ≤ j ∧ j < ta + n then r (fa + (j - ta)) else s j
set_option maxRecDepth 100000 in
set_option maxHeartbeats 400000 in
theorem m_copyState (g : Gx) (f t fa ta Nf Nt : Nat) (h : Hp) (hf : isC f 8 Nf) (ht : isC t 8 Nt) (hne : f ≠ t) (h1 : fa + 580 ≤ Nf) (h2 : ta + 580 ≤ Nt) (h3 : Nf ≤ 4000) (h4 : Nt ≤ 4000) : AD g yX8_copyState wsX8_copyState rmX8_copyState [.ref f, .int (nI fa), .ref t, .int (nI ta)] h none (setI h t (cpy (h.1 f) fa (h.1 t) ta 580)) := by
  refine AC.of (cc := cX8_copyState) (maxL := 5) (ret := none) (by decide +kernel) rfl (Nat.le_of_ble_eq_true rfl) ?_
  show AW g mmX8_copyState _ 0 [(0, some (.ref f)), (1, some (.int (nI fa))), (2, some (.ref t)), (3, some (.int (nI ta)))] [] _
  refine am_iconst (n := 1) (v := 0) dX8_copyState_0 rfl rfl ?_
  refine am_istore (n := 3) dX8_copyState_1 (Nat.le_of_ble_eq_true rfl) rfl rfl ?_
  refine am_loc [(0, some (.ref f)), (1, some (.int (nI fa))), (2, some (.ref t)), (3, some (.int (nI ta))), (4, some (.int (nI 0)))] rfl ?_
  have e0 : h = setI h t (cpy (h.1 f) fa (h.1 t) ta 0) := by
    rw [show cpy (h.1 f) fa (h.1 t) ta 0 = h.1 t from funext (fun j => if_neg (by omega)), setI_same]
  generalize hZ : ZP g (fun v h' => v = none ∧ h' = setI h t (cpy (h.1 f) fa (h.1 t) ta 580)) = Z
  have z0 : Z.1 = 0 ∧ Z.2.1 = 0 := by rw [← hZ]; exact ⟨rfl, rfl⟩
  refine am_abs (fun h' => h' = setI h t (cpy (h.1 f) fa (h.1 t) ta 0)) e0 ?_
  refine loop_up (Wp := fun k => ∀ hh : Hp, hh = setI h t (cpy (h.1 f) fa (h.1 t) ta k) → AW g mmX8_copyState Z 3 [(0, some (.ref f)), (1, some (.int (nI fa))), (2, some (.ref t)), (3, some (.int (nI ta))), (4, some (.int (nI k)))] [] hh) 580 ?_ ?_ 0 (by omega)
  · intro hh eh
    refine am_iload (n := 5) dX8_copyState_3 rfl rfl ?_
    refine am_sipush (n := 8) (v := 580) dX8_copyState_5 rfl rfl ?_
    refine am_icmp_ge (tgt := 29) (n := 11) dX8_copyState_8 (by decide) rfl (fun _ => ?_) (fun q_z => absurd (by decide) q_z)
    rw [← hZ]
    refine am_vret dX8_copyState_29 rfl ?_
    exact ⟨rfl, eh⟩
  · intro k hk K hh eh
    refine am_iload (n := 5) dX8_copyState_3 rfl rfl ?_
    refine am_sipush (n := 8) (v := 580) dX8_copyState_5 rfl rfl ?_
    refine am_icmp_ge (tgt := 29) (n := 11) dX8_copyState_8 (by decide) rfl (fun q_z => absurd q_z (nI_ge hk (by decide))) (fun _ => ?_)
    refine am_aload_n (n := 12) (i := 2) dX8_copyState_11 rfl rfl rfl ?_
    refine am_iload_n (n := 13) (i := 3) dX8_copyState_12 rfl rfl rfl ?_
    refine am_iload (n := 15) dX8_copyState_13 rfl rfl ?_
    refine am_iadd (n := 16) dX8_copyState_15 rfl ?_
    rw [nI_add]
    refine am_aload_n (n := 17) (i := 0) dX8_copyState_16 rfl rfl rfl ?_
    refine am_iload_n (n := 18) (i := 1) dX8_copyState_17 rfl rfl rfl ?_
    refine am_iload (n := 20) dX8_copyState_18 rfl rfl ?_
    refine am_iadd (n := 21) dX8_copyState_20 rfl ?_
    rw [nI_add]
    have b1 : vp_in (nI (fa + k)) Nf := vp_in_nI (by omega) (by omega)
    have b2 : vp_in (nI (ta + k)) Nt := vp_in_nI (by omega) (by omega)
    refine am_iald (n := 22) dX8_copyState_21 (by first | assumption | exact isC_of (by decide +kernel)) (by first | assumption | exact vp_in_nI (by omega) (by omega) | exact vp_in_iff.mpr (by decide)) rfl ?_
    refine am_iast (n := 23) dX8_copyState_22 (by first | assumption | exact isC_of (by decide +kernel)) (by first | assumption | exact vp_in_nI (by omega) (by omega) | exact vp_in_iff.mpr (by decide)) rfl ?_
    rw [nI_clamp (by omega), nI_clamp (by omega)]
    first | refine am_iincN (n := 26) dX8_copyState_23 rfl rfl rfl ?_ | refine am_iinc1 (n := 26) dX8_copyState_23 rfl rfl rfl ?_
    refine am_goto (tgt := 3) dX8_copyState_26 (by decide) ?_
    refine am_loc _ rfl (K _ ?_)
    rw [eh, setI_I, setI_n _ _ hne, setI_s]
    congr 1
    funext j
    unfold upd cpy
    by_cases q : j = ta + k
    · rw [if_pos q, if_pos (by omega), q, show ta + k - ta = k by omega]
    · rw [if_neg q]
      by_cases q2 : ta ≤ j ∧ j < ta + k
      · rw [if_pos q2, if_pos (by omega)]
      · rw [if_neg q2, if_neg (by omega)]
set_option maxRecDepth 100000 in
set_option maxHeartbeats 400000 in
theorem m_secondOf (g : Gx) (e l s : Nat) (h : Hp) (he : e < 4) (hl : l < 26) (hs : h.1 41 (268 + 78 * e + 26 + l) = nI s) (h10 : s ≤ 10) : AD g yX8_secondOf wsX8_secondOf rmX8_secondOf [.ref 40, .int (nI e), .int (nI l)] h (some (.int (sec s))) h := by
  have c40 := isC_40
  have hs2 : h.1 41 (268 + 78 * e + (26 + l)) = nI s := by rw [← Nat.add_assoc]; exact hs
  refine AC.of (cc := cX8_secondOf) (maxL := 3) (ret := (some .int)) (by decide +kernel) rfl (Nat.le_of_ble_eq_true rfl) ?_
  show AW g mmX8_secondOf _ 0 [(0, some (.ref 40)), (1, some (.int (nI e))), (2, some (.int (nI l)))] [] _
  refine am_aload_n (n := 1) (i := 0) dX8_secondOf_0 rfl rfl rfl ?_
  refine am_iload_n (n := 2) (i := 1) dX8_secondOf_1 rfl rfl rfl ?_
  refine am_bipush (n := 4) (v := 26) dX8_secondOf_2 rfl rfl ?_
  refine am_iload_n (n := 5) (i := 2) dX8_secondOf_4 rfl rfl rfl ?_
  refine am_iadd (n := 6) dX8_secondOf_5 rfl ?_
  rw [show (26 : Int32) + nI l = nI (26 + l) from nI_add 26 l]
  refine cdX8_secondOf_106 (n := 9) dX8_secondOf_6 (by first | exact ⟨rfl, rfl⟩ | assumption) (m_at g e (26 + l) h he (by omega)) rfl rfl (Nat.le_of_ble_eq_true rfl) (by first | assumption | exact isC_of (by decide +kernel)) rfl ?_
  rw [hs2]
  by_cases q : s = 0
  · subst q
    refine am_if_ne (tgt := 17) (n := 12) dX8_secondOf_9 (by decide) rfl (fun q_z => absurd rfl q_z) (fun _ => ?_)
    refine am_bipush (n := 14) (v := (-6)) dX8_secondOf_12 rfl rfl ?_
    refine am_goto (tgt := 28) dX8_secondOf_14 (by decide) ?_
    refine am_iret dX8_secondOf_28 rfl rfl ?_
    exact ⟨rfl, rfl⟩
  · refine am_if_ne (tgt := 17) (n := 12) dX8_secondOf_9 (by decide) rfl (fun _ => ?_) (fun q_z => absurd q_z (fun z => q ((nI_eq (b := 0) (by omega) (by omega)).mp z)))
    refine am_aload_n (n := 18) (i := 0) dX8_secondOf_17 rfl rfl rfl ?_
    refine am_iload_n (n := 19) (i := 1) dX8_secondOf_18 rfl rfl rfl ?_
    refine am_bipush (n := 21) (v := 26) dX8_secondOf_19 rfl rfl ?_
    refine am_iload_n (n := 22) (i := 2) dX8_secondOf_21 rfl rfl rfl ?_
    refine am_iadd (n := 23) dX8_secondOf_22 rfl ?_
    rw [show (26 : Int32) + nI l = nI (26 + l) from nI_add 26 l]
    refine cdX8_secondOf_106 (n := 26) dX8_secondOf_23 (by first | exact ⟨rfl, rfl⟩ | assumption) (m_at g e (26 + l) h he (by omega)) rfl rfl (Nat.le_of_ble_eq_true rfl) (by first | assumption | exact isC_of (by decide +kernel)) rfl ?_
    rw [hs2]
    refine am_iconst (n := 27) (v := 1) dX8_secondOf_26 rfl rfl ?_
    refine am_isub (n := 28) dX8_secondOf_27 rfl ?_
    rw [nI_m1 (by omega), ← sec_nI (by omega)]
    refine am_iret dX8_secondOf_28 rfl rfl ?_
    exact ⟨rfl, rfl⟩
