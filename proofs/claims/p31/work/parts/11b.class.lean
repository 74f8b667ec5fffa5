/-! The class's calls: set, add, drop -/
def CX (g : Gx) (y : MethodName) (ws : List Cond) (rm : Room) (as : List Value) (h : Hp) (r : Int32 × GS) : Prop := AC g y ws rm as h (fun v h' => v = some (.int r.1) ∧ XI r.2 h' ∧ FM h h')
set_option maxRecDepth 100000 in
set_option maxHeartbeats 400000 in
theorem ac_X7_isWithin (g : Gx) (x a b : Int32) (h : Hp) : AD g yX7_isWithin wsX7_isWithin rmX7_isWithin [.int x, .int a, .int b] h (some (.int (bI (decide (a ≤ x) && decide (x ≤ b))))) h := by
  refine AC.of (cc := cX7_isWithin) (maxL := 3) (ret := (some .boolean)) (by decide +kernel) rfl (Nat.le_of_ble_eq_true rfl) ?_
  show AW g mmX7_isWithin _ 0 [(0, some (.int x)), (1, some (.int a)), (2, some (.int b))] [] _
  refine am_iload_n (n := 1) (i := 0) dX7_isWithin_0 rfl rfl rfl ?_
  refine am_iload_n (n := 2) (i := 1) dX7_isWithin_1 rfl rfl rfl ?_
  by_cases h1 : x < a
  · refine am_icmp_lt (tgt := 14) (n := 5) dX7_isWithin_2 (by decide) rfl (fun _ => ?_) (fun q_z => absurd h1 q_z)
    refine am_iconst (n := 15) (v := 0) dX7_isWithin_14 rfl rfl ?_
    refine am_iret dX7_isWithin_15 rfl rfl ?_
    rw [decide_eq_false (Int32.not_le.mpr h1)]
    exact ⟨rfl, rfl⟩
  · refine am_icmp_lt (tgt := 14) (n := 5) dX7_isWithin_2 (by decide) rfl (fun q_z => absurd q_z h1) (fun _ => ?_)
    rw [decide_eq_true (Int32.not_lt.mp h1)]
    refine am_iload_n (n := 6) (i := 0) dX7_isWithin_5 rfl rfl rfl ?_
    refine am_iload_n (n := 7) (i := 2) dX7_isWithin_6 rfl rfl rfl ?_
    by_cases h2 : b < x
    · refine am_icmp_gt (tgt := 14) (n := 10) dX7_isWithin_7 (by decide) rfl (fun _ => ?_) (fun q_z => absurd h2 q_z)
      refine am_iconst (n := 15) (v := 0) dX7_isWithin_14 rfl rfl ?_
      refine am_iret dX7_isWithin_15 rfl rfl ?_
      rw [decide_eq_false (Int32.not_le.mpr h2)]
      exact ⟨rfl, rfl⟩
    · refine am_icmp_gt (tgt := 14) (n := 10) dX7_isWithin_7 (by decide) rfl (fun q_z => absurd q_z h2) (fun _ => ?_)
      refine am_iconst (n := 11) (v := 1) dX7_isWithin_10 rfl rfl ?_
      refine am_goto (tgt := 15) dX7_isWithin_11 (by decide) ?_
      refine am_iret dX7_isWithin_15 rfl rfl ?_
      rw [decide_eq_true (Int32.not_lt.mp h2)]
      exact ⟨rfl, rfl⟩
set_option maxRecDepth 100000 in
set_option maxHeartbeats 400000 in
theorem ac_X7_isClass (g : Gx) (x : Int32) (h : Hp) : AD g yX7_isClass wsX7_isClass rmX7_isClass [.int x] h (some (.int (bI (inR x 0 9)))) h := by
  refine AC.of (cc := cX7_isClass) (maxL := 1) (ret := (some .boolean)) (by decide +kernel) rfl (Nat.le_of_ble_eq_true rfl) ?_
  show AW g mmX7_isClass _ 0 [(0, some (.int x))] [] _
  refine am_iload_n (n := 1) (i := 0) dX7_isClass_0 rfl rfl rfl ?_
  refine am_iconst (n := 2) (v := 0) dX7_isClass_1 rfl rfl ?_
  refine am_bipush (n := 4) (v := 9) dX7_isClass_2 rfl rfl ?_
  refine cdX7_isClass_62 (n := 7) dX7_isClass_4 (by first | exact ⟨rfl, rfl⟩ | assumption) (ac_X7_isWithin g x 0 9 h) rfl rfl (Nat.le_of_ble_eq_true rfl) rfl ?_
  refine am_iret dX7_isClass_7 rfl ?_ ⟨rfl, rfl⟩
  show narrow .boolean (.int (bI (decide (0 ≤ x) && decide (x ≤ 9)))) = _
  cases (decide (0 ≤ x) && decide (x ≤ 9)) <;> rfl
set_option maxRecDepth 100000 in
set_option maxHeartbeats 400000 in
theorem ac_X7_canMerge (g : Gx) (a b : Int32) (h : Hp) : AD g yX7_canMerge wsX7_canMerge rmX7_canMerge [.int a, .int b] h (some (.int (bI (canM a b)))) h := by
  unfold canM
  refine AC.of (cc := cX7_canMerge) (maxL := 2) (ret := (some .boolean)) (by decide +kernel) rfl (Nat.le_of_ble_eq_true rfl) ?_
  show AW g mmX7_canMerge _ 0 [(0, some (.int a)), (1, some (.int b))] [] _
  refine am_iload_n (n := 1) (i := 0) dX7_canMerge_0 rfl rfl rfl ?_
  refine cdX7_canMerge_128 (n := 4) dX7_canMerge_1 (by first | exact ⟨rfl, rfl⟩ | assumption) (ac_X7_isClass g a h) rfl rfl (Nat.le_of_ble_eq_true rfl) rfl ?_
  cases h1 : inR a 0 9 with
  | false =>
    refine am_if_eq (tgt := 23) (n := 7) dX7_canMerge_4 (by decide) rfl (fun _ => ?_) (fun q_z => absurd rfl q_z)
    refine am_iconst (n := 24) (v := 0) dX7_canMerge_23 rfl rfl ?_
    refine am_iret dX7_canMerge_24 rfl rfl ?_
    exact ⟨rfl, rfl⟩
  | true =>
    refine am_if_eq (tgt := 23) (n := 7) dX7_canMerge_4 (by decide) rfl (fun q_z => absurd q_z (by decide)) (fun _ => ?_)
    refine am_iload_n (n := 8) (i := 1) dX7_canMerge_7 rfl rfl rfl ?_
    refine cdX7_canMerge_128 (n := 11) dX7_canMerge_8 (by first | exact ⟨rfl, rfl⟩ | assumption) (ac_X7_isClass g b h) rfl rfl (Nat.le_of_ble_eq_true rfl) rfl ?_
    cases h2 : inR b 0 9 with
    | false =>
      refine am_if_eq (tgt := 23) (n := 14) dX7_canMerge_11 (by decide) rfl (fun _ => ?_) (fun q_z => absurd rfl q_z)
      refine am_iconst (n := 24) (v := 0) dX7_canMerge_23 rfl rfl ?_
      refine am_iret dX7_canMerge_24 rfl rfl ?_
      exact ⟨rfl, rfl⟩
    | true =>
      refine am_if_eq (tgt := 23) (n := 14) dX7_canMerge_11 (by decide) rfl (fun q_z => absurd q_z (by decide)) (fun _ => ?_)
      refine am_iload_n (n := 15) (i := 0) dX7_canMerge_14 rfl rfl rfl ?_
      refine am_iload_n (n := 16) (i := 1) dX7_canMerge_15 rfl rfl rfl ?_
      by_cases e : a = b
      · refine am_icmp_eq (tgt := 23) (n := 19) dX7_canMerge_16 (by decide) rfl (fun _ => ?_) (fun q_z => absurd e q_z)
        refine am_iconst (n := 24) (v := 0) dX7_canMerge_23 rfl rfl ?_
        refine am_iret dX7_canMerge_24 rfl rfl ?_
        rw [decide_eq_false (fun q => q e)]
        exact ⟨rfl, rfl⟩
      · refine am_icmp_eq (tgt := 23) (n := 19) dX7_canMerge_16 (by decide) rfl (fun q_z => absurd q_z e) (fun _ => ?_)
        refine am_iconst (n := 20) (v := 1) dX7_canMerge_19 rfl rfl ?_
        refine am_goto (tgt := 24) dX7_canMerge_20 (by decide) ?_
        refine am_iret dX7_canMerge_24 rfl rfl ?_
        rw [decide_eq_true e]
        exact ⟨rfl, rfl⟩
set_option maxRecDepth 100000 in
set_option maxHeartbeats 400000 in
theorem cx_set (g : Gx) (s v : Int32) (G : GS) (h : Hp) (hX : XI G h) : CX g yX7_set wsX7_set rmX7_set [.ref 0, .int s, .int v] h (sp_set s v G) := by
  have c0 := isC_0
  have c100 := isSt_now.1
  unfold CX sp_set
  refine AC.of (cc := cX7_set) (maxL := 4) (ret := (some .int)) (by decide +kernel) rfl (Nat.le_of_ble_eq_true rfl) ?_
  show AW g mmX7_set _ 0 [(0, some (.ref 0)), (1, some (.int s)), (2, some (.int v))] [] _
  have fail : ∀ l : Lo, AW g mmX7_set (ZP g (fun v h' => v = some (.int (-2)) ∧ XI G h' ∧ FM h h')) 72 l [] h := by
    intro l
    refine am_bipush (n := 74) (v := (-2)) dX7_set_72 rfl rfl ?_
    refine am_iret dX7_set_74 rfl rfl ?_
    exact ⟨rfl, hX, FM.rf⟩
  refine am_iload_n (n := 1) (i := 1) dX7_set_0 rfl rfl rfl ?_
  by_cases h0 : s = 0
  · refine am_if_ne (tgt := 35) (n := 4) dX7_set_1 (by decide) rfl (fun q_z => absurd h0 q_z) (fun _ => ?_)
    refine am_iload_n (n := 5) (i := 2) dX7_set_4 rfl rfl rfl ?_
    refine am_iconst (n := 6) (v := 1) dX7_set_5 rfl rfl ?_
    refine am_iconst (n := 7) (v := 5) dX7_set_6 rfl rfl ?_
    refine cdX7_set_62 (n := 10) dX7_set_7 (by first | exact ⟨rfl, rfl⟩ | assumption) (ac_X7_isWithin g v 1 5 h) rfl rfl (Nat.le_of_ble_eq_true rfl) rfl ?_
    cases hr : inR v 1 5 with
    | true =>
      rw [show (decide (1 ≤ v) && decide (v ≤ 5)) = true from hr, if_pos ⟨h0, rfl⟩]
      obtain ⟨n, n1, n5, rfl⟩ := inR_t (by decide) (by decide) hr
      refine am_if_eq (tgt := 35) (n := 13) dX7_set_10 (by decide) rfl (fun q_z => absurd q_z (by decide)) (fun _ => ?_)
      first | refine am_aload_n (n := 14) (i := 0) dX7_set_13 rfl rfl rfl ?_ | refine am_aload_nN (n := 14) (i := 0) dX7_set_13 rfl rfl rfl ?_
      refine gfX7_set_10 (n := 17) dX7_set_14 (by first | assumption | exact isC_of (by decide +kernel)) rfl ?_
      refine gfX7_set_66 (n := 20) dX7_set_17 (by first | assumption | exact isC_of (by decide +kernel)) rfl ?_
      rw [hX.1.1]
      refine am_istore_n (n := 21) (i := 3) dX7_set_20 rfl (Nat.le_of_ble_eq_true rfl) rfl rfl ?_
      first | refine am_aload_n (n := 22) (i := 0) dX7_set_21 rfl rfl rfl ?_ | refine am_aload_nN (n := 22) (i := 0) dX7_set_21 rfl rfl rfl ?_
      refine caX7_set_69 (n := 25) dX7_set_22 (by first | exact ⟨rfl, rfl⟩ | assumption) (ac_X7_recordChange g G h hX) rfl rfl (Nat.le_of_ble_eq_true rfl) (by first | assumption | exact isC_of (by decide +kernel)) rfl ?_
      rintro r h1 ⟨rfl, X1, F1, -⟩
      first | refine am_aload_n (n := 26) (i := 0) dX7_set_25 rfl rfl rfl ?_ | refine am_aload_nN (n := 26) (i := 0) dX7_set_25 rfl rfl rfl ?_
      refine gfX7_set_10 (n := 29) dX7_set_26 (by first | assumption | exact isC_of (by decide +kernel)) rfl ?_
      refine am_iload_n (n := 30) (i := 2) dX7_set_29 rfl rfl rfl ?_
      refine pfX7_set_66 (n := 33) dX7_set_30 (by first | assumption | exact isC_of (by decide +kernel)) rfl ?_
      refine am_iload_n (n := 34) (i := 3) dX7_set_33 rfl rfl rfl ?_
      refine am_iret dX7_set_34 rfl rfl ⟨rfl, ?_, F1.tr (fun c w1 w2 => ⟨setI_n _ _ (by omega), rfl⟩)⟩
      rw [tn_nI (by omega)]
      obtain ⟨r1, r2, r3, r4, r5, r6⟩ := X1.1
      refine X1.now (S := (n, G.1.2)) ⟨?_, ?_, ?_, ?_, r5, fun e E he => ?_⟩ ⟨⟨n1, n5⟩, X1.2.1.2⟩ (Fr.rf.sI _ (by omega) (by omega))
      · simp (disch := omega) only [setI_s, pk_us]
      · simp (disch := omega) only [setI_s, pk_un]
        exact r2
      · simp (disch := omega) only [setI_s, pk_un]
        exact r3
      · simp (disch := omega) only [setI_s, pk_un]
        exact r4
      · exact (r6 e E he).kept (fun c w1 w2 => setI_n _ _ (by omega))
    | false =>
      rw [show (decide (1 ≤ v) && decide (v ≤ 5)) = false from hr, if_neg (fun q => by cases q.2), if_neg (fun q => by rw [h0] at q; exact absurd q.1 (by decide))]
      refine am_if_eq (tgt := 35) (n := 13) dX7_set_10 (by decide) rfl (fun _ => ?_) (fun q_z => absurd rfl q_z)
      refine am_iload_n (n := 36) (i := 1) dX7_set_35 rfl rfl rfl ?_
      refine am_iconst (n := 37) (v := 1) dX7_set_36 rfl rfl ?_
      refine am_icmp_ne (tgt := 72) (n := 40) dX7_set_37 (by decide) rfl (fun _ => ?_) (fun q_z => absurd q_z (by rw [h0]; decide))
      exact fail _
  · rw [if_neg (fun q => h0 q.1)]
    refine am_if_ne (tgt := 35) (n := 4) dX7_set_1 (by decide) rfl (fun _ => ?_) (fun q_z => absurd q_z h0)
    refine am_iload_n (n := 36) (i := 1) dX7_set_35 rfl rfl rfl ?_
    refine am_iconst (n := 37) (v := 1) dX7_set_36 rfl rfl ?_
    by_cases h1 : s = 1
    · refine am_icmp_ne (tgt := 72) (n := 40) dX7_set_37 (by decide) rfl (fun q_z => absurd h1 q_z) (fun _ => ?_)
      refine am_iload_n (n := 41) (i := 2) dX7_set_40 rfl rfl rfl ?_
      refine am_iconst (n := 42) (v := 1) dX7_set_41 rfl rfl ?_
      refine am_bipush (n := 44) (v := 24) dX7_set_42 rfl rfl ?_
      refine cdX7_set_62 (n := 47) dX7_set_44 (by first | exact ⟨rfl, rfl⟩ | assumption) (ac_X7_isWithin g v 1 24 h) rfl rfl (Nat.le_of_ble_eq_true rfl) rfl ?_
      cases hr : inR v 1 24 with
      | true =>
        rw [show (decide (1 ≤ v) && decide (v ≤ 24)) = true from hr, if_pos ⟨h1, rfl⟩]
        obtain ⟨n, n1, n5, rfl⟩ := inR_t (by decide) (by decide) hr
        refine am_if_eq (tgt := 72) (n := 50) dX7_set_47 (by decide) rfl (fun q_z => absurd q_z (by decide)) (fun _ => ?_)
        first | refine am_aload_n (n := 51) (i := 0) dX7_set_50 rfl rfl rfl ?_ | refine am_aload_nN (n := 51) (i := 0) dX7_set_50 rfl rfl rfl ?_
        refine gfX7_set_10 (n := 54) dX7_set_51 (by first | assumption | exact isC_of (by decide +kernel)) rfl ?_
        refine gfX7_set_72 (n := 57) dX7_set_54 (by first | assumption | exact isC_of (by decide +kernel)) rfl ?_
        rw [hX.1.2.1]
        refine am_istore_n (n := 58) (i := 3) dX7_set_57 rfl (Nat.le_of_ble_eq_true rfl) rfl rfl ?_
        first | refine am_aload_n (n := 59) (i := 0) dX7_set_58 rfl rfl rfl ?_ | refine am_aload_nN (n := 59) (i := 0) dX7_set_58 rfl rfl rfl ?_
        refine caX7_set_69 (n := 62) dX7_set_59 (by first | exact ⟨rfl, rfl⟩ | assumption) (ac_X7_recordChange g G h hX) rfl rfl (Nat.le_of_ble_eq_true rfl) (by first | assumption | exact isC_of (by decide +kernel)) rfl ?_
        rintro r h1 ⟨rfl, X1, F1, -⟩
        first | refine am_aload_n (n := 63) (i := 0) dX7_set_62 rfl rfl rfl ?_ | refine am_aload_nN (n := 63) (i := 0) dX7_set_62 rfl rfl rfl ?_
        refine gfX7_set_10 (n := 66) dX7_set_63 (by first | assumption | exact isC_of (by decide +kernel)) rfl ?_
        refine am_iload_n (n := 67) (i := 2) dX7_set_66 rfl rfl rfl ?_
        refine pfX7_set_72 (n := 70) dX7_set_67 (by first | assumption | exact isC_of (by decide +kernel)) rfl ?_
        refine am_iload_n (n := 71) (i := 3) dX7_set_70 rfl rfl rfl ?_
        refine am_iret dX7_set_71 rfl rfl ⟨rfl, ?_, F1.tr (fun c w1 w2 => ⟨setI_n _ _ (by omega), rfl⟩)⟩
        rw [tn_nI (by omega)]
        obtain ⟨r1, r2, r3, r4, r5, r6⟩ := X1.1
        refine X1.now (S := (G.1.1, n, G.1.2.2)) ⟨?_, ?_, ?_, ?_, r5, fun e E he => ?_⟩ ⟨X1.2.1.1, ⟨n1, n5⟩, X1.2.1.2.2⟩ (Fr.rf.sI _ (by omega) (by omega))
        · simp (disch := omega) only [setI_s, pk_un]
          exact r1
        · simp (disch := omega) only [setI_s, pk_us]
        · simp (disch := omega) only [setI_s, pk_un]
          exact r3
        · simp (disch := omega) only [setI_s, pk_un]
          exact r4
        · exact (r6 e E he).kept (fun c w1 w2 => setI_n _ _ (by omega))
      | false =>
        rw [show (decide (1 ≤ v) && decide (v ≤ 24)) = false from hr, if_neg (fun q => by cases q.2)]
        refine am_if_eq (tgt := 72) (n := 50) dX7_set_47 (by decide) rfl (fun _ => ?_) (fun q_z => absurd rfl q_z)
        exact fail _
    · rw [if_neg (fun q => h1 q.1)]
      refine am_icmp_ne (tgt := 72) (n := 40) dX7_set_37 (by decide) rfl (fun _ => ?_) (fun q_z => absurd q_z h1)
      exact fail _
set_option maxRecDepth 100000 in
set_option maxHeartbeats 400000 in
theorem cx_add (g : Gx) (G : GS) (h : Hp) (hX : XI G h) : CX g yX7_add wsX7_add rmX7_add [.ref 0] h (sp_add G) := by
  have c0 := isC_0
  have c100 := isSt_now.1
  have c101 := isSt_now.2.1
  have c4 := isPd_4.1
  have hP := hX.2.2.2.2.1
  have hPV := hX.2.2.2.2.2
  have hn := hX.2.1.2.2.1
  unfold CX sp_add
  refine AC.of (cc := cX7_add) (maxL := 3) (ret := (some .int)) (by decide +kernel) rfl (Nat.le_of_ble_eq_true rfl) ?_
  show AW g mmX7_add _ 0 [(0, some (.ref 0))] [] _
  first | refine am_aload_n (n := 1) (i := 0) dX7_add_0 rfl rfl rfl ?_ | refine am_aload_nN (n := 1) (i := 0) dX7_add_0 rfl rfl rfl ?_
  refine gfX7_add_34 (n := 4) dX7_add_1 (by first | assumption | exact isC_of (by decide +kernel)) rfl ?_
  refine cdX7_add_75 (n := 7) dX7_add_4 (by first | exact ⟨rfl, rfl⟩ | assumption) (ac_X4_firstFault g 4 G.2.2.2 h isPd_4 hP hPV) rfl rfl (Nat.le_of_ble_eq_true rfl) (by first | assumption | exact isC_of (by decide +kernel)) rfl ?_
  refine am_bipush (n := 9) (v := (-6)) dX7_add_7 rfl rfl ?_
  by_cases hf : flt G.2.2.2 = -6
  · refine am_icmp_eq (tgt := 15) (n := 12) dX7_add_9 (by decide) rfl (fun _ => ?_) (fun q_z => absurd hf q_z)
    rw [if_neg (fun q => q hf)]
    obtain ⟨hw, -⟩ := pw_ok hf
    first | refine am_aload_n (n := 16) (i := 0) dX7_add_15 rfl rfl rfl ?_ | refine am_aload_nN (n := 16) (i := 0) dX7_add_15 rfl rfl rfl ?_
    refine gfX7_add_34 (n := 19) dX7_add_16 (by first | assumption | exact isC_of (by decide +kernel)) rfl ?_
    refine cdX7_add_79 (n := 22) dX7_add_19 (by first | exact ⟨rfl, rfl⟩ | assumption) (ac_X4_asWord g 4 G.2.2.2 h isPd_4 hP hPV hf) rfl rfl (Nat.le_of_ble_eq_true rfl) (by first | assumption | exact isC_of (by decide +kernel)) rfl ?_
    refine am_lstore_n (n := 23) (i := 1) dX7_add_22 rfl (Nat.le_of_ble_eq_true rfl) rfl rfl ?_
    first | refine am_aload_n (n := 24) (i := 0) dX7_add_23 rfl rfl rfl ?_ | refine am_aload_nN (n := 24) (i := 0) dX7_add_23 rfl rfl rfl ?_
    refine gfX7_add_10 (n := 27) dX7_add_24 (by first | assumption | exact isC_of (by decide +kernel)) rfl ?_
    refine am_lload_n (n := 28) (i := 1) dX7_add_27 rfl rfl rfl ?_
    refine cdX7_add_83 (n := 31) dX7_add_28 (by first | exact ⟨rfl, rfl⟩ | assumption) (ac_X5_holds g 100 (pw G.2.2.2) G.1 h isSt_now hX.1 hX.2.1 hw.1) rfl rfl (Nat.le_of_ble_eq_true rfl) (by first | assumption | exact isC_of (by decide +kernel)) rfl ?_
    cases hc : G.1.2.2.1.contains (pw G.2.2.2) with
    | true =>
      rw [if_pos rfl]
      refine am_if_eq (tgt := 37) (n := 34) dX7_add_31 (by decide) rfl (fun q_z => absurd q_z (by decide)) (fun _ => ?_)
      refine am_bipush (n := 36) (v := (-5)) dX7_add_34 rfl rfl ?_
      refine am_iret dX7_add_36 rfl rfl ?_
      exact ⟨rfl, hX, FM.rf⟩
    | false =>
      rw [if_neg (by decide)]
      refine am_if_eq (tgt := 37) (n := 34) dX7_add_31 (by decide) rfl (fun _ => ?_) (fun q_z => absurd rfl q_z)
      first | refine am_aload_n (n := 38) (i := 0) dX7_add_37 rfl rfl rfl ?_ | refine am_aload_nN (n := 38) (i := 0) dX7_add_37 rfl rfl rfl ?_
      refine gfX7_add_10 (n := 41) dX7_add_38 (by first | assumption | exact isC_of (by decide +kernel)) rfl ?_
      refine gfX7_add_87 (n := 44) dX7_add_41 (by first | assumption | exact isC_of (by decide +kernel)) rfl ?_
      first | refine am_aload_n (n := 45) (i := 0) dX7_add_44 rfl rfl rfl ?_ | refine am_aload_nN (n := 45) (i := 0) dX7_add_44 rfl rfl rfl ?_
      refine gfX7_add_10 (n := 48) dX7_add_45 (by first | assumption | exact isC_of (by decide +kernel)) rfl ?_
      refine gfX7_add_72 (n := 51) dX7_add_48 (by first | assumption | exact isC_of (by decide +kernel)) rfl ?_
      rw [hX.1.2.1, hX.1.2.2.1]
      by_cases hl : G.1.2.1 ≤ G.1.2.2.1.length
      · rw [if_pos hl]
        refine am_icmp_ge (tgt := 66) (n := 54) dX7_add_51 (by decide) rfl (fun _ => ?_) (fun q_z => absurd (nI_le hl (by omega)) q_z)
        refine am_bipush (n := 68) (v := (-4)) dX7_add_66 rfl rfl ?_
        refine am_iret dX7_add_68 rfl rfl ?_
        exact ⟨rfl, hX, FM.rf⟩
      · rw [if_neg hl]
        have h24 := hX.2.1.2.1.2
        refine am_icmp_ge (tgt := 66) (n := 54) dX7_add_51 (by decide) rfl (fun q_z => absurd q_z (nI_ge (Nat.not_le.mp hl) (by omega))) (fun _ => ?_)
        first | refine am_aload_n (n := 55) (i := 0) dX7_add_54 rfl rfl rfl ?_ | refine am_aload_nN (n := 55) (i := 0) dX7_add_54 rfl rfl rfl ?_
        refine gfX7_add_10 (n := 58) dX7_add_55 (by first | assumption | exact isC_of (by decide +kernel)) rfl ?_
        refine gfX7_add_87 (n := 61) dX7_add_58 (by first | assumption | exact isC_of (by decide +kernel)) rfl ?_
        refine am_bipush (n := 63) (v := 24) dX7_add_61 rfl rfl ?_
        rw [hX.1.2.2.1]
        refine am_icmp_lt (tgt := 69) (n := 66) dX7_add_63 (by decide) rfl (fun _ => ?_) (fun q_z => absurd (nI_lt (show G.1.2.2.1.length < 24 by omega) (by decide)) q_z)
        first | refine am_aload_n (n := 70) (i := 0) dX7_add_69 rfl rfl rfl ?_ | refine am_aload_nN (n := 70) (i := 0) dX7_add_69 rfl rfl rfl ?_
        refine caX7_add_69 (n := 73) dX7_add_70 (by first | exact ⟨rfl, rfl⟩ | assumption) (ac_X7_recordChange g G h hX) rfl rfl (Nat.le_of_ble_eq_true rfl) (by first | assumption | exact isC_of (by decide +kernel)) rfl ?_
        rintro r h1 ⟨rfl, X1, F1, -⟩
        obtain ⟨r1, r2, r3, r4, r5, r6⟩ := X1.1
        have r3 : h1.1 100 2 = nI G.1.2.2.1.length := r3
        first | refine am_aload_n (n := 74) (i := 0) dX7_add_73 rfl rfl rfl ?_ | refine am_aload_nN (n := 74) (i := 0) dX7_add_73 rfl rfl rfl ?_
        refine gfX7_add_10 (n := 77) dX7_add_74 (by first | assumption | exact isC_of (by decide +kernel)) rfl ?_
        refine gfX7_add_90 (n := 80) dX7_add_77 (by first | assumption | exact isC_of (by decide +kernel)) rfl ?_
        first | refine am_aload_n (n := 81) (i := 0) dX7_add_80 rfl rfl rfl ?_ | refine am_aload_nN (n := 81) (i := 0) dX7_add_80 rfl rfl rfl ?_
        refine gfX7_add_10 (n := 84) dX7_add_81 (by first | assumption | exact isC_of (by decide +kernel)) rfl ?_
        refine gfX7_add_87 (n := 87) dX7_add_84 (by first | assumption | exact isC_of (by decide +kernel)) rfl ?_
        rw [r3]
        have hin : vp_in (nI G.1.2.2.1.length) 24 := vp_in_nI (by omega) (by decide)
        refine am_lload_n (n := 88) (i := 1) dX7_add_87 rfl rfl rfl ?_
        refine am_last (n := 89) dX7_add_88 (by first | assumption | exact isC_of (by decide +kernel)) (by first | assumption | exact vp_in_nI (by omega) (by omega) | exact vp_in_iff.mpr (by decide)) rfl ?_
        first | refine am_aload_n (n := 90) (i := 0) dX7_add_89 rfl rfl rfl ?_ | refine am_aload_nN (n := 90) (i := 0) dX7_add_89 rfl rfl rfl ?_
        refine gfX7_add_10 (n := 93) dX7_add_90 (by first | assumption | exact isC_of (by decide +kernel)) rfl ?_
        refine am_dup (n := 94) dX7_add_93 rfl rfl ?_
        refine gfX7_add_87 (n := 97) dX7_add_94 (by first | assumption | exact isC_of (by decide +kernel)) rfl ?_
        simp (disch := omega) only [setJ_1]
        rw [r3, nI_clamp (by omega)]
        refine am_iconst (n := 98) (v := 1) dX7_add_97 rfl rfl ?_
        refine am_iadd (n := 99) dX7_add_98 rfl ?_
        rw [nI_1]
        refine pfX7_add_87 (n := 102) dX7_add_99 (by first | assumption | exact isC_of (by decide +kernel)) rfl ?_
        first | refine am_aload_n (n := 103) (i := 0) dX7_add_102 rfl rfl rfl ?_ | refine am_aload_nN (n := 103) (i := 0) dX7_add_102 rfl rfl rfl ?_
        refine gfX7_add_34 (n := 106) dX7_add_103 (by first | assumption | exact isC_of (by decide +kernel)) rfl ?_
        refine am_iconst (n := 107) (v := 0) dX7_add_106 rfl rfl ?_
        refine pfX7_add_94 (n := 110) dX7_add_107 (by first | assumption | exact isC_of (by decide +kernel)) rfl ?_
        first | refine am_aload_n (n := 111) (i := 0) dX7_add_110 rfl rfl rfl ?_ | refine am_aload_nN (n := 111) (i := 0) dX7_add_110 rfl rfl rfl ?_
        refine gfX7_add_10 (n := 114) dX7_add_111 (by first | assumption | exact isC_of (by decide +kernel)) rfl ?_
        refine gfX7_add_87 (n := 117) dX7_add_114 (by first | assumption | exact isC_of (by decide +kernel)) rfl ?_
        simp (disch := omega) only [setI_n, setI_s, pk_us]
        refine am_iconst (n := 118) (v := 1) dX7_add_117 rfl rfl ?_
        refine am_isub (n := 119) dX7_add_118 rfl ?_
        rw [nI_pred]
        refine am_iret dX7_add_119 rfl rfl ⟨rfl, ?_, F1.tr (fun c w1 w2 => ⟨(setI_n _ _ (by omega)).trans (setI_n _ _ (by omega)), setJ_n _ _ (by omega)⟩)⟩
        have XA : XI ((G.1.1, G.1.2.1, G.1.2.2.1 ++ [pw G.2.2.2], G.1.2.2.2), pushP G.2.1 G.1, G.2.2) (setI (setJ h1 101 (vp_updL (h1.2.1 101) G.1.2.2.1.length (lN (pw G.2.2.2)))) 100 (upd ((setJ h1 101 (vp_updL (h1.2.1 101) G.1.2.2.1.length (lN (pw G.2.2.2)))).1 100) 2 (nI (G.1.2.2.1.length + 1)))) := by
          refine X1.now (S := (G.1.1, G.1.2.1, G.1.2.2.1 ++ [pw G.2.2.2], G.1.2.2.2)) ⟨?_, ?_, ?_, ?_, fun i w hi => ?_, fun e E he => ?_⟩ ⟨X1.2.1.1, X1.2.1.2.1, ?_, fun w hw' => ?_, X1.2.1.2.2.2.2⟩ ((Fr.rf.sJ _ (by omega) (by omega)).sI _ (by omega) (by omega))
          · simp (disch := omega) only [setI_s, setJ_1, pk_un]
            exact r1
          · simp (disch := omega) only [setI_s, setJ_1, pk_un]
            exact r2
          · simp (disch := omega) only [setI_s, setJ_1, pk_us, List.length_append]
            rfl
          · simp (disch := omega) only [setI_s, setJ_1, pk_un]
            exact r4
          · have hi : (G.1.2.2.1 ++ [pw G.2.2.2])[i]? = some w := hi
            simp (disch := omega) only [setI_J, setJ_s]
            by_cases z : i = G.1.2.2.1.length
            · subst z
              rw [List.getElem?_append_right (Nat.le_refl _), Nat.sub_self, List.getElem?_cons_zero] at hi
              rw [← Option.some.inj hi, pk_uLs]
            · have hil := (List.getElem?_eq_some_iff.mp hi).1
              rw [List.length_append] at hil
              simp at hil
              rw [List.getElem?_append_left (by omega)] at hi
              rw [pk_uLn z]
              exact r5 i w hi
          · exact (r6 e E he).kept (fun c w1 w2 => (setI_n _ _ (by omega)).trans (congrFun (setJ_1 _ _ _) c))
          · show (G.1.2.2.1 ++ [pw G.2.2.2]).length ≤ 24
            rw [List.length_append]
            show G.1.2.2.1.length + 1 ≤ 24
            omega
          · rcases List.mem_append.mp hw' with z | z
            · exact X1.2.1.2.2.2.1 w z
            · rw [List.mem_singleton.mp z]
              exact hw
        exact XA.pad (p := []) ⟨by rw [setI_s, pk_us]; rfl, fun i c hi => by cases hi⟩ ⟨by decide, fun c hc => by cases hc⟩ (FrI.rf.set _ (by omega) (by omega))
  · refine am_icmp_eq (tgt := 15) (n := 12) dX7_add_9 (by decide) rfl (fun q_z => absurd q_z hf) (fun _ => ?_)
    rw [if_pos hf]
    refine am_bipush (n := 14) (v := (-3)) dX7_add_12 rfl rfl ?_
    refine am_iret dX7_add_14 rfl rfl ?_
    exact ⟨rfl, hX, FM.rf⟩
set_option maxRecDepth 100000 in
set_option maxHeartbeats 400000 in
theorem cx_drop (g : Gx) (x : Int32) (G : GS) (h : Hp) (hX : XI G h) : CX g yX7_drop wsX7_drop rmX7_drop [.ref 0, .int x] h (sp_drop x G) := by
  have c0 := isC_0
  have c100 := isSt_now.1
  have hn := hX.2.1.2.2.1
  unfold CX sp_drop
  refine AC.of (cc := cX7_drop) (maxL := 2) (ret := (some .int)) (by decide +kernel) rfl (Nat.le_of_ble_eq_true rfl) ?_
  show AW g mmX7_drop _ 0 [(0, some (.ref 0)), (1, some (.int x))] [] _
  first | refine am_aload_n (n := 1) (i := 0) dX7_drop_0 rfl rfl rfl ?_ | refine am_aload_nN (n := 1) (i := 0) dX7_drop_0 rfl rfl rfl ?_
  refine gfX7_drop_10 (n := 4) dX7_drop_1 (by first | assumption | exact isC_of (by decide +kernel)) rfl ?_
  refine am_iload_n (n := 5) (i := 1) dX7_drop_4 rfl rfl rfl ?_
  refine cdX7_drop_97 (n := 8) dX7_drop_5 (by first | exact ⟨rfl, rfl⟩ | assumption) (ac_X5_hasName g 100 x G.1 h isSt_now hX.1 hX.2.1) rfl rfl (Nat.le_of_ble_eq_true rfl) (by first | assumption | exact isC_of (by decide +kernel)) rfl ?_
  cases hx : inN x G.1.2.2.1.length with
  | false =>
    rw [if_neg (by decide)]
    refine am_if_ne (tgt := 13) (n := 11) dX7_drop_8 (by decide) rfl (fun q_z => absurd rfl q_z) (fun _ => ?_)
    refine am_iconst (n := 12) (v := (-1)) dX7_drop_11 rfl rfl ?_
    refine am_iret dX7_drop_12 rfl rfl ?_
    exact ⟨rfl, hX, FM.rf⟩
  | true =>
    rw [if_pos rfl]
    obtain ⟨i, hi, rfl⟩ := inN_t (by omega) hx
    refine am_if_ne (tgt := 13) (n := 11) dX7_drop_8 (by decide) rfl (fun _ => ?_) (fun q_z => absurd q_z (by decide))
    first | refine am_aload_n (n := 14) (i := 0) dX7_drop_13 rfl rfl rfl ?_ | refine am_aload_nN (n := 14) (i := 0) dX7_drop_13 rfl rfl rfl ?_
    refine caX7_drop_69 (n := 17) dX7_drop_14 (by first | exact ⟨rfl, rfl⟩ | assumption) (ac_X7_recordChange g G h hX) rfl rfl (Nat.le_of_ble_eq_true rfl) (by first | assumption | exact isC_of (by decide +kernel)) rfl ?_
    rintro r h1 ⟨rfl, X1, F1, -⟩
    first | refine am_aload_n (n := 18) (i := 0) dX7_drop_17 rfl rfl rfl ?_ | refine am_aload_nN (n := 18) (i := 0) dX7_drop_17 rfl rfl rfl ?_
    refine gfX7_drop_10 (n := 21) dX7_drop_18 (by first | assumption | exact isC_of (by decide +kernel)) rfl ?_
    refine am_iload_n (n := 22) (i := 1) dX7_drop_21 rfl rfl rfl ?_
    refine caX7_drop_101 (n := 25) dX7_drop_22 (by first | exact ⟨rfl, rfl⟩ | assumption) (ac_X5_removeName g 100 i G.1 h1 isSt_now X1.1 X1.2.1 hi) rfl rfl (Nat.le_of_ble_eq_true rfl) (by first | assumption | exact isC_of (by decide +kernel)) rfl ?_
    rintro r h2 ⟨rfl, R2, F2⟩
    first | refine am_aload_n (n := 26) (i := 0) dX7_drop_25 rfl rfl rfl ?_ | refine am_aload_nN (n := 26) (i := 0) dX7_drop_25 rfl rfl rfl ?_
    refine gfX7_drop_10 (n := 29) dX7_drop_26 (by first | assumption | exact isC_of (by decide +kernel)) rfl ?_
    refine gfX7_drop_87 (n := 32) dX7_drop_29 (by first | assumption | exact isC_of (by decide +kernel)) rfl ?_
    have e3 : h2.1 100 2 = nI (G.1.2.2.1.eraseIdx i).length := R2.2.2.1
    have hl : (G.1.2.2.1.eraseIdx i).length = G.1.2.2.1.length - 1 := List.length_eraseIdx_of_lt hi
    rw [e3, hl]
    refine am_iret dX7_drop_32 rfl rfl ⟨rfl, ?_, F1.tr (FM.fr F2 (by omega))⟩
    rw [tn_nI (by omega)]
    refine X1.now (S := (G.1.1, G.1.2.1, G.1.2.2.1.eraseIdx i, G.1.2.2.2)) R2 ⟨X1.2.1.1, X1.2.1.2.1, ?_, fun w hw => X1.2.1.2.2.2.1 w (List.mem_of_mem_eraseIdx hw), X1.2.1.2.2.2.2⟩ F2
    show (G.1.2.2.1.eraseIdx i).length ≤ 24
    omega
