/-! Pad: putting -/
def cinF : Nat → Nat → Nat → Nat
  | 0, left, many => if left = 0 then many else 0
  | f + 1, left, many => if left % 256 = 0 then (if left = 0 then many else 0) else if 33 ≤ left % 256 ∧ left % 256 ≤ 126 then cinF f (left / 256) (many + 1) else 0
/-- how many characters a number tells, 0 if it is not well formed -/
def cin (n : Nat) : Nat := cinF 8 n 0
theorem lz : (0 : Int64) = lN 0 := rfl
theorem cmp0 {a : Nat} (ha : a < 2 ^ 63) : lg_cmp (lN a) 0 = 0 ↔ a = 0 := by
  rw [lg_cmp_eq, lz, pk_lEQ ha (by decide)]
theorem cmp0' {a : Nat} (ha : a < 2 ^ 64) : lg_cmp (lN a) 0 = 0 ↔ a = 0 := by
  rw [lg_cmp_eq]
  constructor
  · intro e
    have := congrArg (fun x : Int64 => x.toBitVec.toNat) e
    rw [show (lN a).toBitVec.toNat = a from wb_tn ha] at this
    exact this
  · rintro rfl
    rfl
set_option maxRecDepth 100000 in
set_option maxHeartbeats 400000 in
theorem ac_X4_charactersIn (g : Gx) (n : Nat) (h : Hp) (hn : n < 2 ^ 64) : AD g yX4_charactersIn wsX4_charactersIn rmX4_charactersIn [.long (lN n)] h (some (.int (nI (cin n)))) h := by
  refine AC.of (cc := cX4_charactersIn) (maxL := 7) (ret := (some .int)) (by decide +kernel) rfl (Nat.le_of_ble_eq_true rfl) ?_
  show AW g mmX4_charactersIn _ 0 [(0, some (.long (lN n)))] [] _
  refine am_lload_n (n := 1) (i := 0) dX4_charactersIn_0 rfl rfl rfl ?_
  refine am_lstore_n (n := 2) (i := 2) dX4_charactersIn_1 rfl (Nat.le_of_ble_eq_true rfl) rfl rfl ?_
  refine am_iconst (n := 3) (v := 0) dX4_charactersIn_2 rfl rfl ?_
  refine am_istore (n := 5) dX4_charactersIn_3 (Nat.le_of_ble_eq_true rfl) rfl rfl ?_
  have end60 : ∀ (left many : Nat), left < 2 ^ 64 → (if left = 0 then many else 0) = cin n → AW g mmX4_charactersIn (ZP g (fun r h2 => r = some (.int (nI (cin n))) ∧ h2 = h)) 60 [(2, some (.long (lN left))), (4, some (.int (nI many)))] [] h := by
    intro left many hl he
    refine am_lload_n (n := 61) (i := 2) dX4_charactersIn_60 rfl rfl rfl ?_
    refine am_lconst (n := 62) (v := 0) dX4_charactersIn_61 rfl rfl ?_
    refine am_lcmp (n := 63) dX4_charactersIn_62 rfl ?_
    by_cases z : left = 0
    · rw [if_pos z] at he
      refine am_if_ne (tgt := 71) (n := 66) dX4_charactersIn_63 (by decide) rfl (fun q_z => absurd ((cmp0' hl).mpr z) q_z) (fun _ => ?_)
      refine am_iload (n := 68) dX4_charactersIn_66 rfl rfl ?_
      refine am_goto (tgt := 72) dX4_charactersIn_68 (by decide) ?_
      refine am_iret dX4_charactersIn_72 rfl rfl ?_
      rw [he]
      exact ⟨rfl, rfl⟩
    · rw [if_neg z] at he
      refine am_if_ne (tgt := 71) (n := 66) dX4_charactersIn_63 (by decide) rfl (fun _ => ?_) (fun q_z => absurd q_z (fun q => z ((cmp0' hl).mp q)))
      refine am_iconst (n := 72) (v := 0) dX4_charactersIn_71 rfl rfl ?_
      refine am_iret dX4_charactersIn_72 rfl rfl ?_
      rw [← he]
      exact ⟨rfl, rfl⟩
  have loop : ∀ (f left many : Nat), f + many = 8 → left < 2 ^ 64 → cinF f left many = cin n → AW g mmX4_charactersIn (ZP g (fun r h2 => r = some (.int (nI (cin n))) ∧ h2 = h)) 5 [(2, some (.long (lN left))), (4, some (.int (nI many)))] [] h := by
    intro f
    induction f with
    | zero =>
      intro left many hf hl he
      refine am_iload (n := 7) dX4_charactersIn_5 rfl rfl ?_
      refine am_bipush (n := 9) (v := 8) dX4_charactersIn_7 rfl rfl ?_
      refine am_icmp_ge (tgt := 60) (n := 12) dX4_charactersIn_9 (by decide) rfl (fun _ => ?_) (fun q_z => absurd (nI_le (show 8 ≤ many by omega) (by omega)) q_z)
      exact end60 left many hl he
    | succ f ih =>
      intro left many hf hl he
      have h256 : left % 256 < 256 := Nat.mod_lt _ (by decide)
      have em : lN left &&& 255 = lN (left % 256) := fb_maskL left 8
      refine am_iload (n := 7) dX4_charactersIn_5 rfl rfl ?_
      refine am_bipush (n := 9) (v := 8) dX4_charactersIn_7 rfl rfl ?_
      refine am_icmp_ge (tgt := 60) (n := 12) dX4_charactersIn_9 (by decide) rfl (fun q_z => absurd q_z (nI_ge (show many < 8 by omega) (by decide))) (fun _ => ?_)
      refine am_lload_n (n := 13) (i := 2) dX4_charactersIn_12 rfl rfl rfl ?_
      refine am_ldc2 (n := 16) (v := 255) dX4_charactersIn_13 (by decide +kernel) rfl ?_
      refine am_land (n := 17) dX4_charactersIn_16 rfl ?_
      rw [em]
      refine am_lconst (n := 18) (v := 0) dX4_charactersIn_17 rfl rfl ?_
      refine am_lcmp (n := 19) dX4_charactersIn_18 rfl ?_
      unfold cinF at he
      by_cases z : left % 256 = 0
      · rw [if_pos z] at he
        refine am_if_eq (tgt := 60) (n := 22) dX4_charactersIn_19 (by decide) rfl (fun _ => ?_) (fun q_z => absurd ((cmp0 (by omega)).mpr z) q_z)
        exact end60 left many hl he
      · rw [if_neg z] at he
        refine am_if_eq (tgt := 60) (n := 22) dX4_charactersIn_19 (by decide) rfl (fun q_z => absurd q_z (fun q => z ((cmp0 (by omega)).mp q))) (fun _ => ?_)
        refine am_lload_n (n := 23) (i := 2) dX4_charactersIn_22 rfl rfl rfl ?_
        refine am_ldc2 (n := 26) (v := 255) dX4_charactersIn_23 (by decide +kernel) rfl ?_
        refine am_land (n := 27) dX4_charactersIn_26 rfl ?_
        rw [em]
        refine am_lstore (n := 29) dX4_charactersIn_27 (Nat.le_of_ble_eq_true rfl) rfl rfl ?_
        refine am_lload (n := 31) dX4_charactersIn_29 rfl rfl ?_
        refine am_ldc2 (n := 34) (v := 33) dX4_charactersIn_31 (by decide +kernel) rfl ?_
        refine am_lcmp (n := 35) dX4_charactersIn_34 rfl ?_
        by_cases c : 33 ≤ left % 256 ∧ left % 256 ≤ 126
        · rw [if_pos c] at he
          refine am_if_lt (tgt := 47) (n := 38) dX4_charactersIn_35 (by decide) rfl (fun q_z => absurd q_z (fun q => by rw [lg_cmp_lt, show (33 : Int64) = lN 33 from rfl, pk_lLT (by omega) (by decide)] at q; omega)) (fun _ => ?_)
          refine am_lload (n := 40) dX4_charactersIn_38 rfl rfl ?_
          refine am_ldc2 (n := 43) (v := 126) dX4_charactersIn_40 (by decide +kernel) rfl ?_
          refine am_lcmp (n := 44) dX4_charactersIn_43 rfl ?_
          refine am_if_le (tgt := 49) (n := 47) dX4_charactersIn_44 (by decide) rfl (fun _ => ?_) (fun q_z => absurd (by rw [lg_cmp_le, show (126 : Int64) = lN 126 from rfl, pk_lLE (by omega) (by decide)]; exact c.2) q_z)
          refine am_lload_n (n := 50) (i := 2) dX4_charactersIn_49 rfl rfl rfl ?_
          refine am_bipush (n := 52) (v := 8) dX4_charactersIn_50 rfl rfl ?_
          refine am_lushr (n := 53) dX4_charactersIn_52 rfl ?_
          rw [show ((lN left).toUInt64 >>> ((8 : Int32).toInt64.toUInt64 &&& Int64.toUInt64 63)).toInt64 = lN (left / 256) from wb_shr (k := 8) hl (by decide)]
          refine am_lstore_n (n := 54) (i := 2) dX4_charactersIn_53 rfl (Nat.le_of_ble_eq_true rfl) rfl rfl ?_
          first | refine am_iincN (n := 57) dX4_charactersIn_54 rfl rfl rfl ?_ | refine am_iinc1 (n := 57) dX4_charactersIn_54 rfl rfl rfl ?_
          refine am_goto (tgt := 5) dX4_charactersIn_57 (by decide) ?_
          exact am_loc _ rfl (ih (left / 256) (many + 1) (by omega) (by omega) he)
        · rw [if_neg c] at he
          have e47 : ∀ l : Lo, AW g mmX4_charactersIn (ZP g (fun r h2 => r = some (.int (nI (cin n))) ∧ h2 = h)) 47 l [] h := by
            intro l
            refine am_iconst (n := 48) (v := 0) dX4_charactersIn_47 rfl rfl ?_
            refine am_iret dX4_charactersIn_48 rfl rfl ?_
            rw [← he]
            exact ⟨rfl, rfl⟩
          by_cases q1 : left % 256 < 33
          · refine am_if_lt (tgt := 47) (n := 38) dX4_charactersIn_35 (by decide) rfl (fun _ => ?_) (fun q_z => absurd (by rw [lg_cmp_lt, show (33 : Int64) = lN 33 from rfl, pk_lLT (by omega) (by decide)]; exact q1) q_z)
            exact e47 _
          · refine am_if_lt (tgt := 47) (n := 38) dX4_charactersIn_35 (by decide) rfl (fun q_z => absurd q_z (fun q => by rw [lg_cmp_lt, show (33 : Int64) = lN 33 from rfl, pk_lLT (by omega) (by decide)] at q; omega)) (fun _ => ?_)
            refine am_lload (n := 40) dX4_charactersIn_38 rfl rfl ?_
            refine am_ldc2 (n := 43) (v := 126) dX4_charactersIn_40 (by decide +kernel) rfl ?_
            refine am_lcmp (n := 44) dX4_charactersIn_43 rfl ?_
            refine am_if_le (tgt := 49) (n := 47) dX4_charactersIn_44 (by decide) rfl (fun q_z => absurd q_z (fun q => by rw [lg_cmp_le, show (126 : Int64) = lN 126 from rfl, pk_lLE (by omega) (by decide)] at q; omega)) (fun _ => ?_)
            exact e47 _
  exact am_loc _ rfl (loop 8 n 0 rfl hn rfl)
def bD (n : Nat) : Nat → List Nat
  | 0 => []
  | t + 1 => n / 256 ^ t % 256 :: bD n t
theorem bD_len (n t : Nat) : (bD n t).length = t := by
  induction t with
  | zero => rfl
  | succ t ih => rw [bD, List.length_cons, ih]
theorem ch_nI {c : Nat} (hc : c < 256) : vp_nar .char (((nI c).toUInt32 % 65536).toInt32) = nI c := by
  rw [pk_char, pk_tn (by omega), Nat.mod_eq_of_lt (by omega), vp_nar_char, fb_char (by omega)]
set_option maxRecDepth 100000 in
set_option maxHeartbeats 400000 in
theorem ac_X4_append (g : Gx) (k n m : Nat) (p : List Nat) (h : Hp) (hk : isPd k) (hR : RP k p h) (hn : n < 2 ^ 64) (hm : m ≤ 8) (hl : p.length + m ≤ 80) : AC g yX4_append wsX4_append rmX4_append [.ref k, .long (lN n), .int (nI m)] h (fun v h' => v = none ∧ FrI k (k + 1) h h' ∧ RP k (p ++ bD n m) h') := by
  obtain ⟨k0, k1⟩ := hk
  refine AC.of (cc := cX4_append) (maxL := 5) (ret := none) (by decide +kernel) rfl (Nat.le_of_ble_eq_true rfl) ?_
  show AW g mmX4_append _ 0 [(0, some (.ref k)), (1, some (.long (lN n))), (3, some (.int (nI m)))] [] _
  refine am_iload_n (n := 1) (i := 3) dX4_append_0 rfl rfl rfl ?_
  refine am_iconst (n := 2) (v := 1) dX4_append_1 rfl rfl ?_
  refine am_isub (n := 3) dX4_append_2 rfl ?_
  refine am_istore (n := 5) dX4_append_3 (Nat.le_of_ble_eq_true rfl) rfl rfl ?_
  have loop : ∀ (t : Nat) (q : List Nat) (h1 : Hp), t ≤ m → q ++ bD n t = p ++ bD n m → FrI k (k + 1) h h1 → RP k q h1 → AW g mmX4_append (ZP g (fun v h' => v = none ∧ FrI k (k + 1) h h' ∧ RP k (p ++ bD n m) h')) 5 [(0, some (.ref k)), (1, some (.long (lN n))), (4, some (.int (nI t - 1)))] [] h1 := by
    intro t
    induction t with
    | zero =>
      intro q h1 ht he F R
      refine am_iload (n := 7) dX4_append_5 rfl rfl ?_
      refine am_if_lt (tgt := 57) (n := 10) dX4_append_7 (by decide) rfl (fun _ => ?_) (fun q_z => absurd (by decide) q_z)
      refine am_vret dX4_append_57 rfl ?_
      rw [bD, List.append_nil] at he
      rw [← he]
      exact ⟨rfl, F, R⟩
    | succ t ih =>
      intro q h1 ht he F R
      obtain ⟨r1, r2⟩ := R
      have hql : q.length < 80 := by
        have := congrArg List.length he
        rw [List.length_append, List.length_append, bD_len, bD_len] at this
        omega
      rw [nI_pred]
      refine am_iload (n := 7) dX4_append_5 rfl rfl ?_
      refine am_if_lt (tgt := 57) (n := 10) dX4_append_7 (by decide) rfl (fun q_z => absurd q_z (nI_pos (by omega))) (fun _ => ?_)
      refine am_aload_n (n := 11) (i := 0) dX4_append_10 rfl rfl rfl ?_
      refine gfX4_append_15 (n := 14) dX4_append_11 (by first | assumption | exact isC_of (by decide +kernel)) rfl ?_
      refine am_bipush (n := 16) (v := 80) dX4_append_14 rfl rfl ?_
      rw [r1]
      refine am_icmp_ge (tgt := 57) (n := 19) dX4_append_16 (by decide) rfl (fun q_z => absurd q_z (nI_ge hql (by decide))) (fun _ => ?_)
      refine am_aload_n (n := 20) (i := 0) dX4_append_19 rfl rfl rfl ?_
      refine gfX4_append_9 (n := 23) dX4_append_20 (by first | assumption | exact isC_of (by decide +kernel)) rfl ?_
      refine am_aload_n (n := 24) (i := 0) dX4_append_23 rfl rfl rfl ?_
      refine gfX4_append_15 (n := 27) dX4_append_24 (by first | assumption | exact isC_of (by decide +kernel)) rfl ?_
      rw [r1]
      refine am_lload_n (n := 28) (i := 1) dX4_append_27 rfl rfl rfl ?_
      refine am_bipush (n := 30) (v := 8) dX4_append_28 rfl rfl ?_
      refine am_iload (n := 32) dX4_append_30 rfl rfl ?_
      refine am_imul (n := 33) dX4_append_32 rfl ?_
      rw [show (8 : Int32) * nI t = nI (8 * t) from pk_mul 8 t]
      refine am_lushr (n := 34) dX4_append_33 rfl ?_
      rw [wb_shr hn (by omega), show n / 2 ^ (8 * t) = n / 256 ^ t by rw [Nat.pow_mul]]
      refine am_ldc2 (n := 37) (v := 255) dX4_append_34 (by decide +kernel) rfl ?_
      refine am_land (n := 38) dX4_append_37 rfl ?_
      rw [show lN (n / 256 ^ t) &&& 255 = lN (n / 256 ^ t % 256) from fb_maskL _ 8]
      refine am_l2i (n := 39) dX4_append_38 rfl ?_
      rw [lN_i]
      have hc : n / 256 ^ t % 256 < 256 := Nat.mod_lt _ (by decide)
      generalize hcd : n / 256 ^ t % 256 = c at hc
      have hin : vp_in (nI q.length) 80 := vp_in_nI hql (by decide)
      refine am_i2c (n := 40) dX4_append_39 rfl ?_
      refine am_cast (n := 41) dX4_append_40 (by first | assumption | exact isC_of (by decide +kernel)) (by first | assumption | exact vp_in_nI (by omega) (by omega) | exact vp_in_iff.mpr (by decide)) rfl ?_
      rw [ch_nI hc, nI_clamp (by omega)]
      refine am_aload_n (n := 42) (i := 0) dX4_append_41 rfl rfl rfl ?_
      refine am_dup (n := 43) dX4_append_42 rfl rfl ?_
      refine gfX4_append_15 (n := 46) dX4_append_43 (by first | assumption | exact isC_of (by decide +kernel)) rfl ?_
      simp (disch := omega) only [setI_n]
      rw [r1]
      refine am_iconst (n := 47) (v := 1) dX4_append_46 rfl rfl ?_
      refine am_iadd (n := 48) dX4_append_47 rfl ?_
      rw [nI_1]
      refine pfX4_append_15 (n := 51) dX4_append_48 (by first | assumption | exact isC_of (by decide +kernel)) rfl ?_
      refine am_iinc (n := 54) (v := _ + (-1)) dX4_append_51 rfl rfl rfl rfl ?_
      rw [show nI t + -1 = nI t - 1 from (Int32.sub_eq_add_neg _ _).symm]
      refine am_goto (tgt := 5) dX4_append_54 (by decide) ?_
      refine am_loc _ rfl (ih (q ++ [c]) _ (by omega) (by rw [List.append_assoc, ← he, bD, hcd]; rfl) ((F.set _ (by omega) (by omega)).set _ (by omega) (by omega)) ⟨?_, fun i x hx => ?_⟩)
      · simp (disch := omega) only [setI_n, setI_s, pk_us, List.length_append]
        rfl
      · simp (disch := omega) only [setI_n, setI_s]
        by_cases z : i = q.length
        · subst z
          rw [List.getElem?_append_right (Nat.le_refl _), Nat.sub_self, List.getElem?_cons_zero] at hx
          rw [← Option.some.inj hx, pk_us]
        · have hil := (List.getElem?_eq_some_iff.mp hx).1
          rw [List.length_append] at hil
          simp at hil
          rw [List.getElem?_append_left (by omega)] at hx
          rw [pk_un z]
          exact r2 i x hx
  exact am_loc _ rfl (loop m p h (Nat.le_refl _) rfl FrI.rf hR)
