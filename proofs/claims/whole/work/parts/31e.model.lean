/-! The reference: put, words -/
set_option maxRecDepth 100000 in
set_option maxHeartbeats 400000 in
theorem cm_put (g : Gx) (n : Nat) (G : GS) (h : Hp) (hX : MG G h) (hn : n < 2 ^ 64) : CM g yX8_put wsX8_put rmX8_put [.ref 40, .long (lN n)] h (sp_put n G) := by
  have c40 := isC_40
  have c46 := isC_46
  have hD := hX.2.2.2.2.1
  have hPV := hX.2.2.2.2.2
  have h80 := hPV.1
  have hc8 := cin_le n
  have hvp := fun a b => VP_put (n := n) hPV a b
  unfold CM
  generalize hZ : ZP g (fun v h' => v = some (.int (sp_put n G).1) ∧ MG (sp_put n G).2 h' ∧ Fr 40 59 h h') = Z
  have z0 : Z.1 = 0 ∧ Z.2.1 = 0 := by rw [← hZ]; exact ⟨rfl, rfl⟩
  unfold sp_put at hZ
  refine AC.of (cc := cX8_put) (maxL := 7) (ret := (some .int)) (by decide +kernel) rfl (Nat.le_of_ble_eq_true rfl) ?_
  show AW g mmX8_put _ 0 [(0, some (.ref 40)), (1, some (.long (lN n)))] [] _
  rw [show sp_put n G = (if cin n = 0 then (-2, G) else if 80 < G.2.2.2.length + cin n then (-4, G) else (nI (G.2.2.2.length + cin n), (G.1, G.2.1, G.2.2.1, G.2.2.2 ++ bD n (cin n)))) from rfl, hZ]
  have bad : cin n = 0 → ∀ pc, (pc = 38 ∨ pc = 57) → ∀ l, AW g mmX8_put Z pc l [] h := by
    intro hc pc hpc l
    rw [← hZ, if_pos hc]
    rcases hpc with rfl | rfl
    · refine am_bipush (n := 40) (v := (-2)) dX8_put_38 rfl rfl ?_
      refine am_iret dX8_put_40 rfl rfl ?_
      exact ⟨rfl, hX, Fr.rf⟩
    · refine am_bipush (n := 59) (v := (-2)) dX8_put_57 rfl rfl ?_
      refine am_iret dX8_put_59 rfl rfl ?_
      exact ⟨rfl, hX, Fr.rf⟩
  have loop2 : cin n ≠ 0 → G.2.2.2.length + cin n ≤ 80 → ∀ (t : Nat) (q : List Nat) (h1 : Hp), t ≤ cin n → q ++ bD n t = G.2.2.2 ++ bD n (cin n) → (h1.1 40 7 = nI q.length ∧ ∀ (i c : Nat), q[i]? = some c → h1.1 46 i = nI c) → h1.1 40 3 = h.1 40 3 → (∀ c, 41 ≤ c → c ≤ 45 → h1.1 c = h.1 c) → Fr 40 59 h h1 → AW g mmX8_put Z 81 [(0, some (.ref 40)), (1, some (.long (lN n))), (6, some (.int (nI t - 1)))] [] h1 := by
    intro q0 q1 t
    induction t with
    | zero =>
      intro q h1 ht he R f3 f F
      rw [bD, List.append_nil] at he
      obtain ⟨r1, r2⟩ := R
      refine am_iload (n := 83) dX8_put_81 rfl rfl ?_
      refine am_if_lt (tgt := 123) (n := 86) dX8_put_83 (by decide) rfl (fun _ => ?_) (fun q_z => absurd (by decide) q_z)
      refine am_aload_n (n := 124) (i := 0) dX8_put_123 rfl rfl rfl ?_
      refine gfX8_put_68 (n := 127) dX8_put_124 (by first | assumption | exact isC_of (by decide +kernel)) rfl ?_
      rw [r1, ← hZ, if_neg q0, if_neg (by omega)]
      have el : q.length = G.2.2.2.length + cin n := by rw [he, List.length_append, bD_len]
      rw [el]
      refine am_iret dX8_put_127 rfl rfl ?_
      rw [← he]
      exact ⟨rfl, hX.pad ⟨r1, r2⟩ (by rw [he]; exact hvp q0 q1) f3 f, F⟩
    | succ t ih =>
      intro q h1 ht he R f3 f F
      obtain ⟨r1, r2⟩ := R
      have hql : q.length < 80 := by
        have := congrArg List.length he
        rw [List.length_append, List.length_append, bD_len, bD_len] at this
        omega
      rw [nI_pred]
      refine am_iload (n := 83) dX8_put_81 rfl rfl ?_
      refine am_if_lt (tgt := 123) (n := 86) dX8_put_83 (by decide) rfl (fun q_z => absurd q_z (nI_pos (by omega))) (fun _ => ?_)
      refine am_aload_n (n := 87) (i := 0) dX8_put_86 rfl rfl rfl ?_
      refine gfX8_put_26 (n := 90) dX8_put_87 (by first | assumption | exact isC_of (by decide +kernel)) rfl ?_
      refine am_aload_n (n := 91) (i := 0) dX8_put_90 rfl rfl rfl ?_
      refine gfX8_put_68 (n := 94) dX8_put_91 (by first | assumption | exact isC_of (by decide +kernel)) rfl ?_
      rw [r1]
      refine am_lload_n (n := 95) (i := 1) dX8_put_94 rfl rfl rfl ?_
      refine am_bipush (n := 97) (v := 8) dX8_put_95 rfl rfl ?_
      refine am_iload (n := 99) dX8_put_97 rfl rfl ?_
      refine am_imul (n := 100) dX8_put_99 rfl ?_
      rw [show (8 : Int32) * nI t = nI (8 * t) from pk_mul 8 t]
      refine am_lushr (n := 101) dX8_put_100 rfl ?_
      rw [wb_shr hn (by omega), show n / 2 ^ (8 * t) = n / 256 ^ t by rw [Nat.pow_mul]]
      refine am_ldc2 (n := 104) (v := 255) dX8_put_101 (by decide +kernel) rfl ?_
      refine am_land (n := 105) dX8_put_104 rfl ?_
      rw [show lN (n / 256 ^ t) &&& 255 = lN (n / 256 ^ t % 256) from fb_maskL _ 8]
      refine am_l2i (n := 106) dX8_put_105 rfl ?_
      rw [lN_i]
      have hc : n / 256 ^ t % 256 < 256 := Nat.mod_lt _ (by decide)
      generalize hcd : n / 256 ^ t % 256 = c at hc
      have hin : vp_in (nI q.length) 80 := vp_in_nI hql (by decide)
      refine am_iast (n := 107) dX8_put_106 (by first | assumption | exact isC_of (by decide +kernel)) (by first | assumption | exact vp_in_nI (by omega) (by omega) | exact vp_in_iff.mpr (by decide)) rfl ?_
      rw [nI_clamp (by omega)]
      refine am_aload_n (n := 108) (i := 0) dX8_put_107 rfl rfl rfl ?_
      refine am_dup (n := 109) dX8_put_108 rfl rfl ?_
      refine gfX8_put_68 (n := 112) dX8_put_109 (by first | assumption | exact isC_of (by decide +kernel)) rfl ?_
      rw [setI_n _ _ (show (40 : Nat) ≠ 46 by decide), r1]
      refine am_iconst (n := 113) (v := 1) dX8_put_112 rfl rfl ?_
      refine am_iadd (n := 114) dX8_put_113 rfl ?_
      rw [nI_1]
      refine pfX8_put_68 (n := 117) dX8_put_114 (by first | assumption | exact isC_of (by decide +kernel)) rfl ?_
      refine am_iinc (n := 120) (v := _ + (-1)) dX8_put_117 rfl rfl rfl rfl ?_
      rw [show nI t + -1 = nI t - 1 from (Int32.sub_eq_add_neg _ _).symm]
      refine am_goto (tgt := 81) dX8_put_120 (by decide) ?_
      refine am_loc _ rfl (ih (q ++ [c]) _ (by omega) (by rw [List.append_assoc, ← he, bD, hcd]; rfl) ⟨?_, fun i x hx => ?_⟩ (by rw [setI_s, pk_un (by omega), setI_n _ _ (by omega)]; exact f3) (fun c c1 c2 => by rw [setI_n _ _ (by omega), setI_n _ _ (by omega)]; exact f c c1 c2) ((F.sI _ (by omega) (by omega)).sI _ (by omega) (by omega)))
      · simp (disch := omega) only [setI_n, setI_s, pk_us, List.length_append]
        rfl
      · simp (disch := omega) only [setI_n, setI_s]
        by_cases z : i = q.length
        · subst z
          rw [List.getElem?_append_right (Nat.le_refl _), Nat.sub_self, List.getElem?_cons_zero] at hx
          rw [← Option.some.inj hx, pk_us]
        · have hil := (List.getElem?_eq_some_iff.mp hx).1
          rw [List.length_append] at hil
          simp at hil
          rw [List.getElem?_append_left (by omega)] at hx
          rw [pk_un z]
          exact r2 i x hx
  have t52 : ∀ l : Lo, lget l 0 = some (.ref 40) → lget l 1 = some (.long (lN n)) → lget l 5 = some (.int (nI (cin n))) → AW g mmX8_put Z 52 l [] h := by
    intro l l0 l1 l5
    refine am_loc [(0, some (.ref 40)), (1, some (.long (lN n))), (5, some (.int (nI (cin n))))] (by simp only [List.map_cons, List.map_nil, l0, l1, l5]) ?_
    refine am_iload (n := 54) dX8_put_52 rfl rfl ?_
    by_cases q0 : cin n = 0
    · refine am_if_ne (tgt := 60) (n := 57) dX8_put_54 (by decide) rfl (fun q_z => absurd (by rw [q0]; rfl) q_z) (fun _ => ?_)
      exact bad q0 57 (Or.inr rfl) _
    · refine am_if_ne (tgt := 60) (n := 57) dX8_put_54 (by decide) rfl (fun _ => ?_) (fun q_z => absurd q_z (fun q => q0 ((nI_eq (b := 0) (by omega) (by omega)).mp q)))
      refine am_aload_n (n := 61) (i := 0) dX8_put_60 rfl rfl rfl ?_
      refine gfX8_put_68 (n := 64) dX8_put_61 (by first | assumption | exact isC_of (by decide +kernel)) rfl ?_
      refine am_iload (n := 66) dX8_put_64 rfl rfl ?_
      refine am_iadd (n := 67) dX8_put_66 rfl ?_
      rw [hD.1, nI_add]
      refine am_bipush (n := 69) (v := 80) dX8_put_67 rfl rfl ?_
      by_cases q1 : 80 < G.2.2.2.length + cin n
      · refine am_icmp_le (tgt := 75) (n := 72) dX8_put_69 (by decide) rfl (fun q_z => absurd q_z (fun q => absurd ((nI_leI (b := 80) (by omega) (by omega)).mp q) (by omega))) (fun _ => ?_)
        rw [← hZ, if_neg q0, if_pos q1]
        refine am_bipush (n := 74) (v := (-4)) dX8_put_72 rfl rfl ?_
        refine am_iret dX8_put_74 rfl rfl ?_
        exact ⟨rfl, hX, Fr.rf⟩
      · refine am_icmp_le (tgt := 75) (n := 72) dX8_put_69 (by decide) rfl (fun _ => ?_) (fun q_z => absurd ((nI_leI (b := 80) (by omega) (by omega)).mpr (by omega)) q_z)
        refine am_iload (n := 77) dX8_put_75 rfl rfl ?_
        refine am_iconst (n := 78) (v := 1) dX8_put_77 rfl rfl ?_
        refine am_isub (n := 79) dX8_put_78 rfl ?_
        refine am_istore (n := 81) dX8_put_79 (Nat.le_of_ble_eq_true rfl) rfl rfl ?_
        exact am_loc _ rfl (loop2 q0 (by omega) (cin n) G.2.2.2 h (Nat.le_refl _) rfl hD rfl (fun c _ _ => rfl) Fr.rf)
  have loop1 : ∀ (f left many : Nat), f + many = 8 → left < 256 ^ f → cinF f left many = cin n → AW g mmX8_put Z 5 [(0, some (.ref 40)), (1, some (.long (lN n))), (3, some (.long (lN left))), (5, some (.int (nI many)))] [] h := by
    intro f
    induction f with
    | zero =>
      intro left many hf hl he
      have hl0 : left = 0 := by rw [Nat.pow_zero] at hl; omega
      subst hl0
      unfold cinF at he
      rw [if_pos rfl] at he
      refine am_lload_n (n := 6) (i := 3) dX8_put_5 rfl rfl rfl ?_
      refine am_lconst (n := 7) (v := 0) dX8_put_6 rfl rfl ?_
      refine am_lcmp (n := 8) dX8_put_7 rfl ?_
      refine am_if_eq (tgt := 52) (n := 11) dX8_put_8 (by decide) rfl (fun _ => ?_) (fun q_z => absurd ((cmp0 (a := 0) (by omega)).mpr rfl) q_z)
      exact t52 _ rfl rfl (by rw [← he]; rfl)
    | succ f ih =>
      intro left many hf hl he
      have hl64 : left < 2 ^ 64 := Nat.lt_of_lt_of_le hl (Nat.le_trans (Nat.pow_le_pow_right (by omega) (show f + 1 ≤ 8 by omega)) (by decide))
      have h256 : left % 256 < 256 := Nat.mod_lt _ (by decide)
      have em : lN left &&& 255 = lN (left % 256) := fb_maskL left 8
      refine am_lload_n (n := 6) (i := 3) dX8_put_5 rfl rfl rfl ?_
      refine am_lconst (n := 7) (v := 0) dX8_put_6 rfl rfl ?_
      refine am_lcmp (n := 8) dX8_put_7 rfl ?_
      by_cases z : left = 0
      · subst z
        unfold cinF at he
        rw [if_pos rfl, if_pos rfl] at he
        refine am_if_eq (tgt := 52) (n := 11) dX8_put_8 (by decide) rfl (fun _ => ?_) (fun q_z => absurd ((cmp0 (a := 0) (by omega)).mpr rfl) q_z)
        exact t52 _ rfl rfl (by rw [← he]; rfl)
      · refine am_if_eq (tgt := 52) (n := 11) dX8_put_8 (by decide) rfl (fun q_z => absurd q_z (fun q => z ((cmp0' hl64).mp q))) (fun _ => ?_)
        refine am_iload (n := 13) dX8_put_11 rfl rfl ?_
        refine am_bipush (n := 15) (v := 8) dX8_put_13 rfl rfl ?_
        refine am_icmp_ge (tgt := 52) (n := 18) dX8_put_15 (by decide) rfl (fun q_z => absurd q_z (nI_ge (show many < 8 by omega) (by decide))) (fun _ => ?_)
        refine am_lload_n (n := 19) (i := 3) dX8_put_18 rfl rfl rfl ?_
        refine am_ldc2 (n := 22) (v := 255) dX8_put_19 (by decide +kernel) rfl ?_
        refine am_land (n := 23) dX8_put_22 rfl ?_
        rw [em]
        refine am_l2i (n := 24) dX8_put_23 rfl ?_
        rw [lN_i]
        refine am_istore (n := 26) dX8_put_24 (Nat.le_of_ble_eq_true rfl) rfl rfl ?_
        refine am_iload (n := 28) dX8_put_26 rfl rfl ?_
        refine am_bipush (n := 30) (v := 33) dX8_put_28 rfl rfl ?_
        refine am_bipush (n := 32) (v := 126) dX8_put_30 rfl rfl ?_
        refine cdX8_put_51 (n := 35) dX8_put_32 (by first | exact ⟨rfl, rfl⟩ | assumption) (m_in g (nI (left % 256)) 33 126 h) rfl rfl (Nat.le_of_ble_eq_true rfl) rfl ?_
        have e2 : (decide (33 ≤ nI (left % 256)) && decide (nI (left % 256) ≤ 126)) = decide (33 ≤ left % 256 ∧ left % 256 ≤ 126) := by
          rw [Bool.eq_iff_iff, Bool.and_eq_true, decide_eq_true_eq, decide_eq_true_eq, decide_eq_true_eq, show (33 : Int32) = nI 33 from rfl, show (126 : Int32) = nI 126 from rfl, nI_leI (by omega) (by omega), nI_leI (by omega) (by omega)]
        rw [e2]
        unfold cinF at he
        by_cases c : 33 ≤ left % 256 ∧ left % 256 ≤ 126
        · rw [if_neg (by omega), if_pos c] at he
          rw [decide_eq_true c]
          refine am_if_ne (tgt := 41) (n := 38) dX8_put_35 (by decide) rfl (fun _ => ?_) (fun q_z => absurd q_z (show ¬ (1 : Int32) = 0 by decide))
          refine am_lload_n (n := 42) (i := 3) dX8_put_41 rfl rfl rfl ?_
          refine am_bipush (n := 44) (v := 8) dX8_put_42 rfl rfl ?_
          refine am_lushr (n := 45) dX8_put_44 rfl ?_
          rw [show ((lN left).toUInt64 >>> ((8 : Int32).toInt64.toUInt64 &&& Int64.toUInt64 63)).toInt64 = lN (left / 256) from wb_shr (k := 8) hl64 (by decide)]
          refine am_lstore_n (n := 46) (i := 3) dX8_put_45 rfl (Nat.le_of_ble_eq_true rfl) rfl rfl ?_
          first | refine am_iincN (n := 49) dX8_put_46 rfl rfl rfl ?_ | refine am_iinc1 (n := 49) dX8_put_46 rfl rfl rfl ?_
          refine am_goto (tgt := 5) dX8_put_49 (by decide) ?_
          refine am_loc _ rfl (ih (left / 256) (many + 1) (by omega) ?_ he)
          rw [Nat.div_lt_iff_lt_mul (by decide), ← Nat.pow_succ]
          exact hl
        · have hc0 : cin n = 0 := by
            rw [← he]
            split
            · rfl
            · rfl
          rw [decide_eq_false c]
          refine am_if_ne (tgt := 41) (n := 38) dX8_put_35 (by decide) rfl (fun q_z => absurd rfl q_z) (fun _ => ?_)
          exact bad hc0 38 (Or.inl rfl) _
  refine am_lload_n (n := 1) (i := 1) dX8_put_0 rfl rfl rfl ?_
  refine am_lstore_n (n := 2) (i := 3) dX8_put_1 rfl (Nat.le_of_ble_eq_true rfl) rfl rfl ?_
  refine am_iconst (n := 3) (v := 0) dX8_put_2 rfl rfl ?_
  refine am_istore (n := 5) dX8_put_3 (Nat.le_of_ble_eq_true rfl) rfl rfl ?_
  exact am_loc _ rfl (loop1 8 n 0 rfl hn rfl)
theorem nI_sub {a b : Nat} (h : b ≤ a) : nI a - nI b = nI (a - b) := by
  obtain ⟨d, rfl⟩ := Nat.exists_eq_add_of_le h
  rw [Nat.add_sub_cancel_left, ← nI_add, Int32.add_comm, Int32.add_sub_cancel]
/-- the word that is looked at -/
def MWd (n : Nat) (h : Hp) : Prop := h.1 40 9 = nI (wsz n) ∧ ∀ p, p < wsz n → h.1 47 p = nI (wl n p - 1)
theorem mW {S : SV} {h : Hp} (R : RZ 0 S (h.1 41)) (V : VS S) {i : Nat} (hi : i < S.2.2.1.length) : i < 24 ∧ h.1 41 (4 + 11 * i) = nI (wsz (S.2.2.1.getD i 0)) ∧ (∀ p, p < 10 → h.1 41 (4 + 11 * i + 1 + p) = nI (wl (S.2.2.1.getD i 0) p - 1)) ∧ VW (S.2.2.1.getD i 0) := by
  have h1 := gD_at hi
  have h2 := V.2.2.1
  obtain ⟨y1, y2⟩ := R.2.2.2.2.1 i _ h1
  rw [Nat.zero_add] at y1 y2
  exact ⟨by omega, y1, y2, V.2.2.2.1 _ (List.mem_of_getElem? h1)⟩
theorem wl_ext {m n : Nat} (hm : m < 2 ^ 50) (hn : n < 2 ^ 50) (h : ∀ p, p < 10 → wl m p = wl n p) : m = n := by
  have key : ∀ k, k ≤ 10 → m % 32 ^ k = n % 32 ^ k := by
    intro k
    induction k with
    | zero => intro _; rw [Nat.pow_zero, Nat.mod_one, Nat.mod_one]
    | succ k ih =>
      intro hk
      have e := h k (by omega)
      unfold wl at e
      rw [Nat.pow_succ, Nat.mod_mul, Nat.mod_mul, ih (by omega), e]
  have := key 10 (by omega)
  rw [Nat.mod_eq_of_lt (Nat.lt_of_lt_of_eq hm (by decide)), Nat.mod_eq_of_lt (Nat.lt_of_lt_of_eq hn (by decide))] at this
  exact this
/-- only the word that is looked at has changed -/
def FW (h h' : Hp) : Prop := (∀ c, c ≠ 40 → c ≠ 47 → h'.1 c = h.1 c) ∧ (∀ j, j ≠ 9 → h'.1 40 j = h.1 40 j) ∧ h'.2 = h.2
theorem FW.rf {h : Hp} : FW h h := ⟨fun _ _ _ => rfl, fun _ _ => rfl, rfl⟩
theorem FW.w47 {h h1 : Hp} (F : FW h h1) (r : Nat → Int32) : FW h (setI h1 47 r) := ⟨fun c c1 c2 => (setI_n _ _ c2).trans (F.1 c c1 c2), fun j hj => by rw [setI_n _ _ (by omega)]; exact F.2.1 j hj, F.2.2⟩
theorem FW.f9 {h h1 : Hp} (F : FW h h1) (v : Int32) : FW h (setI h1 40 (upd (h1.1 40) 9 v)) := ⟨fun c c1 c2 => (setI_n _ _ c1).trans (F.1 c c1 c2), fun j hj => by rw [setI_s, pk_un hj]; exact F.2.1 j hj, F.2.2⟩
theorem FW.s {h h' : Hp} (F : FW h h') : FrS h h' := ⟨⟨fun c hc => ⟨F.1 c (by omega) (by omega), by rw [F.2.2]⟩, by rw [F.2.2]⟩, F.1 41 (by omega) (by omega), F.2.1 3 (by omega), F.2.1 7 (by omega), fun c c1 c2 => F.1 c (by omega) (by omega)⟩
set_option maxRecDepth 100000 in
set_option maxHeartbeats 400000 in
theorem m_takePad (g : Gx) (p : List Nat) (h : Hp) (hD : DZ p h) (hV : VP p) (hf : flt p = -6) : AC g yX8_takePad wsX8_takePad rmX8_takePad [.ref 40] h (fun v h' => v = none ∧ MWd (pw p) h' ∧ FW h h') := by
  have c40 := isC_40
  have c46 := isC_46
  have c47 := isC_47
  obtain ⟨d1, d2⟩ := hD
  obtain ⟨f1, f2, f3⟩ := flt_ok hf
  obtain ⟨-, hsz⟩ := pw_ok hf
  have hwl := pwF_wl p p.length (fun i hi => (f3 i hi).2)
  refine AC.of (cc := cX8_takePad) (maxL := 2) (ret := none) (by decide +kernel) rfl (Nat.le_of_ble_eq_true rfl) ?_
  show AW g mmX8_takePad _ 0 [(0, some (.ref 40))] [] _
  refine am_aload_n (n := 1) (i := 0) dX8_takePad_0 rfl rfl rfl ?_
  refine am_aload_n (n := 2) (i := 0) dX8_takePad_1 rfl rfl rfl ?_
  refine gfX8_takePad_68 (n := 5) dX8_takePad_2 (by first | assumption | exact isC_of (by decide +kernel)) rfl ?_
  rw [d1]
  refine pfX8_takePad_75 (n := 8) dX8_takePad_5 (by first | assumption | exact isC_of (by decide +kernel)) rfl ?_
  refine am_iconst (n := 9) (v := 0) dX8_takePad_8 rfl rfl ?_
  refine am_istore_n (n := 10) (i := 1) dX8_takePad_9 rfl (Nat.le_of_ble_eq_true rfl) rfl rfl ?_
  have B : FW h (setI h 40 (upd (h.1 40) 9 (nI p.length))) := FW.rf.f9 _
  refine am_loc [(0, some (.ref 40)), (1, some (.int (nI 0)))] rfl ?_
  refine loop_up (Wp := fun k => ∀ h1 : Hp, FW h h1 → h1.1 40 9 = nI p.length → (∀ j, j < k → h1.1 47 j = nI (p.getD j 0 - 97)) → AW g mmX8_takePad _ 10 [(0, some (.ref 40)), (1, some (.int (nI k)))] [] h1) p.length ?_ ?_ 0 (Nat.zero_le _) _ B (by rw [setI_s, pk_us]) (fun j hj => by omega)
  · intro h1 F e9 H
    refine am_iload_n (n := 11) (i := 1) dX8_takePad_10 rfl rfl rfl ?_
    refine am_aload_n (n := 12) (i := 0) dX8_takePad_11 rfl rfl rfl ?_
    refine gfX8_takePad_68 (n := 15) dX8_takePad_12 (by first | assumption | exact isC_of (by decide +kernel)) rfl ?_
    rw [F.2.1 7 (by omega), d1]
    refine am_icmp_ge (tgt := 39) (n := 18) dX8_takePad_15 (by decide) rfl (fun _ => ?_) (fun q_z => absurd (nI_le (Nat.le_refl _) (by omega)) q_z)
    refine am_vret dX8_takePad_39 rfl ?_
    refine ⟨rfl, ⟨by rw [hsz]; exact e9, fun q hq => ?_⟩, F⟩
    rw [hsz] at hq
    rw [H q hq]
    unfold pw
    rw [hwl q, if_pos hq, Nat.add_sub_cancel]
  · intro k hk K h1 F e9 H
    have hin : vp_in (nI k) 80 := vp_in_nI (by omega) (by decide)
    have hin2 : vp_in (nI k) 10 := vp_in_nI (by omega) (by decide)
    have hx := d2 k _ (gD_at hk)
    have hc := f3 k hk
    refine am_iload_n (n := 11) (i := 1) dX8_takePad_10 rfl rfl rfl ?_
    refine am_aload_n (n := 12) (i := 0) dX8_takePad_11 rfl rfl rfl ?_
    refine gfX8_takePad_68 (n := 15) dX8_takePad_12 (by first | assumption | exact isC_of (by decide +kernel)) rfl ?_
    rw [F.2.1 7 (by omega), d1]
    refine am_icmp_ge (tgt := 39) (n := 18) dX8_takePad_15 (by decide) rfl (fun q_z => absurd q_z (nI_ge hk (by omega))) (fun _ => ?_)
    refine am_aload_n (n := 19) (i := 0) dX8_takePad_18 rfl rfl rfl ?_
    refine gfX8_takePad_29 (n := 22) dX8_takePad_19 (by first | assumption | exact isC_of (by decide +kernel)) rfl ?_
    refine am_iload_n (n := 23) (i := 1) dX8_takePad_22 rfl rfl rfl ?_
    refine am_aload_n (n := 24) (i := 0) dX8_takePad_23 rfl rfl rfl ?_
    refine gfX8_takePad_26 (n := 27) dX8_takePad_24 (by first | assumption | exact isC_of (by decide +kernel)) rfl ?_
    refine am_iload_n (n := 28) (i := 1) dX8_takePad_27 rfl rfl rfl ?_
    refine am_iald (n := 29) dX8_takePad_28 (by first | assumption | exact isC_of (by decide +kernel)) (by first | assumption | exact vp_in_nI (by omega) (by omega) | exact vp_in_iff.mpr (by decide)) rfl ?_
    rw [F.1 46 (by omega) (by omega), nI_clamp (by omega), hx]
    refine am_bipush (n := 31) (v := 97) dX8_takePad_29 rfl rfl ?_
    refine am_isub (n := 32) dX8_takePad_31 rfl ?_
    rw [show nI (p.getD k 0) - (97 : Int32) = nI (p.getD k 0 - 97) from nI_sub hc.1]
    refine am_iast (n := 33) dX8_takePad_32 (by first | assumption | exact isC_of (by decide +kernel)) (by first | assumption | exact vp_in_nI (by omega) (by omega) | exact vp_in_iff.mpr (by decide)) rfl ?_
    first | refine am_iincN (n := 36) dX8_takePad_33 rfl rfl rfl ?_ | refine am_iinc1 (n := 36) dX8_takePad_33 rfl rfl rfl ?_
    refine am_goto (tgt := 10) dX8_takePad_36 (by decide) ?_
    rw [nI_clamp (by omega)]
    refine am_loc _ rfl (K _ (F.w47 _) (by rw [setI_n _ _ (by omega)]; exact e9) (fun j hj => ?_))
    rw [setI_s]
    by_cases q : j = k
    · rw [q, pk_us]
    · rw [pk_un q]
      exact H j (by omega)
set_option maxRecDepth 100000 in
set_option maxHeartbeats 400000 in
theorem m_takeName (g : Gx) (i : Nat) (S : SV) (h : Hp) (R : RZ 0 S (h.1 41)) (V : VS S) (hi : i < S.2.2.1.length) : AC g yX8_takeName wsX8_takeName rmX8_takeName [.ref 40, .int (nI i)] h (fun v h' => v = none ∧ MWd (S.2.2.1.getD i 0) h' ∧ FW h h') := by
  have c40 := isC_40
  have c47 := isC_47
  obtain ⟨i24, w1, w2, vW⟩ := mW R V hi
  have hsz := wsz_le (S.2.2.1.getD i 0)
  generalize S.2.2.1.getD i 0 = n at *
  refine AC.of (cc := cX8_takeName) (maxL := 3) (ret := none) (by decide +kernel) rfl (Nat.le_of_ble_eq_true rfl) ?_
  show AW g mmX8_takeName _ 0 [(0, some (.ref 40)), (1, some (.int (nI i)))] [] _
  refine am_aload_n (n := 1) (i := 0) dX8_takeName_0 rfl rfl rfl ?_
  refine am_aload_n (n := 2) (i := 0) dX8_takeName_1 rfl rfl rfl ?_
  refine am_iload_n (n := 3) (i := 1) dX8_takeName_2 rfl rfl rfl ?_
  refine cdX8_takeName_78 (n := 6) dX8_takeName_3 (by first | exact ⟨rfl, rfl⟩ | assumption) (m_lengthOf g i h i24) rfl rfl (Nat.le_of_ble_eq_true rfl) (by first | assumption | exact isC_of (by decide +kernel)) rfl ?_
  rw [w1]
  unfold MWd
  generalize wsz n = s at *
  refine pfX8_takeName_75 (n := 9) dX8_takeName_6 (by first | assumption | exact isC_of (by decide +kernel)) rfl ?_
  refine am_iconst (n := 10) (v := 0) dX8_takeName_9 rfl rfl ?_
  refine am_istore_n (n := 11) (i := 2) dX8_takeName_10 rfl (Nat.le_of_ble_eq_true rfl) rfl rfl ?_
  have B : FW h (setI h 40 (upd (h.1 40) 9 (nI s))) := FW.rf.f9 _
  refine am_loc [(0, some (.ref 40)), (1, some (.int (nI i))), (2, some (.int (nI 0)))] rfl ?_
  refine loop_up (Wp := fun k => ∀ h1 : Hp, FW h h1 → h1.1 40 9 = nI s → (∀ j, j < k → h1.1 47 j = nI (wl n j - 1)) → AW g mmX8_takeName _ 11 [(0, some (.ref 40)), (1, some (.int (nI i))), (2, some (.int (nI k)))] [] h1) s ?_ ?_ 0 (Nat.zero_le _) _ B (by rw [setI_s, pk_us]) (fun j hj => by omega)
  · intro h1 F e9 H
    refine am_iload_n (n := 12) (i := 2) dX8_takeName_11 rfl rfl rfl ?_
    refine am_aload_n (n := 13) (i := 0) dX8_takeName_12 rfl rfl rfl ?_
    refine gfX8_takeName_75 (n := 16) dX8_takeName_13 (by first | assumption | exact isC_of (by decide +kernel)) rfl ?_
    rw [e9]
    refine am_icmp_ge (tgt := 37) (n := 19) dX8_takeName_16 (by decide) rfl (fun _ => ?_) (fun q_z => absurd (nI_le (Nat.le_refl _) (by omega)) q_z)
    refine am_vret dX8_takeName_37 rfl ?_
    exact ⟨rfl, ⟨e9, H⟩, F⟩
  · intro k hk K h1 F e9 H
    have hin2 : vp_in (nI k) 10 := vp_in_nI (by omega) (by decide)
    refine am_iload_n (n := 12) (i := 2) dX8_takeName_11 rfl rfl rfl ?_
    refine am_aload_n (n := 13) (i := 0) dX8_takeName_12 rfl rfl rfl ?_
    refine gfX8_takeName_75 (n := 16) dX8_takeName_13 (by first | assumption | exact isC_of (by decide +kernel)) rfl ?_
    rw [e9]
    refine am_icmp_ge (tgt := 37) (n := 19) dX8_takeName_16 (by decide) rfl (fun q_z => absurd q_z (nI_ge hk (by omega))) (fun _ => ?_)
    refine am_aload_n (n := 20) (i := 0) dX8_takeName_19 rfl rfl rfl ?_
    refine gfX8_takeName_29 (n := 23) dX8_takeName_20 (by first | assumption | exact isC_of (by decide +kernel)) rfl ?_
    refine am_iload_n (n := 24) (i := 2) dX8_takeName_23 rfl rfl rfl ?_
    refine am_aload_n (n := 25) (i := 0) dX8_takeName_24 rfl rfl rfl ?_
    refine am_iload_n (n := 26) (i := 1) dX8_takeName_25 rfl rfl rfl ?_
    refine am_iload_n (n := 27) (i := 2) dX8_takeName_26 rfl rfl rfl ?_
    refine cdX8_takeName_82 (n := 30) dX8_takeName_27 (by first | exact ⟨rfl, rfl⟩ | assumption) (m_letterOf g i k h1 i24 (by omega)) rfl rfl (Nat.le_of_ble_eq_true rfl) (by first | assumption | exact isC_of (by decide +kernel)) rfl ?_
    rw [F.1 41 (by omega) (by omega), w2 k (by omega)]
    refine am_iast (n := 31) dX8_takeName_30 (by first | assumption | exact isC_of (by decide +kernel)) (by first | assumption | exact vp_in_nI (by omega) (by omega) | exact vp_in_iff.mpr (by decide)) rfl ?_
    first | refine am_iincN (n := 34) dX8_takeName_31 rfl rfl rfl ?_ | refine am_iinc1 (n := 34) dX8_takeName_31 rfl rfl rfl ?_
    refine am_goto (tgt := 11) dX8_takeName_34 (by decide) ?_
    rw [nI_clamp (by omega)]
    refine am_loc _ rfl (K _ (F.w47 _) (by rw [setI_n _ _ (by omega)]; exact e9) (fun j hj => ?_))
    rw [setI_s]
    by_cases q : j = k
    · rw [q, pk_us]
    · rw [pk_un q]
      exact H j (by omega)
set_option maxRecDepth 100000 in
set_option maxHeartbeats 400000 in
theorem m_isWord (g : Gx) (i n : Nat) (S : SV) (h : Hp) (R : RZ 0 S (h.1 41)) (V : VS S) (hi : i < S.2.2.1.length) (hW : MWd n h) (hn : VW n) : AD g yX8_isWord wsX8_isWord rmX8_isWord [.ref 40, .int (nI i)] h (some (.int (bI (decide (S.2.2.1.getD i 0 = n))))) h := by
  have c40 := isC_40
  have c47 := isC_47
  obtain ⟨i24, w1, w2, vW⟩ := mW R V hi
  obtain ⟨v1, v2⟩ := hW
  have hsz := wsz_le (S.2.2.1.getD i 0)
  have hsn := wsz_le n
  generalize S.2.2.1.getD i 0 = m at *
  refine AC.of (cc := cX8_isWord) (maxL := 4) (ret := (some .boolean)) (by decide +kernel) rfl (Nat.le_of_ble_eq_true rfl) ?_
  show AW g mmX8_isWord _ 0 [(0, some (.ref 40)), (1, some (.int (nI i)))] [] _
  refine am_aload_n (n := 1) (i := 0) dX8_isWord_0 rfl rfl rfl ?_
  refine am_iload_n (n := 2) (i := 1) dX8_isWord_1 rfl rfl rfl ?_
  refine cdX8_isWord_78 (n := 5) dX8_isWord_2 (by first | exact ⟨rfl, rfl⟩ | assumption) (m_lengthOf g i h i24) rfl rfl (Nat.le_of_ble_eq_true rfl) (by first | assumption | exact isC_of (by decide +kernel)) rfl ?_
  rw [w1]
  refine am_aload_n (n := 6) (i := 0) dX8_isWord_5 rfl rfl rfl ?_
  refine gfX8_isWord_75 (n := 9) dX8_isWord_6 (by first | assumption | exact isC_of (by decide +kernel)) rfl ?_
  rw [v1]
  have hB : narrow .boolean (.int 0) = .int 0 := rfl
  by_cases e : wsz m = wsz n
  · refine am_icmp_ne (tgt := 16) (n := 12) dX8_isWord_9 (by decide) rfl (fun q_z => absurd (by rw [e]) q_z) (fun _ => ?_)
    refine am_iconst (n := 13) (v := 1) dX8_isWord_12 rfl rfl ?_
    refine am_goto (tgt := 17) dX8_isWord_13 (by decide) ?_
    refine am_istore_n (n := 18) (i := 2) dX8_isWord_17 rfl (Nat.le_of_ble_eq_true rfl) rfl rfl ?_
    refine am_iconst (n := 19) (v := 0) dX8_isWord_18 rfl rfl ?_
    refine am_istore_n (n := 20) (i := 3) dX8_isWord_19 rfl (Nat.le_of_ble_eq_true rfl) rfl rfl ?_
    have hme : ∀ p, p < wsz n → 0 < wl m p ∧ wl m p < 32 ∧ 0 < wl n p ∧ wl n p < 32 := fun p hp => ⟨wsz_in (by omega), wl_lt _ _, wsz_in hp, wl_lt _ _⟩
    have hout : ∀ p, wsz n ≤ p → wl m p = wl n p := fun p hp => by rw [vW.2.2.1 p (by omega), hn.2.2.1 p hp]
    have hext := wl_ext vW.1 hn.1
    refine am_loc [(0, some (.ref 40)), (1, some (.int (nI i))), (2, some (.int 1)), (3, some (.int (nI 0)))] rfl ?_
    refine loop_up (Wp := fun k => (∀ p, p < k → wl m p = wl n p) → AW g mmX8_isWord _ 20 [(0, some (.ref 40)), (1, some (.int (nI i))), (2, some (.int 1)), (3, some (.int (nI k)))] [] h) (wsz n) ?_ ?_ 0 (Nat.zero_le _) (fun p hp => by omega)
    · intro H
      have emn : m = n := hext (fun p _ => by
        rcases Nat.lt_or_ge p (wsz n) with q | q
        · exact H p q
        · exact hout p q)
      rw [decide_eq_true emn]
      generalize wsz n = s at *
      refine am_iload_n (n := 21) (i := 3) dX8_isWord_20 rfl rfl rfl ?_
      refine am_aload_n (n := 22) (i := 0) dX8_isWord_21 rfl rfl rfl ?_
      refine gfX8_isWord_75 (n := 25) dX8_isWord_22 (by first | assumption | exact isC_of (by decide +kernel)) rfl ?_
      rw [v1]
      refine am_icmp_ge (tgt := 59) (n := 28) dX8_isWord_25 (by decide) rfl (fun _ => ?_) (fun q_z => absurd (nI_le (Nat.le_refl _) (by omega)) q_z)
      refine am_iload_n (n := 60) (i := 2) dX8_isWord_59 rfl rfl rfl ?_
      refine am_iret dX8_isWord_60 rfl rfl ?_
      exact ⟨rfl, rfl⟩
    · intro k hk K H
      have hk0 := hme k hk
      have hvk := v2 k hk
      have hin2 : vp_in (nI k) 10 := vp_in_nI (by omega) (by decide)
      generalize wsz n = s at *
      refine am_iload_n (n := 21) (i := 3) dX8_isWord_20 rfl rfl rfl ?_
      refine am_aload_n (n := 22) (i := 0) dX8_isWord_21 rfl rfl rfl ?_
      refine gfX8_isWord_75 (n := 25) dX8_isWord_22 (by first | assumption | exact isC_of (by decide +kernel)) rfl ?_
      rw [v1]
      refine am_icmp_ge (tgt := 59) (n := 28) dX8_isWord_25 (by decide) rfl (fun q_z => absurd q_z (nI_ge hk (by omega))) (fun _ => ?_)
      refine am_iload_n (n := 29) (i := 2) dX8_isWord_28 rfl rfl rfl ?_
      refine am_if_eq (tgt := 59) (n := 32) dX8_isWord_29 (by decide) rfl (fun q_z => absurd q_z (by decide)) (fun _ => ?_)
      refine am_aload_n (n := 33) (i := 0) dX8_isWord_32 rfl rfl rfl ?_
      refine am_iload_n (n := 34) (i := 1) dX8_isWord_33 rfl rfl rfl ?_
      refine am_iload_n (n := 35) (i := 3) dX8_isWord_34 rfl rfl rfl ?_
      refine cdX8_isWord_82 (n := 38) dX8_isWord_35 (by first | exact ⟨rfl, rfl⟩ | assumption) (m_letterOf g i k h i24 (by omega)) rfl rfl (Nat.le_of_ble_eq_true rfl) (by first | assumption | exact isC_of (by decide +kernel)) rfl ?_
      rw [w2 k (by omega)]
      refine am_aload_n (n := 39) (i := 0) dX8_isWord_38 rfl rfl rfl ?_
      refine gfX8_isWord_29 (n := 42) dX8_isWord_39 (by first | assumption | exact isC_of (by decide +kernel)) rfl ?_
      refine am_iload_n (n := 43) (i := 3) dX8_isWord_42 rfl rfl rfl ?_
      refine am_iald (n := 44) dX8_isWord_43 (by first | assumption | exact isC_of (by decide +kernel)) (by first | assumption | exact vp_in_nI (by omega) (by omega) | exact vp_in_iff.mpr (by decide)) rfl ?_
      rw [nI_clamp (by omega), hvk]
      by_cases q : wl m k = wl n k
      · refine am_icmp_ne (tgt := 51) (n := 47) dX8_isWord_44 (by decide) rfl (fun q_z => absurd (by rw [q]) q_z) (fun _ => ?_)
        refine am_iconst (n := 48) (v := 1) dX8_isWord_47 rfl rfl ?_
        refine am_goto (tgt := 52) dX8_isWord_48 (by decide) ?_
        refine am_istore_n (n := 53) (i := 2) dX8_isWord_52 rfl (Nat.le_of_ble_eq_true rfl) rfl rfl ?_
        first | refine am_iincN (n := 56) dX8_isWord_53 rfl rfl rfl ?_ | refine am_iinc1 (n := 56) dX8_isWord_53 rfl rfl rfl ?_
        refine am_goto (tgt := 20) dX8_isWord_56 (by decide) ?_
        refine am_loc _ rfl (K (fun p hp => ?_))
        rcases Nat.lt_or_ge p k with z | z
        · exact H p z
        · rw [show p = k by omega]
          exact q
      · refine am_icmp_ne (tgt := 51) (n := 47) dX8_isWord_44 (by decide) rfl (fun _ => ?_) (fun q_z => absurd q_z (fun z => q (by have := (nI_eq (by omega) (by omega)).mp z; omega)))
        refine am_iconst (n := 52) (v := 0) dX8_isWord_51 rfl rfl ?_
        refine am_istore_n (n := 53) (i := 2) dX8_isWord_52 rfl (Nat.le_of_ble_eq_true rfl) rfl rfl ?_
        first | refine am_iincN (n := 56) dX8_isWord_53 rfl rfl rfl ?_ | refine am_iinc1 (n := 56) dX8_isWord_53 rfl rfl rfl ?_
        refine am_goto (tgt := 20) dX8_isWord_56 (by decide) ?_
        refine am_iload_n (n := 21) (i := 3) dX8_isWord_20 rfl rfl rfl ?_
        refine am_aload_n (n := 22) (i := 0) dX8_isWord_21 rfl rfl rfl ?_
        refine gfX8_isWord_75 (n := 25) dX8_isWord_22 (by first | assumption | exact isC_of (by decide +kernel)) rfl ?_
        rw [v1]
        rw [decide_eq_false (fun z : m = n => q (by rw [z]))]
        by_cases qs : k + 1 < s
        · refine am_icmp_ge (tgt := 59) (n := 28) dX8_isWord_25 (by decide) rfl (fun q_z => absurd q_z (nI_ge qs (by omega))) (fun _ => ?_)
          refine am_iload_n (n := 29) (i := 2) dX8_isWord_28 rfl rfl rfl ?_
          refine am_if_eq (tgt := 59) (n := 32) dX8_isWord_29 (by decide) rfl (fun _ => ?_) (fun q_z => absurd rfl q_z)
          refine am_iload_n (n := 60) (i := 2) dX8_isWord_59 rfl rfl rfl ?_
          refine am_iret dX8_isWord_60 rfl rfl ?_
          exact ⟨rfl, rfl⟩
        · refine am_icmp_ge (tgt := 59) (n := 28) dX8_isWord_25 (by decide) rfl (fun _ => ?_) (fun q_z => absurd (nI_le (Nat.not_lt.mp qs) (by omega)) q_z)
          refine am_iload_n (n := 60) (i := 2) dX8_isWord_59 rfl rfl rfl ?_
          refine am_iret dX8_isWord_60 rfl rfl ?_
          exact ⟨rfl, rfl⟩
  · rw [decide_eq_false (fun z : m = n => e (by rw [z]))]
    refine am_icmp_ne (tgt := 16) (n := 12) dX8_isWord_9 (by decide) rfl (fun _ => ?_) (fun q_z => absurd q_z (fun q => e ((nI_eq (by omega) (by omega)).mp q)))
    generalize wsz n = s at *
    refine am_iconst (n := 17) (v := 0) dX8_isWord_16 rfl rfl ?_
    refine am_istore_n (n := 18) (i := 2) dX8_isWord_17 rfl (Nat.le_of_ble_eq_true rfl) rfl rfl ?_
    refine am_iconst (n := 19) (v := 0) dX8_isWord_18 rfl rfl ?_
    refine am_istore_n (n := 20) (i := 3) dX8_isWord_19 rfl (Nat.le_of_ble_eq_true rfl) rfl rfl ?_
    refine am_iload_n (n := 21) (i := 3) dX8_isWord_20 rfl rfl rfl ?_
    refine am_aload_n (n := 22) (i := 0) dX8_isWord_21 rfl rfl rfl ?_
    refine gfX8_isWord_75 (n := 25) dX8_isWord_22 (by first | assumption | exact isC_of (by decide +kernel)) rfl ?_
    rw [v1]
    rcases Nat.eq_zero_or_pos s with q | q
    · refine am_icmp_ge (tgt := 59) (n := 28) dX8_isWord_25 (by decide) rfl (fun _ => ?_) (fun q_z => absurd (by rw [q]; decide) q_z)
      refine am_iload_n (n := 60) (i := 2) dX8_isWord_59 rfl rfl rfl ?_
      refine am_iret dX8_isWord_60 rfl rfl ?_
      exact ⟨rfl, rfl⟩
    · refine am_icmp_ge (tgt := 59) (n := 28) dX8_isWord_25 (by decide) rfl (fun q_z => absurd q_z (fun z => absurd ((nI_leI (b := 0) (by omega) (by omega)).mp z) (by omega))) (fun _ => ?_)
      refine am_iload_n (n := 29) (i := 2) dX8_isWord_28 rfl rfl rfl ?_
      refine am_if_eq (tgt := 59) (n := 32) dX8_isWord_29 (by decide) rfl (fun _ => ?_) (fun q_z => absurd rfl q_z)
      refine am_iload_n (n := 60) (i := 2) dX8_isWord_59 rfl rfl rfl ?_
      refine am_iret dX8_isWord_60 rfl rfl ?_
      exact ⟨rfl, rfl⟩
