/-! The reference: the changes of an ear -/
set_option maxRecDepth 100000 in
set_option maxHeartbeats 800000 in
theorem m_firstKind (g : Gx) (l : Nat) (h : Hp) (hl : l < 26) : AD g yX8_firstKind wsX8_firstKind rmX8_firstKind [.int (nI l)] h (some (.int (nI (firstN l)))) h := by
  refine AC.of (cc := cX8_firstKind) (maxL := 1) (ret := (some .int)) (by decide +kernel) rfl (Nat.le_of_ble_eq_true rfl) ?_
  show AW g mmX8_firstKind _ 0 [(0, some (.int (nI l)))] [] _
  refine am_iload_n (n := 1) (i := 0) dX8_firstKind_0 rfl rfl rfl ?_
  have q : l = 0 ∨ l = 1 ∨ l = 2 ∨ l = 3 ∨ l = 4 ∨ l = 5 ∨ l = 6 ∨ l = 7 ∨ l = 8 ∨ l = 9 ∨ l = 10 ∨ l = 11 ∨ l = 12 ∨ l = 13 ∨ l = 14 ∨ l = 15 ∨ l = 16 ∨ l = 17 ∨ l = 18 ∨ l = 19 ∨ l = 20 ∨ l = 21 ∨ l = 22 ∨ l = 23 ∨ l = 24 ∨ l = 25 := by omega
  rcases q with rfl | rfl | rfl | rfl | rfl | rfl | rfl | rfl | rfl | rfl | rfl | rfl | rfl | rfl | rfl | rfl | rfl | rfl | rfl | rfl | rfl | rfl | rfl | rfl | rfl | rfl
  · refine am_tableIn (tgt := 116) dX8_firstKind_1 (by decide) (by decide) rfl (by decide) ?_
    refine am_iconst (n := 117) (v := 0) dX8_firstKind_116 rfl rfl ?_
    refine am_iret dX8_firstKind_117 rfl rfl ?_
    exact ⟨rfl, rfl⟩
  · refine am_tableIn (tgt := 118) dX8_firstKind_1 (by decide) (by decide) rfl (by decide) ?_
    refine am_iconst (n := 119) (v := 1) dX8_firstKind_118 rfl rfl ?_
    refine am_iret dX8_firstKind_119 rfl rfl ?_
    exact ⟨rfl, rfl⟩
  · refine am_tableIn (tgt := 129) dX8_firstKind_1 (by decide) (by decide) rfl (by decide) ?_
    refine am_iconst (n := 130) (v := 2) dX8_firstKind_129 rfl rfl ?_
    refine am_iret dX8_firstKind_130 rfl rfl ?_
    exact ⟨rfl, rfl⟩
  · refine am_tableIn (tgt := 120) dX8_firstKind_1 (by decide) (by decide) rfl (by decide) ?_
    refine am_iconst (n := 121) (v := 3) dX8_firstKind_120 rfl rfl ?_
    refine am_iret dX8_firstKind_121 rfl rfl ?_
    exact ⟨rfl, rfl⟩
  · refine am_tableIn (tgt := 116) dX8_firstKind_1 (by decide) (by decide) rfl (by decide) ?_
    refine am_iconst (n := 117) (v := 0) dX8_firstKind_116 rfl rfl ?_
    refine am_iret dX8_firstKind_117 rfl rfl ?_
    exact ⟨rfl, rfl⟩
  · refine am_tableIn (tgt := 118) dX8_firstKind_1 (by decide) (by decide) rfl (by decide) ?_
    refine am_iconst (n := 119) (v := 1) dX8_firstKind_118 rfl rfl ?_
    refine am_iret dX8_firstKind_119 rfl rfl ?_
    exact ⟨rfl, rfl⟩
  · refine am_tableIn (tgt := 129) dX8_firstKind_1 (by decide) (by decide) rfl (by decide) ?_
    refine am_iconst (n := 130) (v := 2) dX8_firstKind_129 rfl rfl ?_
    refine am_iret dX8_firstKind_130 rfl rfl ?_
    exact ⟨rfl, rfl⟩
  · refine am_tableIn (tgt := 116) dX8_firstKind_1 (by decide) (by decide) rfl (by decide) ?_
    refine am_iconst (n := 117) (v := 0) dX8_firstKind_116 rfl rfl ?_
    refine am_iret dX8_firstKind_117 rfl rfl ?_
    exact ⟨rfl, rfl⟩
  · refine am_tableIn (tgt := 116) dX8_firstKind_1 (by decide) (by decide) rfl (by decide) ?_
    refine am_iconst (n := 117) (v := 0) dX8_firstKind_116 rfl rfl ?_
    refine am_iret dX8_firstKind_117 rfl rfl ?_
    exact ⟨rfl, rfl⟩
  · refine am_tableIn (tgt := 129) dX8_firstKind_1 (by decide) (by decide) rfl (by decide) ?_
    refine am_iconst (n := 130) (v := 2) dX8_firstKind_129 rfl rfl ?_
    refine am_iret dX8_firstKind_130 rfl rfl ?_
    exact ⟨rfl, rfl⟩
  · refine am_tableIn (tgt := 129) dX8_firstKind_1 (by decide) (by decide) rfl (by decide) ?_
    refine am_iconst (n := 130) (v := 2) dX8_firstKind_129 rfl rfl ?_
    refine am_iret dX8_firstKind_130 rfl rfl ?_
    exact ⟨rfl, rfl⟩
  · refine am_tableIn (tgt := 122) dX8_firstKind_1 (by decide) (by decide) rfl (by decide) ?_
    refine am_iconst (n := 123) (v := 4) dX8_firstKind_122 rfl rfl ?_
    refine am_iret dX8_firstKind_123 rfl rfl ?_
    exact ⟨rfl, rfl⟩
  · refine am_tableIn (tgt := 124) dX8_firstKind_1 (by decide) (by decide) rfl (by decide) ?_
    refine am_iconst (n := 125) (v := 5) dX8_firstKind_124 rfl rfl ?_
    refine am_iret dX8_firstKind_125 rfl rfl ?_
    exact ⟨rfl, rfl⟩
  · refine am_tableIn (tgt := 124) dX8_firstKind_1 (by decide) (by decide) rfl (by decide) ?_
    refine am_iconst (n := 125) (v := 5) dX8_firstKind_124 rfl rfl ?_
    refine am_iret dX8_firstKind_125 rfl rfl ?_
    exact ⟨rfl, rfl⟩
  · refine am_tableIn (tgt := 116) dX8_firstKind_1 (by decide) (by decide) rfl (by decide) ?_
    refine am_iconst (n := 117) (v := 0) dX8_firstKind_116 rfl rfl ?_
    refine am_iret dX8_firstKind_117 rfl rfl ?_
    exact ⟨rfl, rfl⟩
  · refine am_tableIn (tgt := 118) dX8_firstKind_1 (by decide) (by decide) rfl (by decide) ?_
    refine am_iconst (n := 119) (v := 1) dX8_firstKind_118 rfl rfl ?_
    refine am_iret dX8_firstKind_119 rfl rfl ?_
    exact ⟨rfl, rfl⟩
  · refine am_tableIn (tgt := 129) dX8_firstKind_1 (by decide) (by decide) rfl (by decide) ?_
    refine am_iconst (n := 130) (v := 2) dX8_firstKind_129 rfl rfl ?_
    refine am_iret dX8_firstKind_130 rfl rfl ?_
    exact ⟨rfl, rfl⟩
  · refine am_tableIn (tgt := 126) dX8_firstKind_1 (by decide) (by decide) rfl (by decide) ?_
    refine am_bipush (n := 128) (v := 6) dX8_firstKind_126 rfl rfl ?_
    refine am_iret dX8_firstKind_128 rfl rfl ?_
    exact ⟨rfl, rfl⟩
  · refine am_tableIn (tgt := 129) dX8_firstKind_1 (by decide) (by decide) rfl (by decide) ?_
    refine am_iconst (n := 130) (v := 2) dX8_firstKind_129 rfl rfl ?_
    refine am_iret dX8_firstKind_130 rfl rfl ?_
    exact ⟨rfl, rfl⟩
  · refine am_tableIn (tgt := 120) dX8_firstKind_1 (by decide) (by decide) rfl (by decide) ?_
    refine am_iconst (n := 121) (v := 3) dX8_firstKind_120 rfl rfl ?_
    refine am_iret dX8_firstKind_121 rfl rfl ?_
    exact ⟨rfl, rfl⟩
  · refine am_tableIn (tgt := 116) dX8_firstKind_1 (by decide) (by decide) rfl (by decide) ?_
    refine am_iconst (n := 117) (v := 0) dX8_firstKind_116 rfl rfl ?_
    refine am_iret dX8_firstKind_117 rfl rfl ?_
    exact ⟨rfl, rfl⟩
  · refine am_tableIn (tgt := 118) dX8_firstKind_1 (by decide) (by decide) rfl (by decide) ?_
    refine am_iconst (n := 119) (v := 1) dX8_firstKind_118 rfl rfl ?_
    refine am_iret dX8_firstKind_119 rfl rfl ?_
    exact ⟨rfl, rfl⟩
  · refine am_tableIn (tgt := 116) dX8_firstKind_1 (by decide) (by decide) rfl (by decide) ?_
    refine am_iconst (n := 117) (v := 0) dX8_firstKind_116 rfl rfl ?_
    refine am_iret dX8_firstKind_117 rfl rfl ?_
    exact ⟨rfl, rfl⟩
  · refine am_tableIn (tgt := 129) dX8_firstKind_1 (by decide) (by decide) rfl (by decide) ?_
    refine am_iconst (n := 130) (v := 2) dX8_firstKind_129 rfl rfl ?_
    refine am_iret dX8_firstKind_130 rfl rfl ?_
    exact ⟨rfl, rfl⟩
  · refine am_tableIn (tgt := 116) dX8_firstKind_1 (by decide) (by decide) rfl (by decide) ?_
    refine am_iconst (n := 117) (v := 0) dX8_firstKind_116 rfl rfl ?_
    refine am_iret dX8_firstKind_117 rfl rfl ?_
    exact ⟨rfl, rfl⟩
  · refine am_tableOut (tgt := 129) dX8_firstKind_1 (by decide) (by decide) ?_
    refine am_iconst (n := 130) (v := 2) dX8_firstKind_129 rfl rfl ?_
    refine am_iret dX8_firstKind_130 rfl rfl ?_
    exact ⟨rfl, rfl⟩
def MZ (b : Nat) (h h1 : Hp) (F S : Nat → Nat) : Prop := (∀ c, c ≠ 41 → h1.1 c = h.1 c) ∧ h1.2 = h.2 ∧ (∀ j, (j < b ∨ b + 52 ≤ j) → h1.1 41 j = h.1 41 j) ∧ ∀ l, l < 26 → h1.1 41 (b + l) = nI (F l) ∧ h1.1 41 (b + 26 + l) = nI (S l)
theorem MZ.F {b i a : Nat} {h h1 : Hp} {F S : Nat → Nat} (M : MZ b h h1 F S) (hi : i < 26) : MZ b h (setI h1 41 (upd (h1.1 41) (b + i) (nI a))) (upN F i a) S := by
  obtain ⟨m1, m2, m3, m4⟩ := M
  refine ⟨fun c hc => (setI_n _ _ hc).trans (m1 c hc), m2, fun j hj => ?_, fun l hl => ⟨?_, ?_⟩⟩
  · rw [setI_s, pk_un (by omega)]
    exact m3 j hj
  · rw [setI_s]
    by_cases z : l = i
    · rw [z, pk_us, upN_s]
    · rw [pk_un (by omega), upN_n _ _ z]
      exact (m4 l hl).1
  · rw [setI_s, pk_un (by omega)]
    exact (m4 l hl).2
theorem MZ.S {b i a : Nat} {h h1 : Hp} {F S : Nat → Nat} (M : MZ b h h1 F S) (hi : i < 26) : MZ b h (setI h1 41 (upd (h1.1 41) (b + (26 + i)) (nI a))) F (upN S i a) := by
  obtain ⟨m1, m2, m3, m4⟩ := M
  refine ⟨fun c hc => (setI_n _ _ hc).trans (m1 c hc), m2, fun j hj => ?_, fun l hl => ⟨?_, ?_⟩⟩
  · rw [setI_s, pk_un (by omega)]
    exact m3 j hj
  · rw [setI_s, pk_un (by omega)]
    exact (m4 l hl).1
  · rw [setI_s]
    by_cases z : l = i
    · rw [z, show b + 26 + i = b + (26 + i) by omega, pk_us, upN_s]
    · rw [pk_un (by omega), upN_n _ _ z]
      exact (m4 l hl).2
theorem MZ.to {b : Nat} {h h1 : Hp} {F S F' S' : Nat → Nat} (M : MZ b h h1 F S) (e : ∀ l, l < 26 → F l = F' l ∧ S l = S' l) : MZ b h h1 F' S' :=
  ⟨M.1, M.2.1, M.2.2.1, fun l hl => by rw [← (e l hl).1, ← (e l hl).2]; exact M.2.2.2 l hl⟩
theorem MZ.of {b : Nat} {E : EV} {h : Hp} (R : REZ b E (h.1 41)) : MZ b h h E.1 E.2.1 := ⟨fun _ _ => rfl, rfl, fun _ _ => rfl, R.1⟩
theorem MZ.re {b : Nat} {E : EV} {h h1 : Hp} {F S : Nat → Nat} (M : MZ b h h1 F S) (R : REZ b E (h.1 41)) : REZ b (F, S, E.2.2) (h1.1 41) := by
  obtain ⟨m1, m2, m3, m4⟩ := M
  refine ⟨m4, (m3 _ (by omega)).trans R.2.1, (m3 _ (by omega)).trans R.2.2.1, fun j q hj => ?_⟩
  obtain ⟨r1, r2, r3, r4⟩ := R.2.2.2 j q hj
  exact ⟨(m3 _ (by omega)).trans r1, (m3 _ (by omega)).trans r2, (m3 _ (by omega)).trans r3, (m3 _ (by omega)).trans r4⟩
theorem FrZ {h h1 : Hp} (m1 : ∀ c, c ≠ 41 → h1.1 c = h.1 c) (m2 : h1.2 = h.2) : Fr 40 59 h h1 := ⟨fun c hc => ⟨m1 c (by omega), by rw [m2]⟩, by rw [m2]⟩
theorem RZ.setE {S : SV} {e : Nat} {E' : EV} {r r' : Nat → Int32} (x : RZ 0 S r) (hV : VS S) (f : ∀ j, (j < 268 + 78 * e ∨ 268 + 78 * e + 78 ≤ j) → r' j = r j) (R' : REZ (268 + 78 * e) E' r') : RZ 0 (withE S (S.2.2.2.set e E')) r' := by
  obtain ⟨x1, x2, x3, x4, x5, x6⟩ := x
  have h24 := hV.2.2.1
  refine ⟨(f 0 (by omega)).trans x1, (f 1 (by omega)).trans x2, (f 2 (by omega)).trans x3, ?_, fun i w hi => ?_, fun e' F he' => ?_⟩
  · show r' 3 = nI (S.2.2.2.set e E').length
    rw [List.length_set]
    exact (f 3 (by omega)).trans x4
  · have hi : S.2.2.1[i]? = some w := hi
    have hil := (List.getElem?_eq_some_iff.mp hi).1
    obtain ⟨y1, y2⟩ := x5 i w hi
    exact ⟨(f _ (by omega)).trans y1, fun p hp => (f _ (by omega)).trans (y2 p hp)⟩
  · have he' : (S.2.2.2.set e E')[e']? = some F := he'
    rw [Nat.zero_add]
    by_cases z : e' = e
    · subst z
      rw [List.getElem?_set] at he'
      rw [if_pos rfl] at he'
      split at he'
      · rw [← Option.some.inj he']
        exact R'
      · cases he'
    · rw [List.getElem?_set_ne (fun q => z q.symm)] at he'
      have := x6 e' F he'
      rw [Nat.zero_add] at this
      exact this.to (hV.2.2.2.2.2 F (List.mem_of_getElem? he')) (fun j hj => f _ (by omega))
theorem MG.ear {G : GS} {e : Nat} {E' : EV} {h h1 : Hp} (X : MG G h) (hV' : VE E') (m1 : ∀ c, c ≠ 41 → h1.1 c = h.1 c) (f : ∀ j, (j < 268 + 78 * e ∨ 268 + 78 * e + 78 ≤ j) → h1.1 41 j = h.1 41 j) (R' : REZ (268 + 78 * e) E' (h1.1 41)) : MG (withE G.1 (G.1.2.2.2.set e E'), G.2) h1 :=
  X.now (X.1.setE X.2.1 f R') (VS_setE X.2.1 hV') (by rw [m1 40 (by omega)]) (by rw [m1 40 (by omega)]) (fun c c1 c2 => m1 c (by omega))
def clS (F S : Nat → Nat) (l : Nat) : Nat := if S l = F l + 1 then 0 else S l
set_option maxRecDepth 100000 in
set_option maxHeartbeats 400000 in
theorem m_clean (g : Gx) (e : Nat) (F S : Nat → Nat) (h h1 : Hp) (he : e < 4) (M : MZ (268 + 78 * e) h h1 F S) (hF : ∀ l, l < 26 → F l ≤ 9) (hS : ∀ l, l < 26 → S l ≤ 10) : AC g yX8_clean wsX8_clean rmX8_clean [.ref 40, .int (nI e)] h1 (fun v h2 => v = none ∧ MZ (268 + 78 * e) h h2 F (clS F S)) := by
  have c40 := isC_40
  generalize hZ : ZP g (fun v h2 => v = none ∧ MZ (268 + 78 * e) h h2 F (clS F S)) = Z
  have z0 : Z.1 = 0 ∧ Z.2.1 = 0 := by rw [← hZ]; exact ⟨rfl, rfl⟩
  refine AC.of (cc := cX8_clean) (maxL := 3) (ret := none) (by decide +kernel) rfl (Nat.le_of_ble_eq_true rfl) ?_
  show AW g mmX8_clean _ 0 [(0, some (.ref 40)), (1, some (.int (nI e)))] [] _
  rw [hZ]
  refine am_iconst (n := 1) (v := 0) dX8_clean_0 rfl rfl ?_
  refine am_istore_n (n := 2) (i := 2) dX8_clean_1 rfl (Nat.le_of_ble_eq_true rfl) rfl rfl ?_
  refine am_loc [(0, some (.ref 40)), (1, some (.int (nI e))), (2, some (.int (nI 0)))] rfl ?_
  refine loop_up (Wp := fun k => ∀ h2 : Hp, MZ (268 + 78 * e) h h2 F (fun l => if l < k then clS F S l else S l) → AW g mmX8_clean Z 2 [(0, some (.ref 40)), (1, some (.int (nI e))), (2, some (.int (nI k)))] [] h2) 26 ?_ ?_ 0 (by omega) h1 (M.to (fun l hl => ⟨rfl, by rw [if_neg (Nat.not_lt_zero _)]⟩))
  · intro h2 M2
    refine am_iload_n (n := 3) (i := 2) dX8_clean_2 rfl rfl rfl ?_
    refine am_bipush (n := 5) (v := 26) dX8_clean_3 rfl rfl ?_
    refine am_icmp_ge (tgt := 46) (n := 8) dX8_clean_5 (by decide) rfl (fun _ => ?_) (fun q_z => absurd (by decide) q_z)
    rw [← hZ]
    refine am_vret dX8_clean_46 rfl ?_
    exact ⟨rfl, M2.to (fun l hl => ⟨rfl, by rw [if_pos hl]⟩)⟩
  · intro k hk K h2 M2
    have hx := M2.2.2.2 k hk
    have hx2 : h2.1 41 (268 + 78 * e + 26 + k) = nI (S k) := by
      rw [hx.2]
      show nI (if k < k then clS F S k else S k) = _
      rw [if_neg (Nat.lt_irrefl k)]
    have hf := hF k hk
    have hs := hS k hk
    have hd : clS F S k = if S k = F k + 1 then 0 else S k := rfl
    refine am_iload_n (n := 3) (i := 2) dX8_clean_2 rfl rfl rfl ?_
    refine am_bipush (n := 5) (v := 26) dX8_clean_3 rfl rfl ?_
    refine am_icmp_ge (tgt := 46) (n := 8) dX8_clean_5 (by decide) rfl (fun q_z => absurd q_z (nI_ge hk (by decide))) (fun _ => ?_)
    refine am_aload_n (n := 9) (i := 0) dX8_clean_8 rfl rfl rfl ?_
    refine am_iload_n (n := 10) (i := 1) dX8_clean_9 rfl rfl rfl ?_
    refine am_bipush (n := 12) (v := 26) dX8_clean_10 rfl rfl ?_
    refine am_iload_n (n := 13) (i := 2) dX8_clean_12 rfl rfl rfl ?_
    refine am_iadd (n := 14) dX8_clean_13 rfl ?_
    rw [show (26 : Int32) + nI k = nI (26 + k) from nI_add 26 k]
    refine cdX8_clean_106 (n := 17) dX8_clean_14 (by first | exact ⟨rfl, rfl⟩ | assumption) (m_at g e (26 + k) h2 he (by omega)) rfl rfl (Nat.le_of_ble_eq_true rfl) (by first | assumption | exact isC_of (by decide +kernel)) rfl ?_
    rw [← Nat.add_assoc, hx2]
    refine am_aload_n (n := 18) (i := 0) dX8_clean_17 rfl rfl rfl ?_
    refine am_iload_n (n := 19) (i := 1) dX8_clean_18 rfl rfl rfl ?_
    refine am_iconst (n := 20) (v := 0) dX8_clean_19 rfl rfl ?_
    refine am_iload_n (n := 21) (i := 2) dX8_clean_20 rfl rfl rfl ?_
    refine am_iadd (n := 22) dX8_clean_21 rfl ?_
    rw [show (0 : Int32) + nI k = nI (0 + k) from nI_add 0 k]
    refine cdX8_clean_106 (n := 25) dX8_clean_22 (by first | exact ⟨rfl, rfl⟩ | assumption) (m_at g e (0 + k) h2 he (by omega)) rfl rfl (Nat.le_of_ble_eq_true rfl) (by first | assumption | exact isC_of (by decide +kernel)) rfl ?_
    rw [Nat.zero_add, hx.1]
    refine am_iconst (n := 26) (v := 1) dX8_clean_25 rfl rfl ?_
    refine am_iadd (n := 27) dX8_clean_26 rfl ?_
    rw [nI_1]
    by_cases q : S k = F k + 1
    · refine am_icmp_ne (tgt := 40) (n := 30) dX8_clean_27 (by decide) rfl (fun q_z => absurd (by rw [q]) q_z) (fun _ => ?_)
      refine am_aload_n (n := 31) (i := 0) dX8_clean_30 rfl rfl rfl ?_
      refine am_iload_n (n := 32) (i := 1) dX8_clean_31 rfl rfl rfl ?_
      refine am_bipush (n := 34) (v := 26) dX8_clean_32 rfl rfl ?_
      refine am_iload_n (n := 35) (i := 2) dX8_clean_34 rfl rfl rfl ?_
      refine am_iadd (n := 36) dX8_clean_35 rfl ?_
      refine am_iconst (n := 37) (v := 0) dX8_clean_36 rfl rfl ?_
      rw [show (26 : Int32) + nI k = nI (26 + k) from nI_add 26 k]
      refine caX8_clean_159 (n := 40) dX8_clean_37 (by first | exact ⟨rfl, rfl⟩ | assumption) (m_lay g e (26 + k) 0 h2 he (by omega)) rfl rfl (Nat.le_of_ble_eq_true rfl) (by first | assumption | exact isC_of (by decide +kernel)) rfl ?_
      rintro r h3 ⟨rfl, rfl⟩
      have M3 := M2.S (i := k) (a := 0) hk
      first | refine am_iincN (n := 43) dX8_clean_40 rfl rfl rfl ?_ | refine am_iinc1 (n := 43) dX8_clean_40 rfl rfl rfl ?_
      refine am_goto (tgt := 2) dX8_clean_43 (by decide) ?_
      refine am_loc _ rfl (K _ (M3.to (fun l hl => ⟨rfl, ?_⟩)))
      by_cases z : l = k
      · subst z
        rw [upN_s, if_pos (Nat.lt_succ_self _), hd, if_pos q]
      · rw [upN_n _ _ z]
        by_cases y : l < k
        · rw [if_pos y, if_pos (by omega)]
        · rw [if_neg y, if_neg (by omega)]
    · refine am_icmp_ne (tgt := 40) (n := 30) dX8_clean_27 (by decide) rfl (fun _ => ?_) (fun q_z => absurd q_z (fun z => q ((nI_eq (by omega) (by omega)).mp z)))
      first | refine am_iincN (n := 43) dX8_clean_40 rfl rfl rfl ?_ | refine am_iinc1 (n := 43) dX8_clean_40 rfl rfl rfl ?_
      refine am_goto (tgt := 2) dX8_clean_43 (by decide) ?_
      refine am_loc _ rfl (K _ (M2.to (fun l hl => ⟨rfl, ?_⟩)))
      by_cases z : l = k
      · subst z
        rw [if_neg (Nat.lt_irrefl _), if_pos (Nat.lt_succ_self _), hd, if_neg q]
      · by_cases y : l < k
        · rw [if_pos y, if_pos (by omega)]
        · rw [if_neg y, if_neg (by omega)]
set_option maxRecDepth 100000 in
set_option maxHeartbeats 400000 in
theorem cm_hear (g : Gx) (x y z : Int32) (G : GS) (h : Hp) (hX : MG G h) : CM g yX8_hear wsX8_hear rmX8_hear [.ref 40, .int x, .int y, .int z] h (sp_hear x y z G) := by
  have c40 := isC_40
  have h4 := hX.2.1.2.2.2.2.1
  unfold CM
  refine AC.of (cc := cX8_hear) (maxL := 5) (ret := (some .int)) (by decide +kernel) rfl (Nat.le_of_ble_eq_true rfl) ?_
  show AW g mmX8_hear _ 0 [(0, some (.ref 40)), (1, some (.int x)), (2, some (.int y)), (3, some (.int z))] [] _
  refine am_aload_n (n := 1) (i := 0) dX8_hear_0 rfl rfl rfl ?_
  refine am_iload_n (n := 2) (i := 1) dX8_hear_1 rfl rfl rfl ?_
  refine cdX8_hear_156 (n := 5) dX8_hear_2 (by first | exact ⟨rfl, rfl⟩ | assumption) (m_isEar g x G.1.2.2.2.length h (by omega) hX.1.2.2.2.1) rfl rfl (Nat.le_of_ble_eq_true rfl) (by first | assumption | exact isC_of (by decide +kernel)) rfl ?_
  cases hxx : inN x G.1.2.2.2.length with
  | false =>
    have hs2 : sp_hear x y z G = (-1, G) := by unfold sp_hear; rw [eN_f hxx]
    rw [hs2]
    refine am_if_eq (tgt := 15) (n := 8) dX8_hear_5 (by decide) rfl (fun _ => ?_) (fun q_z => absurd rfl q_z)
    refine am_iconst (n := 16) (v := (-1)) dX8_hear_15 rfl rfl ?_
    refine am_iret dX8_hear_16 rfl rfl ?_
    exact ⟨rfl, hX, Fr.rf⟩
  | true =>
    obtain ⟨e, he, rfl⟩ := inN_t (by omega) hxx
    have hx := List.getElem?_eq_getElem he
    obtain ⟨e4, -, vE⟩ := mE hX.1 hX.2.1 hx
    generalize G.1.2.2.2[e] = E at *
    have hsp : sp_hear (nI e) y z G = if isLtr y = false then (-1, G) else if inR z 0 9 = false then (-2, G) else (nI (E.1 (tn y)), recG G (withE G.1 (G.1.2.2.2.set e (hearE E (tn y) (tn z))))) := by
      unfold sp_hear
      rw [eN_i h4 he, tn_nI (by omega), hx]
    rw [hsp]
    refine am_if_eq (tgt := 15) (n := 8) dX8_hear_5 (by decide) rfl (fun q_z => absurd q_z (show ¬ (1 : Int32) = 0 by decide)) (fun _ => ?_)
    refine am_iload_n (n := 9) (i := 2) dX8_hear_8 rfl rfl rfl ?_
    refine cdX8_hear_166 (n := 12) dX8_hear_9 (by first | exact ⟨rfl, rfl⟩ | assumption) (m_isLetter g y h) rfl rfl (Nat.le_of_ble_eq_true rfl) rfl ?_
    cases hl : isLtr y with
    | false =>
      rw [if_pos rfl]
      refine am_if_ne (tgt := 17) (n := 15) dX8_hear_12 (by decide) rfl (fun q_z => absurd rfl q_z) (fun _ => ?_)
      refine am_iconst (n := 16) (v := (-1)) dX8_hear_15 rfl rfl ?_
      refine am_iret dX8_hear_16 rfl rfl ?_
      exact ⟨rfl, hX, Fr.rf⟩
    | true =>
      rw [if_neg (by decide)]
      obtain ⟨l, hl26, rfl⟩ := isLtr_t hl
      rw [tn_nI (by omega)]
      refine am_if_ne (tgt := 17) (n := 15) dX8_hear_12 (by decide) rfl (fun _ => ?_) (fun q_z => absurd q_z (show ¬ (1 : Int32) = 0 by decide))
      refine am_iload_n (n := 18) (i := 3) dX8_hear_17 rfl rfl rfl ?_
      refine cdX8_hear_169 (n := 21) dX8_hear_18 (by first | exact ⟨rfl, rfl⟩ | assumption) (m_isKind g z h) rfl rfl (Nat.le_of_ble_eq_true rfl) rfl ?_
      cases hz : inR z 0 9 with
      | false =>
        rw [if_pos rfl]
        refine am_if_ne (tgt := 27) (n := 24) dX8_hear_21 (by decide) rfl (fun q_z => absurd rfl q_z) (fun _ => ?_)
        refine am_bipush (n := 26) (v := (-2)) dX8_hear_24 rfl rfl ?_
        refine am_iret dX8_hear_26 rfl rfl ?_
        exact ⟨rfl, hX, Fr.rf⟩
      | true =>
        rw [if_neg (by decide)]
        obtain ⟨k, -, k9, rfl⟩ := inR_t (by decide) (by decide) hz
        rw [tn_nI (by omega)]
        refine am_if_ne (tgt := 27) (n := 24) dX8_hear_21 (by decide) rfl (fun _ => ?_) (fun q_z => absurd q_z (show ¬ (1 : Int32) = 0 by decide))
        refine am_aload_n (n := 28) (i := 0) dX8_hear_27 rfl rfl rfl ?_
        refine caX8_hear_63 (n := 31) dX8_hear_28 (by first | exact ⟨rfl, rfl⟩ | assumption) (m_record g G h hX) rfl rfl (Nat.le_of_ble_eq_true rfl) (by first | assumption | exact isC_of (by decide +kernel)) rfl ?_
        rintro r h1 ⟨rfl, X1, F1, -⟩
        have R1 := (mE X1.1 X1.2.1 hx).2.1
        refine am_aload_n (n := 32) (i := 0) dX8_hear_31 rfl rfl rfl ?_
        refine am_iload_n (n := 33) (i := 1) dX8_hear_32 rfl rfl rfl ?_
        refine am_iconst (n := 34) (v := 0) dX8_hear_33 rfl rfl ?_
        refine am_iload_n (n := 35) (i := 2) dX8_hear_34 rfl rfl rfl ?_
        refine am_iadd (n := 36) dX8_hear_35 rfl ?_
        rw [show (0 : Int32) + nI l = nI (0 + l) from nI_add 0 l]
        refine cdX8_hear_106 (n := 39) dX8_hear_36 (by first | exact ⟨rfl, rfl⟩ | assumption) (m_at g e (0 + l) h1 e4 (by omega)) rfl rfl (Nat.le_of_ble_eq_true rfl) (by first | assumption | exact isC_of (by decide +kernel)) rfl ?_
        rw [Nat.zero_add, (R1.1 l hl26).1]
        refine am_istore (n := 41) dX8_hear_39 (Nat.le_of_ble_eq_true rfl) rfl rfl ?_
        refine am_aload_n (n := 42) (i := 0) dX8_hear_41 rfl rfl rfl ?_
        refine am_iload_n (n := 43) (i := 1) dX8_hear_42 rfl rfl rfl ?_
        refine am_iconst (n := 44) (v := 0) dX8_hear_43 rfl rfl ?_
        refine am_iload_n (n := 45) (i := 2) dX8_hear_44 rfl rfl rfl ?_
        refine am_iadd (n := 46) dX8_hear_45 rfl ?_
        refine am_iload_n (n := 47) (i := 3) dX8_hear_46 rfl rfl rfl ?_
        rw [show (0 : Int32) + nI l = nI (0 + l) from nI_add 0 l]
        refine caX8_hear_159 (n := 50) dX8_hear_47 (by first | exact ⟨rfl, rfl⟩ | assumption) (m_lay g e (0 + l) (nI k) h1 e4 (by omega)) rfl rfl (Nat.le_of_ble_eq_true rfl) (by first | assumption | exact isC_of (by decide +kernel)) rfl ?_
        rintro r h2 ⟨rfl, rfl⟩
        rw [Nat.zero_add]
        have M1 := (MZ.of R1).F (i := l) (a := k) hl26
        have hFb : ∀ x, x < 26 → upN E.1 l k x ≤ 9 := fun x hx => by
          by_cases z : x = l
          · rw [z, upN_s]
            exact k9
          · rw [upN_n _ _ z]
            exact (vE.1 x hx).1
        refine am_aload_n (n := 51) (i := 0) dX8_hear_50 rfl rfl rfl ?_
        refine am_iload_n (n := 52) (i := 1) dX8_hear_51 rfl rfl rfl ?_
        refine caX8_hear_172 (n := 55) dX8_hear_52 (by first | exact ⟨rfl, rfl⟩ | assumption) (m_clean g e _ _ h1 _ e4 M1 hFb (fun x hx => (vE.1 x hx).2.1)) rfl rfl (Nat.le_of_ble_eq_true rfl) (by first | assumption | exact isC_of (by decide +kernel)) rfl ?_
        rintro r h3 ⟨rfl, M3⟩
        refine am_iload (n := 57) dX8_hear_55 rfl rfl ?_
        have M4 : MZ (268 + 78 * e) h1 h3 (hearE E l k).1 (hearE E l k).2.1 := M3.to (fun x hx => ⟨rfl, by
          obtain ⟨v1, v2, v3⟩ := vE.1 x hx
          unfold clS hearE
          dsimp only
          by_cases z : x = l
          · subst z
            rw [upN_s]
            by_cases q : E.2.1 x = k + 1
            · rw [if_pos q, if_pos q, upN_s]
            · rw [if_neg q, if_neg q]
          · rw [upN_n _ _ z, if_neg v3]
            by_cases q : E.2.1 l = k + 1
            · rw [if_pos q, upN_n _ _ z]
            · rw [if_neg q]⟩)
        have R4 : REZ (268 + 78 * e) (hearE E l k) (h3.1 41) := M4.re R1
        exact am_iret dX8_hear_57 rfl rfl ⟨rfl, X1.ear (VE_hear vE k9) M4.1 (fun j hj => M4.2.2.1 j (by omega)) R4, F1.tr (FrZ M4.1 M4.2.1)⟩
set_option maxRecDepth 100000 in
set_option maxHeartbeats 400000 in
theorem cm_second (g : Gx) (x y z : Int32) (G : GS) (h : Hp) (hX : MG G h) : CM g yX8_second wsX8_second rmX8_second [.ref 40, .int x, .int y, .int z] h (sp_second x y z G) := by
  have c40 := isC_40
  have h4 := hX.2.1.2.2.2.2.1
  unfold CM
  refine AC.of (cc := cX8_second) (maxL := 5) (ret := (some .int)) (by decide +kernel) rfl (Nat.le_of_ble_eq_true rfl) ?_
  show AW g mmX8_second _ 0 [(0, some (.ref 40)), (1, some (.int x)), (2, some (.int y)), (3, some (.int z))] [] _
  refine am_aload_n (n := 1) (i := 0) dX8_second_0 rfl rfl rfl ?_
  refine am_iload_n (n := 2) (i := 1) dX8_second_1 rfl rfl rfl ?_
  refine cdX8_second_156 (n := 5) dX8_second_2 (by first | exact ⟨rfl, rfl⟩ | assumption) (m_isEar g x G.1.2.2.2.length h (by omega) hX.1.2.2.2.1) rfl rfl (Nat.le_of_ble_eq_true rfl) (by first | assumption | exact isC_of (by decide +kernel)) rfl ?_
  cases hxx : inN x G.1.2.2.2.length with
  | false =>
    have hs2 : sp_second x y z G = (-1, G) := by unfold sp_second; rw [eN_f hxx]
    rw [hs2]
    refine am_if_eq (tgt := 15) (n := 8) dX8_second_5 (by decide) rfl (fun _ => ?_) (fun q_z => absurd rfl q_z)
    refine am_iconst (n := 16) (v := (-1)) dX8_second_15 rfl rfl ?_
    refine am_iret dX8_second_16 rfl rfl ?_
    exact ⟨rfl, hX, Fr.rf⟩
  | true =>
    obtain ⟨e, he, rfl⟩ := inN_t (by omega) hxx
    have hx := List.getElem?_eq_getElem he
    obtain ⟨e4, R, vE⟩ := mE hX.1 hX.2.1 hx
    generalize G.1.2.2.2[e] = E at *
    have hsp : sp_second (nI e) y z G = if isLtr y = false then (-1, G) else if inR z 0 9 = false ∧ ¬ z = -6 then (-2, G) else if z = nI (E.1 (tn y)) then (-5, G) else (sec (E.2.1 (tn y)), recG G (withE G.1 (G.1.2.2.2.set e (E.1, upN E.2.1 (tn y) (if z = -6 then 0 else tn z + 1), E.2.2)))) := by
      unfold sp_second
      rw [eN_i h4 he, tn_nI (by omega), hx]
    rw [hsp]
    refine am_if_eq (tgt := 15) (n := 8) dX8_second_5 (by decide) rfl (fun q_z => absurd q_z (show ¬ (1 : Int32) = 0 by decide)) (fun _ => ?_)
    refine am_iload_n (n := 9) (i := 2) dX8_second_8 rfl rfl rfl ?_
    refine cdX8_second_166 (n := 12) dX8_second_9 (by first | exact ⟨rfl, rfl⟩ | assumption) (m_isLetter g y h) rfl rfl (Nat.le_of_ble_eq_true rfl) rfl ?_
    cases hl : isLtr y with
    | false =>
      rw [if_pos rfl]
      refine am_if_ne (tgt := 17) (n := 15) dX8_second_12 (by decide) rfl (fun q_z => absurd rfl q_z) (fun _ => ?_)
      refine am_iconst (n := 16) (v := (-1)) dX8_second_15 rfl rfl ?_
      refine am_iret dX8_second_16 rfl rfl ?_
      exact ⟨rfl, hX, Fr.rf⟩
    | true =>
      rw [if_neg (by decide)]
      obtain ⟨l, hl26, rfl⟩ := isLtr_t hl
      rw [tn_nI (by omega)]
      have vl := vE.1 l hl26
      generalize hZ : ZP g (fun v h'' => v = some (.int (if inR z 0 9 = false ∧ ¬ z = -6 then (-2, G) else if z = nI (E.1 l) then (-5, G) else (sec (E.2.1 l), recG G (withE G.1 (G.1.2.2.2.set e (E.1, upN E.2.1 l (if z = -6 then 0 else tn z + 1), E.2.2))))).1) ∧ MG (if inR z 0 9 = false ∧ ¬ z = -6 then (-2, G) else if z = nI (E.1 l) then (-5, G) else (sec (E.2.1 l), recG G (withE G.1 (G.1.2.2.2.set e (E.1, upN E.2.1 l (if z = -6 then 0 else tn z + 1), E.2.2))))).2 h'' ∧ Fr 40 59 h h'') = Z
      have z0 : Z.1 = 0 ∧ Z.2.1 = 0 := by rw [← hZ]; exact ⟨rfl, rfl⟩
      have t33 : ¬ (inR z 0 9 = false ∧ ¬ z = -6) → (∃ s, s ≤ 10 ∧ (if z = -6 then 0 else tn z + 1) = s ∧ (z = -6 ∧ s = 0 ∨ ∃ k, k ≤ 9 ∧ z = nI k ∧ s = k + 1)) → AW g mmX8_second Z 33 [(0, some (.ref 40)), (1, some (.int (nI e))), (2, some (.int (nI l))), (3, some (.int z))] [] h := by
        rintro hok ⟨s, s10, hs, hzs⟩
        refine am_iload_n (n := 34) (i := 3) dX8_second_33 rfl rfl rfl ?_
        refine am_aload_n (n := 35) (i := 0) dX8_second_34 rfl rfl rfl ?_
        refine am_iload_n (n := 36) (i := 1) dX8_second_35 rfl rfl rfl ?_
        refine am_iconst (n := 37) (v := 0) dX8_second_36 rfl rfl ?_
        refine am_iload_n (n := 38) (i := 2) dX8_second_37 rfl rfl rfl ?_
        refine am_iadd (n := 39) dX8_second_38 rfl ?_
        rw [show (0 : Int32) + nI l = nI (0 + l) from nI_add 0 l]
        refine cdX8_second_106 (n := 42) dX8_second_39 (by first | exact ⟨rfl, rfl⟩ | assumption) (m_at g e (0 + l) h e4 (by omega)) rfl rfl (Nat.le_of_ble_eq_true rfl) (by first | assumption | exact isC_of (by decide +kernel)) rfl ?_
        rw [Nat.zero_add, (R.1 l hl26).1]
        by_cases q : z = nI (E.1 l)
        · refine am_icmp_ne (tgt := 48) (n := 45) dX8_second_42 (by decide) rfl (fun q_z => absurd q q_z) (fun _ => ?_)
          rw [← hZ, if_neg hok, if_pos q]
          refine am_bipush (n := 47) (v := (-5)) dX8_second_45 rfl rfl ?_
          refine am_iret dX8_second_47 rfl rfl ?_
          exact ⟨rfl, hX, Fr.rf⟩
        · refine am_icmp_ne (tgt := 48) (n := 45) dX8_second_42 (by decide) rfl (fun _ => ?_) (fun q_z => absurd q_z q)
          refine am_aload_n (n := 49) (i := 0) dX8_second_48 rfl rfl rfl ?_
          refine caX8_second_63 (n := 52) dX8_second_49 (by first | exact ⟨rfl, rfl⟩ | assumption) (m_record g G h hX) rfl rfl (Nat.le_of_ble_eq_true rfl) (by first | assumption | exact isC_of (by decide +kernel)) rfl ?_
          rintro r h1 ⟨rfl, X1, F1, -⟩
          have R1 := (mE X1.1 X1.2.1 hx).2.1
          refine am_aload_n (n := 53) (i := 0) dX8_second_52 rfl rfl rfl ?_
          refine am_iload_n (n := 54) (i := 1) dX8_second_53 rfl rfl rfl ?_
          refine am_iload_n (n := 55) (i := 2) dX8_second_54 rfl rfl rfl ?_
          refine cdX8_second_175 (n := 58) dX8_second_55 (by first | exact ⟨rfl, rfl⟩ | assumption) (m_secondOf g e l (E.2.1 l) h1 e4 hl26 (R1.1 l hl26).2 vl.2.1) rfl rfl (Nat.le_of_ble_eq_true rfl) (by first | assumption | exact isC_of (by decide +kernel)) rfl ?_
          refine am_istore (n := 60) dX8_second_58 (Nat.le_of_ble_eq_true rfl) rfl rfl ?_
          refine am_aload_n (n := 61) (i := 0) dX8_second_60 rfl rfl rfl ?_
          refine am_iload_n (n := 62) (i := 1) dX8_second_61 rfl rfl rfl ?_
          refine am_bipush (n := 64) (v := 26) dX8_second_62 rfl rfl ?_
          refine am_iload_n (n := 65) (i := 2) dX8_second_64 rfl rfl rfl ?_
          refine am_iadd (n := 66) dX8_second_65 rfl ?_
          rw [show (26 : Int32) + nI l = nI (26 + l) from nI_add 26 l]
          rw [if_neg hok, if_neg q, hs] at hZ
          generalize sec (E.2.1 l) = had at *
          have hsn : s ≠ E.1 l + 1 := by
            rcases hzs with ⟨-, rfl⟩ | ⟨k, k9, rfl, rfl⟩
            · omega
            · exact fun w => q (by rw [show k = E.1 l by omega])
          have t79 : ∀ ll, lget ll 4 = some (.int had) → AW g mmX8_second Z 79 ll [.int (nI s), .int (nI (26 + l)), .int (nI e), .ref 40] h1 := by
            intro ll l4
            refine caX8_second_159 (n := 82) dX8_second_79 (by first | exact ⟨rfl, rfl⟩ | assumption) (m_lay g e (26 + l) (nI s) h1 e4 (by omega)) rfl rfl (Nat.le_of_ble_eq_true rfl) (by first | assumption | exact isC_of (by decide +kernel)) rfl ?_
            rintro r h2 ⟨rfl, rfl⟩
            have M1 := (MZ.of R1).S (i := l) (a := s) hl26
            refine am_loc [(4, some (.int had))] (by simp only [List.map_cons, List.map_nil, l4]) ?_
            rw [← hZ]
            refine am_iload (n := 84) dX8_second_82 rfl rfl ?_
            exact am_iret dX8_second_84 rfl rfl ⟨rfl, X1.ear (VE_second vE s10 hsn) M1.1 (fun j hj => M1.2.2.1 j (by omega)) (M1.re R1), F1.tr (FrZ M1.1 M1.2.1)⟩
          refine am_iload_n (n := 67) (i := 3) dX8_second_66 rfl rfl rfl ?_
          refine am_bipush (n := 69) (v := (-6)) dX8_second_67 rfl rfl ?_
          rcases hzs with ⟨rfl, rfl⟩ | ⟨k, k9, rfl, rfl⟩
          · refine am_icmp_ne (tgt := 76) (n := 72) dX8_second_69 (by decide) rfl (fun q_z => absurd rfl q_z) (fun _ => ?_)
            refine am_iconst (n := 73) (v := 0) dX8_second_72 rfl rfl ?_
            refine am_goto (tgt := 79) dX8_second_73 (by decide) ?_
            exact t79 _ rfl
          · refine am_icmp_ne (tgt := 76) (n := 72) dX8_second_69 (by decide) rfl (fun _ => ?_) (fun q_z => absurd q_z (nI_ne6 (by omega)))
            refine am_iload_n (n := 77) (i := 3) dX8_second_76 rfl rfl rfl ?_
            refine am_iconst (n := 78) (v := 1) dX8_second_77 rfl rfl ?_
            refine am_iadd (n := 79) dX8_second_78 rfl ?_
            rw [nI_1]
            exact t79 _ rfl
      refine am_if_ne (tgt := 17) (n := 15) dX8_second_12 (by decide) rfl (fun _ => ?_) (fun q_z => absurd q_z (show ¬ (1 : Int32) = 0 by decide))
      refine am_iload_n (n := 18) (i := 3) dX8_second_17 rfl rfl rfl ?_
      refine cdX8_second_169 (n := 21) dX8_second_18 (by first | exact ⟨rfl, rfl⟩ | assumption) (m_isKind g z h) rfl rfl (Nat.le_of_ble_eq_true rfl) rfl ?_
      cases hz : inR z 0 9 with
      | true =>
        refine am_if_ne (tgt := 33) (n := 24) dX8_second_21 (by decide) rfl (fun _ => ?_) (fun q_z => absurd q_z (show ¬ (1 : Int32) = 0 by decide))
        obtain ⟨k, -, k9, rfl⟩ := inR_t (by decide) (by decide) hz
        refine am_loc _ rfl (t33 (fun q => by rw [hz] at q; cases q.1) ⟨k + 1, by omega, ?_, Or.inr ⟨k, k9, rfl, rfl⟩⟩)
        rw [tn_nI (by omega), if_neg (nI_ne6 (by omega))]
      | false =>
        refine am_if_ne (tgt := 33) (n := 24) dX8_second_21 (by decide) rfl (fun q_z => absurd rfl q_z) (fun _ => ?_)
        refine am_iload_n (n := 25) (i := 3) dX8_second_24 rfl rfl rfl ?_
        refine am_bipush (n := 27) (v := (-6)) dX8_second_25 rfl rfl ?_
        by_cases h6 : z = -6
        · refine am_icmp_eq (tgt := 33) (n := 30) dX8_second_27 (by decide) rfl (fun _ => ?_) (fun q_z => absurd h6 q_z)
          exact am_loc _ rfl (t33 (fun q => q.2 h6) ⟨0, by omega, if_pos h6, Or.inl ⟨h6, rfl⟩⟩)
        · refine am_icmp_eq (tgt := 33) (n := 30) dX8_second_27 (by decide) rfl (fun q_z => absurd q_z h6) (fun _ => ?_)
          rw [← hZ, hz, if_pos ⟨rfl, h6⟩]
          refine am_bipush (n := 32) (v := (-2)) dX8_second_30 rfl rfl ?_
          refine am_iret dX8_second_32 rfl rfl ?_
          exact ⟨rfl, hX, Fr.rf⟩
set_option maxRecDepth 100000 in
set_option maxHeartbeats 400000 in
theorem cm_habits (g : Gx) (x b : Int32) (G : GS) (h : Hp) (hX : MG G h) : CM g yX8_habits wsX8_habits rmX8_habits [.ref 40, .int x, .int b] h (sp_habits x b G) := by
  have c40 := isC_40
  have h4 := hX.2.1.2.2.2.2.1
  unfold CM
  refine AC.of (cc := cX8_habits) (maxL := 4) (ret := (some .int)) (by decide +kernel) rfl (Nat.le_of_ble_eq_true rfl) ?_
  show AW g mmX8_habits _ 0 [(0, some (.ref 40)), (1, some (.int x)), (2, some (.int b))] [] _
  refine am_aload_n (n := 1) (i := 0) dX8_habits_0 rfl rfl rfl ?_
  refine am_iload_n (n := 2) (i := 1) dX8_habits_1 rfl rfl rfl ?_
  refine cdX8_habits_156 (n := 5) dX8_habits_2 (by first | exact ⟨rfl, rfl⟩ | assumption) (m_isEar g x G.1.2.2.2.length h (by omega) hX.1.2.2.2.1) rfl rfl (Nat.le_of_ble_eq_true rfl) (by first | assumption | exact isC_of (by decide +kernel)) rfl ?_
  cases hxx : inN x G.1.2.2.2.length with
  | false =>
    have hs2 : sp_habits x b G = (-1, G) := by unfold sp_habits; rw [eN_f hxx]
    rw [hs2]
    refine am_if_ne (tgt := 10) (n := 8) dX8_habits_5 (by decide) rfl (fun q_z => absurd rfl q_z) (fun _ => ?_)
    refine am_iconst (n := 9) (v := (-1)) dX8_habits_8 rfl rfl ?_
    refine am_iret dX8_habits_9 rfl rfl ?_
    exact ⟨rfl, hX, Fr.rf⟩
  | true =>
    obtain ⟨e, he, rfl⟩ := inN_t (by omega) hxx
    have hx := List.getElem?_eq_getElem he
    obtain ⟨e4, -, vE⟩ := mE hX.1 hX.2.1 hx
    generalize G.1.2.2.2[e] = E at *
    have hsp : sp_habits (nI e) b G = if inR b 0 7 = false then (-2, G) else (nI E.2.2.1, recG G (withE G.1 (G.1.2.2.2.set e (E.1, E.2.1, tn b, E.2.2.2)))) := by
      unfold sp_habits
      rw [eN_i h4 he, tn_nI (by omega), hx]
    rw [hsp]
    refine am_if_ne (tgt := 10) (n := 8) dX8_habits_5 (by decide) rfl (fun _ => ?_) (fun q_z => absurd q_z (show ¬ (1 : Int32) = 0 by decide))
    refine am_iload_n (n := 11) (i := 2) dX8_habits_10 rfl rfl rfl ?_
    refine am_iconst (n := 12) (v := 0) dX8_habits_11 rfl rfl ?_
    refine am_bipush (n := 14) (v := 7) dX8_habits_12 rfl rfl ?_
    refine cdX8_habits_51 (n := 17) dX8_habits_14 (by first | exact ⟨rfl, rfl⟩ | assumption) (m_in g b 0 7 h) rfl rfl (Nat.le_of_ble_eq_true rfl) rfl ?_
    cases hb : inR b 0 7 with
    | false =>
      rw [show (decide (0 ≤ b) && decide (b ≤ 7)) = false from hb, if_pos rfl]
      refine am_if_ne (tgt := 23) (n := 20) dX8_habits_17 (by decide) rfl (fun q_z => absurd rfl q_z) (fun _ => ?_)
      refine am_bipush (n := 22) (v := (-2)) dX8_habits_20 rfl rfl ?_
      refine am_iret dX8_habits_22 rfl rfl ?_
      exact ⟨rfl, hX, Fr.rf⟩
    | true =>
      rw [show (decide (0 ≤ b) && decide (b ≤ 7)) = true from hb, if_neg (by decide)]
      obtain ⟨n, -, n7, rfl⟩ := inR_t (by decide) (by decide) hb
      rw [tn_nI (by omega)]
      refine am_if_ne (tgt := 23) (n := 20) dX8_habits_17 (by decide) rfl (fun _ => ?_) (fun q_z => absurd q_z (show ¬ (1 : Int32) = 0 by decide))
      refine am_aload_n (n := 24) (i := 0) dX8_habits_23 rfl rfl rfl ?_
      refine caX8_habits_63 (n := 27) dX8_habits_24 (by first | exact ⟨rfl, rfl⟩ | assumption) (m_record g G h hX) rfl rfl (Nat.le_of_ble_eq_true rfl) (by first | assumption | exact isC_of (by decide +kernel)) rfl ?_
      rintro r h1 ⟨rfl, X1, F1, -⟩
      have R1 := (mE X1.1 X1.2.1 hx).2.1
      refine am_aload_n (n := 28) (i := 0) dX8_habits_27 rfl rfl rfl ?_
      refine am_iload_n (n := 29) (i := 1) dX8_habits_28 rfl rfl rfl ?_
      refine am_bipush (n := 31) (v := 52) dX8_habits_29 rfl rfl ?_
      refine cdX8_habits_106 (n := 34) dX8_habits_31 (by first | exact ⟨rfl, rfl⟩ | assumption) (m_at g e 52 h1 e4 (by omega)) rfl rfl (Nat.le_of_ble_eq_true rfl) (by first | assumption | exact isC_of (by decide +kernel)) rfl ?_
      rw [R1.2.1]
      refine am_istore_n (n := 35) (i := 3) dX8_habits_34 rfl (Nat.le_of_ble_eq_true rfl) rfl rfl ?_
      refine am_aload_n (n := 36) (i := 0) dX8_habits_35 rfl rfl rfl ?_
      refine am_iload_n (n := 37) (i := 1) dX8_habits_36 rfl rfl rfl ?_
      refine am_bipush (n := 39) (v := 52) dX8_habits_37 rfl rfl ?_
      refine am_iload_n (n := 40) (i := 2) dX8_habits_39 rfl rfl rfl ?_
      refine caX8_habits_159 (n := 43) dX8_habits_40 (by first | exact ⟨rfl, rfl⟩ | assumption) (m_lay g e 52 (nI n) h1 e4 (by omega)) rfl rfl (Nat.le_of_ble_eq_true rfl) (by first | assumption | exact isC_of (by decide +kernel)) rfl ?_
      rintro r h2 ⟨rfl, rfl⟩
      refine am_iload_n (n := 44) (i := 3) dX8_habits_43 rfl rfl rfl ?_
      have m1 : ∀ c, c ≠ 41 → (setI h1 41 (upd (h1.1 41) (268 + 78 * e + 52) (nI n))).1 c = h1.1 c := fun c hc => setI_n _ _ hc
      refine am_iret dX8_habits_44 rfl rfl ⟨rfl, X1.ear (E' := (E.1, E.2.1, n, E.2.2.2)) ⟨vE.1, n7, vE.2.2⟩ m1 (fun j hj => by rw [setI_s, pk_un (by omega)]) ?_, F1.tr (FrZ m1 rfl)⟩
      rw [setI_s]
      refine ⟨fun l hl => ⟨(pk_un (by omega)).trans (R1.1 l hl).1, (pk_un (by omega)).trans (R1.1 l hl).2⟩, pk_us, (pk_un (by omega)).trans R1.2.2.1, fun j q hj => ?_⟩
      obtain ⟨r1, r2, r3, r4⟩ := R1.2.2.2 j q hj
      exact ⟨(pk_un (by omega)).trans r1, (pk_un (by omega)).trans r2, (pk_un (by omega)).trans r3, (pk_un (by omega)).trans r4⟩
