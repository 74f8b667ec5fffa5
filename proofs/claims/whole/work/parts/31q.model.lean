/-! The reference: merge, split -/
theorem bt_lof {f : Nat → Nat} {c k : Nat} (hk : k < 26) : bt (lof f c) k = decide (f k = c) := by
  have e : lof f c = msk (fun l => decide (f l = c)) 26 := by
    unfold lof msk
    refine orF_cong (fun m _ => ?_)
    dsimp only
    by_cases q : f m = c
    · rw [if_pos q, if_pos (decide_eq_true q)]
    · rw [if_neg q, if_neg (fun z => q (of_decide_eq_true z))]
  rw [e, Bool.eq_iff_iff, bt_msk (by omega)]
  exact ⟨fun q => q.2, fun q => ⟨hk, q⟩⟩
theorem lof_26 {f : Nat → Nat} {c : Nat} : ∀ j, 26 ≤ j → j < 32 → bt (lof f c) j = false := by
  intro j h1 h2
  have e : lof f c = msk (fun l => decide (f l = c)) 26 := by
    unfold lof msk
    refine orF_cong (fun m _ => ?_)
    dsimp only
    by_cases q : f m = c
    · rw [if_pos q, if_pos (decide_eq_true q)]
    · rw [if_neg q, if_neg (fun z => q (of_decide_eq_true z))]
  rw [e]
  cases q : bt (msk (fun l => decide (f l = c)) 26) j with
  | false => rfl
  | true =>
    have := ((bt_msk (by omega)).mp q).1
    omega
/-- only an ear's numbers have changed -/
def FE (b : Nat) (h h1 : Hp) : Prop := (∀ c, c ≠ 41 → h1.1 c = h.1 c) ∧ h1.2 = h.2 ∧ ∀ j, (j < b ∨ b + 78 ≤ j) → h1.1 41 j = h.1 41 j
theorem FE.rf {b : Nat} {h : Hp} : FE b h h := ⟨fun _ _ => rfl, rfl, fun _ _ => rfl⟩
theorem FE.tr {b : Nat} {h h1 h2 : Hp} (a : FE b h h1) (c : FE b h1 h2) : FE b h h2 := ⟨fun x hx => (c.1 x hx).trans (a.1 x hx), c.2.1.trans a.2.1, fun j hj => (c.2.2 j hj).trans (a.2.2 j hj)⟩
theorem FE.mz {b : Nat} {h h1 : Hp} {F S : Nat → Nat} (M : MZ b h h1 F S) : FE b h h1 := ⟨M.1, M.2.1, fun j hj => M.2.2.1 j (by omega)⟩
theorem FE.upd {b : Nat} {h h1 : Hp} (a : FE b h h1) {i : Nat} (v : Int32) (h1' : b ≤ i) (h2' : i < b + 78) : FE b h (setI h1 41 (upd (h1.1 41) i v)) := ⟨fun c hc => (setI_n _ _ hc).trans (a.1 c hc), a.2.1, fun j hj => by rw [setI_s, pk_un (by omega)]; exact a.2.2 j hj⟩
set_option maxRecDepth 100000 in
set_option maxHeartbeats 400000 in
theorem m_forgetOldest (g : Gx) (e : Nat) (E : EV) (h : Hp) (he : e < 4) (R : REZ (268 + 78 * e) E (h.1 41)) (h6 : E.2.2.2.length = 6) : AC g yX8_forgetOldest wsX8_forgetOldest rmX8_forgetOldest [.ref 40, .int (nI e)] h (fun v h' => v = none ∧ FE (268 + 78 * e) h h' ∧ REZ (268 + 78 * e) (E.1, E.2.1, E.2.2.1, E.2.2.2.tail) (h'.1 41)) := by
  have c40 := isC_40
  generalize hZ : ZP g (fun v h' => v = none ∧ FE (268 + 78 * e) h h' ∧ REZ (268 + 78 * e) (E.1, E.2.1, E.2.2.1, E.2.2.2.tail) (h'.1 41)) = Z
  have z0 : Z.1 = 0 ∧ Z.2.1 = 0 := by rw [← hZ]; exact ⟨rfl, rfl⟩
  refine AC.of (cc := cX8_forgetOldest) (maxL := 3) (ret := none) (by decide +kernel) rfl (Nat.le_of_ble_eq_true rfl) ?_
  show AW g mmX8_forgetOldest _ 0 [(0, some (.ref 40)), (1, some (.int (nI e)))] [] _
  rw [hZ]
  refine am_bipush (n := 2) (v := 54) dX8_forgetOldest_0 rfl rfl ?_
  refine am_istore_n (n := 3) (i := 2) dX8_forgetOldest_2 rfl (Nat.le_of_ble_eq_true rfl) rfl rfl ?_
  refine am_loc [(0, some (.ref 40)), (1, some (.int (nI e))), (2, some (.int (nI (54 + 0))))] rfl ?_
  refine loop_up (Wp := fun k => ∀ hh : Hp, FE (268 + 78 * e) h hh → (∀ j, j < k → hh.1 41 (268 + 78 * e + 54 + j) = h.1 41 (268 + 78 * e + 54 + (j + 4))) → (∀ j, (j < 268 + 78 * e + 54 ∨ 268 + 78 * e + 54 + k ≤ j) → hh.1 41 j = h.1 41 j) → AW g mmX8_forgetOldest Z 3 [(0, some (.ref 40)), (1, some (.int (nI e))), (2, some (.int (nI (54 + k))))] [] hh) 20 ?_ ?_ 0 (by omega) h FE.rf (fun j hj => by omega) (fun j _ => rfl)
  · intro hh F e1 e2
    refine am_iload_n (n := 4) (i := 2) dX8_forgetOldest_3 rfl rfl rfl ?_
    refine am_bipush (n := 6) (v := 74) dX8_forgetOldest_4 rfl rfl ?_
    refine am_icmp_ge (tgt := 29) (n := 9) dX8_forgetOldest_6 (by decide) rfl (fun _ => ?_) (fun q_z => absurd (by decide) q_z)
    refine am_aload_n (n := 30) (i := 0) dX8_forgetOldest_29 rfl rfl rfl ?_
    refine am_iload_n (n := 31) (i := 1) dX8_forgetOldest_30 rfl rfl rfl ?_
    refine am_bipush (n := 33) (v := 53) dX8_forgetOldest_31 rfl rfl ?_
    refine am_iconst (n := 34) (v := 5) dX8_forgetOldest_33 rfl rfl ?_
    rw [show (53 : Int32) = nI 53 from rfl]
    refine caX8_forgetOldest_159 (n := 37) dX8_forgetOldest_34 (by first | exact ⟨rfl, rfl⟩ | assumption) (m_lay g e 53 5 hh he (by omega)) rfl rfl (Nat.le_of_ble_eq_true rfl) (by first | assumption | exact isC_of (by decide +kernel)) rfl ?_
    rintro r h3 ⟨rfl, rfl⟩
    rw [← hZ]
    refine am_vret dX8_forgetOldest_37 rfl ?_
    refine ⟨rfl, F.upd _ (by omega) (by omega), ?_⟩
    rw [setI_s]
    obtain ⟨r1, r2, r3, r4⟩ := R
    refine ⟨fun l hl => ⟨?_, ?_⟩, ?_, ?_, fun j q hj => ?_⟩
    · rw [pk_un (by omega), e2 _ (by omega)]
      exact (r1 l hl).1
    · rw [pk_un (by omega), e2 _ (by omega)]
      exact (r1 l hl).2
    · rw [pk_un (by omega), e2 _ (by omega)]
      exact r2
    · rw [pk_us, List.length_tail, h6]
      rfl
    · have hj : E.2.2.2.tail[j]? = some q := hj
      rw [List.getElem?_tail] at hj
      have hjl := (List.getElem?_eq_some_iff.mp hj).1
      obtain ⟨s1, s2, s3, s4⟩ := r4 (j + 1) q hj
      refine ⟨?_, ?_, ?_, ?_⟩
      · rw [pk_un (by omega), ← s1, e1 (4 * j) (by omega), show 268 + 78 * e + 54 + (4 * j + 4) = 268 + 78 * e + 54 + 4 * (j + 1) by omega]
      · rw [pk_un (by omega), ← s2, Nat.add_assoc (268 + 78 * e + 54), e1 (4 * j + 1) (by omega), show 268 + 78 * e + 54 + (4 * j + 1 + 4) = 268 + 78 * e + 54 + 4 * (j + 1) + 1 by omega]
      · rw [pk_un (by omega), ← s3, Nat.add_assoc (268 + 78 * e + 54), e1 (4 * j + 2) (by omega), show 268 + 78 * e + 54 + (4 * j + 2 + 4) = 268 + 78 * e + 54 + 4 * (j + 1) + 2 by omega]
      · rw [pk_un (by omega), ← s4, Nat.add_assoc (268 + 78 * e + 54), e1 (4 * j + 3) (by omega), show 268 + 78 * e + 54 + (4 * j + 3 + 4) = 268 + 78 * e + 54 + 4 * (j + 1) + 3 by omega]
  · intro k hk K hh F e1 e2
    obtain ⟨m, hm⟩ : ∃ m, m = 54 + k := ⟨_, rfl⟩
    obtain ⟨m4, hm4⟩ : ∃ m4, m4 = m + 4 := ⟨_, rfl⟩
    rw [← hm]
    refine am_iload_n (n := 4) (i := 2) dX8_forgetOldest_3 rfl rfl rfl ?_
    refine am_bipush (n := 6) (v := 74) dX8_forgetOldest_4 rfl rfl ?_
    refine am_icmp_ge (tgt := 29) (n := 9) dX8_forgetOldest_6 (by decide) rfl (fun q_z => absurd q_z (nI_ge (show m < 74 by omega) (by decide))) (fun _ => ?_)
    refine am_aload_n (n := 10) (i := 0) dX8_forgetOldest_9 rfl rfl rfl ?_
    refine am_iload_n (n := 11) (i := 1) dX8_forgetOldest_10 rfl rfl rfl ?_
    refine am_iload_n (n := 12) (i := 2) dX8_forgetOldest_11 rfl rfl rfl ?_
    refine am_aload_n (n := 13) (i := 0) dX8_forgetOldest_12 rfl rfl rfl ?_
    refine am_iload_n (n := 14) (i := 1) dX8_forgetOldest_13 rfl rfl rfl ?_
    refine am_iload_n (n := 15) (i := 2) dX8_forgetOldest_14 rfl rfl rfl ?_
    refine am_iconst (n := 16) (v := 4) dX8_forgetOldest_15 rfl rfl ?_
    refine am_iadd (n := 17) dX8_forgetOldest_16 rfl ?_
    rw [show nI m + (4 : Int32) = nI m4 by rw [hm4]; exact nI_add m 4]
    refine cdX8_forgetOldest_106 (n := 20) dX8_forgetOldest_17 (by first | exact ⟨rfl, rfl⟩ | assumption) (m_at g e m4 hh he (by omega)) rfl rfl (Nat.le_of_ble_eq_true rfl) (by first | assumption | exact isC_of (by decide +kernel)) rfl ?_
    refine caX8_forgetOldest_159 (n := 23) dX8_forgetOldest_20 (by first | exact ⟨rfl, rfl⟩ | assumption) (m_lay g e m _ hh he (by omega)) rfl rfl (Nat.le_of_ble_eq_true rfl) (by first | assumption | exact isC_of (by decide +kernel)) rfl ?_
    rintro r h3 ⟨rfl, rfl⟩
    first | refine am_iincN (n := 26) dX8_forgetOldest_23 rfl rfl rfl ?_ | refine am_iinc1 (n := 26) dX8_forgetOldest_23 rfl rfl rfl ?_
    refine am_goto (tgt := 3) dX8_forgetOldest_26 (by decide) ?_
    rw [show m + 1 = 54 + (k + 1) by omega]
    refine am_loc _ rfl (K _ (F.upd _ (by omega) (by omega)) (fun j hj => ?_) (fun j hj => ?_))
    · rw [setI_s]
      by_cases z : j = k
      · rw [z, show 268 + 78 * e + 54 + k = 268 + 78 * e + m by omega, pk_us, e2 _ (by omega), show 268 + 78 * e + m4 = 268 + 78 * e + 54 + (k + 4) by omega]
      · rw [pk_un (by omega)]
        exact e1 j (by omega)
    · rw [setI_s, pk_un (by omega)]
      exact e2 j (by omega)
set_option maxRecDepth 100000 in
set_option maxHeartbeats 800000 in
theorem m_mergeKinds (g : Gx) (e a c : Nat) (E : EV) (h : Hp) (he : e < 4) (R : REZ (268 + 78 * e) E (h.1 41)) (hV : VE E) (ha : a ≤ 9) (hc : c ≤ 9) : AC g yX8_mergeKinds wsX8_mergeKinds rmX8_mergeKinds [.ref 40, .int (nI e), .int (nI a), .int (nI c)] h (fun v h' => v = none ∧ FE (268 + 78 * e) h h' ∧ REZ (268 + 78 * e) (mergeE E a c) (h'.1 41)) := by
  have c40 := isC_40
  generalize hZ : ZP g (fun v h' => v = none ∧ FE (268 + 78 * e) h h' ∧ REZ (268 + 78 * e) (mergeE E a c) (h'.1 41)) = Z
  have z0 : Z.1 = 0 ∧ Z.2.1 = 0 := by rw [← hZ]; exact ⟨rfl, rfl⟩
  refine AC.of (cc := cX8_mergeKinds) (maxL := 9) (ret := none) (by decide +kernel) rfl (Nat.le_of_ble_eq_true rfl) ?_
  show AW g mmX8_mergeKinds _ 0 [(0, some (.ref 40)), (1, some (.int (nI e))), (2, some (.int (nI a))), (3, some (.int (nI c)))] [] _
  rw [hZ]
  refine am_aload_n (n := 1) (i := 0) dX8_mergeKinds_0 rfl rfl rfl ?_
  refine am_iload_n (n := 2) (i := 1) dX8_mergeKinds_1 rfl rfl rfl ?_
  refine am_iload_n (n := 3) (i := 3) dX8_mergeKinds_2 rfl rfl rfl ?_
  refine cdX8_mergeKinds_178 (n := 6) dX8_mergeKinds_3 (by first | exact ⟨rfl, rfl⟩ | assumption) (m_lettersOf g e c E h he R hV hc) rfl rfl (Nat.le_of_ble_eq_true rfl) (by first | assumption | exact isC_of (by decide +kernel)) rfl ?_
  have hbl : ∀ k, k < 26 → bt (lof E.1 c) k = decide (E.1 k = c) := fun k hk => bt_lof hk
  have hmE : mergeE E a c = (mgF E.1 a c, mgS E.1 E.2.1 a c, E.2.2.1, pushM E.2.2.2 (a, c, lof E.1 c, orF (mgM E.1 E.2.1 a c) 26)) := rfl
  rw [hmE] at hZ
  clear hmE
  generalize lof E.1 c = ks at *
  -- the merger is kept
  have t164 : ∀ (l : Lo) (ms : List (Nat × Nat × Int32 × Int32)) (sc : Int32) (h4 : Hp), ms.length < 6 → pushM E.2.2.2 (a, c, ks, orF (mgM E.1 E.2.1 a c) 26) = ms ++ [(a, c, ks, sc)] → FE (268 + 78 * e) h h4 → REZ (268 + 78 * e) (mgF E.1 a c, mgS E.1 E.2.1 a c, E.2.2.1, ms) (h4.1 41) → lget l 0 = some (.ref 40) → lget l 1 = some (.int (nI e)) → lget l 2 = some (.int (nI a)) → lget l 3 = some (.int (nI c)) → lget l 4 = some (.int ks) → lget l 5 = some (.int sc) → AW g mmX8_mergeKinds Z 164 l [] h4 := by
    intro l ms sc h4 hms hpm F4 R4 l0 l1 l2 l3 l4 l5
    rw [hpm] at hZ
    refine am_loc [(0, some (.ref 40)), (1, some (.int (nI e))), (2, some (.int (nI a))), (3, some (.int (nI c))), (4, some (.int ks)), (5, some (.int sc))] (by simp only [List.map_cons, List.map_nil, l0, l1, l2, l3, l4, l5]) ?_
    refine am_bipush (n := 166) (v := 54) dX8_mergeKinds_164 rfl rfl ?_
    refine am_iconst (n := 167) (v := 4) dX8_mergeKinds_166 rfl rfl ?_
    refine am_aload_n (n := 168) (i := 0) dX8_mergeKinds_167 rfl rfl rfl ?_
    refine am_iload_n (n := 169) (i := 1) dX8_mergeKinds_168 rfl rfl rfl ?_
    refine am_bipush (n := 171) (v := 53) dX8_mergeKinds_169 rfl rfl ?_
    refine cdX8_mergeKinds_106 (n := 174) dX8_mergeKinds_171 (by first | exact ⟨rfl, rfl⟩ | assumption) (m_at g e 53 h4 he (by omega)) rfl rfl (Nat.le_of_ble_eq_true rfl) (by first | assumption | exact isC_of (by decide +kernel)) rfl ?_
    rw [R4.2.2.1]
    dsimp only
    refine am_imul (n := 175) dX8_mergeKinds_174 rfl ?_
    refine am_iadd (n := 176) dX8_mergeKinds_175 rfl ?_
    rw [show (54 : Int32) + 4 * nI ms.length = nI (54 + 4 * ms.length) by rw [show (4 : Int32) = nI 4 from rfl, show (54 : Int32) = nI 54 from rfl, nI_mul, nI_add]]
    obtain ⟨m, hm⟩ : ∃ m, m = 54 + 4 * ms.length := ⟨_, rfl⟩
    rw [← hm]
    refine am_istore (n := 178) dX8_mergeKinds_176 (Nat.le_of_ble_eq_true rfl) rfl rfl ?_
    refine am_aload_n (n := 179) (i := 0) dX8_mergeKinds_178 rfl rfl rfl ?_
    refine am_iload_n (n := 180) (i := 1) dX8_mergeKinds_179 rfl rfl rfl ?_
    refine am_iload (n := 182) dX8_mergeKinds_180 rfl rfl ?_
    refine am_iload_n (n := 183) (i := 2) dX8_mergeKinds_182 rfl rfl rfl ?_
    refine caX8_mergeKinds_159 (n := 186) dX8_mergeKinds_183 (by first | exact ⟨rfl, rfl⟩ | assumption) (m_lay g e m (nI a) h4 he (by omega)) rfl rfl (Nat.le_of_ble_eq_true rfl) (by first | assumption | exact isC_of (by decide +kernel)) rfl ?_
    rintro r h5 ⟨rfl, rfl⟩
    have F5 := F4.upd (i := 268 + 78 * e + m) (nI a) (by omega) (by omega)
    refine am_aload_n (n := 187) (i := 0) dX8_mergeKinds_186 rfl rfl rfl ?_
    refine am_iload_n (n := 188) (i := 1) dX8_mergeKinds_187 rfl rfl rfl ?_
    refine am_iload (n := 190) dX8_mergeKinds_188 rfl rfl ?_
    refine am_iconst (n := 191) (v := 1) dX8_mergeKinds_190 rfl rfl ?_
    refine am_iadd (n := 192) dX8_mergeKinds_191 rfl ?_
    rw [nI_1]
    refine am_iload_n (n := 193) (i := 3) dX8_mergeKinds_192 rfl rfl rfl ?_
    refine caX8_mergeKinds_159 (n := 196) dX8_mergeKinds_193 (by first | exact ⟨rfl, rfl⟩ | assumption) (m_lay g e (m + 1) (nI c) _ he (by omega)) rfl rfl (Nat.le_of_ble_eq_true rfl) (by first | assumption | exact isC_of (by decide +kernel)) rfl ?_
    rintro r h6 ⟨rfl, rfl⟩
    have F6 := F5.upd (i := 268 + 78 * e + (m + 1)) (nI c) (by omega) (by omega)
    refine am_aload_n (n := 197) (i := 0) dX8_mergeKinds_196 rfl rfl rfl ?_
    refine am_iload_n (n := 198) (i := 1) dX8_mergeKinds_197 rfl rfl rfl ?_
    refine am_iload (n := 200) dX8_mergeKinds_198 rfl rfl ?_
    refine am_iconst (n := 201) (v := 2) dX8_mergeKinds_200 rfl rfl ?_
    refine am_iadd (n := 202) dX8_mergeKinds_201 rfl ?_
    rw [show nI m + (2 : Int32) = nI (m + 2) from nI_add m 2]
    refine am_iload (n := 204) dX8_mergeKinds_202 rfl rfl ?_
    refine caX8_mergeKinds_159 (n := 207) dX8_mergeKinds_204 (by first | exact ⟨rfl, rfl⟩ | assumption) (m_lay g e (m + 2) ks _ he (by omega)) rfl rfl (Nat.le_of_ble_eq_true rfl) (by first | assumption | exact isC_of (by decide +kernel)) rfl ?_
    rintro r h7 ⟨rfl, rfl⟩
    have F7 := F6.upd (i := 268 + 78 * e + (m + 2)) ks (by omega) (by omega)
    refine am_aload_n (n := 208) (i := 0) dX8_mergeKinds_207 rfl rfl rfl ?_
    refine am_iload_n (n := 209) (i := 1) dX8_mergeKinds_208 rfl rfl rfl ?_
    refine am_iload (n := 211) dX8_mergeKinds_209 rfl rfl ?_
    refine am_iconst (n := 212) (v := 3) dX8_mergeKinds_211 rfl rfl ?_
    refine am_iadd (n := 213) dX8_mergeKinds_212 rfl ?_
    rw [show nI m + (3 : Int32) = nI (m + 3) from nI_add m 3]
    refine am_iload (n := 215) dX8_mergeKinds_213 rfl rfl ?_
    refine caX8_mergeKinds_159 (n := 218) dX8_mergeKinds_215 (by first | exact ⟨rfl, rfl⟩ | assumption) (m_lay g e (m + 3) sc _ he (by omega)) rfl rfl (Nat.le_of_ble_eq_true rfl) (by first | assumption | exact isC_of (by decide +kernel)) rfl ?_
    rintro r h8 ⟨rfl, rfl⟩
    have F8 := F7.upd (i := 268 + 78 * e + (m + 3)) sc (by omega) (by omega)
    rw [setI_I, setI_I, setI_I] at F8 ⊢
    simp only [setI_s] at F8 ⊢
    refine am_aload_n (n := 219) (i := 0) dX8_mergeKinds_218 rfl rfl rfl ?_
    refine am_iload_n (n := 220) (i := 1) dX8_mergeKinds_219 rfl rfl rfl ?_
    refine am_bipush (n := 222) (v := 53) dX8_mergeKinds_220 rfl rfl ?_
    refine am_aload_n (n := 223) (i := 0) dX8_mergeKinds_222 rfl rfl rfl ?_
    refine am_iload_n (n := 224) (i := 1) dX8_mergeKinds_223 rfl rfl rfl ?_
    refine am_bipush (n := 226) (v := 53) dX8_mergeKinds_224 rfl rfl ?_
    refine cdX8_mergeKinds_106 (n := 229) dX8_mergeKinds_226 (by first | exact ⟨rfl, rfl⟩ | assumption) (m_at g e 53 _ he (by omega)) rfl rfl (Nat.le_of_ble_eq_true rfl) (by first | assumption | exact isC_of (by decide +kernel)) rfl ?_
    rw [setI_s]
    simp (disch := omega) only [pk_un]
    rw [R4.2.2.1]
    dsimp only
    refine am_iconst (n := 230) (v := 1) dX8_mergeKinds_229 rfl rfl ?_
    refine am_iadd (n := 231) dX8_mergeKinds_230 rfl ?_
    rw [nI_1]
    refine caX8_mergeKinds_159 (n := 234) dX8_mergeKinds_231 (by first | exact ⟨rfl, rfl⟩ | assumption) (m_lay g e 53 _ _ he (by omega)) rfl rfl (Nat.le_of_ble_eq_true rfl) (by first | assumption | exact isC_of (by decide +kernel)) rfl ?_
    rintro r h9 ⟨rfl, rfl⟩
    have F9 := F8.upd (i := 268 + 78 * e + 53) (nI (ms.length + 1)) (by omega) (by omega)
    rw [← hZ]
    refine am_vret dX8_mergeKinds_234 rfl ?_
    refine ⟨rfl, F9, ?_⟩
    rw [setI_s, setI_s]
    obtain ⟨r1, r2, r3, r4⟩ := R4
    refine ⟨fun l hl => ⟨?_, ?_⟩, ?_, ?_, fun j q hj => ?_⟩
    · simp (disch := omega) only [pk_un]
      exact (r1 l hl).1
    · simp (disch := omega) only [pk_un]
      exact (r1 l hl).2
    · simp (disch := omega) only [pk_un]
      exact r2
    · rw [pk_us, List.length_append]
      rfl
    · have hj : (ms ++ [(a, c, ks, sc)])[j]? = some q := hj
      by_cases z : j = ms.length
      · subst z
        rw [List.getElem?_append_right (Nat.le_refl _), Nat.sub_self, List.getElem?_cons_zero] at hj
        rw [← Option.some.inj hj, show 268 + 78 * e + 54 + 4 * ms.length = 268 + 78 * e + m by omega, Nat.add_assoc (268 + 78 * e) m 1, Nat.add_assoc (268 + 78 * e) m 2, Nat.add_assoc (268 + 78 * e) m 3]
        refine ⟨?_, ?_, ?_, ?_⟩ <;> simp (disch := omega) only [pk_un, pk_us]
      · have hil := (List.getElem?_eq_some_iff.mp hj).1
        rw [List.length_append] at hil
        simp at hil
        rw [List.getElem?_append_left (by omega)] at hj
        obtain ⟨s1, s2, s3, s4⟩ := r4 j q hj
        refine ⟨?_, ?_, ?_, ?_⟩
        · simp (disch := omega) only [pk_un]
          exact s1
        · simp (disch := omega) only [pk_un]
          exact s2
        · simp (disch := omega) only [pk_un]
          exact s3
        · simp (disch := omega) only [pk_un]
          exact s4
  have hFb : ∀ l, l < 26 → mgF E.1 a c l ≤ 9 := fun l hl => by
    have := (hV.1 l hl).1
    unfold mgF
    split <;> omega
  have hSb : ∀ l, l < 26 → mgS1 E.2.1 a c l ≤ 10 := fun l hl => by
    have := (hV.1 l hl).2.1
    unfold mgS1
    split <;> omega
  refine am_istore (n := 8) dX8_mergeKinds_6 (Nat.le_of_ble_eq_true rfl) rfl rfl ?_
  refine am_iconst (n := 9) (v := 0) dX8_mergeKinds_8 rfl rfl ?_
  refine am_istore (n := 11) dX8_mergeKinds_9 (Nat.le_of_ble_eq_true rfl) rfl rfl ?_
  refine am_iconst (n := 12) (v := 0) dX8_mergeKinds_11 rfl rfl ?_
  refine am_istore (n := 14) dX8_mergeKinds_12 (Nat.le_of_ble_eq_true rfl) rfl rfl ?_
  refine am_loc [(0, some (.ref 40)), (1, some (.int (nI e))), (2, some (.int (nI a))), (3, some (.int (nI c))), (4, some (.int ks)), (5, some (.int (orF (mgM E.1 E.2.1 a c) 0))), (6, some (.int (nI 0)))] rfl ?_
  refine loop_up (Wp := fun k => ∀ h1 : Hp, MZ (268 + 78 * e) h h1 (fun l => if l < k then mgF E.1 a c l else E.1 l) (fun l => if l < k then mgS1 E.2.1 a c l else E.2.1 l) → AW g mmX8_mergeKinds Z 14 [(0, some (.ref 40)), (1, some (.int (nI e))), (2, some (.int (nI a))), (3, some (.int (nI c))), (4, some (.int ks)), (5, some (.int (orF (mgM E.1 E.2.1 a c) k))), (6, some (.int (nI k)))] [] h1) 26 ?_ ?_ 0 (by omega) h ((MZ.of R).to (fun l hl => ⟨by rw [if_neg (Nat.not_lt_zero _)], by rw [if_neg (Nat.not_lt_zero _)]⟩))
  · intro h1 M1
    have M2 : MZ (268 + 78 * e) h h1 (mgF E.1 a c) (mgS1 E.2.1 a c) := M1.to (fun l hl => ⟨if_pos hl, if_pos hl⟩)
    generalize orF (mgM E.1 E.2.1 a c) 26 = sc at *
    refine am_iload (n := 16) dX8_mergeKinds_14 rfl rfl ?_
    refine am_bipush (n := 18) (v := 26) dX8_mergeKinds_16 rfl rfl ?_
    refine am_icmp_ge (tgt := 142) (n := 21) dX8_mergeKinds_18 (by decide) rfl (fun _ => ?_) (fun q_z => absurd (by decide) q_z)
    refine am_aload_n (n := 143) (i := 0) dX8_mergeKinds_142 rfl rfl rfl ?_
    refine am_iload_n (n := 144) (i := 1) dX8_mergeKinds_143 rfl rfl rfl ?_
    refine caX8_mergeKinds_172 (n := 147) dX8_mergeKinds_144 (by first | exact ⟨rfl, rfl⟩ | assumption) (m_clean g e _ _ h h1 he M2 hFb hSb) rfl rfl (Nat.le_of_ble_eq_true rfl) (by first | assumption | exact isC_of (by decide +kernel)) rfl ?_
    rintro r h3 ⟨rfl, M3⟩
    have M3 : MZ (268 + 78 * e) h h3 (mgF E.1 a c) (mgS E.1 E.2.1 a c) := M3
    have R3 := M3.re R
    have F3 := FE.mz M3
    have h6 := hV.2.2.1
    refine am_aload_n (n := 148) (i := 0) dX8_mergeKinds_147 rfl rfl rfl ?_
    refine am_iload_n (n := 149) (i := 1) dX8_mergeKinds_148 rfl rfl rfl ?_
    refine am_bipush (n := 151) (v := 53) dX8_mergeKinds_149 rfl rfl ?_
    refine cdX8_mergeKinds_106 (n := 154) dX8_mergeKinds_151 (by first | exact ⟨rfl, rfl⟩ | assumption) (m_at g e 53 h3 he (by omega)) rfl rfl (Nat.le_of_ble_eq_true rfl) (by first | assumption | exact isC_of (by decide +kernel)) rfl ?_
    rw [R3.2.2.1]
    dsimp only
    refine am_bipush (n := 156) (v := 6) dX8_mergeKinds_154 rfl rfl ?_
    by_cases q : E.2.2.2.length = 6
    · refine am_icmp_ne (tgt := 164) (n := 159) dX8_mergeKinds_156 (by decide) rfl (fun q_z => absurd (by rw [q]; rfl) q_z) (fun _ => ?_)
      refine am_aload_n (n := 160) (i := 0) dX8_mergeKinds_159 rfl rfl rfl ?_
      refine am_iload_n (n := 161) (i := 1) dX8_mergeKinds_160 rfl rfl rfl ?_
      refine caX8_mergeKinds_181 (n := 164) dX8_mergeKinds_161 (by first | exact ⟨rfl, rfl⟩ | assumption) (m_forgetOldest g e _ h3 he R3 q) rfl rfl (Nat.le_of_ble_eq_true rfl) (by first | assumption | exact isC_of (by decide +kernel)) rfl ?_
      rintro r h4 ⟨rfl, F4, R4⟩
      exact t164 _ E.2.2.2.tail sc h4 (by rw [List.length_tail]; omega) (by unfold pushM; rw [if_neg (by omega)]) (F3.tr F4) R4 rfl rfl rfl rfl rfl rfl
    · refine am_icmp_ne (tgt := 164) (n := 159) dX8_mergeKinds_156 (by decide) rfl (fun _ => ?_) (fun q_z => absurd q_z (fun z => q ((nI_eq (b := 6) (by omega) (by omega)).mp z)))
      exact t164 _ E.2.2.2 sc h3 (by omega) (by unfold pushM; rw [if_pos (by omega)]) F3 R3 rfl rfl rfl rfl rfl rfl
  · intro k hk K h1 M1
    have hx := M1.2.2.2 k hk
    have hx1 : h1.1 41 (268 + 78 * e + k) = nI (E.1 k) := by
      rw [hx.1]
      show nI (if k < k then _ else _) = _
      rw [if_neg (Nat.lt_irrefl k)]
    have hx2 : h1.1 41 (268 + 78 * e + (26 + k)) = nI (E.2.1 k) := by
      rw [← Nat.add_assoc, hx.2]
      show nI (if k < k then _ else _) = _
      rw [if_neg (Nat.lt_irrefl k)]
    obtain ⟨v1, v2, v3⟩ := hV.1 k hk
    have hfk := hFb k hk
    rw [show orF (mgM E.1 E.2.1 a c) (k + 1) = orF (mgM E.1 E.2.1 a c) k ||| mgM E.1 E.2.1 a c k from rfl] at K
    have hMk : mgM E.1 E.2.1 a c k = if E.2.1 k = c + 1 ∧ ¬ mgF E.1 a c k = a then sh1 k else 0 := rfl
    have hFk : mgF E.1 a c k = if E.1 k = c then a else E.1 k := rfl
    have hSk : mgS1 E.2.1 a c k = if E.2.1 k = c + 1 then a + 1 else E.2.1 k := rfl
    generalize orF (mgM E.1 E.2.1 a c) k = sc at *
    refine am_iload (n := 16) dX8_mergeKinds_14 rfl rfl ?_
    refine am_bipush (n := 18) (v := 26) dX8_mergeKinds_16 rfl rfl ?_
    refine am_icmp_ge (tgt := 142) (n := 21) dX8_mergeKinds_18 (by decide) rfl (fun q_z => absurd q_z (nI_ge hk (by decide))) (fun _ => ?_)
    refine am_aload_n (n := 22) (i := 0) dX8_mergeKinds_21 rfl rfl rfl ?_
    refine am_iload_n (n := 23) (i := 1) dX8_mergeKinds_22 rfl rfl rfl ?_
    refine am_bipush (n := 25) (v := 26) dX8_mergeKinds_23 rfl rfl ?_
    refine am_iload (n := 27) dX8_mergeKinds_25 rfl rfl ?_
    refine am_iadd (n := 28) dX8_mergeKinds_27 rfl ?_
    rw [show (26 : Int32) + nI k = nI (26 + k) from nI_add 26 k]
    refine cdX8_mergeKinds_106 (n := 31) dX8_mergeKinds_28 (by first | exact ⟨rfl, rfl⟩ | assumption) (m_at g e (26 + k) h1 he (by omega)) rfl rfl (Nat.le_of_ble_eq_true rfl) (by first | assumption | exact isC_of (by decide +kernel)) rfl ?_
    rw [hx2]
    refine am_iload_n (n := 32) (i := 3) dX8_mergeKinds_31 rfl rfl rfl ?_
    refine am_iconst (n := 33) (v := 1) dX8_mergeKinds_32 rfl rfl ?_
    refine am_iadd (n := 34) dX8_mergeKinds_33 rfl ?_
    rw [nI_1]
    have M2 := (M1.F (i := k) (a := mgF E.1 a c k) hk)
    have M3 := M2.S (i := k) (a := mgS1 E.2.1 a c k) hk
    have KK := K _ (M3.to (fun l hl => ⟨by
      by_cases z : l = k
      · rw [z, upN_s, if_pos (Nat.lt_succ_self _)]
      · rw [upN_n _ _ z]
        by_cases y : l < k
        · rw [if_pos y, if_pos (by omega)]
        · rw [if_neg y, if_neg (by omega)], by
      by_cases z : l = k
      · rw [z, upN_s, if_pos (Nat.lt_succ_self _)]
      · rw [upN_n _ _ z]
        by_cases y : l < k
        · rw [if_pos y, if_pos (by omega)]
        · rw [if_neg y, if_neg (by omega)]⟩))
    -- behind the class
    have t68 : ∀ (l : Lo) (sb : Bool), (sb = true ↔ E.2.1 k = c + 1) → lget l 0 = some (.ref 40) → lget l 1 = some (.int (nI e)) → lget l 2 = some (.int (nI a)) → lget l 3 = some (.int (nI c)) → lget l 4 = some (.int ks) → lget l 5 = some (.int sc) → lget l 6 = some (.int (nI k)) → lget l 7 = some (.int (bI sb)) → AW g mmX8_mergeKinds Z 68 l [.int (nI (mgF E.1 a c k))] h1 := by
      intro l sb hsb l0 l1 l2 l3 l4 l5 l6 l7
      refine am_loc [(0, some (.ref 40)), (1, some (.int (nI e))), (2, some (.int (nI a))), (3, some (.int (nI c))), (4, some (.int ks)), (5, some (.int sc)), (6, some (.int (nI k))), (7, some (.int (bI sb)))] (by simp only [List.map_cons, List.map_nil, l0, l1, l2, l3, l4, l5, l6, l7]) ?_
      refine am_istore (n := 70) dX8_mergeKinds_68 (Nat.le_of_ble_eq_true rfl) rfl rfl ?_
      refine am_aload_n (n := 71) (i := 0) dX8_mergeKinds_70 rfl rfl rfl ?_
      refine am_iload_n (n := 72) (i := 1) dX8_mergeKinds_71 rfl rfl rfl ?_
      refine am_iconst (n := 73) (v := 0) dX8_mergeKinds_72 rfl rfl ?_
      refine am_iload (n := 75) dX8_mergeKinds_73 rfl rfl ?_
      refine am_iadd (n := 76) dX8_mergeKinds_75 rfl ?_
      rw [show (0 : Int32) + nI k = nI (0 + k) from nI_add 0 k]
      refine am_iload (n := 78) dX8_mergeKinds_76 rfl rfl ?_
      refine caX8_mergeKinds_159 (n := 81) dX8_mergeKinds_78 (by first | exact ⟨rfl, rfl⟩ | assumption) (m_lay g e (0 + k) _ h1 he (by omega)) rfl rfl (Nat.le_of_ble_eq_true rfl) (by first | assumption | exact isC_of (by decide +kernel)) rfl ?_
      rintro r h2 ⟨rfl, rfl⟩
      rw [Nat.zero_add]
      have hx3 : (setI h1 41 (upd (h1.1 41) (268 + 78 * e + k) (nI (mgF E.1 a c k)))).1 41 (268 + 78 * e + (26 + k)) = nI (E.2.1 k) := by
        rw [setI_s, pk_un (by omega)]
        exact hx2
      generalize setI h1 41 (upd (h1.1 41) (268 + 78 * e + k) (nI (mgF E.1 a c k))) = h2 at *
      refine am_aload_n (n := 82) (i := 0) dX8_mergeKinds_81 rfl rfl rfl ?_
      refine am_iload_n (n := 83) (i := 1) dX8_mergeKinds_82 rfl rfl rfl ?_
      refine am_bipush (n := 85) (v := 26) dX8_mergeKinds_83 rfl rfl ?_
      refine am_iload (n := 87) dX8_mergeKinds_85 rfl rfl ?_
      refine am_iadd (n := 88) dX8_mergeKinds_87 rfl ?_
      rw [show (26 : Int32) + nI k = nI (26 + k) from nI_add 26 k]
      refine am_iload (n := 90) dX8_mergeKinds_88 rfl rfl ?_
      have t109 : AW g mmX8_mergeKinds Z 109 [(8, some (.int (nI (mgF E.1 a c k)))), (0, some (.ref 40)), (1, some (.int (nI e))), (2, some (.int (nI a))), (3, some (.int (nI c))), (4, some (.int ks)), (5, some (.int sc)), (6, some (.int (nI k))), (7, some (.int (bI sb)))] [.int (nI (mgS1 E.2.1 a c k)), .int (nI (26 + k)), .int (nI e), .ref 40] h2 := by
        refine caX8_mergeKinds_159 (n := 112) dX8_mergeKinds_109 (by first | exact ⟨rfl, rfl⟩ | assumption) (m_lay g e (26 + k) _ h2 he (by omega)) rfl rfl (Nat.le_of_ble_eq_true rfl) (by first | assumption | exact isC_of (by decide +kernel)) rfl ?_
        rintro r h3 ⟨rfl, rfl⟩
        refine am_iload (n := 114) dX8_mergeKinds_112 rfl rfl ?_
        refine am_iload (n := 116) dX8_mergeKinds_114 rfl rfl ?_
        by_cases q : E.2.1 k = c + 1
        · rw [show sb = true from hsb.mpr q]
          refine am_if_eq (tgt := 132) (n := 119) dX8_mergeKinds_116 (by decide) rfl (fun q_z => absurd q_z (show ¬ (1 : Int32) = 0 by decide)) (fun _ => ?_)
          refine am_iload (n := 121) dX8_mergeKinds_119 rfl rfl ?_
          refine am_iload_n (n := 122) (i := 2) dX8_mergeKinds_121 rfl rfl rfl ?_
          by_cases q2 : mgF E.1 a c k = a
          · rw [hMk, if_neg (fun z => z.2 q2)] at KK
            refine am_icmp_eq (tgt := 132) (n := 125) dX8_mergeKinds_122 (by decide) rfl (fun _ => ?_) (fun q_z => absurd (by rw [q2]) q_z)
            refine am_iconst (n := 133) (v := 0) dX8_mergeKinds_132 rfl rfl ?_
            refine am_ior (n := 134) dX8_mergeKinds_133 rfl ?_
            refine am_istore (n := 136) dX8_mergeKinds_134 (Nat.le_of_ble_eq_true rfl) rfl rfl ?_
            first | refine am_iincN (n := 139) dX8_mergeKinds_136 rfl rfl rfl ?_ | refine am_iinc1 (n := 139) dX8_mergeKinds_136 rfl rfl rfl ?_
            refine am_goto (tgt := 14) dX8_mergeKinds_139 (by decide) ?_
            exact am_loc _ rfl KK
          · rw [hMk, if_pos ⟨q, q2⟩] at KK
            refine am_icmp_eq (tgt := 132) (n := 125) dX8_mergeKinds_122 (by decide) rfl (fun q_z => absurd q_z (fun z => q2 ((nI_eq (by omega) (by omega)).mp z))) (fun _ => ?_)
            refine am_iconst (n := 126) (v := 1) dX8_mergeKinds_125 rfl rfl ?_
            refine am_iload (n := 128) dX8_mergeKinds_126 rfl rfl ?_
            refine am_ishl (n := 129) dX8_mergeKinds_128 rfl ?_
            refine am_goto (tgt := 133) dX8_mergeKinds_129 (by decide) ?_
            refine am_ior (n := 134) dX8_mergeKinds_133 rfl ?_
            refine am_istore (n := 136) dX8_mergeKinds_134 (Nat.le_of_ble_eq_true rfl) rfl rfl ?_
            first | refine am_iincN (n := 139) dX8_mergeKinds_136 rfl rfl rfl ?_ | refine am_iinc1 (n := 139) dX8_mergeKinds_136 rfl rfl rfl ?_
            refine am_goto (tgt := 14) dX8_mergeKinds_139 (by decide) ?_
            exact am_loc _ rfl KK
        · rw [show sb = false by cases sb with | false => rfl | true => exact absurd (hsb.mp rfl) q]
          rw [hMk, if_neg (fun z => q z.1)] at KK
          refine am_if_eq (tgt := 132) (n := 119) dX8_mergeKinds_116 (by decide) rfl (fun _ => ?_) (fun q_z => absurd rfl q_z)
          refine am_iconst (n := 133) (v := 0) dX8_mergeKinds_132 rfl rfl ?_
          refine am_ior (n := 134) dX8_mergeKinds_133 rfl ?_
          refine am_istore (n := 136) dX8_mergeKinds_134 (Nat.le_of_ble_eq_true rfl) rfl rfl ?_
          first | refine am_iincN (n := 139) dX8_mergeKinds_136 rfl rfl rfl ?_ | refine am_iinc1 (n := 139) dX8_mergeKinds_136 rfl rfl rfl ?_
          refine am_goto (tgt := 14) dX8_mergeKinds_139 (by decide) ?_
          exact am_loc _ rfl KK
      by_cases q : E.2.1 k = c + 1
      · rw [if_pos q] at hSk
        rw [hSk] at t109
        rw [show sb = true from hsb.mpr q] at t109 ⊢
        refine am_if_eq (tgt := 99) (n := 93) dX8_mergeKinds_90 (by decide) rfl (fun q_z => absurd q_z (show ¬ (1 : Int32) = 0 by decide)) (fun _ => ?_)
        refine am_iload_n (n := 94) (i := 2) dX8_mergeKinds_93 rfl rfl rfl ?_
        refine am_iconst (n := 95) (v := 1) dX8_mergeKinds_94 rfl rfl ?_
        refine am_iadd (n := 96) dX8_mergeKinds_95 rfl ?_
        rw [nI_1]
        refine am_goto (tgt := 109) dX8_mergeKinds_96 (by decide) ?_
        exact t109
      · rw [if_neg q] at hSk
        rw [hSk] at t109
        rw [show sb = false by cases sb with | false => rfl | true => exact absurd (hsb.mp rfl) q] at t109 ⊢
        refine am_if_eq (tgt := 99) (n := 93) dX8_mergeKinds_90 (by decide) rfl (fun _ => ?_) (fun q_z => absurd rfl q_z)
        refine am_aload_n (n := 100) (i := 0) dX8_mergeKinds_99 rfl rfl rfl ?_
        refine am_iload_n (n := 101) (i := 1) dX8_mergeKinds_100 rfl rfl rfl ?_
        refine am_bipush (n := 103) (v := 26) dX8_mergeKinds_101 rfl rfl ?_
        refine am_iload (n := 105) dX8_mergeKinds_103 rfl rfl ?_
        refine am_iadd (n := 106) dX8_mergeKinds_105 rfl ?_
        rw [show (26 : Int32) + nI k = nI (26 + k) from nI_add 26 k]
        refine cdX8_mergeKinds_106 (n := 109) dX8_mergeKinds_106 (by first | exact ⟨rfl, rfl⟩ | assumption) (m_at g e (26 + k) h2 he (by omega)) rfl rfl (Nat.le_of_ble_eq_true rfl) (by first | assumption | exact isC_of (by decide +kernel)) rfl ?_
        rw [hx3]
        exact t109
    have t44 : ∀ (l : Lo) (sb : Bool), (sb = true ↔ E.2.1 k = c + 1) → lget l 0 = some (.ref 40) → lget l 1 = some (.int (nI e)) → lget l 2 = some (.int (nI a)) → lget l 3 = some (.int (nI c)) → lget l 4 = some (.int ks) → lget l 5 = some (.int sc) → lget l 6 = some (.int (nI k)) → lget l 7 = some (.int (bI sb)) → AW g mmX8_mergeKinds Z 44 l [] h1 := by
      intro l sb hsb l0 l1 l2 l3 l4 l5 l6 l7
      refine am_loc [(0, some (.ref 40)), (1, some (.int (nI e))), (2, some (.int (nI a))), (3, some (.int (nI c))), (4, some (.int ks)), (5, some (.int sc)), (6, some (.int (nI k))), (7, some (.int (bI sb)))] (by simp only [List.map_cons, List.map_nil, l0, l1, l2, l3, l4, l5, l6, l7]) ?_
      refine am_iload (n := 46) dX8_mergeKinds_44 rfl rfl ?_
      refine am_iload (n := 48) dX8_mergeKinds_46 rfl rfl ?_
      refine am_ishr (n := 49) dX8_mergeKinds_48 rfl ?_
      refine am_iconst (n := 50) (v := 1) dX8_mergeKinds_49 rfl rfl ?_
      refine am_iand (n := 51) dX8_mergeKinds_50 rfl ?_
      rw [shr1 ks (show k < 32 by omega), hbl k hk]
      refine am_iconst (n := 52) (v := 1) dX8_mergeKinds_51 rfl rfl ?_
      by_cases q : E.1 k = c
      · rw [if_pos q] at hFk
        rw [decide_eq_true q, if_pos rfl]
        refine am_icmp_ne (tgt := 59) (n := 55) dX8_mergeKinds_52 (by decide) rfl (fun q_z => absurd rfl q_z) (fun _ => ?_)
        refine am_iload_n (n := 56) (i := 2) dX8_mergeKinds_55 rfl rfl rfl ?_
        refine am_goto (tgt := 68) dX8_mergeKinds_56 (by decide) ?_
        rw [hFk] at t68
        exact t68 _ sb hsb rfl rfl rfl rfl rfl rfl rfl rfl
      · rw [if_neg q] at hFk
        rw [decide_eq_false q, if_neg (by decide)]
        refine am_icmp_ne (tgt := 59) (n := 55) dX8_mergeKinds_52 (by decide) rfl (fun _ => ?_) (fun q_z => absurd q_z (by decide))
        refine am_aload_n (n := 60) (i := 0) dX8_mergeKinds_59 rfl rfl rfl ?_
        refine am_iload_n (n := 61) (i := 1) dX8_mergeKinds_60 rfl rfl rfl ?_
        refine am_iconst (n := 62) (v := 0) dX8_mergeKinds_61 rfl rfl ?_
        refine am_iload (n := 64) dX8_mergeKinds_62 rfl rfl ?_
        refine am_iadd (n := 65) dX8_mergeKinds_64 rfl ?_
        rw [show (0 : Int32) + nI k = nI (0 + k) from nI_add 0 k]
        refine cdX8_mergeKinds_106 (n := 68) dX8_mergeKinds_65 (by first | exact ⟨rfl, rfl⟩ | assumption) (m_at g e (0 + k) h1 he (by omega)) rfl rfl (Nat.le_of_ble_eq_true rfl) (by first | assumption | exact isC_of (by decide +kernel)) rfl ?_
        rw [Nat.zero_add, hx1]
        rw [hFk] at t68
        exact t68 _ sb hsb rfl rfl rfl rfl rfl rfl rfl rfl
    by_cases q : E.2.1 k = c + 1
    · refine am_icmp_ne (tgt := 41) (n := 37) dX8_mergeKinds_34 (by decide) rfl (fun q_z => absurd (by rw [q]) q_z) (fun _ => ?_)
      refine am_iconst (n := 38) (v := 1) dX8_mergeKinds_37 rfl rfl ?_
      refine am_goto (tgt := 42) dX8_mergeKinds_38 (by decide) ?_
      refine am_istore (n := 44) dX8_mergeKinds_42 (Nat.le_of_ble_eq_true rfl) rfl rfl ?_
      exact t44 _ true ⟨fun _ => q, fun _ => rfl⟩ rfl rfl rfl rfl rfl rfl rfl rfl
    · refine am_icmp_ne (tgt := 41) (n := 37) dX8_mergeKinds_34 (by decide) rfl (fun _ => ?_) (fun q_z => absurd q_z (fun z => q ((nI_eq (by omega) (by omega)).mp z)))
      refine am_iconst (n := 42) (v := 0) dX8_mergeKinds_41 rfl rfl ?_
      refine am_istore (n := 44) dX8_mergeKinds_42 (Nat.le_of_ble_eq_true rfl) rfl rfl ?_
      exact t44 _ false ⟨fun z => (by cases z), fun z => absurd z q⟩ rfl rfl rfl rfl rfl rfl rfl rfl
