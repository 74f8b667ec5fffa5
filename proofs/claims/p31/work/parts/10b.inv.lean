/-! THE CLASS: its state, recordChange -/
section AMN
variable {g : Gx} {M : MI} {Z : Zt} {pc n tgt : Nat} {l : Lo} {st : List Value} {h : Hp}
theorem am_aloadN {i : Nat} (hd : decode M.2.1 pc = .ok (.aload i, 2)) (hl : lget l i = some .null) (hn : pc + 2 = n) (kk : AW g M Z n l (.null :: st) h) : AW g M Z pc l st h := by
  subst hn
  intro p e s m args below meth c H locs ls F hP hS hL
  exact lv_aloadN F.1 F.2.1 hd (hL.2.2 _ _ hl) (kk p e s m args below meth c H locs ls F hP hS hL)
theorem am_aload_nN {i : Nat} {k : Fin 4} (hd : decode M.2.1 pc = .ok (.aload_n k, 1)) (hi : (k : Nat) = i) (hl : lget l i = some .null) (hn : pc + 1 = n) (kk : AW g M Z n l (.null :: st) h) : AW g M Z pc l st h := by
  subst hn
  intro p e s m args below meth c H locs ls F hP hS hL
  exact lv_aload_nN F.1 F.2.1 hd hi (hL.2.2 _ _ hl) (kk p e s m args below meth c H locs ls F hP hS hL)
theorem am_astoreN {i : Nat} (hd : decode M.2.1 pc = .ok (.astore i, 2)) (hi2 : i < M.2.2.2.1) (hok : okst l i = true) (hn : pc + 2 = n) (kk : AW g M Z n ((i, some .null) :: l) st h) : AW g M Z pc l (.null :: st) h := by
  subst hn
  intro p e s m args below meth c H locs ls F hP hS hL
  exact lv_astoreN F.1 F.2.1 hd hL.conc hi2 rfl (fun ls' hl' => kk p e s m args below meth c H locs ls' F hP hS (hL.st1 (v := .null) hok hl'))
theorem am_astore_nN {i : Nat} {k : Fin 4} (hd : decode M.2.1 pc = .ok (.astore_n k, 1)) (hi : (k : Nat) = i) (hi2 : i < M.2.2.2.1) (hok : okst l i = true) (hn : pc + 1 = n) (kk : AW g M Z n ((i, some .null) :: l) st h) : AW g M Z pc l (.null :: st) h := by
  subst hn
  intro p e s m args below meth c H locs ls F hP hS hL
  exact lv_astore_nN F.1 F.2.1 hd hi hL.conc hi2 rfl (fun ls' hl' => kk p e s m args below meth c H locs ls' F hP hS (hL.st1 (v := .null) hok hl'))
end AMN
abbrev GS : Type := SV × List SV × (Option SV × Option SV) × List Nat
theorem st_all : (List.range 9).all (fun s => (cellsState (100 * (s + 1))).all (fun t => tbl.elem t)) = true := by decide +kernel
theorem isSt_b (s : Nat) (hs : s < 9) : isSt (100 * (s + 1)) := by
  have h1 := List.all_eq_true.mp st_all s (List.mem_range.mpr hs)
  have key : ∀ t, t ∈ cellsState (100 * (s + 1)) → t ∈ tbl := fun t ht => List.elem_iff.mp (List.all_eq_true.mp h1 t ht)
  refine ⟨key _ ?_, key _ ?_, key _ ?_, fun e he => ?_⟩
  · exact List.mem_append_left _ List.mem_cons_self
  · exact List.mem_append_left _ (List.mem_cons_of_mem _ List.mem_cons_self)
  · exact List.mem_append_left _ (List.mem_cons_of_mem _ (List.mem_cons_of_mem _ List.mem_cons_self))
  · have k2 : ∀ t, t ∈ cellsEar (100 * (s + 1) + 10 * (e + 1)) → t ∈ tbl := fun t ht => key t (List.mem_append_right _ (List.mem_flatMap.mpr ⟨e, List.mem_range.mpr he, ht⟩))
    exact ⟨k2 _ (by simp [cellsEar]), k2 _ (by simp [cellsEar]), k2 _ (by simp [cellsEar]), k2 _ (by simp [cellsEar]), k2 _ (by simp [cellsEar]), k2 _ (by simp [cellsEar]), k2 _ (by simp [cellsEar])⟩
theorem isSt_now : isSt 100 := isSt_b 0 (by decide)
theorem isSt_p {f : Nat} (hf : f < 6) : isSt (200 + 100 * f) := by
  have := isSt_b (f + 1) (by omega)
  rw [show 100 * (f + 1 + 1) = 200 + 100 * f by omega] at this
  exact this
theorem isSt_s0 : isSt 800 := isSt_b 7 (by decide)
theorem isSt_s1 : isSt 900 := isSt_b 8 (by decide)
theorem isDr_6 : isDr 6 := ⟨isC_of (by decide +kernel), isC_of (by decide +kernel), isC_of (by decide +kernel), isC_of (by decide +kernel), isC_of (by decide +kernel), isC_of (by decide +kernel)⟩
theorem isDr_12 : isDr 12 := ⟨isC_of (by decide +kernel), isC_of (by decide +kernel), isC_of (by decide +kernel), isC_of (by decide +kernel), isC_of (by decide +kernel), isC_of (by decide +kernel)⟩
theorem isMt_18 : isMt 18 := ⟨isC_of (by decide +kernel), isC_of (by decide +kernel), isC_of (by decide +kernel)⟩
theorem isPd_4 : isPd 4 := ⟨isC_of (by decide +kernel), isC_of (by decide +kernel)⟩
theorem isEar_30 : isEar 30 := ⟨isC_of (by decide +kernel), isC_of (by decide +kernel), isC_of (by decide +kernel), isC_of (by decide +kernel), isC_of (by decide +kernel), isC_of (by decide +kernel), isC_of (by decide +kernel)⟩
theorem isC_0 : isC 0 5 0 := isC_of (by decide +kernel)
theorem isC_1 : isC 1 12 6 := isC_of (by decide +kernel)
theorem isC_2 : isC 2 12 2 := isC_of (by decide +kernel)
theorem isC_3 : isC 3 10 2 := isC_of (by decide +kernel)
theorem setP_s (h : Hp) (k : Nat) (r : Nat → Nat) : (setP h k r).2.2 k = r := va_up_self _ _ _
theorem setP_n (h : Hp) {k c : Nat} (r : Nat → Nat) (hc : c ≠ k) : (setP h k r).2.2 c = h.2.2 c := va_up_ne _ _ hc
def XP (past : List SV) (h : Hp) : Prop := h.1 0 2 = nI past.length ∧ past.length ≤ 6 ∧ ∃ f : Nat → Nat, (∀ j, j < 6 → f j < 6 ∧ h.2.2 1 j = 200 + 100 * f j) ∧ (∀ i j, i < 6 → j < 6 → f i = f j → i = j) ∧ ∀ (j : Nat) (S : SV), past[j]? = some S → RS (200 + 100 * f j) S h ∧ VS S
def XS (sl : Option SV × Option SV) (h : Hp) : Prop := h.2.2 2 0 = 800 ∧ h.2.2 2 1 = 900 ∧ h.1 3 0 = bI sl.1.isSome ∧ h.1 3 1 = bI sl.2.isSome ∧ (∀ S, sl.1 = some S → RS 800 S h ∧ VS S) ∧ (∀ S, sl.2 = some S → RS 900 S h ∧ VS S)
/-- the class holds this state -/
def XI (G : GS) (h : Hp) : Prop := RS 100 G.1 h ∧ VS G.1 ∧ XP G.2.1 h ∧ XS G.2.2.1 h ∧ RP 4 G.2.2.2 h ∧ VP G.2.2.2
/-- the reference's cells are as they were -/
def FM (h h' : Hp) : Prop := ∀ c, 40 ≤ c → c < 60 → h'.1 c = h.1 c ∧ h'.2.1 c = h.2.1 c
theorem FM.rf {h : Hp} : FM h h := fun _ _ _ => ⟨rfl, rfl⟩
theorem FM.tr {h h1 h2 : Hp} (a : FM h h1) (b : FM h1 h2) : FM h h2 := fun c c1 c2 => ⟨(b c c1 c2).1.trans (a c c1 c2).1, (b c c1 c2).2.trans (a c c1 c2).2⟩
theorem FM.fr {lo hi : Nat} {h h' : Hp} (f : Fr lo hi h h') (hd : hi < 40 ∨ 60 ≤ lo) : FM h h' := fun c _ _ => f.1 c (by omega)
theorem FM.fi {lo hi : Nat} {h h' : Hp} (f : FrI lo hi h h') (hd : hi < 40 ∨ 60 ≤ lo) : FM h h' := FM.fr f.toFr hd
theorem RP.kept {k : Nat} {p : List Nat} {h h' : Hp} (r : RP k p h) (f0 : h'.1 k = h.1 k) (f1 : h'.1 (k + 1) = h.1 (k + 1)) : RP k p h' := ⟨by rw [f0]; exact r.1, fun i c hc => by rw [f1]; exact r.2 i c hc⟩
theorem XP.kept {past : List SV} {h h' : Hp} (x : XP past h) (f0 : h'.1 0 = h.1 0) (p : h'.2.2 = h.2.2) (f : ∀ c, 200 ≤ c → c < 800 → h'.1 c = h.1 c ∧ h'.2.1 c = h.2.1 c) : XP past h' := by
  obtain ⟨x1, x2, q, x3, x4, x5⟩ := x
  refine ⟨by rw [f0]; exact x1, x2, q, fun j hj => ⟨(x3 j hj).1, by rw [p]; exact (x3 j hj).2⟩, x4, fun j S hS => ?_⟩
  have hj := (List.getElem?_eq_some_iff.mp hS).1
  have := (x3 j (by omega)).1
  exact ⟨(x5 j S hS).1.kept (x5 j S hS).2 (fun c c1 c2 => f c (by omega) (by omega)), (x5 j S hS).2⟩
theorem XS.kept {sl : Option SV × Option SV} {h h' : Hp} (x : XS sl h) (f3 : h'.1 3 = h.1 3) (p : h'.2.2 = h.2.2) (f : ∀ c, 800 ≤ c → h'.1 c = h.1 c ∧ h'.2.1 c = h.2.1 c) : XS sl h' := by
  obtain ⟨x1, x2, x3, x4, x5, x6⟩ := x
  exact ⟨by rw [p]; exact x1, by rw [p]; exact x2, by rw [f3]; exact x3, by rw [f3]; exact x4, fun S hS => ⟨(x5 S hS).1.kept (x5 S hS).2 (fun c c1 c2 => f c (by omega)), (x5 S hS).2⟩, fun S hS => ⟨(x6 S hS).1.kept (x6 S hS).2 (fun c c1 c2 => f c (by omega)), (x6 S hS).2⟩⟩
theorem XI.kept {G : GS} {h h' : Hp} (x : XI G h) (f : ∀ c, (c ≤ 5 ∨ 100 ≤ c) → h'.1 c = h.1 c ∧ h'.2.1 c = h.2.1 c) (p : h'.2.2 = h.2.2) : XI G h' :=
  ⟨x.1.kept x.2.1 (fun c c1 c2 => f c (by omega)), x.2.1, x.2.2.1.kept (f 0 (by omega)).1 p (fun c c1 c2 => f c (by omega)), x.2.2.2.1.kept (f 3 (by omega)).1 p (fun c c1 => f c (by omega)), x.2.2.2.2.1.kept (f 4 (by omega)).1 (f 5 (by omega)).1, x.2.2.2.2.2⟩
theorem XI.scr {G : GS} {lo hi : Nat} {h h' : Hp} (x : XI G h) (f : FrI lo hi h h') (h1 : 6 ≤ lo) (h2 : hi < 100) : XI G h' := x.kept (fun c hc => f.toFr.1 c (by omega)) f.toFr.2
/-- the state that is now changes -/
theorem XI.now {G : GS} {S : SV} {h h' : Hp} (x : XI G h) (r : RS 100 S h') (v : VS S) (f : Fr 100 146 h h') : XI (S, G.2) h' :=
  ⟨r, v, x.2.2.1.kept (f.1 0 (by omega)).1 f.2 (fun c c1 c2 => f.1 c (by omega)), x.2.2.2.1.kept (f.1 3 (by omega)).1 f.2 (fun c c1 => f.1 c (by omega)), x.2.2.2.2.1.kept (f.1 4 (by omega)).1 (f.1 5 (by omega)).1, x.2.2.2.2.2⟩
theorem XI.pad {G : GS} {p : List Nat} {h h' : Hp} (x : XI G h) (r : RP 4 p h') (v : VP p) (f : FrI 4 5 h h') : XI (G.1, G.2.1, G.2.2.1, p) h' :=
  ⟨x.1.kept x.2.1 (fun c c1 c2 => f.toFr.1 c (by omega)), x.2.1, x.2.2.1.kept (f.1 0 (by omega)) f.toFr.2 (fun c c1 c2 => f.toFr.1 c (by omega)), x.2.2.2.1.kept (f.1 3 (by omega)) f.toFr.2 (fun c c1 => f.toFr.1 c (by omega)), r, v⟩
def pushP (past : List SV) (S : SV) : List SV := if past.length < 6 then past ++ [S] else past.tail ++ [S]
set_option maxRecDepth 100000 in
set_option maxHeartbeats 1600000 in
theorem ac_X7_recordChange (g : Gx) (G : GS) (h : Hp) (hX : XI G h) : AC g yX7_recordChange wsX7_recordChange rmX7_recordChange [.ref 0] h (fun v h' => v = none ∧ XI (G.1, pushP G.2.1 G.1, G.2.2) h' ∧ FM h h' ∧ (∀ c, 100 ≤ c → c < 200 → h'.1 c = h.1 c ∧ h'.2.1 c = h.2.1 c)) := by
  have c0 := isC_0
  have c1 := isC_1
  generalize hZ : ZP g (fun v h' => v = none ∧ XI (G.1, pushP G.2.1 G.1, G.2.2) h' ∧ FM h h' ∧ (∀ c, 100 ≤ c → c < 200 → h'.1 c = h.1 c ∧ h'.2.1 c = h.2.1 c)) = Z
  have z0 : Z.1 = 0 ∧ Z.2.1 = 0 := by rw [← hZ]; exact ⟨rfl, rfl⟩
  refine AC.of (cc := cX7_recordChange) (maxL := 3) (ret := none) (by decide +kernel) rfl (Nat.le_of_ble_eq_true rfl) ?_
  show AW g mmX7_recordChange _ 0 [(0, some (.ref 0))] [] _
  rw [hZ]
  have t74 : ∀ (past : List SV) (h1 : Hp) (l : Lo), past.length < 6 → past ++ [G.1] = pushP G.2.1 G.1 → XI (G.1, past, G.2.2) h1 → FM h h1 → (∀ c, 100 ≤ c → c < 200 → h1.1 c = h.1 c ∧ h1.2.1 c = h.2.1 c) → lget l 0 = some (.ref 0) → AW g mmX7_recordChange Z 74 l [] h1 := by
    intro past h1 l hp hpp X F F2 l0
    refine am_loc [(0, some (.ref 0))] (by simp only [List.map_cons, List.map_nil, l0]) ?_
    obtain ⟨xR, xV, ⟨x1, x2, q, x3, x4, x5⟩, xS, xP⟩ := X
    have hq := x3 past.length hp
    have hst := isSt_p hq.1
    have hstn := isSt_now
    first | refine am_aload_n (n := 75) (i := 0) dX7_recordChange_74 rfl rfl rfl ?_ | refine am_aload_nN (n := 75) (i := 0) dX7_recordChange_74 rfl rfl rfl ?_
    refine gfX7_recordChange_16 (n := 78) dX7_recordChange_75 (by first | assumption | exact isC_of (by decide +kernel)) rfl ?_
    first | refine am_aload_n (n := 79) (i := 0) dX7_recordChange_78 rfl rfl rfl ?_ | refine am_aload_nN (n := 79) (i := 0) dX7_recordChange_78 rfl rfl rfl ?_
    refine gfX7_recordChange_20 (n := 82) dX7_recordChange_79 (by first | assumption | exact isC_of (by decide +kernel)) rfl ?_
    rw [show h1.1 0 2 = nI past.length from x1]
    refine am_aldS (n := 83) dX7_recordChange_82 (by first | assumption | exact isC_of (by decide +kernel)) (by first | assumption | exact vp_in_nI (by omega) (by omega) | exact vp_in_iff.mpr (by decide)) rfl ?_
    rw [nI_clamp (by omega), hq.2]
    have hi1 := hst.1
    first | refine am_aload_n (n := 84) (i := 0) dX7_recordChange_83 rfl rfl rfl ?_ | refine am_aload_nN (n := 84) (i := 0) dX7_recordChange_83 rfl rfl rfl ?_
    refine gfX7_recordChange_10 (n := 87) dX7_recordChange_84 (by first | assumption | exact isC_of (by decide +kernel)) rfl ?_
    refine caX7_recordChange_248 (n := 90) dX7_recordChange_87 (by first | exact ⟨rfl, rfl⟩ | assumption) (ac_X5_beAs g (200 + 100 * q past.length) 100 G.1 h1 hst hstn xR xV (by omega)) rfl rfl (Nat.le_of_ble_eq_true rfl) (by first | assumption | exact isC_of (by decide +kernel)) rfl ?_
    rintro r h2 ⟨rfl, R2, FF⟩
    first | refine am_aload_n (n := 91) (i := 0) dX7_recordChange_90 rfl rfl rfl ?_ | refine am_aload_nN (n := 91) (i := 0) dX7_recordChange_90 rfl rfl rfl ?_
    refine am_dup (n := 92) dX7_recordChange_91 rfl rfl ?_
    refine gfX7_recordChange_20 (n := 95) dX7_recordChange_92 (by first | assumption | exact isC_of (by decide +kernel)) rfl ?_
    rw [(FF.1 0 (by omega)).1, show h1.1 0 2 = nI past.length from x1]
    refine am_iconst (n := 96) (v := 1) dX7_recordChange_95 rfl rfl ?_
    refine am_iadd (n := 97) dX7_recordChange_96 rfl ?_
    rw [nI_1, ← hZ]
    refine pfX7_recordChange_20 (n := 100) dX7_recordChange_97 (by first | assumption | exact isC_of (by decide +kernel)) rfl ?_
    refine am_vret dX7_recordChange_100 rfl ?_
    have fB : ∀ c, c ≠ 0 → (setI h2 0 (upd (h2.1 0) 2 (nI (past.length + 1)))).1 c = h2.1 c := fun c hc => setI_n _ _ hc
    have hlt : ∀ j, j < past.length → q j ≠ q past.length := fun j hj e => by have := x4 j past.length (by omega) hp e; omega
    refine ⟨rfl, ⟨?_, xV, ⟨?_, ?_, q, fun j hj => ⟨(x3 j hj).1, (congrFun (congrFun FF.2 1) j).trans (x3 j hj).2⟩, x4, fun j S hS => ?_⟩, ?_, ?_⟩, ?_, ?_⟩
    · exact xR.kept xV (fun c w1 w2 => ⟨(fB c (by omega)).trans (FF.1 c (by omega)).1, (FF.1 c (by omega)).2⟩)
    · rw [← hpp, setI_s, pk_us, List.length_append]
      rfl
    · rw [← hpp, List.length_append]
      exact hp
    · rw [← hpp] at hS
      by_cases z : j = past.length
      · subst z
        rw [List.getElem?_append_right (Nat.le_refl _), Nat.sub_self, List.getElem?_cons_zero] at hS
        rw [← Option.some.inj hS]
        exact ⟨R2.kept xV (fun c w1 w2 => ⟨fB c (by omega), rfl⟩), xV⟩
      · have hjl := (List.getElem?_eq_some_iff.mp hS).1
        rw [List.length_append] at hjl
        simp at hjl
        rw [List.getElem?_append_left (by omega)] at hS
        have hqj := hlt j (by omega)
        have hq6 := (x3 j (by omega)).1
        obtain ⟨y1, y2⟩ := x5 j S hS
        refine ⟨y1.kept y2 (fun c w1 w2 => ⟨?_, (FF.1 c (by omega)).2⟩), y2⟩
        exact (fB c (by omega)).trans (FF.1 c (by omega)).1
    · refine xS.kept ?_ FF.2 (fun c w1 => ⟨?_, (FF.1 c (by omega)).2⟩)
      · exact (fB 3 (by omega)).trans (FF.1 3 (by omega)).1
      · exact (fB c (by omega)).trans (FF.1 c (by omega)).1
    · refine ⟨xP.1.kept ?_ ?_, xP.2⟩
      · exact (fB 4 (by omega)).trans (FF.1 4 (by omega)).1
      · exact (fB 5 (by omega)).trans (FF.1 5 (by omega)).1
    · refine F.tr (fun c w1 w2 => ⟨?_, (FF.1 c (by omega)).2⟩)
      exact (fB c (by omega)).trans (FF.1 c (by omega)).1
    · intro c w1 w2
      exact ⟨(fB c (by omega)).trans ((FF.1 c (by omega)).1.trans (F2 c w1 w2).1), (FF.1 c (by omega)).2.trans (F2 c w1 w2).2⟩
  obtain ⟨x1, x2, q, x3, x4, x5⟩ := hX.2.2.1
  first | refine am_aload_n (n := 1) (i := 0) dX7_recordChange_0 rfl rfl rfl ?_ | refine am_aload_nN (n := 1) (i := 0) dX7_recordChange_0 rfl rfl rfl ?_
  refine gfX7_recordChange_20 (n := 4) dX7_recordChange_1 (by first | assumption | exact isC_of (by decide +kernel)) rfl ?_
  first | refine am_aload_n (n := 5) (i := 0) dX7_recordChange_4 rfl rfl rfl ?_ | refine am_aload_nN (n := 5) (i := 0) dX7_recordChange_4 rfl rfl rfl ?_
  refine gfX7_recordChange_16 (n := 8) dX7_recordChange_5 (by first | assumption | exact isC_of (by decide +kernel)) rfl ?_
  refine am_alen (n := 9) dX7_recordChange_8 (by first | assumption | exact isC_of (by decide +kernel)) (by decide) rfl rfl ?_
  rw [x1]
  rcases Nat.lt_or_ge G.2.1.length 6 with hl | hl
  · refine am_icmp_lt (tgt := 74) (n := 12) dX7_recordChange_9 (by decide) rfl (fun _ => ?_) (fun q_z => absurd (nI_lt hl (by decide)) q_z)
    exact t74 G.2.1 h _ hl (by unfold pushP; rw [if_pos hl]) hX FM.rf (fun _ _ _ => ⟨rfl, rfl⟩) rfl
  · have h6 : G.2.1.length = 6 := by omega
    have hp : ∀ i, i < 6 → (h.2.2 1 i = 200 + 100 * q i ∧ isC (h.2.2 1 i) 4 0) := fun i hi => ⟨(x3 i hi).2, by rw [(x3 i hi).2]; exact (isSt_p (x3 i hi).1).1⟩
    refine am_icmp_lt (tgt := 74) (n := 12) dX7_recordChange_9 (by decide) rfl (fun q_z => absurd q_z (nI_nlt (by omega) (by omega))) (fun _ => ?_)
    first | refine am_aload_n (n := 13) (i := 0) dX7_recordChange_12 rfl rfl rfl ?_ | refine am_aload_nN (n := 13) (i := 0) dX7_recordChange_12 rfl rfl rfl ?_
    refine gfX7_recordChange_16 (n := 16) dX7_recordChange_13 (by first | assumption | exact isC_of (by decide +kernel)) rfl ?_
    refine am_iconst (n := 17) (v := 0) dX7_recordChange_16 rfl rfl ?_
    refine am_aldS (n := 18) dX7_recordChange_17 (by first | assumption | exact isC_of (by decide +kernel)) (by first | assumption | exact vp_in_nI (by omega) (by omega) | exact vp_in_iff.mpr (by decide)) rfl ?_
    first | refine am_astore_n (n := 19) (i := 1) dX7_recordChange_18 rfl (Nat.le_of_ble_eq_true rfl) rfl rfl ?_ | refine am_astore_nN (n := 19) (i := 1) dX7_recordChange_18 rfl (Nat.le_of_ble_eq_true rfl) rfl rfl ?_
    refine am_iconst (n := 20) (v := 1) dX7_recordChange_19 rfl rfl ?_
    refine am_istore_n (n := 21) (i := 2) dX7_recordChange_20 rfl (Nat.le_of_ble_eq_true rfl) rfl rfl ?_
    rw [show (0 : Int32).toNatClampNeg = 0 from rfl]
    refine am_loc [(0, some (.ref 0)), (1, some (.ref (h.2.2 1 0))), (2, some (.int (nI (0 + 1))))] rfl ?_
    refine loop_up (Wp := fun i => ∀ h1 : Hp, h1.1 = h.1 → h1.2.1 = h.2.1 → (∀ c, c ≠ 1 → h1.2.2 c = h.2.2 c) → (∀ j, j < 6 → h1.2.2 1 j = if j < i then h.2.2 1 (j + 1) else h.2.2 1 j) → AW g mmX7_recordChange Z 21 [(0, some (.ref 0)), (1, some (.ref (h.2.2 1 0))), (2, some (.int (nI (i + 1))))] [] h1) 5 ?_ ?_ 0 (by omega) h rfl rfl (fun _ _ => rfl) (fun j hj => by rw [if_neg (by omega)])
    · intro h1 e1 e2 e3 H
      have hq0 := (hp 0 (by omega)).2
      refine am_iload_n (n := 22) (i := 2) dX7_recordChange_21 rfl rfl rfl ?_
      first | refine am_aload_n (n := 23) (i := 0) dX7_recordChange_22 rfl rfl rfl ?_ | refine am_aload_nN (n := 23) (i := 0) dX7_recordChange_22 rfl rfl rfl ?_
      refine gfX7_recordChange_16 (n := 26) dX7_recordChange_23 (by first | assumption | exact isC_of (by decide +kernel)) rfl ?_
      refine am_alen (n := 27) dX7_recordChange_26 (by first | assumption | exact isC_of (by decide +kernel)) (by decide) rfl rfl ?_
      refine am_icmp_ge (tgt := 50) (n := 30) dX7_recordChange_27 (by decide) rfl (fun _ => ?_) (fun q_z => absurd (by decide) q_z)
      first | refine am_aload_n (n := 51) (i := 0) dX7_recordChange_50 rfl rfl rfl ?_ | refine am_aload_nN (n := 51) (i := 0) dX7_recordChange_50 rfl rfl rfl ?_
      refine gfX7_recordChange_16 (n := 54) dX7_recordChange_51 (by first | assumption | exact isC_of (by decide +kernel)) rfl ?_
      first | refine am_aload_n (n := 55) (i := 0) dX7_recordChange_54 rfl rfl rfl ?_ | refine am_aload_nN (n := 55) (i := 0) dX7_recordChange_54 rfl rfl rfl ?_
      refine gfX7_recordChange_16 (n := 58) dX7_recordChange_55 (by first | assumption | exact isC_of (by decide +kernel)) rfl ?_
      refine am_alen (n := 59) dX7_recordChange_58 (by first | assumption | exact isC_of (by decide +kernel)) (by decide) rfl rfl ?_
      refine am_iconst (n := 60) (v := 1) dX7_recordChange_59 rfl rfl ?_
      refine am_isub (n := 61) dX7_recordChange_60 rfl ?_
      first | refine am_aload_n (n := 62) (i := 1) dX7_recordChange_61 rfl rfl rfl ?_ | refine am_aload_nN (n := 62) (i := 1) dX7_recordChange_61 rfl rfl rfl ?_
      refine am_astS (n := 63) dX7_recordChange_62 (by first | assumption | exact isC_of (by decide +kernel)) (by first | assumption | exact isC_of (by decide +kernel)) (by first | assumption | exact vp_in_nI (by omega) (by omega) | exact vp_in_iff.mpr (by decide)) rfl ?_
      first | refine am_aload_n (n := 64) (i := 0) dX7_recordChange_63 rfl rfl rfl ?_ | refine am_aload_nN (n := 64) (i := 0) dX7_recordChange_63 rfl rfl rfl ?_
      first | refine am_aload_n (n := 65) (i := 0) dX7_recordChange_64 rfl rfl rfl ?_ | refine am_aload_nN (n := 65) (i := 0) dX7_recordChange_64 rfl rfl rfl ?_
      refine gfX7_recordChange_16 (n := 68) dX7_recordChange_65 (by first | assumption | exact isC_of (by decide +kernel)) rfl ?_
      refine am_alen (n := 69) dX7_recordChange_68 (by first | assumption | exact isC_of (by decide +kernel)) (by decide) rfl rfl ?_
      refine am_iconst (n := 70) (v := 1) dX7_recordChange_69 rfl rfl ?_
      refine am_isub (n := 71) dX7_recordChange_70 rfl ?_
      refine pfX7_recordChange_20 (n := 74) dX7_recordChange_71 (by first | assumption | exact isC_of (by decide +kernel)) rfl ?_
      have hmod : ∀ j, j < 6 → (if j = 5 then q 0 else q (j + 1)) < 6 := fun j hj => by
        by_cases z : j = 5
        · rw [if_pos z]; exact (x3 0 (by omega)).1
        · rw [if_neg z]; exact (x3 (j + 1) (by omega)).1
      refine t74 G.2.1.tail _ _ (by rw [List.length_tail]; omega) (by unfold pushP; rw [if_neg (by omega)]) ?_ (fun c w1 w2 => ⟨(setI_n _ _ (by omega)).trans (congrFun e1 c), congrFun e2 c⟩) (fun c w1 w2 => ⟨(setI_n _ _ (by omega)).trans (congrFun e1 c), congrFun e2 c⟩) rfl
      have fS : ∀ (S : SV) (b : Nat), 100 ≤ b → RS b S h → VS S → RS b S (setI (setP h1 1 (va_up (h1.2.2 1) ((6 : Int32) - 1).toNatClampNeg (h.2.2 1 0))) 0 (upd ((setP h1 1 (va_up (h1.2.2 1) ((6 : Int32) - 1).toNatClampNeg (h.2.2 1 0))).1 0) 2 ((6 : Int32) - 1))) := fun S b hb r v => r.kept v (fun c w1 w2 => ⟨(setI_n _ _ (by omega)).trans (congrFun e1 c), congrFun e2 c⟩)
      refine ⟨fS _ _ (by omega) hX.1 hX.2.1, hX.2.1, ⟨?_, by rw [List.length_tail]; omega, fun j => if j = 5 then q 0 else q (j + 1), fun j hj => ⟨hmod j hj, ?_⟩, fun i j hi hj e => ?_, fun j S hS => ?_⟩, ?_, ?_, hX.2.2.2.2.2⟩
      · rw [setI_s, pk_us, List.length_tail, h6]
        rfl
      · show va_up (h1.2.2 1) 5 (h.2.2 1 0) j = 200 + 100 * (if j = 5 then q 0 else q (j + 1))
        by_cases z : j = 5
        · subst z
          rw [va_up_self, if_pos rfl]
          exact (hp 0 (by omega)).1
        · rw [va_up_ne _ _ z, if_neg z, H j hj, if_pos (by omega)]
          exact (hp (j + 1) (by omega)).1
      · have e : (if i = 5 then q 0 else q (i + 1)) = (if j = 5 then q 0 else q (j + 1)) := e
        by_cases zi : i = 5 <;> by_cases zj : j = 5
        · omega
        · rw [if_pos zi, if_neg zj] at e
          have := x4 0 (j + 1) (by omega) (by omega) e
          omega
        · rw [if_neg zi, if_pos zj] at e
          have := x4 (i + 1) 0 (by omega) (by omega) e
          omega
        · rw [if_neg zi, if_neg zj] at e
          have := x4 (i + 1) (j + 1) (by omega) (by omega) e
          omega
      · rw [List.getElem?_tail] at hS
        have hjl := (List.getElem?_eq_some_iff.mp hS).1
        have ej : (fun j => if j = 5 then q 0 else q (j + 1)) j = q (j + 1) := if_neg (by omega)
        rw [ej]
        exact ⟨fS _ _ (by omega) (x5 (j + 1) S hS).1 (x5 (j + 1) S hS).2, (x5 (j + 1) S hS).2⟩
      · obtain ⟨s1, s2, s3, s4, s5, s6⟩ := hX.2.2.2.1
        refine ⟨?_, ?_, ?_, ?_, fun S hS => ⟨fS _ _ (by omega) (s5 S hS).1 (s5 S hS).2, (s5 S hS).2⟩, fun S hS => ⟨fS _ _ (by omega) (s6 S hS).1 (s6 S hS).2, (s6 S hS).2⟩⟩
        · exact (congrFun (setP_n h1 _ (show 2 ≠ 1 by omega)) 0).trans ((congrFun (e3 2 (by omega)) 0).trans s1)
        · exact (congrFun (setP_n h1 _ (show 2 ≠ 1 by omega)) 1).trans ((congrFun (e3 2 (by omega)) 1).trans s2)
        · rw [setI_n _ _ (by omega)]
          show h1.1 3 0 = _
          rw [e1]
          exact s3
        · rw [setI_n _ _ (by omega)]
          show h1.1 3 1 = _
          rw [e1]
          exact s4
      · exact hX.2.2.2.2.1.kept ((setI_n _ _ (by omega)).trans (congrFun e1 4)) ((setI_n _ _ (by omega)).trans (congrFun e1 5))
    · intro i hi K h1 e1 e2 e3 H
      have hq1 : isC (h1.2.2 1 (i + 1)) 4 0 := by
        rw [H (i + 1) (by omega), if_neg (by omega)]
        exact (hp (i + 1) (by omega)).2
      have hin : vp_in (nI (i + 1)) 6 := vp_in_nI (by omega) (by decide)
      have hin2 : vp_in (nI i) 6 := vp_in_nI (by omega) (by decide)
      refine am_iload_n (n := 22) (i := 2) dX7_recordChange_21 rfl rfl rfl ?_
      first | refine am_aload_n (n := 23) (i := 0) dX7_recordChange_22 rfl rfl rfl ?_ | refine am_aload_nN (n := 23) (i := 0) dX7_recordChange_22 rfl rfl rfl ?_
      refine gfX7_recordChange_16 (n := 26) dX7_recordChange_23 (by first | assumption | exact isC_of (by decide +kernel)) rfl ?_
      refine am_alen (n := 27) dX7_recordChange_26 (by first | assumption | exact isC_of (by decide +kernel)) (by decide) rfl rfl ?_
      refine am_icmp_ge (tgt := 50) (n := 30) dX7_recordChange_27 (by decide) rfl (fun q_z => absurd q_z (nI_ge (show i + 1 < 6 by omega) (by decide))) (fun _ => ?_)
      first | refine am_aload_n (n := 31) (i := 0) dX7_recordChange_30 rfl rfl rfl ?_ | refine am_aload_nN (n := 31) (i := 0) dX7_recordChange_30 rfl rfl rfl ?_
      refine gfX7_recordChange_16 (n := 34) dX7_recordChange_31 (by first | assumption | exact isC_of (by decide +kernel)) rfl ?_
      refine am_iload_n (n := 35) (i := 2) dX7_recordChange_34 rfl rfl rfl ?_
      refine am_iconst (n := 36) (v := 1) dX7_recordChange_35 rfl rfl ?_
      refine am_isub (n := 37) dX7_recordChange_36 rfl ?_
      rw [nI_pred]
      first | refine am_aload_n (n := 38) (i := 0) dX7_recordChange_37 rfl rfl rfl ?_ | refine am_aload_nN (n := 38) (i := 0) dX7_recordChange_37 rfl rfl rfl ?_
      refine gfX7_recordChange_16 (n := 41) dX7_recordChange_38 (by first | assumption | exact isC_of (by decide +kernel)) rfl ?_
      refine am_iload_n (n := 42) (i := 2) dX7_recordChange_41 rfl rfl rfl ?_
      refine am_aldS (n := 43) dX7_recordChange_42 (by first | assumption | exact isC_of (by decide +kernel)) (by first | assumption | exact vp_in_nI (by omega) (by omega) | exact vp_in_iff.mpr (by decide)) rfl ?_
      rw [nI_clamp (by omega)]
      refine am_astS (n := 44) dX7_recordChange_43 (by first | assumption | exact isC_of (by decide +kernel)) (by first | assumption | exact isC_of (by decide +kernel)) (by first | assumption | exact vp_in_nI (by omega) (by omega) | exact vp_in_iff.mpr (by decide)) rfl ?_
      first | refine am_iincN (n := 47) dX7_recordChange_44 rfl rfl rfl ?_ | refine am_iinc1 (n := 47) dX7_recordChange_44 rfl rfl rfl ?_
      refine am_goto (tgt := 21) dX7_recordChange_47 (by decide) ?_
      rw [nI_clamp (by omega)]
      refine am_loc _ rfl (K _ e1 e2 (fun c hc => ?_) (fun j hj => ?_))
      · exact (va_up_ne _ _ hc).trans (e3 c hc)
      · rw [setP_s]
        by_cases z : j = i
        · subst z
          rw [va_up_self, if_pos (by omega), H (j + 1) (by omega), if_neg (by omega)]
        · rw [va_up_ne _ _ z, H j hj]
          by_cases w : j < i
          · rw [if_pos w, if_pos (by omega)]
          · rw [if_neg w, if_neg (by omega)]
