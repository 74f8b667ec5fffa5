/-! THE BRIDGE: what the constructors made is the world of the abstract machine, at first -/
def I0 (k j : Nat) : Int32 :=
  if k < 100 then (if k = 41 then (if j = 1 then 24 else 0) else if k = 31 then firstK j else if k = 32 then -6 else 0)
  else if k % 100 = 0 then (if j = 0 then 4 else if j = 1 then 24 else 0)
  else if k % 100 < 10 then 0
  else if k % 10 = 1 then firstK j else if k % 10 = 2 then -6 else 0
def hI : Hp := (I0, fun _ _ => 0, fun k j => if k = 1 then 200 + 100 * j else 800 + 100 * j)
def G0 : GS := ((4, 24, [], []), [], (none, none), [])
theorem VS0 : VS (4, 24, [], []) := ⟨⟨by decide, by decide⟩, ⟨by decide, by decide⟩, by decide, (fun w h => absurd h List.not_mem_nil), by decide, (fun E h => absurd h List.not_mem_nil)⟩
theorem gn {α : Type} {i : Nat} {x : α} {P : Prop} (h : ([] : List α)[i]? = some x) : P := by simp at h
theorem no_s {α : Type} {x : α} {P : Prop} (h : (none : Option α) = some x) : P := by cases h
theorem XI0 : XI G0 hI :=
  ⟨⟨rfl, rfl, rfl, rfl, fun i w h => gn h, fun e E h => gn h⟩, VS0, ⟨rfl, by decide, fun j => j, fun j hj => ⟨hj, rfl⟩, fun i j _ _ e => e, fun j S h => gn h⟩, ⟨rfl, rfl, rfl, rfl, fun S h => no_s h, fun S h => no_s h⟩, ⟨rfl, fun i c h => gn h⟩, ⟨by decide, fun c h => absurd h List.not_mem_nil⟩⟩
theorem cell_obj {g : Gx} {h : Hp} {k c : Nat} (hc : isC k c 0) (h7 : c < 7) : cellE g h k = .inr (c, (fl h k c).map (cv g)) := by
  unfold cellE
  rw [hc.kd, if_pos h7]
section BR
variable {g g0 : Gx} {H : Heap}
theorem bg_i {k n a : Nat} {f : Nat → Int32} {t : Nat} (hg : g.2.2 = g0.2.2) (hc : isC k 8 n) (ha : g.2.1 k = a) (e : ∀ j, j < n → f j = I0 k j) (h : va_at g0.2.2.1 vwCl (a, .inl (g0.2.2.2 1, n, .inl f)) H) : va_at g0.2.2.1 vwCl (g.2.1 k, cellE g hI k) H := by
  rw [arr_at g hI hc (by decide)]
  show va_at _ _ (_, .inl (g.2.2.2 1, ln k, .inl (I0 k))) H
  rw [hc.ln, ha, hg]
  exact at_i h e
theorem bg_c {k n a : Nat} {f : Nat → Int32} {t : Nat} (hg : g.2.2 = g0.2.2) (hc : isC k 7 n) (ha : g.2.1 k = a) (e : ∀ j, j < n → f j = I0 k j) (h : va_at g0.2.2.1 vwCl (a, .inl (g0.2.2.2 0, n, .inl f)) H) : va_at g0.2.2.1 vwCl (g.2.1 k, cellE g hI k) H := by
  rw [arr_at g hI hc (by decide)]
  show va_at _ _ (_, .inl (g.2.2.2 0, ln k, .inl (I0 k))) H
  rw [hc.ln, ha, hg]
  exact at_i h e
theorem bg_z {k n a : Nat} {f : Nat → Int32} {t : Nat} (hg : g.2.2 = g0.2.2) (hc : isC k 10 n) (ha : g.2.1 k = a) (e : ∀ j, j < n → f j = I0 k j) (h : va_at g0.2.2.1 vwCl (a, .inl (g0.2.2.2 3, n, .inl f)) H) : va_at g0.2.2.1 vwCl (g.2.1 k, cellE g hI k) H := by
  rw [arr_at g hI hc (by decide)]
  show va_at _ _ (_, .inl (g.2.2.2 3, ln k, .inl (I0 k))) H
  rw [hc.ln, ha, hg]
  exact at_i h e
theorem bg_j {k n a : Nat} (hg : g.2.2 = g0.2.2) (hc : isC k 9 n) (ha : g.2.1 k = a) (h : va_at g0.2.2.1 vwCl (a, .inl (g0.2.2.2 2, n, .inr (.inl (fun _ => 0)))) H) : va_at g0.2.2.1 vwCl (g.2.1 k, cellE g hI k) H := by
  rw [arr_at g hI hc (by decide)]
  show va_at _ _ (_, .inl (g.2.2.2 2, ln k, .inr (.inl (fun _ => 0)))) H
  rw [hc.ln, ha, hg]
  exact h
theorem bg_o {k c a : Nat} {vs : List Value} (hc : isC k c 0) (h7 : c < 7) (ha : g.2.1 k = a) (e : (fl hI k c).map (cv g) = vs) (h : va_at g0.2.2.1 vwCl (a, .inr (c, vs)) H) : va_at g0.2.2.1 vwCl (g.2.1 k, cellE g hI k) H := by
  rw [cell_obj hc h7, ha, e]
  exact h
theorem ear_abs {F : Nat → Nat} {b : Nat} (hb : isEar b) (hg : g.2.2 = g0.2.2) (hF : ∀ j, j < 7 → g.2.1 (b + j) = F j) (i0 : I0 b 2 = 0 ∧ I0 b 3 = 0) (i1 : ∀ j, I0 (b + 1) j = firstK j) (i2 : ∀ j, I0 (b + 2) j = -6) (i3 : ∀ c j, 3 ≤ c → c < 7 → I0 (b + c) j = 0) (hP : ∀ q, q ∈ earW g0 F → va_at g0.2.2.1 vwCl q H) : ∀ t, t ∈ cellsEar b → va_at g0.2.2.1 vwCl (g.2.1 t.1, cellE g hI t.1) H := by
  simp only [earW, earX, List.forall_mem_cons] at hP
  obtain ⟨k0, k1, k2, k3, k4, k5, k6, -⟩ := hP
  simp only [cellsEar, List.forall_mem_cons]
  obtain ⟨b0, b1, b2, b3, b4, b5, b6⟩ := hb
  refine ⟨bg_o b0 (by decide) (hF 0 (by omega)) ?_ k0, bg_i (t := 0) hg b1 (hF 1 (by omega)) (fun j _ => (i1 j).symm) k1, bg_i (t := 0) hg b2 (hF 2 (by omega)) (fun j _ => (i2 j).symm) k2, bg_i (t := 0) hg b3 (hF 3 (by omega)) (fun j _ => (i3 3 j (by omega) (by omega)).symm) k3, bg_i (t := 0) hg b4 (hF 4 (by omega)) (fun j _ => (i3 4 j (by omega) (by omega)).symm) k4, bg_i (t := 0) hg b5 (hF 5 (by omega)) (fun j _ => (i3 5 j (by omega) (by omega)).symm) k5, bg_i (t := 0) hg b6 (hF 6 (by omega)) (fun j _ => (i3 6 j (by omega) (by omega)).symm) k6, fun _ h => absurd h List.not_mem_nil⟩
  show [Value.ref (g.2.1 (b + 1)), .ref (g.2.1 (b + 2)), .int (I0 b 2), .int (I0 b 3), .ref (g.2.1 (b + 3)), .ref (g.2.1 (b + 4)), .ref (g.2.1 (b + 5)), .ref (g.2.1 (b + 6))] = _
  rw [hF 1 (by omega), hF 2 (by omega), hF 3 (by omega), hF 4 (by omega), hF 5 (by omega), hF 6 (by omega), i0.1, i0.2]
theorem I0_e {c j : Nat} (h1 : 100 ≤ c) (h2 : c % 10 = 0) (h3 : 10 ≤ c % 100) : I0 c j = 0 := by
  unfold I0
  rw [if_neg (by omega), if_neg (by omega), if_neg (by omega), if_neg (by omega), if_neg (by omega)]
theorem I0_e1 {c j : Nat} (h1 : 100 ≤ c) (h2 : c % 10 = 0) (h3 : 10 ≤ c % 100) : I0 (c + 1) j = firstK j := by
  unfold I0
  rw [if_neg (by omega), if_neg (by omega), if_neg (by omega), if_pos (by omega)]
theorem I0_e2 {c j : Nat} (h1 : 100 ≤ c) (h2 : c % 10 = 0) (h3 : 10 ≤ c % 100) : I0 (c + 2) j = -6 := by
  unfold I0
  rw [if_neg (by omega), if_neg (by omega), if_neg (by omega), if_neg (by omega), if_pos (by omega)]
theorem I0_e3 {c x j : Nat} (h1 : 100 ≤ c) (h2 : c % 10 = 0) (h3 : 10 ≤ c % 100) (h4 : 3 ≤ x) (h5 : x < 7) : I0 (c + x) j = 0 := by
  unfold I0
  rw [if_neg (by omega), if_neg (by omega), if_neg (by omega), if_neg (by omega), if_neg (by omega)]
theorem I0_s {c j : Nat} (h1 : 100 ≤ c) (h2 : c % 100 = 0) : I0 c j = if j = 0 then 4 else if j = 1 then 24 else 0 := by
  unfold I0
  rw [if_neg (by omega), if_pos h2]
theorem st_abs {F : Nat → Nat} {b : Nat} (hb : isSt b) (h1 : 100 ≤ b) (h2 : b % 100 = 0) (hg : g.2.2 = g0.2.2) (hF : ∀ j, j < 50 → g.2.1 (b + j) = F j) (hP : ∀ q, q ∈ stW g0 F → va_at g0.2.2.1 vwCl q H) : ∀ t, t ∈ cellsState b → va_at g0.2.2.1 vwCl (g.2.1 t.1, cellE g hI t.1) H := by
  simp only [stW, List.forall_mem_cons, List.forall_mem_append] at hP
  obtain ⟨k0, k1, k2, ⟨⟨⟨-, e0⟩, e1⟩, e2⟩, e3⟩ := hP
  obtain ⟨b0, b1, b2, b3⟩ := hb
  refine List.forall_mem_append.mpr ⟨?_, fun t ht => ?_⟩
  · simp only [List.forall_mem_cons]
    refine ⟨bg_o b0 (by decide) (hF 0 (by omega)) ?_ k0, bg_j hg b1 (hF 1 (by omega)) k1, ?_, fun _ h => absurd h List.not_mem_nil⟩
    · show [Value.int (I0 b 0), .int (I0 b 1), .int (I0 b 2), .ref (g.2.1 (b + 1)), .int (I0 b 4), .ref (g.2.1 (b + 2))] = _
      rw [hF 1 (by omega), hF 2 (by omega), I0_s h1 h2, I0_s h1 h2, I0_s h1 h2, I0_s h1 h2]
      rfl
    · rw [arr_at g hI b2 (by decide)]
      show va_at _ _ (_, .inl (g.2.2.2 4, ln (b + 2), .inr (.inr (.inr (.inr (fun j => some (g.2.1 (b + 2 + 8 + 10 * j)))))))) H
      rw [b2.ln, hF 2 (by omega), hg]
      refine at_q k2 (fun j hj => ?_)
      rw [show b + 2 + 8 + 10 * j = b + (10 + 10 * j) by omega, hF _ (by omega)]
      match j, hj with
      | 0, _ => rfl
      | 1, _ => rfl
      | 2, _ => rfl
      | 3, _ => rfl
      | z + 4, q => exact absurd q (by omega)
  · obtain ⟨e, he, ht⟩ := List.mem_flatMap.mp ht
    have he := List.mem_range.mp he
    have hE : ∀ (F' : Nat → Nat), (∀ j, j < 7 → g.2.1 (b + 10 * (e + 1) + j) = F' j) → (∀ q, q ∈ earW g0 F' → va_at g0.2.2.1 vwCl q H) → va_at g0.2.2.1 vwCl (g.2.1 t.1, cellE g hI t.1) H := fun F' hF' hQ =>
      ear_abs (b3 e he) hg hF' ⟨I0_e (by omega) (by omega) (by omega), I0_e (by omega) (by omega) (by omega)⟩ (fun j => I0_e1 (by omega) (by omega) (by omega)) (fun j => I0_e2 (by omega) (by omega) (by omega)) (fun c j c1 c2 => I0_e3 (by omega) (by omega) (by omega) c1 c2) hQ t ht
    match e, he with
    | 0, _ => exact hE (fun k => F (10 + k)) (fun j hj => (congrArg g.2.1 (by omega)).trans (hF (10 + j) (by omega))) e0
    | 1, _ => exact hE (fun k => F (20 + k)) (fun j hj => (congrArg g.2.1 (by omega)).trans (hF (20 + j) (by omega))) e1
    | 2, _ => exact hE (fun k => F (30 + k)) (fun j hj => (congrArg g.2.1 (by omega)).trans (hF (30 + j) (by omega))) e2
    | 3, _ => exact hE (fun k => F (40 + k)) (fun j hj => (congrArg g.2.1 (by omega)).trans (hF (40 + j) (by omega))) e3
    | z + 4, q => exact absurd q (by omega)
set_option maxRecDepth 100000 in
set_option maxHeartbeats 1000000 in
theorem br_all {F1 F2 : Nat → Nat} (hg : g.2.2 = g0.2.2) (h1 : ∀ k, (k < 40 ∨ 100 ≤ k) → g.2.1 k = F1 k) (h2 : ∀ k, k < 2 → g.2.1 (40 + k) = F2 k) (hP : ∀ q, q ∈ ciW g0 F1 → va_at g0.2.2.1 vwCl q H) (hQ : ∀ q, q ∈ lqW g0 F2 → va_at g0.2.2.1 vwCl q H) : ∀ t, t ∈ tbl → va_at g0.2.2.1 vwCl (g.2.1 t.1, cellE g hI t.1) H := by
  simp only [ciW, padW, drW, mtW, List.forall_mem_cons, List.forall_mem_append] at hP
  simp only [lqW, List.forall_mem_cons] at hQ
  obtain ⟨k0, k1, k2, k3, ⟨⟨⟨⟨⟨⟨⟨⟨⟨⟨⟨⟨⟨⟨-, s0⟩, k4, k5, -⟩, k6, k7, k8, k9, k10, k11, -⟩, k12, k13, k14, k15, k16, k17, -⟩, k30⟩, k18, k19, k20, -⟩, s1⟩, s2⟩, s3⟩, s4⟩, s5⟩, s6⟩, s7⟩, s8⟩⟩ := hP
  obtain ⟨m0, m1, -⟩ := hQ
  have q1 : ∀ t, t ∈ [(0, 5, 0), (1, 12, 6), (2, 12, 2), (3, 10, 2), (4, 3, 0), (5, 7, 80), (6, 0, 0), (7, 8, 24), (8, 8, 96), (9, 8, 96), (10, 8, 96), (11, 8, 4), (12, 0, 0), (13, 8, 24), (14, 8, 96), (15, 8, 96), (16, 8, 96), (17, 8, 4), (18, 2, 0), (19, 8, 11), (20, 8, 24)] → va_at g0.2.2.1 vwCl (g.2.1 t.1, cellE g hI t.1) H := by
    simp only [List.forall_mem_cons]
    refine ⟨bg_o (isC_of (by decide +kernel) : isC 0 5 0) (by decide) (h1 0 (by omega)) ?_ k0, ?_, ?_, bg_z (t := 0) hg (isC_of (by decide +kernel) : isC 3 10 2) (h1 3 (by omega)) (fun j _ => rfl) k3, bg_o (isC_of (by decide +kernel) : isC 4 3 0) (by decide) (h1 4 (by omega)) ?_ k4, bg_c (t := 0) hg (isC_of (by decide +kernel) : isC 5 7 80) (h1 5 (by omega)) (fun j _ => rfl) k5, bg_o (isC_of (by decide +kernel) : isC 6 0 0) (by decide) (h1 6 (by omega)) ?_ k6, bg_i (t := 0) hg (isC_of (by decide +kernel) : isC 7 8 24) (h1 7 (by omega)) (fun j _ => rfl) k7, bg_i (t := 0) hg (isC_of (by decide +kernel) : isC 8 8 96) (h1 8 (by omega)) (fun j _ => rfl) k8, bg_i (t := 0) hg (isC_of (by decide +kernel) : isC 9 8 96) (h1 9 (by omega)) (fun j _ => rfl) k9, bg_i (t := 0) hg (isC_of (by decide +kernel) : isC 10 8 96) (h1 10 (by omega)) (fun j _ => rfl) k10, bg_i (t := 0) hg (isC_of (by decide +kernel) : isC 11 8 4) (h1 11 (by omega)) (fun j _ => rfl) k11, bg_o (isC_of (by decide +kernel) : isC 12 0 0) (by decide) (h1 12 (by omega)) ?_ k12, bg_i (t := 0) hg (isC_of (by decide +kernel) : isC 13 8 24) (h1 13 (by omega)) (fun j _ => rfl) k13, bg_i (t := 0) hg (isC_of (by decide +kernel) : isC 14 8 96) (h1 14 (by omega)) (fun j _ => rfl) k14, bg_i (t := 0) hg (isC_of (by decide +kernel) : isC 15 8 96) (h1 15 (by omega)) (fun j _ => rfl) k15, bg_i (t := 0) hg (isC_of (by decide +kernel) : isC 16 8 96) (h1 16 (by omega)) (fun j _ => rfl) k16, bg_i (t := 0) hg (isC_of (by decide +kernel) : isC 17 8 4) (h1 17 (by omega)) (fun j _ => rfl) k17, bg_o (isC_of (by decide +kernel) : isC 18 2 0) (by decide) (h1 18 (by omega)) ?_ k18, bg_i (t := 0) hg (isC_of (by decide +kernel) : isC 19 8 11) (h1 19 (by omega)) (fun j _ => rfl) k19, bg_i (t := 0) hg (isC_of (by decide +kernel) : isC 20 8 24) (h1 20 (by omega)) (fun j _ => rfl) k20, fun _ h => absurd h List.not_mem_nil⟩
    · show [Value.ref (g.2.1 100), .ref (g.2.1 1), .int 0, .ref (g.2.1 2), .ref (g.2.1 3), .ref (g.2.1 4), .ref (g.2.1 6), .ref (g.2.1 12), .ref (g.2.1 30), .ref (g.2.1 18)] = _
      rw [h1 100 (by omega), h1 1 (by omega), h1 2 (by omega), h1 3 (by omega), h1 4 (by omega), h1 6 (by omega), h1 12 (by omega), h1 30 (by omega), h1 18 (by omega)]
    · have hc : isC 1 12 6 := isC_of (by decide +kernel)
      rw [arr_at g hI hc (by decide)]
      show va_at _ _ (_, .inl (g.2.2.2 5, ln 1, .inr (.inr (.inr (.inr (fun j => some (g.2.1 (200 + 100 * j)))))))) H
      rw [hc.ln, h1 1 (by omega), hg]
      refine at_q k1 (fun j hj => ?_)
      rw [h1 _ (by omega)]
      match j, hj with
      | 0, _ => rfl
      | 1, _ => rfl
      | 2, _ => rfl
      | 3, _ => rfl
      | 4, _ => rfl
      | 5, _ => rfl
      | z + 6, q => exact absurd q (by omega)
    · have hc : isC 2 12 2 := isC_of (by decide +kernel)
      rw [arr_at g hI hc (by decide)]
      show va_at _ _ (_, .inl (g.2.2.2 5, ln 2, .inr (.inr (.inr (.inr (fun j => some (g.2.1 (800 + 100 * j)))))))) H
      rw [hc.ln, h1 2 (by omega), hg]
      refine at_q k2 (fun j hj => ?_)
      rw [h1 _ (by omega)]
      match j, hj with
      | 0, _ => rfl
      | 1, _ => rfl
      | z + 2, q => exact absurd q (by omega)
    · show [Value.ref (g.2.1 5), .int 0] = _
      rw [h1 5 (by omega)]
    · show [Value.int 0, .ref (g.2.1 7), .ref (g.2.1 8), .int 0, .ref (g.2.1 9), .ref (g.2.1 10), .ref (g.2.1 11)] = _
      rw [h1 7 (by omega), h1 8 (by omega), h1 9 (by omega), h1 10 (by omega), h1 11 (by omega)]
    · show [Value.int 0, .ref (g.2.1 13), .ref (g.2.1 14), .int 0, .ref (g.2.1 15), .ref (g.2.1 16), .ref (g.2.1 17)] = _
      rw [h1 13 (by omega), h1 14 (by omega), h1 15 (by omega), h1 16 (by omega), h1 17 (by omega)]
    · show [Value.ref (g.2.1 19), .ref (g.2.1 20)] = _
      rw [h1 19 (by omega), h1 20 (by omega)]
  have q2 : ∀ t, t ∈ cellsEar 30 → va_at g0.2.2.1 vwCl (g.2.1 t.1, cellE g hI t.1) H := by
    refine ear_abs isEar_30 hg (fun j hj => h1 (30 + j) (by omega)) ⟨rfl, rfl⟩ (fun j => rfl) (fun j => rfl) (fun c j c1 c2 => ?_) k30
    match c, c1, c2 with
    | 3, _, _ => rfl
    | 4, _, _ => rfl
    | 5, _, _ => rfl
    | 6, _, _ => rfl
    | z + 7, _, q => exact absurd q (by omega)
    | 0, q, _ => exact absurd q (by omega)
    | 1, q, _ => exact absurd q (by omega)
    | 2, q, _ => exact absurd q (by omega)
  have q3 : ∀ t, t ∈ [(40, 9, 24), (41, 8, 2)] → va_at g0.2.2.1 vwCl (g.2.1 t.1, cellE g hI t.1) H := by
    simp only [List.forall_mem_cons]
    refine ⟨bg_j hg (isC_of (by decide +kernel) : isC 40 9 24) (h2 0 (by omega)) m0, bg_i (t := 0) hg (isC_of (by decide +kernel) : isC 41 8 2) (h2 1 (by omega)) ?_ m1, fun _ h => absurd h List.not_mem_nil⟩
    intro j hj
    match j, hj with
    | 0, _ => rfl
    | 1, _ => rfl
    | z + 2, q => exact absurd q (by omega)
  have hS : ∀ (s : Nat) (F : Nat → Nat), s < 9 → (∀ j, j < 50 → F1 (100 * (s + 1) + j) = F j) → (∀ q, q ∈ stW g0 F → va_at g0.2.2.1 vwCl q H) → ∀ t, t ∈ cellsState (100 * (s + 1)) → va_at g0.2.2.1 vwCl (g.2.1 t.1, cellE g hI t.1) H := fun s F hs hF hP => st_abs (isSt_b s hs) (by omega) (by omega) hg (fun j hj => (h1 _ (by omega)).trans (hF j hj)) hP
  have q4 : ∀ t, t ∈ (List.range 9).flatMap (fun s => cellsState (100 * (s + 1))) → va_at g0.2.2.1 vwCl (g.2.1 t.1, cellE g hI t.1) H := by
    intro t ht
    obtain ⟨s, hs, ht⟩ := List.mem_flatMap.mp ht
    have hs := List.mem_range.mp hs
    match s, hs with
    | 0, _ => exact hS 0 (fun k => F1 (100 + k)) (by omega) (fun j _ => rfl) s0 t ht
    | 1, _ => exact hS 1 (fun k => F1 (200 + k)) (by omega) (fun j _ => rfl) s1 t ht
    | 2, _ => exact hS 2 (fun k => F1 (300 + k)) (by omega) (fun j _ => rfl) s2 t ht
    | 3, _ => exact hS 3 (fun k => F1 (400 + k)) (by omega) (fun j _ => rfl) s3 t ht
    | 4, _ => exact hS 4 (fun k => F1 (500 + k)) (by omega) (fun j _ => rfl) s4 t ht
    | 5, _ => exact hS 5 (fun k => F1 (600 + k)) (by omega) (fun j _ => rfl) s5 t ht
    | 6, _ => exact hS 6 (fun k => F1 (700 + k)) (by omega) (fun j _ => rfl) s6 t ht
    | 7, _ => exact hS 7 (fun k => F1 (800 + k)) (by omega) (fun j _ => rfl) s7 t ht
    | 8, _ => exact hS 8 (fun k => F1 (900 + k)) (by omega) (fun j _ => rfl) s8 t ht
    | z + 9, q => exact absurd q (by omega)
  exact List.forall_mem_append.mpr ⟨List.forall_mem_append.mpr ⟨List.forall_mem_append.mpr ⟨q1, q2⟩, q3⟩, q4⟩
end BR
def NE : List Nat := [0, 1, 2, 3, 4, 5, 6]
def NS : List Nat := 0 :: 1 :: 2 :: (((([] ++ NE.map (fun k => 10 + k)) ++ NE.map (fun k => 20 + k)) ++ NE.map (fun k => 30 + k)) ++ NE.map (fun k => 40 + k))
def NC : List Nat := 0 :: 1 :: 2 :: 3 :: (((((((((((((([] ++ NS.map (fun k => 100 + k)) ++ [4, 5]) ++ [6, 7, 8, 9, 10, 11]) ++ [12, 13, 14, 15, 16, 17]) ++ NE.map (fun k => 30 + k)) ++ [18, 19, 20]) ++ NS.map (fun k => 200 + k)) ++ NS.map (fun k => 300 + k)) ++ NS.map (fun k => 400 + k)) ++ NS.map (fun k => 500 + k)) ++ NS.map (fun k => 600 + k)) ++ NS.map (fun k => 700 + k)) ++ NS.map (fun k => 800 + k)) ++ NS.map (fun k => 900 + k))
def NM : List Nat := [0, 1]
theorem fst_ear (g : Gx) (F : Nat → Nat) : (earW g F).map Prod.fst = NE.map F := rfl
theorem fst_st (g : Gx) (F : Nat → Nat) : (stW g F).map Prod.fst = NS.map F := by
  simp only [stW, NS, List.map_cons, List.map_append, fst_ear, List.map_nil, List.map_map]
  rfl
theorem fst_ci (g : Gx) (F : Nat → Nat) : (ciW g F).map Prod.fst = NC.map F := by
  simp only [ciW, NC, List.map_cons, List.map_append, fst_ear, fst_st, List.map_nil, List.map_map, padW, drW, mtW]
  rfl
theorem fst_lq (g : Gx) (F : Nat → Nat) : (lqW g F).map Prod.fst = NM.map F := rfl
theorem inj_of {f : Nat → Nat} : ∀ {l : List Nat}, (l.map f).Nodup → ∀ i, i ∈ l → ∀ j, j ∈ l → f i = f j → i = j := by
  intro l
  induction l with
  | nil => intro _ i hi
           cases hi
  | cons a r ih =>
    intro hn i hi j hj e
    rw [List.map_cons, List.nodup_cons] at hn
    rcases List.mem_cons.mp hi with rfl | hi2
    · rcases List.mem_cons.mp hj with rfl | hj2
      · rfl
      · exact (hn.1 (List.mem_map.mpr ⟨j, hj2, e.symm⟩)).elim
    · rcases List.mem_cons.mp hj with rfl | hj2
      · exact (hn.1 (List.mem_map.mpr ⟨i, hi2, e⟩)).elim
      · exact ih hn.2 i hi2 j hj2 e
theorem LX_in : ∀ k, k ∈ LX → k ∈ NC ++ NM.map (fun k => 40 + k) := by decide +kernel
