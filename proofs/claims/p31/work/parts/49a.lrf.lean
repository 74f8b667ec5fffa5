/-! ERRORS, IN THEIR ORDER: WHAT THE CLASS ANSWERS TO CALLS THAT FAIL -/
section RF
variable {G : GS} {E : EV}
theorem rf_E1 {x : Int32} {f : EV → Int32} (h : eN G.1.2.2.2 x = none) : sp_E x f G = (-1, G) := by
  unfold sp_E
  rw [h]
theorem rf_E2 {x : Int32} {f : EV → Int32} (h : eN G.1.2.2.2 x = some E) : sp_E x f G = (f E, G) := by
  unfold sp_E
  rw [h]
theorem rf_set {s v : Int32} (h1 : ¬ (s = 0 ∧ inR v 1 5 = true)) (h2 : ¬ (s = 1 ∧ inR v 1 24 = true)) : sp_set s v G = (-2, G) := by
  unfold sp_set
  rw [if_neg h1, if_neg h2]
theorem rf_drop {x : Int32} (h : inN x G.1.2.2.1.length = false) : sp_drop x G = (-1, G) := by
  unfold sp_drop
  rw [if_neg (by rw [h]; decide)]
theorem rf_ear {a : Int32} (h : inN a G.1.2.2.2.length = false) (h6 : ¬ a = -6) : sp_ear a G = (-1, G) := by
  unfold sp_ear
  rw [if_pos ⟨h, h6⟩]
theorem rf_earN (h : 4 ≤ G.1.2.2.2.length) : sp_ear (-6) G = (-4, G) := by
  unfold sp_ear
  rw [if_neg (fun q => q.2 rfl), if_pos h]
theorem rf_hear1 {e l k : Int32} (h : eN G.1.2.2.2 e = none) : sp_hear e l k G = (-1, G) := by
  unfold sp_hear
  rw [h]
theorem rf_hear2 {e l k : Int32} (h : eN G.1.2.2.2 e = some E) (hl : isLtr l = false) : sp_hear e l k G = (-1, G) := by
  unfold sp_hear
  rw [h]
  simp only [hl, if_true]
theorem rf_hear3 {e l k : Int32} (h : eN G.1.2.2.2 e = some E) (hl : isLtr l = true) (hk : inR k 0 9 = false) : sp_hear e l k G = (-2, G) := by
  unfold sp_hear
  rw [h]
  simp only [hl, hk, if_true]
  rfl
theorem rf_sec1 {e l k : Int32} (h : eN G.1.2.2.2 e = none) : sp_second e l k G = (-1, G) := by
  unfold sp_second
  rw [h]
theorem rf_sec2 {e l k : Int32} (h : eN G.1.2.2.2 e = some E) (hl : isLtr l = false) : sp_second e l k G = (-1, G) := by
  unfold sp_second
  rw [h]
  simp only [hl, if_true]
theorem rf_sec3 {e l k : Int32} (h : eN G.1.2.2.2 e = some E) (hl : isLtr l = true) (hk : inR k 0 9 = false) (h6 : ¬ k = -6) : sp_second e l k G = (-2, G) := by
  unfold sp_second
  rw [h]
  show (if isLtr l = false then (-1, G) else if inR k 0 9 = false ∧ ¬ k = -6 then (-2, G) else _) = _
  rw [if_neg (by rw [hl]; decide), if_pos ⟨hk, h6⟩]
theorem rf_sec4 {e l k : Int32} (h : eN G.1.2.2.2 e = some E) (hl : isLtr l = true) (hk : inR k 0 9 = true) (h6 : k = nI (E.1 (tn l))) : sp_second e l k G = (-5, G) := by
  unfold sp_second
  rw [h]
  show (if isLtr l = false then (-1, G) else if inR k 0 9 = false ∧ ¬ k = -6 then (-2, G) else if k = nI (E.1 (tn l)) then (-5, G) else _) = _
  rw [if_neg (by rw [hl]; decide), if_neg (fun q => by rw [hk] at q; exact absurd q.1 (by decide)), if_pos h6]
theorem rf_hab1 {e b : Int32} (h : eN G.1.2.2.2 e = none) : sp_habits e b G = (-1, G) := by
  unfold sp_habits
  rw [h]
theorem rf_hab2 {e b : Int32} (h : eN G.1.2.2.2 e = some E) (hb : inR b 0 7 = false) : sp_habits e b G = (-2, G) := by
  unfold sp_habits
  rw [h]
  show (if inR b 0 7 = false then (-2, G) else _) = _
  rw [if_pos hb]
theorem rf_mer1 {e a b : Int32} (h : eN G.1.2.2.2 e = none) : sp_merge e a b G = (-1, G) := by
  unfold sp_merge
  rw [h]
theorem rf_mer2 {e a b : Int32} (h : eN G.1.2.2.2 e = some E) (hb : canM a b = false) : sp_merge e a b G = (-2, G) := by
  unfold sp_merge
  rw [h]
  show (if canM a b = false then (-2, G) else _) = _
  rw [if_pos hb]
theorem rf_spl1 {e : Int32} (h : eN G.1.2.2.2 e = none) : sp_split e G = (-1, G) := by
  unfold sp_split
  rw [h]
theorem rf_spl2 {e : Int32} (h : eN G.1.2.2.2 e = some E) (hb : E.2.2.2 = []) : sp_split e G = (-5, G) := by
  unfold sp_split
  simp only [h, hb, List.getLast?_nil]
theorem rf_of1 {x l w : Int32} (h : eN G.1.2.2.2 x = none) : sp_of x l w G = (-1, G) := rf_E1 h
theorem rf_of2 {x l w : Int32} (h : eN G.1.2.2.2 x = some E) (hl : isLtr l = false) : sp_of x l w G = (-1, G) := by
  unfold sp_of
  rw [rf_E2 h, if_neg (by rw [hl]; decide)]
theorem rf_of3 {x l w : Int32} (h : eN G.1.2.2.2 x = some E) (hl : isLtr l = true) : sp_of x l w G = (ofS E (tn l) w, G) := by
  unfold sp_of
  rw [rf_E2 h, if_pos hl]
theorem rf_oe1 {x w : Int32} (h : eN G.1.2.2.2 x = none) : sp_ofEar x w G = (-1, G) := rf_E1 h
theorem rf_oe2 {x w v : Int32} (h : eN G.1.2.2.2 x = some E) (hv : oeS (csOf G.1 E) E w = v) : sp_ofEar x w G = (v, G) := by
  unfold sp_ofEar
  rw [rf_E2 h, hv]
theorem oeS_8 (cs : List (List Nat)) (E : EV) : oeS cs E 8 = -2 := rfl
theorem oeS_m1 (cs : List (List Nat)) (E : EV) : oeS cs E (-1) = -2 := rfl
theorem oeS_1 (cs : List (List Nat)) (E : EV) : oeS cs E 1 = nI E.2.2.2.length := rfl
theorem rf_code1 {x n k p : Int32} (h : eN G.1.2.2.2 x = none) : sp_code x n k p G = (-1, G) := rf_E1 h
theorem rf_code2 {x n k p : Int32} (h : eN G.1.2.2.2 x = some E) (hn : inN n G.1.2.2.1.length = false) : sp_code x n k p G = (-1, G) := by
  unfold sp_code
  rw [rf_E2 h, if_neg (by rw [hn]; decide)]
theorem rf_dr1 {x d o : Int32} (h : eN G.1.2.2.2 x = none) : sp_drawer x d o G = (-1, G) := rf_E1 h
theorem rf_dr2 {x d o : Int32} (h : eN G.1.2.2.2 x = some E) (hd : d < 0) : sp_drawer x d o G = (-1, G) := by
  unfold sp_drawer
  rw [rf_E2 h]
  unfold drS
  rw [if_neg (by rw [inN_neg (Int32.not_le.mpr hd)]; decide)]
theorem rf_cnt1 : sp_count (-1) G = (-2, G) := rfl
theorem rf_cnt7 : sp_count 7 G = (-2, G) := rfl
theorem rf_al1 {x a b : Int32} (h : eN G.1.2.2.2 x = none) : sp_alike x a b G = (-1, G) := rf_E1 h
theorem rf_al2 {x a b : Int32} (h : eN G.1.2.2.2 x = some E) (hn : inN a G.1.2.2.1.length = false) : sp_alike x a b G = (-1, G) := by
  unfold sp_alike
  rw [rf_E2 h, if_neg (fun q => by rw [hn] at q; exact absurd q.1 (by decide))]
theorem rf_im1 {x a b w : Int32} (h : eN G.1.2.2.2 x = none) : sp_ifMerged x a b w G = (-1, G) := rf_E1 h
theorem rf_im2 {x a b w : Int32} (h : eN G.1.2.2.2 x = some E) (hw : inR w 0 1 = false) : sp_ifMerged x a b w G = (-2, G) := by
  unfold sp_ifMerged
  rw [rf_E2 h, if_neg (c := inR w 0 1 = true) (by rw [hw]; decide)]
  simp
theorem rf_im3 {x a b w : Int32} (h : eN G.1.2.2.2 x = some E) (hc : canM a b = false) : sp_ifMerged x a b w G = (-2, G) := by
  unfold sp_ifMerged
  rw [rf_E2 h, if_neg (by rw [hc]; decide)]
theorem rf_bm1 {x w : Int32} (h : eN G.1.2.2.2 x = none) : sp_bestMerger x w G = (-1, G) := rf_E1 h
theorem rf_bm2 {x w : Int32} (h : eN G.1.2.2.2 x = some E) (hw : inR w 0 2 = false) : sp_bestMerger x w G = (-2, G) := by
  unfold sp_bestMerger
  rw [rf_E2 h, if_neg (by rw [hw]; decide)]
theorem rf_q1 {x y : Int32} (h : eN G.1.2.2.2 x = none) : sp_quarrel x y G = (-1, G) := rf_E1 h
theorem rf_q2 {x y : Int32} (h : eN G.1.2.2.2 x = some E) (hy : eN G.1.2.2.2 y = none) : sp_quarrel x y G = (-1, G) := by
  unfold sp_quarrel
  rw [rf_E2 h]
  simp only [rf_E1 hy]
theorem and_not (x : Int32) : x &&& (x ^^^ (-1)) = 0 := by
  refine b_ext fun i hi => ?_
  rw [b_and, b_xor, b_m1 i hi, b_0]
  cases bt x i <;> rfl
theorem qr_0 (cs : List (List Nat)) : ∀ k, qrF cs cs k = 0
  | 0 => rfl
  | k + 1 => by
    rw [qrF, qr_0 cs k, and_not]
    decide +kernel
theorem rf_q3 {x : Int32} (h : eN G.1.2.2.2 x = some E) : sp_quarrel x x G = (0, G) := by
  unfold sp_quarrel
  rw [rf_E2 h]
  simp only [rf_E2 h, qr_0]
  rfl
theorem rf_sav : sp_save 2 G = (-2, G) := rfl
theorem rf_res : sp_restore (-1) G = (-2, G) := rfl
theorem rf_put {n : Nat} (h : cin n = 0) : sp_put n G = (-2, G) := by
  unfold sp_put
  rw [if_pos h]
end RF
/-- numbers that are none of a range -/
theorem im1_neg : ∀ a, a < 99 → (-1 : Int32) - nI a < 0 := by decide +kernel
theorem inR_neg {x : Int32} {n : Nat} (h : x < 0) : inR x 0 n = false := by
  unfold inR
  rw [show nI 0 = 0 from rfl, decide_eq_false (Int32.not_le.mpr h), Bool.false_and]
theorem inR_big {a b n : Nat} (h : n < a) (ha : a < 2 ^ 31) : inR (nI a) b n = false := by
  unfold inR
  rw [decide_eq_false (nI_ge h ha), Bool.and_false]
theorem inN_big {a n : Nat} (h : n ≤ a) (ha : a < 2 ^ 31) : inN (nI a) n = false := by
  unfold inN
  rw [decide_eq_false (nI_nlt h ha), Bool.and_false]
theorem isLtr_neg {x : Int32} (h : x < 0) : isLtr x = false := by
  unfold isLtr
  rw [decide_eq_false (Int32.not_le.mpr h), Bool.false_and]
theorem isLtr_big {a : Nat} (h : 26 ≤ a) (ha : a < 2 ^ 31) : isLtr (nI a) = false := by
  unfold isLtr
  rw [show (26 : Int32) = nI 26 from rfl, decide_eq_false (nI_nlt h ha), Bool.and_false]
theorem canM_1 {a b : Int32} (h : inR a 0 9 = false) : canM a b = false := by
  unfold canM
  rw [h]
  rfl
theorem canM_2 {a b : Int32} (h : inR b 0 9 = false) : canM a b = false := by
  unfold canM
  rw [h, Bool.and_false]
  rfl
theorem canM_s (a : Int32) : canM a a = false := by
  unfold canM
  simp
theorem ne_m6 : ∀ a, a < 5 → ¬ (-1 : Int32) - nI a = -6 := by decide +kernel
