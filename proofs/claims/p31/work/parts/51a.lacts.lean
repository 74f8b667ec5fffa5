/-! A CHANGE, AND THE LAW'S OWN ROWS BESIDE IT -/
def LQ (G : GS) (h : Hp) : Prop := HQ G.1.2.2.1 h ∧ h.1 41 0 = nI G.1.2.2.1.length ∧ h.1 41 1 = nI G.1.2.1
def Ax (G G' : GS) : Prop := G'.2.2.1 = G.2.2.1 ∧ ((G'.1 = G.1 ∧ G'.2.1 = G.2.1) ∨ G'.2.1 = pushP G.2.1 G.1) ∧ 0 < G'.1.2.2.2.length
def PA (G : GS) : Option Value → Hp → Prop := fun v h' => v = some (.int 1) ∧ ∃ G', XI G' h' ∧ LQ G' h' ∧ Ax G G'
theorem LQ.fq {G : GS} {h h' : Hp} (q : LQ G h) (f : FQ h h') : LQ G h' := ⟨q.1.fq f, by rw [(f 41 (by omega) (by omega)).1]; exact q.2.1, by rw [(f 41 (by omega) (by omega)).1]; exact q.2.2⟩
theorem LQ.fm {G : GS} {h h' : Hp} (q : LQ G h) (f : FM h h') : LQ G h' := q.fq f.q
theorem LQ.of {G G' : GS} {h : Hp} (q : LQ G h) (e1 : G'.1.2.2.1 = G.1.2.2.1) (e2 : G'.1.2.1 = G.1.2.1) : LQ G' h := by
  unfold LQ
  rw [e1, e2]
  exact q
theorem LQ.z0 {G : GS} {h : Hp} (q : LQ G h) : h.1 41 (0 : Int32).toNatClampNeg = nI G.1.2.2.1.length := q.2.1
theorem LQ.z1 {G : GS} {h : Hp} (q : LQ G h) : h.1 41 (1 : Int32).toNatClampNeg = nI G.1.2.1 := q.2.2
theorem XI.lq {G : GS} {h h' : Hp} (x : XI G h) (f : ∀ c, c ≠ 40 → c ≠ 41 → h'.1 c = h.1 c ∧ h'.2.1 c = h.2.1 c) (p : h'.2.2 = h.2.2) : XI G h' := x.kept (fun c hc => f c (by omega) (by omega)) p
theorem Ax.same {G G' : GS} (h : 0 < G.1.2.2.2.length) (e1 : G'.1 = G.1) (e2 : G'.2.1 = G.2.1) (e3 : G'.2.2.1 = G.2.2.1) : Ax G G' := ⟨e3, Or.inl ⟨e1, e2⟩, by rw [e1]; exact h⟩
theorem Ax.rec {G : GS} {S : SV} (h : 0 < S.2.2.2.length) : Ax G (recG G S) := ⟨rfl, Or.inr rfl, h⟩
abbrev L5 (x y : Nat) : Lo := [(0, some (.ref 0)), (1, some (.ref 40)), (2, some (.ref 41)), (3, some (.int (nI x))), (4, some (.int (nI y))), (5, some (.int (nI (x % 12))))]
/-- what add does with the name that the law has written -/
def addG (G : GS) (w : Nat) : GS := ((G.1.1, G.1.2.1, G.1.2.2.1 ++ [w], G.1.2.2.2), pushP G.2.1 G.1, G.2.2.1, [])
theorem add_w {G : GS} {w : Nat} (hw : VW w) : sp_add (padG G (padK w (wsz w))) = if G.1.2.2.1.contains w = true then (-5, padG G (padK w (wsz w))) else if G.1.2.1 ≤ G.1.2.2.1.length then (-4, padG G (padK w (wsz w))) else (nI G.1.2.2.1.length, addG G w) := by
  have e1 : flt (padK w (wsz w)) = -6 := flt_padK hw hw.2.2.2 (Nat.le_refl _)
  have e2 := pw_padK hw
  generalize padK w (wsz w) = p at e1 e2 ⊢
  unfold sp_add
  rw [padG_p, e1, e2, if_neg (fun q => q rfl)]
  rfl
section ACTS
variable {g : Gx} {G : GS} {h : Hp} {x y : Nat}
set_option maxRecDepth 100000 in
set_option maxHeartbeats 2000000 in
theorem at_add (hX : XI G h) (hq : LQ G h) (hE : 0 < G.1.2.2.2.length) (hx : x < 2 ^ 31) (hy : y < 2 ^ 31) : AW g mmL_acts (ZP g (PA G)) 13 (L5 x y) [] h := by
  have c40 := isC_40
  have c41 := isC_41
  have hn := hX.2.1.2.2.1
  have hl24 := hX.2.1.2.1.2
  have hvw := hX.2.1.2.2.2.1
  refine am_iload_n (n := 14) (i := 3) dL_acts_13 rfl rfl rfl ?_
  refine am_bipush (n := 16) (v := 12) dL_acts_14 rfl rfl ?_
  refine am_idiv (n := 17) dL_acts_16 (by decide) rfl ?_
  rw [i_div (x := 12) 12 hx (by decide) (by decide) rfl]
  refine am_iload (n := 19) dL_acts_17 rfl rfl ?_
  refine cdL_acts_140 (n := 22) dL_acts_19 (by first | exact ⟨rfl, rfl⟩ | assumption) (ac_L_draw g (x / 12) y h (Nat.lt_of_le_of_lt (Nat.div_le_self _ _) hx) hy) rfl rfl (Nat.le_of_ble_eq_true rfl) rfl ?_
  have hw := drW_VW (x / 12) y
  generalize drW' (x / 12) y = w at hw ⊢
  refine am_lstore (n := 24) dL_acts_22 (Nat.le_of_ble_eq_true rfl) rfl rfl ?_
  refine am_aload_n (n := 25) (i := 1) dL_acts_24 rfl rfl rfl ?_
  refine am_aload_n (n := 26) (i := 2) dL_acts_25 rfl rfl rfl ?_
  refine am_iconst (n := 27) (v := 0) dL_acts_26 rfl rfl ?_
  refine am_iald (n := 28) dL_acts_27 (by first | assumption | exact isC_of (by decide +kernel)) (by first | assumption | exact vp_in_nI (by omega) (by omega) | exact vp_in_iff.mpr (by decide)) rfl ?_
  rw [hq.z0]
  refine am_lload (n := 30) dL_acts_28 rfl rfl ?_
  refine cdL_acts_144 (n := 33) dL_acts_30 (by first | exact ⟨rfl, rfl⟩ | assumption) (ac_L_place g w G.1.2.2.1 h hw hn hvw hq.1) rfl rfl (Nat.le_of_ble_eq_true rfl) rfl ?_
  refine am_istore (n := 35) dL_acts_33 (Nat.le_of_ble_eq_true rfl) rfl rfl ?_
  refine am_iload (n := 37) dL_acts_35 rfl rfl ?_
  refine am_aload_n (n := 38) (i := 2) dL_acts_37 rfl rfl rfl ?_
  refine am_iconst (n := 39) (v := 0) dL_acts_38 rfl rfl ?_
  refine am_iald (n := 40) dL_acts_39 (by first | assumption | exact isC_of (by decide +kernel)) (by first | assumption | exact vp_in_nI (by omega) (by omega) | exact vp_in_iff.mpr (by decide)) rfl ?_
  rw [hq.z0]
  have hadd := add_w (G := G) hw
  have kw := ac_L_writes g w G h hX hw
  have hpl := padK_len w (wsz w)
  have kmw : ∀ h1 : Hp, AD g yL_many wsL_many rmL_many [.long (lN (lw w))] h1 (some (.int (nI (wsz w)))) h1 := fun h1 => ac_L_manyW g w h1
  generalize padK w (wsz w) = pp at hadd kw hpl
  generalize wsz w = zw at hpl kmw
  -- behind the choice of what is due
  have t65 : ∀ (i8 due : Int32) (G1 : GS), sp_add (padG G pp) = (due, G1) → (due < 0 ∧ G1 = padG G pp) ∨ (due = nI G.1.2.2.1.length ∧ G.1.2.2.1.length < 24 ∧ G1 = addG G w) → AW g mmL_acts (ZP g (PA G)) 65 [(8, some (.int i8)), (6, some (.long (lN (lw w)))), (7, none), (0, some (.ref 0)), (1, some (.ref 40)), (2, some (.ref 41)), (3, some (.int (nI x))), (4, some (.int (nI y))), (5, some (.int (nI (x % 12))))] [.int due] h := by
    intro i8 due G1 hs hc
    refine am_istore (n := 67) dL_acts_65 (Nat.le_of_ble_eq_true rfl) rfl rfl ?_
    refine am_aload_n (n := 68) (i := 0) dL_acts_67 rfl rfl rfl ?_
    refine am_lload (n := 70) dL_acts_68 rfl rfl ?_
    refine caL_acts_148 (n := 73) dL_acts_70 (by first | exact ⟨rfl, rfl⟩ | assumption) kw rfl rfl (Nat.le_of_ble_eq_true rfl) rfl ?_
    rintro r h1 ⟨rfl, X1, f1⟩
    refine am_if_eq (tgt := 111) (n := 76) dL_acts_73 (by decide) rfl (fun q_z => absurd q_z (by decide)) (fun _ => ?_)
    refine am_aload_n (n := 77) (i := 0) dL_acts_76 rfl rfl rfl ?_
    have k1 := cx_add g _ h1 X1
    rw [hs] at k1
    refine caL_acts_124 (n := 80) dL_acts_77 (by first | exact ⟨rfl, rfl⟩ | assumption) k1 rfl rfl (Nat.le_of_ble_eq_true rfl) (by first | assumption | exact isC_of (by decide +kernel)) rfl ?_
    rintro r h2 ⟨rfl, X2, f2⟩
    have q2 := (hq.fm f1).fm f2
    refine am_iload (n := 82) dL_acts_80 rfl rfl ?_
    refine am_icmp_ne (tgt := 111) (n := 85) dL_acts_82 (by decide) rfl (fun q_z => absurd rfl q_z) (fun _ => ?_)
    refine am_aload_n (n := 86) (i := 0) dL_acts_85 rfl rfl rfl ?_
    refine am_iconst (n := 87) (v := 4) dL_acts_86 rfl rfl ?_
    have k2 := cx_count g 4 _ h2 X2
    rw [ct_4] at k2
    rcases hc with ⟨hc1, rfl⟩ | ⟨rfl, hc1, rfl⟩
    · rw [padG_p, hpl] at k2
      refine caL_acts_33 (n := 90) dL_acts_87 (by first | exact ⟨rfl, rfl⟩ | assumption) k2 rfl rfl (Nat.le_of_ble_eq_true rfl) (by first | assumption | exact isC_of (by decide +kernel)) rfl ?_
      rintro r h3 ⟨rfl, X3, f3⟩
      refine am_iload (n := 92) dL_acts_90 rfl rfl ?_
      refine am_if_ge (tgt := 103) (n := 95) dL_acts_92 (by decide) rfl (fun q_z => absurd q_z (Int32.not_le.mpr hc1)) (fun _ => ?_)
      refine am_lload (n := 97) dL_acts_95 rfl rfl ?_
      refine cdL_acts_17 (n := 100) dL_acts_97 (by first | exact ⟨rfl, rfl⟩ | assumption) (kmw h3) rfl rfl (Nat.le_of_ble_eq_true rfl) rfl ?_
      refine am_goto (tgt := 104) dL_acts_100 (by decide) ?_
      refine am_icmp_ne (tgt := 111) (n := 107) dL_acts_104 (by decide) rfl (fun q_z => absurd rfl q_z) (fun _ => ?_)
      refine am_iconst (n := 108) (v := 1) dL_acts_107 rfl rfl ?_
      refine am_goto (tgt := 112) dL_acts_108 (by decide) ?_
      refine am_istore (n := 114) dL_acts_112 (Nat.le_of_ble_eq_true rfl) rfl rfl ?_
      refine am_iload (n := 116) dL_acts_114 rfl rfl ?_
      refine am_if_lt (tgt := 133) (n := 119) dL_acts_116 (by decide) rfl (fun _ => ?_) (fun q_z => absurd hc1 q_z)
      refine am_iload (n := 135) dL_acts_133 rfl rfl ?_
      refine am_iret dL_acts_135 rfl rfl ?_
      exact ⟨rfl, padG G pp, X3, LQ.of (q2.fm f3) rfl rfl, Ax.same hE rfl rfl rfl⟩
    · refine caL_acts_33 (n := 90) dL_acts_87 (by first | exact ⟨rfl, rfl⟩ | assumption) k2 rfl rfl (Nat.le_of_ble_eq_true rfl) (by first | assumption | exact isC_of (by decide +kernel)) rfl ?_
      rintro r h3 ⟨rfl, X3, f3⟩
      have q3 := q2.fm f3
      refine am_iload (n := 92) dL_acts_90 rfl rfl ?_
      refine am_if_ge (tgt := 103) (n := 95) dL_acts_92 (by decide) rfl (fun _ => ?_) (fun q_z => absurd (nI_pos' (by omega)) q_z)
      refine am_iconst (n := 104) (v := 0) dL_acts_103 rfl rfl ?_
      refine am_icmp_ne (tgt := 111) (n := 107) dL_acts_104 (by decide) rfl (fun q_z => absurd rfl q_z) (fun _ => ?_)
      refine am_iconst (n := 108) (v := 1) dL_acts_107 rfl rfl ?_
      refine am_goto (tgt := 112) dL_acts_108 (by decide) ?_
      refine am_istore (n := 114) dL_acts_112 (Nat.le_of_ble_eq_true rfl) rfl rfl ?_
      refine am_iload (n := 116) dL_acts_114 rfl rfl ?_
      refine am_if_lt (tgt := 133) (n := 119) dL_acts_116 (by decide) rfl (fun q_z => absurd q_z (nI_pos (by omega))) (fun _ => ?_)
      refine am_aload_n (n := 120) (i := 1) dL_acts_119 rfl rfl rfl ?_
      refine am_aload_n (n := 121) (i := 2) dL_acts_120 rfl rfl rfl ?_
      refine am_iconst (n := 122) (v := 0) dL_acts_121 rfl rfl ?_
      refine am_iald (n := 123) dL_acts_122 (by first | assumption | exact isC_of (by decide +kernel)) (by first | assumption | exact vp_in_nI (by omega) (by omega) | exact vp_in_iff.mpr (by decide)) rfl ?_
      rw [q3.z0]
      have hin : vp_in (nI G.1.2.2.1.length) 24 := vp_in_nI hc1 (by decide)
      refine am_lload (n := 125) dL_acts_123 rfl rfl ?_
      refine am_last (n := 126) dL_acts_125 (by first | assumption | exact isC_of (by decide +kernel)) (by first | assumption | exact vp_in_nI (by omega) (by omega) | exact vp_in_iff.mpr (by decide)) rfl ?_
      rw [nI_clamp (by omega)]
      refine am_aload_n (n := 127) (i := 2) dL_acts_126 rfl rfl rfl ?_
      refine am_iconst (n := 128) (v := 0) dL_acts_127 rfl rfl ?_
      refine am_dup2 (n := 129) dL_acts_128 rfl rfl rfl ?_
      refine am_iald (n := 130) dL_acts_129 (by first | assumption | exact isC_of (by decide +kernel)) (by first | assumption | exact vp_in_nI (by omega) (by omega) | exact vp_in_iff.mpr (by decide)) rfl ?_
      rw [show (setJ h3 40 (vp_updL (h3.2.1 40) G.1.2.2.1.length (lN (lw w)))).1 41 (0 : Int32).toNatClampNeg = nI G.1.2.2.1.length from q3.2.1]
      refine am_iconst (n := 131) (v := 1) dL_acts_130 rfl rfl ?_
      refine am_iadd (n := 132) dL_acts_131 rfl ?_
      rw [nI_1]
      refine am_iast (n := 133) dL_acts_132 (by first | assumption | exact isC_of (by decide +kernel)) (by first | assumption | exact vp_in_nI (by omega) (by omega) | exact vp_in_iff.mpr (by decide)) rfl ?_
      refine am_iload (n := 135) dL_acts_133 rfl rfl ?_
      refine am_iret dL_acts_135 rfl rfl ?_
      refine ⟨rfl, addG G w, X3.lq (fun c n1 n2 => ⟨setI_n _ _ n2, setJ_n _ _ n1⟩) rfl, ⟨fun i v hi => ?_, ?_, ?_⟩, rfl, Or.inr rfl, hE⟩
      · show (setJ h3 40 (vp_updL (h3.2.1 40) G.1.2.2.1.length (lN (lw w)))).2.1 40 i = lN (lw v)
        rw [setJ_s]
        have hi : (G.1.2.2.1 ++ [w])[i]? = some v := hi
        by_cases z : i = G.1.2.2.1.length
        · subst z
          rw [List.getElem?_append_right (Nat.le_refl _), Nat.sub_self, List.getElem?_cons_zero] at hi
          rw [pk_uLs, Option.some.inj hi]
        · have hil := (List.getElem?_eq_some_iff.mp hi).1
          rw [List.length_append] at hil
          simp at hil
          rw [List.getElem?_append_left (by omega)] at hi
          rw [pk_uLn z]
          exact q3.1 i v hi
      · rw [setI_s]
        show upd _ 0 (nI (G.1.2.2.1.length + 1)) 0 = nI (G.1.2.2.1 ++ [w]).length
        rw [pk_us, List.length_append]
        rfl
      · rw [setI_s]
        show upd _ 0 (nI (G.1.2.2.1.length + 1)) 1 = nI G.1.2.1
        rw [pk_un (by decide)]
        exact q3.2.2
  have hcn : G.1.2.2.1.contains w = true ↔ w ∈ G.1.2.2.1 := List.contains_iff_mem
  by_cases hm : w ∈ G.1.2.2.1
  · refine am_icmp_ge (tgt := 48) (n := 43) dL_acts_40 (by decide) rfl (fun q_z => absurd q_z (nI_ge (ix_lt hm) (by omega))) (fun _ => ?_)
    rw [if_pos (hcn.mpr hm)] at hadd
    refine am_bipush (n := 45) (v := (-5)) dL_acts_43 rfl rfl ?_
    refine am_goto (tgt := 65) dL_acts_45 (by decide) ?_
    exact t65 _ _ _ hadd (Or.inl ⟨by decide, rfl⟩)
  · refine am_icmp_ge (tgt := 48) (n := 43) dL_acts_40 (by decide) rfl (fun _ => ?_) (fun q_z => absurd (nI_le (by rw [ix_not hm]; exact Nat.le_refl _) (by rw [ix_not hm]; omega)) q_z)
    rw [if_neg (fun q => hm (hcn.mp q))] at hadd
    refine am_aload_n (n := 49) (i := 2) dL_acts_48 rfl rfl rfl ?_
    refine am_iconst (n := 50) (v := 0) dL_acts_49 rfl rfl ?_
    refine am_iald (n := 51) dL_acts_50 (by first | assumption | exact isC_of (by decide +kernel)) (by first | assumption | exact vp_in_nI (by omega) (by omega) | exact vp_in_iff.mpr (by decide)) rfl ?_
    refine am_aload_n (n := 52) (i := 2) dL_acts_51 rfl rfl rfl ?_
    refine am_iconst (n := 53) (v := 1) dL_acts_52 rfl rfl ?_
    refine am_iald (n := 54) dL_acts_53 (by first | assumption | exact isC_of (by decide +kernel)) (by first | assumption | exact vp_in_nI (by omega) (by omega) | exact vp_in_iff.mpr (by decide)) rfl ?_
    rw [hq.z0, hq.z1]
    by_cases hlm : G.1.2.1 ≤ G.1.2.2.1.length
    · refine am_icmp_lt (tgt := 62) (n := 57) dL_acts_54 (by decide) rfl (fun q_z => absurd q_z (nI_nlt hlm (by omega))) (fun _ => ?_)
      rw [if_pos hlm] at hadd
      refine am_bipush (n := 59) (v := (-4)) dL_acts_57 rfl rfl ?_
      refine am_goto (tgt := 65) dL_acts_59 (by decide) ?_
      exact t65 _ _ _ hadd (Or.inl ⟨by decide, rfl⟩)
    · refine am_icmp_lt (tgt := 62) (n := 57) dL_acts_54 (by decide) rfl (fun _ => ?_) (fun q_z => absurd (nI_lt (Nat.not_le.mp hlm) (by omega)) q_z)
      rw [if_neg hlm] at hadd
      refine am_aload_n (n := 63) (i := 2) dL_acts_62 rfl rfl rfl ?_
      refine am_iconst (n := 64) (v := 0) dL_acts_63 rfl rfl ?_
      refine am_iald (n := 65) dL_acts_64 (by first | assumption | exact isC_of (by decide +kernel)) (by first | assumption | exact vp_in_nI (by omega) (by omega) | exact vp_in_iff.mpr (by decide)) rfl ?_
      rw [hq.z0]
      exact t65 _ _ _ hadd (Or.inr ⟨rfl, by omega, rfl⟩)
end ACTS
