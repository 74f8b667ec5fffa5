/-! THE OTHER CHANGES -/
theorem drop_at {G : GS} {at' : Nat} (hn : G.1.2.2.1.length ≤ 24) (h : at' < G.1.2.2.1.length) : sp_drop (nI at') G = (nI (G.1.2.2.1.length - 1), recG G (G.1.1, G.1.2.1, G.1.2.2.1.eraseIdx at', G.1.2.2.2)) := by
  unfold sp_drop
  rw [if_pos (inN_i h (by omega)), tn_nI (by omega)]
theorem set_at {G : GS} {v : Nat} (h1 : 1 ≤ v) (h2 : v ≤ 24) : sp_set 1 (nI v) G = (nI G.1.2.1, recG G (G.1.1, v, G.1.2.2)) := by
  unfold sp_set
  rw [if_neg (fun q => absurd q.1 (by decide)), if_pos ⟨rfl, inR_i (by omega) h1 h2⟩, tn_nI (by omega)]
theorem sec_ge : ∀ s, s < 11 → ¬ sec s < -6 := by decide +kernel
section ACTS
variable {g : Gx} {G : GS} {h : Hp} {x y : Nat}
set_option maxRecDepth 100000 in
set_option maxHeartbeats 2000000 in
theorem at_drop (hX : XI G h) (hq : LQ G h) (hE : 0 < G.1.2.2.2.length) (hx : x < 2 ^ 31) (hy : y < 2 ^ 31) : AW g mmL_acts (ZP g (PA G)) 143 (L5 x y) [] h := by
  have c40 := isC_40
  have c41 := isC_41
  have hn := hX.2.1.2.2.1
  refine am_iload (n := 145) dL_acts_143 rfl rfl ?_
  refine am_aload_n (n := 146) (i := 2) dL_acts_145 rfl rfl rfl ?_
  refine am_iconst (n := 147) (v := 0) dL_acts_146 rfl rfl ?_
  refine am_iald (n := 148) dL_acts_147 (by first | assumption | exact isC_of (by decide +kernel)) (by first | assumption | exact vp_in_nI (by omega) (by omega) | exact vp_in_iff.mpr (by decide)) rfl ?_
  rw [hq.z0]
  refine am_iconst (n := 149) (v := 1) dL_acts_148 rfl rfl ?_
  refine am_iadd (n := 150) dL_acts_149 rfl ?_
  rw [nI_1]
  refine am_irem (n := 151) dL_acts_150 (nI_ne0 (by omega) (by omega)) rfl ?_
  rw [pk_rem hy (by omega) (by omega)]
  have hlt : y % (G.1.2.2.1.length + 1) < G.1.2.2.1.length + 1 := Nat.mod_lt _ (by omega)
  generalize y % (G.1.2.2.1.length + 1) = a at hlt ⊢
  refine am_istore (n := 153) dL_acts_151 (Nat.le_of_ble_eq_true rfl) rfl rfl ?_
  refine am_iload (n := 155) dL_acts_153 rfl rfl ?_
  refine am_aload_n (n := 156) (i := 2) dL_acts_155 rfl rfl rfl ?_
  refine am_iconst (n := 157) (v := 0) dL_acts_156 rfl rfl ?_
  refine am_iald (n := 158) dL_acts_157 (by first | assumption | exact isC_of (by decide +kernel)) (by first | assumption | exact vp_in_nI (by omega) (by omega) | exact vp_in_iff.mpr (by decide)) rfl ?_
  rw [hq.z0]
  by_cases z : a = G.1.2.2.1.length
  · subst z
    refine am_icmp_ne (tgt := 177) (n := 161) dL_acts_158 (by decide) rfl (fun q_z => absurd rfl q_z) (fun _ => ?_)
    refine am_aload_n (n := 162) (i := 0) dL_acts_161 rfl rfl rfl ?_
    refine am_iload (n := 164) dL_acts_162 rfl rfl ?_
    have k1 := cx_drop g (nI G.1.2.2.1.length) G h hX
    rw [rf_drop (inN_n (by omega))] at k1
    refine caL_acts_62 (n := 167) dL_acts_164 (by first | exact ⟨rfl, rfl⟩ | assumption) k1 rfl rfl (Nat.le_of_ble_eq_true rfl) (by first | assumption | exact isC_of (by decide +kernel)) rfl ?_
    rintro r h1 ⟨rfl, X1, f1⟩
    refine am_iconst (n := 168) (v := (-1)) dL_acts_167 rfl rfl ?_
    refine am_icmp_ne (tgt := 175) (n := 171) dL_acts_168 (by decide) rfl (fun q_z => absurd rfl q_z) (fun _ => ?_)
    refine am_iconst (n := 172) (v := 1) dL_acts_171 rfl rfl ?_
    refine am_goto (tgt := 176) dL_acts_172 (by decide) ?_
    refine am_iret dL_acts_176 rfl rfl ?_
    exact ⟨rfl, G, X1, hq.fm f1, Ax.same hE rfl rfl rfl⟩
  · have ha : a < G.1.2.2.1.length := by omega
    refine am_icmp_ne (tgt := 177) (n := 161) dL_acts_158 (by decide) rfl (fun _ => ?_) (fun q_z => absurd q_z (fun e => z ((nI_eq (by omega) (by omega)).mp e)))
    refine am_aload_n (n := 178) (i := 2) dL_acts_177 rfl rfl rfl ?_
    refine am_iconst (n := 179) (v := 0) dL_acts_178 rfl rfl ?_
    refine am_dup2 (n := 180) dL_acts_179 rfl rfl rfl ?_
    refine am_iald (n := 181) dL_acts_180 (by first | assumption | exact isC_of (by decide +kernel)) (by first | assumption | exact vp_in_nI (by omega) (by omega) | exact vp_in_iff.mpr (by decide)) rfl ?_
    rw [hq.z0]
    refine am_iconst (n := 182) (v := 1) dL_acts_181 rfl rfl ?_
    refine am_isub (n := 183) dL_acts_182 rfl ?_
    rw [nI_m1 (by omega)]
    refine am_iast (n := 184) dL_acts_183 (by first | assumption | exact isC_of (by decide +kernel)) (by first | assumption | exact vp_in_nI (by omega) (by omega) | exact vp_in_iff.mpr (by decide)) rfl ?_
    refine am_iload (n := 186) dL_acts_184 rfl rfl ?_
    refine am_istore (n := 188) dL_acts_186 (Nat.le_of_ble_eq_true rfl) rfl rfl ?_
    rw [show (0 : Int32).toNatClampNeg = 0 from rfl]
    have hZ0 : (setI h 41 (upd (h.1 41) 0 (nI (G.1.2.2.1.length - 1)))).1 41 0 = nI (G.1.2.2.1.length - 1) := by rw [setI_s, pk_us]
    have hZ1 : (setI h 41 (upd (h.1 41) 0 (nI (G.1.2.2.1.length - 1)))).1 41 1 = nI G.1.2.1 := by
      rw [setI_s, pk_un (by decide)]
      exact hq.2.2
    have hX1 : XI G (setI h 41 (upd (h.1 41) 0 (nI (G.1.2.2.1.length - 1)))) := hX.lq (fun c n1 n2 => ⟨setI_n _ _ n2, rfl⟩) rfl
    have hJ : ∀ j, (setI h 41 (upd (h.1 41) 0 (nI (G.1.2.2.1.length - 1)))).2.1 40 j = h.2.1 40 j := fun j => rfl
    generalize setI h 41 (upd (h.1 41) 0 (nI (G.1.2.2.1.length - 1))) = hz at hZ0 hZ1 hX1 hJ ⊢
    refine am_loc [(0, some (.ref 0)), (1, some (.ref 40)), (2, some (.ref 41)), (6, some (.int (nI a))), (7, some (.int (nI a)))] rfl ?_
    refine loop_up (Wp := fun k => a ≤ k → ∀ h1 : Hp, XI G h1 → (∀ j, h1.2.1 40 j = if a ≤ j ∧ j < k then h.2.1 40 (j + 1) else h.2.1 40 j) → h1.1 41 0 = nI (G.1.2.2.1.length - 1) → h1.1 41 1 = nI G.1.2.1 → AW g mmL_acts (ZP g (PA G)) 188 [(0, some (.ref 0)), (1, some (.ref 40)), (2, some (.ref 41)), (6, some (.int (nI a))), (7, some (.int (nI k)))] [] h1) (G.1.2.2.1.length - 1) ?_ ?_ a (by omega) (Nat.le_refl _) hz hX1 (fun j => by rw [if_neg (by omega), hJ]) hZ0 hZ1
    · intro _ h1 X1 H1 q0 q1
      have q0' : h1.1 41 (0 : Int32).toNatClampNeg = nI (G.1.2.2.1.length - 1) := q0
      refine am_iload (n := 190) dL_acts_188 rfl rfl ?_
      refine am_aload_n (n := 191) (i := 2) dL_acts_190 rfl rfl rfl ?_
      refine am_iconst (n := 192) (v := 0) dL_acts_191 rfl rfl ?_
      refine am_iald (n := 193) dL_acts_192 (by first | assumption | exact isC_of (by decide +kernel)) (by first | assumption | exact vp_in_nI (by omega) (by omega) | exact vp_in_iff.mpr (by decide)) rfl ?_
      rw [q0']
      refine am_icmp_ge (tgt := 212) (n := 196) dL_acts_193 (by decide) rfl (fun _ => ?_) (fun q_z => absurd (Int32.le_refl _) q_z)
      refine am_aload_n (n := 213) (i := 0) dL_acts_212 rfl rfl rfl ?_
      refine am_iload (n := 215) dL_acts_213 rfl rfl ?_
      have k1 := cx_drop g (nI a) G h1 X1
      rw [drop_at hn ha] at k1
      refine caL_acts_62 (n := 218) dL_acts_215 (by first | exact ⟨rfl, rfl⟩ | assumption) k1 rfl rfl (Nat.le_of_ble_eq_true rfl) (by first | assumption | exact isC_of (by decide +kernel)) rfl ?_
      rintro r h2 ⟨rfl, X2, f2⟩
      have r0 : h2.1 41 (0 : Int32).toNatClampNeg = nI (G.1.2.2.1.length - 1) := by
        rw [(f2 41 (by omega) (by omega)).1]
        exact q0
      refine am_aload_n (n := 219) (i := 2) dL_acts_218 rfl rfl rfl ?_
      refine am_iconst (n := 220) (v := 0) dL_acts_219 rfl rfl ?_
      refine am_iald (n := 221) dL_acts_220 (by first | assumption | exact isC_of (by decide +kernel)) (by first | assumption | exact vp_in_nI (by omega) (by omega) | exact vp_in_iff.mpr (by decide)) rfl ?_
      rw [r0]
      refine am_icmp_ne (tgt := 228) (n := 224) dL_acts_221 (by decide) rfl (fun q_z => absurd rfl q_z) (fun _ => ?_)
      refine am_iconst (n := 225) (v := 1) dL_acts_224 rfl rfl ?_
      refine am_goto (tgt := 229) dL_acts_225 (by decide) ?_
      refine am_iret dL_acts_229 rfl rfl ?_
      refine ⟨rfl, recG G (G.1.1, G.1.2.1, G.1.2.2.1.eraseIdx a, G.1.2.2.2), X2, ⟨fun i v hi => ?_, ?_, ?_⟩, Ax.rec hE⟩
      · have hi : (G.1.2.2.1.eraseIdx a)[i]? = some v := hi
        rw [(f2 40 (by omega) (by omega)).2, H1]
        rw [List.getElem?_eraseIdx] at hi
        by_cases w : i < a
        · rw [if_pos w] at hi
          rw [if_neg (by omega)]
          exact hq.1 i v hi
        · rw [if_neg w] at hi
          have hil := (List.getElem?_eq_some_iff.mp hi).1
          rw [if_pos (by omega)]
          exact hq.1 (i + 1) v hi
      · show h2.1 41 0 = nI (G.1.2.2.1.eraseIdx a).length
        rw [List.length_eraseIdx, if_pos ha]
        exact r0
      · show h2.1 41 1 = nI G.1.2.1
        rw [(f2 41 (by omega) (by omega)).1]
        exact q1
    · intro k hk K hak h1 X1 H1 q0 q1
      have q0' : h1.1 41 (0 : Int32).toNatClampNeg = nI (G.1.2.2.1.length - 1) := q0
      have in1 : vp_in (nI k) 24 := vp_in_nI (by omega) (by decide)
      have in2 : vp_in (nI (k + 1)) 24 := vp_in_nI (by omega) (by decide)
      refine am_iload (n := 190) dL_acts_188 rfl rfl ?_
      refine am_aload_n (n := 191) (i := 2) dL_acts_190 rfl rfl rfl ?_
      refine am_iconst (n := 192) (v := 0) dL_acts_191 rfl rfl ?_
      refine am_iald (n := 193) dL_acts_192 (by first | assumption | exact isC_of (by decide +kernel)) (by first | assumption | exact vp_in_nI (by omega) (by omega) | exact vp_in_iff.mpr (by decide)) rfl ?_
      rw [q0']
      refine am_icmp_ge (tgt := 212) (n := 196) dL_acts_193 (by decide) rfl (fun q_z => absurd q_z (nI_ge hk (by omega))) (fun _ => ?_)
      refine am_aload_n (n := 197) (i := 1) dL_acts_196 rfl rfl rfl ?_
      refine am_iload (n := 199) dL_acts_197 rfl rfl ?_
      refine am_aload_n (n := 200) (i := 1) dL_acts_199 rfl rfl rfl ?_
      refine am_iload (n := 202) dL_acts_200 rfl rfl ?_
      refine am_iconst (n := 203) (v := 1) dL_acts_202 rfl rfl ?_
      refine am_iadd (n := 204) dL_acts_203 rfl ?_
      rw [nI_1]
      refine am_lald (n := 205) dL_acts_204 (by first | assumption | exact isC_of (by decide +kernel)) (by first | assumption | exact vp_in_nI (by omega) (by omega) | exact vp_in_iff.mpr (by decide)) rfl ?_
      rw [nI_clamp (by omega)]
      refine am_last (n := 206) dL_acts_205 (by first | assumption | exact isC_of (by decide +kernel)) (by first | assumption | exact vp_in_nI (by omega) (by omega) | exact vp_in_iff.mpr (by decide)) rfl ?_
      first | refine am_iincN (n := 209) dL_acts_206 rfl rfl rfl ?_ | refine am_iinc1 (n := 209) dL_acts_206 rfl rfl rfl ?_
      refine am_goto (tgt := 188) dL_acts_209 (by decide) ?_
      rw [nI_clamp (by omega)]
      refine am_loc _ rfl (K (by omega) _ (X1.lq (fun c n1 n2 => ⟨rfl, setJ_n _ _ n1⟩) rfl) (fun j => ?_) q0 q1)
      rw [setJ_s]
      by_cases w : j = k
      · subst w
        rw [pk_uLs, if_pos (by omega), H1 (j + 1), if_neg (by omega)]
      · rw [pk_uLn w, H1 j]
        by_cases u : a ≤ j ∧ j < k
        · rw [if_pos u, if_pos (by omega)]
        · rw [if_neg u, if_neg (by omega)]
set_option maxRecDepth 100000 in
set_option maxHeartbeats 2000000 in
theorem at_cap (hX : XI G h) (hq : LQ G h) (hE : 0 < G.1.2.2.2.length) (hy : y < 2 ^ 31) : AW g mmL_acts (ZP g (PA G)) 237 (L5 x y) [] h := by
  have c41 := isC_41
  have m24 : y % 24 < 24 := Nat.mod_lt _ (by decide)
  refine am_aload_n (n := 238) (i := 2) dL_acts_237 rfl rfl rfl ?_
  refine am_iconst (n := 239) (v := 1) dL_acts_238 rfl rfl ?_
  refine am_iald (n := 240) dL_acts_239 (by first | assumption | exact isC_of (by decide +kernel)) (by first | assumption | exact vp_in_nI (by omega) (by omega) | exact vp_in_iff.mpr (by decide)) rfl ?_
  rw [hq.z1]
  refine am_istore (n := 242) dL_acts_240 (Nat.le_of_ble_eq_true rfl) rfl rfl ?_
  refine am_aload_n (n := 243) (i := 2) dL_acts_242 rfl rfl rfl ?_
  refine am_iconst (n := 244) (v := 1) dL_acts_243 rfl rfl ?_
  refine am_iconst (n := 245) (v := 1) dL_acts_244 rfl rfl ?_
  refine am_iload (n := 247) dL_acts_245 rfl rfl ?_
  refine am_bipush (n := 249) (v := 24) dL_acts_247 rfl rfl ?_
  refine am_irem (n := 250) dL_acts_249 (by decide) rfl ?_
  rw [i_rem (x := 24) 24 hy (by decide) (by decide) rfl]
  refine am_iadd (n := 251) dL_acts_250 rfl ?_
  rw [show (1 : Int32) + nI (y % 24) = nI (1 + y % 24) from nI_add 1 _]
  refine am_iast (n := 252) dL_acts_251 (by first | assumption | exact isC_of (by decide +kernel)) (by first | assumption | exact vp_in_nI (by omega) (by omega) | exact vp_in_iff.mpr (by decide)) rfl ?_
  rw [show (1 : Int32).toNatClampNeg = 1 from rfl]
  have hZ0 : (setI h 41 (upd (h.1 41) 1 (nI (1 + y % 24)))).1 41 0 = nI G.1.2.2.1.length := by
    rw [setI_s, pk_un (by decide)]
    exact hq.2.1
  have hZ1 : (setI h 41 (upd (h.1 41) 1 (nI (1 + y % 24)))).1 41 (1 : Int32).toNatClampNeg = nI (1 + y % 24) := by
    rw [show (1 : Int32).toNatClampNeg = 1 from rfl, setI_s, pk_us]
  have hX1 : XI G (setI h 41 (upd (h.1 41) 1 (nI (1 + y % 24)))) := hX.lq (fun c n1 n2 => ⟨setI_n _ _ n2, rfl⟩) rfl
  have hJ : HQ G.1.2.2.1 (setI h 41 (upd (h.1 41) 1 (nI (1 + y % 24)))) := fun i v hi => hq.1 i v hi
  generalize setI h 41 (upd (h.1 41) 1 (nI (1 + y % 24))) = h1 at hZ0 hZ1 hX1 hJ ⊢
  refine am_aload_n (n := 253) (i := 0) dL_acts_252 rfl rfl rfl ?_
  refine am_iconst (n := 254) (v := 1) dL_acts_253 rfl rfl ?_
  refine am_aload_n (n := 255) (i := 2) dL_acts_254 rfl rfl rfl ?_
  refine am_iconst (n := 256) (v := 1) dL_acts_255 rfl rfl ?_
  refine am_iald (n := 257) dL_acts_256 (by first | assumption | exact isC_of (by decide +kernel)) (by first | assumption | exact vp_in_nI (by omega) (by omega) | exact vp_in_iff.mpr (by decide)) rfl ?_
  rw [hZ1]
  have k1 := cx_set g 1 (nI (1 + y % 24)) G h1 hX1
  rw [set_at (by omega) (by omega)] at k1
  refine caL_acts_59 (n := 260) dL_acts_257 (by first | exact ⟨rfl, rfl⟩ | assumption) k1 rfl rfl (Nat.le_of_ble_eq_true rfl) (by first | assumption | exact isC_of (by decide +kernel)) rfl ?_
  rintro r h2 ⟨rfl, X2, f2⟩
  refine am_iload (n := 262) dL_acts_260 rfl rfl ?_
  refine am_icmp_ne (tgt := 280) (n := 265) dL_acts_262 (by decide) rfl (fun q_z => absurd rfl q_z) (fun _ => ?_)
  refine am_aload_n (n := 266) (i := 0) dL_acts_265 rfl rfl rfl ?_
  refine am_iconst (n := 267) (v := 3) dL_acts_266 rfl rfl ?_
  have k2 := cx_count g 3 _ h2 X2
  rw [ct_3] at k2
  refine caL_acts_33 (n := 270) dL_acts_267 (by first | exact ⟨rfl, rfl⟩ | assumption) k2 rfl rfl (Nat.le_of_ble_eq_true rfl) (by first | assumption | exact isC_of (by decide +kernel)) rfl ?_
  rintro r h3 ⟨rfl, X3, f3⟩
  have f4 := f2.tr f3
  refine am_aload_n (n := 271) (i := 2) dL_acts_270 rfl rfl rfl ?_
  refine am_iconst (n := 272) (v := 1) dL_acts_271 rfl rfl ?_
  refine am_iald (n := 273) dL_acts_272 (by first | assumption | exact isC_of (by decide +kernel)) (by first | assumption | exact vp_in_nI (by omega) (by omega) | exact vp_in_iff.mpr (by decide)) rfl ?_
  rw [show h3.1 41 (1 : Int32).toNatClampNeg = nI (1 + y % 24) by rw [(f4 41 (by omega) (by omega)).1]; exact hZ1]
  refine am_icmp_ne (tgt := 280) (n := 276) dL_acts_273 (by decide) rfl (fun q_z => absurd rfl q_z) (fun _ => ?_)
  refine am_iconst (n := 277) (v := 1) dL_acts_276 rfl rfl ?_
  refine am_goto (tgt := 281) dL_acts_277 (by decide) ?_
  refine am_iret dL_acts_281 rfl rfl ?_
  exact ⟨rfl, recG G (G.1.1, 1 + y % 24, G.1.2.2), X3, ⟨hJ.fm f4, by rw [(f4 41 (by omega) (by omega)).1]; exact hZ0, by rw [(f4 41 (by omega) (by omega)).1]; exact hZ1⟩, Ax.rec hE⟩
theorem eN_0 {es : List EV} (h4 : es.length ≤ 4) (h : 0 < es.length) : ∃ E, eN es 0 = some E ∧ E ∈ es := by
  refine ⟨es[0], ?_, List.getElem_mem h⟩
  rw [show (0 : Int32) = nI 0 from rfl, eN_i h4 h, List.getElem?_eq_getElem h]
theorem len_setE (G : GS) (k : Nat) (F : EV) : (withE G.1 (G.1.2.2.2.set k F)).2.2.2.length = G.1.2.2.2.length := List.length_set
set_option maxRecDepth 100000 in
set_option maxHeartbeats 2000000 in
theorem at_second (hX : XI G h) (hq : LQ G h) (hE : 0 < G.1.2.2.2.length) (hy : y < 2 ^ 31) : AW g mmL_acts (ZP g (PA G)) 289 (L5 x y) [] h := by
  have hes := hX.2.1.2.2.2.2.1
  obtain ⟨E, hE0, hEm⟩ := eN_0 hes hE
  have hV : VE E := hX.2.1.2.2.2.2.2 E hEm
  have m26 : y % 26 < 26 := Nat.mod_lt _ (by decide)
  have hy5 : y / 2 ^ 5 < 2 ^ 31 := Nat.lt_of_le_of_lt (Nat.div_le_self _ _) hy
  have m10 : y / 2 ^ 5 % 10 < 10 := Nat.mod_lt _ (by decide)
  refine am_aload_n (n := 290) (i := 0) dL_acts_289 rfl rfl rfl ?_
  refine am_iconst (n := 291) (v := 0) dL_acts_290 rfl rfl ?_
  refine am_iload (n := 293) dL_acts_291 rfl rfl ?_
  refine am_bipush (n := 295) (v := 26) dL_acts_293 rfl rfl ?_
  refine am_irem (n := 296) dL_acts_295 (by decide) rfl ?_
  rw [i_rem (x := 26) 26 hy (by decide) (by decide) rfl]
  refine am_iload (n := 298) dL_acts_296 rfl rfl ?_
  refine am_iconst (n := 299) (v := 5) dL_acts_298 rfl rfl ?_
  refine am_ishr (n := 300) dL_acts_299 rfl ?_
  rw [show (5 : Int32) = nI 5 from rfl, i_shr hy (by decide)]
  refine am_bipush (n := 302) (v := 10) dL_acts_300 rfl rfl ?_
  refine am_irem (n := 303) dL_acts_302 (by decide) rfl ?_
  rw [i_rem (x := 10) 10 hy5 (by decide) (by decide) rfl]
  generalize y % 26 = a at m26 ⊢
  generalize y / 2 ^ 5 % 10 = b at m10 ⊢
  have k1 := cx_second g 0 (nI a) (nI b) G h hX
  have hvE := hV.1 a m26
  have hs : ∃ (v : Int32) (G' : GS), sp_second 0 (nI a) (nI b) G = (v, G') ∧ ¬ v < -6 ∧ Ax G G' ∧ G'.1.2.2.1 = G.1.2.2.1 ∧ G'.1.2.1 = G.1.2.1 := by
    unfold sp_second
    rw [hE0]
    show ∃ (v : Int32) (G' : GS), (if isLtr (nI a) = false then (-1, G) else if inR (nI b) 0 9 = false ∧ ¬ nI b = -6 then (-2, G) else if nI b = nI (E.1 (tn (nI a))) then (-5, G) else _) = (v, G') ∧ _
    rw [if_neg (by rw [isLtr_i m26]; decide), if_neg (fun q => by rw [inR_i (by omega) (by omega) (by omega)] at q; exact absurd q.1 (by decide)), tn_nI (by omega)]
    by_cases z : nI b = nI (E.1 a)
    · rw [if_pos z]
      exact ⟨_, _, rfl, by decide, Ax.same hE rfl rfl rfl, rfl, rfl⟩
    · rw [if_neg z]
      exact ⟨_, _, rfl, sec_ge _ (by omega), Ax.rec (by rw [len_setE]; exact hE), rfl, rfl⟩
  obtain ⟨v, G', e1, e2, e3, e4, e5⟩ := hs
  rw [e1] at k1
  refine caL_acts_71 (n := 306) dL_acts_303 (by first | exact ⟨rfl, rfl⟩ | assumption) k1 rfl rfl (Nat.le_of_ble_eq_true rfl) (by first | assumption | exact isC_of (by decide +kernel)) rfl ?_
  rintro r h1 ⟨rfl, X1, f1⟩
  refine am_bipush (n := 308) (v := (-6)) dL_acts_306 rfl rfl ?_
  refine am_icmp_lt (tgt := 315) (n := 311) dL_acts_308 (by decide) rfl (fun q_z => absurd q_z e2) (fun _ => ?_)
  refine am_iconst (n := 312) (v := 1) dL_acts_311 rfl rfl ?_
  refine am_goto (tgt := 316) dL_acts_312 (by decide) ?_
  refine am_iret dL_acts_316 rfl rfl ?_
  exact ⟨rfl, G', X1, (hq.fm f1).of e4 e5, e3⟩
set_option maxRecDepth 100000 in
set_option maxHeartbeats 2000000 in
theorem at_hear (hX : XI G h) (hq : LQ G h) (hE : 0 < G.1.2.2.2.length) (hy : y < 2 ^ 31) : AW g mmL_acts (ZP g (PA G)) 324 (L5 x y) [] h := by
  have hes := hX.2.1.2.2.2.2.1
  obtain ⟨E, hE0, hEm⟩ := eN_0 hes hE
  have hV : VE E := hX.2.1.2.2.2.2.2 E hEm
  have m26 : y % 26 < 26 := Nat.mod_lt _ (by decide)
  have hy5 : y / 2 ^ 5 < 2 ^ 31 := Nat.lt_of_le_of_lt (Nat.div_le_self _ _) hy
  have m10 : y / 2 ^ 5 % 10 < 10 := Nat.mod_lt _ (by decide)
  refine am_aload_n (n := 325) (i := 0) dL_acts_324 rfl rfl rfl ?_
  refine am_iconst (n := 326) (v := 0) dL_acts_325 rfl rfl ?_
  refine am_iload (n := 328) dL_acts_326 rfl rfl ?_
  refine am_bipush (n := 330) (v := 26) dL_acts_328 rfl rfl ?_
  refine am_irem (n := 331) dL_acts_330 (by decide) rfl ?_
  rw [i_rem (x := 26) 26 hy (by decide) (by decide) rfl]
  refine am_iload (n := 333) dL_acts_331 rfl rfl ?_
  refine am_iconst (n := 334) (v := 5) dL_acts_333 rfl rfl ?_
  refine am_ishr (n := 335) dL_acts_334 rfl ?_
  rw [show (5 : Int32) = nI 5 from rfl, i_shr hy (by decide)]
  refine am_bipush (n := 337) (v := 10) dL_acts_335 rfl rfl ?_
  refine am_irem (n := 338) dL_acts_337 (by decide) rfl ?_
  rw [i_rem (x := 10) 10 hy5 (by decide) (by decide) rfl]
  generalize y % 26 = a at m26 ⊢
  generalize y / 2 ^ 5 % 10 = b at m10 ⊢
  have k1 := cx_hear g 0 (nI a) (nI b) G h hX
  have hvE := hV.1 a m26
  have hs : ∃ (v : Int32) (G' : GS), sp_hear 0 (nI a) (nI b) G = (v, G') ∧ ¬ v < 0 ∧ Ax G G' ∧ G'.1.2.2.1 = G.1.2.2.1 ∧ G'.1.2.1 = G.1.2.1 := by
    unfold sp_hear
    rw [hE0]
    show ∃ (v : Int32) (G' : GS), (if isLtr (nI a) = false then (-1, G) else if inR (nI b) 0 9 = false then (-2, G) else _) = (v, G') ∧ _
    rw [if_neg (by rw [isLtr_i m26]; decide), if_neg (by rw [inR_i (by omega) (by omega) (by omega)]; decide), tn_nI (by omega)]
    exact ⟨_, _, rfl, nI_pos (by omega), Ax.rec (by rw [len_setE]; exact hE), rfl, rfl⟩
  obtain ⟨v, G', e1, e2, e3, e4, e5⟩ := hs
  rw [e1] at k1
  refine caL_acts_68 (n := 341) dL_acts_338 (by first | exact ⟨rfl, rfl⟩ | assumption) k1 rfl rfl (Nat.le_of_ble_eq_true rfl) (by first | assumption | exact isC_of (by decide +kernel)) rfl ?_
  rintro r h1 ⟨rfl, X1, f1⟩
  refine am_if_lt (tgt := 348) (n := 344) dL_acts_341 (by decide) rfl (fun q_z => absurd q_z e2) (fun _ => ?_)
  refine am_iconst (n := 345) (v := 1) dL_acts_344 rfl rfl ?_
  refine am_goto (tgt := 379) dL_acts_345 (by decide) ?_
  refine am_iret dL_acts_379 rfl rfl ?_
  exact ⟨rfl, G', X1, (hq.fm f1).of e4 e5, e3⟩
set_option maxRecDepth 100000 in
set_option maxHeartbeats 2000000 in
theorem at_ear (hX : XI G h) (hq : LQ G h) (hE : 0 < G.1.2.2.2.length) (hy : y < 2 ^ 31) : AW g mmL_acts (ZP g (PA G)) 352 (L5 x y) [] h := by
  have hes := hX.2.1.2.2.2.2.1
  have t366 : ∀ (a : Int32), (a = 0 ∨ a = -6) → AW g mmL_acts (ZP g (PA G)) 366 (L5 x y) [.int a, .ref 0] h := by
    intro a ha
    have k1 := cx_ear g a G h hX
    have hs : ∃ (v : Int32) (G' : GS), sp_ear a G = (v, G') ∧ ¬ v < -4 ∧ Ax G G' ∧ G'.1.2.2.1 = G.1.2.2.1 ∧ G'.1.2.1 = G.1.2.1 := by
      unfold sp_ear
      rw [if_neg (fun q => by
        rcases ha with rfl | rfl
        · rw [show (0 : Int32) = nI 0 from rfl, inN_i hE (by omega)] at q
          exact absurd q.1 (by decide)
        · exact q.2 rfl)]
      by_cases z : 4 ≤ G.1.2.2.2.length
      · rw [if_pos z]
        exact ⟨_, _, rfl, by decide, Ax.same hE rfl rfl rfl, rfl, rfl⟩
      · rw [if_neg z]
        refine ⟨_, _, rfl, ?_, Ax.rec ?_, rfl, rfl⟩
        · intro q
          rw [Int32.lt_iff_toInt_lt, nI_toInt (by omega)] at q
          have e2 : (-4 : Int32).toInt = -4 := by decide
          omega
        · show 0 < (G.1.2.2.2 ++ [(eN G.1.2.2.2 a).getD E0]).length
          rw [List.length_append]
          exact Nat.lt_of_lt_of_le hE (Nat.le_add_right _ _)
    obtain ⟨v, G', e1, e2, e3, e4, e5⟩ := hs
    rw [e1] at k1
    refine caL_acts_65 (n := 369) dL_acts_366 (by first | exact ⟨rfl, rfl⟩ | assumption) k1 rfl rfl (Nat.le_of_ble_eq_true rfl) (by first | assumption | exact isC_of (by decide +kernel)) rfl ?_
    rintro r h1 ⟨rfl, X1, f1⟩
    refine am_bipush (n := 371) (v := (-4)) dL_acts_369 rfl rfl ?_
    refine am_icmp_lt (tgt := 378) (n := 374) dL_acts_371 (by decide) rfl (fun q_z => absurd q_z e2) (fun _ => ?_)
    refine am_iconst (n := 375) (v := 1) dL_acts_374 rfl rfl ?_
    refine am_goto (tgt := 379) dL_acts_375 (by decide) ?_
    refine am_iret dL_acts_379 rfl rfl ?_
    exact ⟨rfl, G', X1, (hq.fm f1).of e4 e5, e3⟩
  refine am_aload_n (n := 353) (i := 0) dL_acts_352 rfl rfl rfl ?_
  refine am_iload (n := 355) dL_acts_353 rfl rfl ?_
  refine am_iconst (n := 356) (v := 2) dL_acts_355 rfl rfl ?_
  refine am_irem (n := 357) dL_acts_356 (by decide) rfl ?_
  rw [i_rem (x := 2) 2 hy (by decide) (by decide) rfl]
  rcases Nat.mod_two_eq_zero_or_one y with z | z
  · rw [z]
    refine am_if_ne (tgt := 364) (n := 360) dL_acts_357 (by decide) rfl (fun q_z => absurd rfl q_z) (fun _ => ?_)
    refine am_iconst (n := 361) (v := 0) dL_acts_360 rfl rfl ?_
    refine am_goto (tgt := 366) dL_acts_361 (by decide) ?_
    exact t366 0 (Or.inl rfl)
  · rw [z]
    refine am_if_ne (tgt := 364) (n := 360) dL_acts_357 (by decide) rfl (fun _ => ?_) (fun q_z => absurd q_z (by decide))
    refine am_bipush (n := 366) (v := (-6)) dL_acts_364 rfl rfl ?_
    exact t366 (-6) (Or.inr rfl)
set_option maxRecDepth 100000 in
set_option maxHeartbeats 2000000 in
theorem ac_L_acts (g : Gx) (x y : Nat) (G : GS) (h : Hp) (hX : XI G h) (hq : LQ G h) (hE : 0 < G.1.2.2.2.length) (hx : x < 2 ^ 31) (hy : y < 2 ^ 31) : AC g yL_acts wsL_acts rmL_acts [.ref 0, .ref 40, .ref 41, .int (nI x), .int (nI y)] h (PA G) := by
  have m12 : x % 12 < 12 := Nat.mod_lt _ (by decide)
  refine AC.of (cc := cL_acts) (maxL := 11) (ret := (some .boolean)) (by decide +kernel) rfl (Nat.le_of_ble_eq_true rfl) ?_
  show AW g mmL_acts _ 0 [(0, some (.ref 0)), (1, some (.ref 40)), (2, some (.ref 41)), (3, some (.int (nI x))), (4, some (.int (nI y)))] [] _
  refine am_iload_n (n := 1) (i := 3) dL_acts_0 rfl rfl rfl ?_
  refine am_bipush (n := 3) (v := 12) dL_acts_1 rfl rfl ?_
  refine am_irem (n := 4) dL_acts_3 (by decide) rfl ?_
  rw [i_rem (x := 12) 12 hx (by decide) (by decide) rfl]
  refine am_istore (n := 6) dL_acts_4 (Nat.le_of_ble_eq_true rfl) rfl rfl ?_
  refine am_loc (L5 x y) rfl ?_
  by_cases z6 : x % 12 < 6
  · refine am_iload (n := 8) dL_acts_6 rfl rfl ?_
    refine am_bipush (n := 10) (v := 6) dL_acts_8 rfl rfl ?_
    refine am_icmp_ge (tgt := 136) (n := 13) dL_acts_10 (by decide) rfl (fun q_z => absurd q_z (nI_ge z6 (by decide))) (fun _ => ?_)
    exact at_add hX hq hE hx hy
  · refine am_iload (n := 8) dL_acts_6 rfl rfl ?_
    refine am_bipush (n := 10) (v := 6) dL_acts_8 rfl rfl ?_
    refine am_icmp_ge (tgt := 136) (n := 13) dL_acts_10 (by decide) rfl (fun _ => ?_) (fun q_z => absurd (nI_le (Nat.not_lt.mp z6) (by omega)) q_z)
    by_cases z8 : x % 12 < 8
    · refine am_iload (n := 138) dL_acts_136 rfl rfl ?_
      refine am_bipush (n := 140) (v := 8) dL_acts_138 rfl rfl ?_
      refine am_icmp_ge (tgt := 230) (n := 143) dL_acts_140 (by decide) rfl (fun q_z => absurd q_z (nI_ge z8 (by decide))) (fun _ => ?_)
      exact at_drop hX hq hE hx hy
    · refine am_iload (n := 138) dL_acts_136 rfl rfl ?_
      refine am_bipush (n := 140) (v := 8) dL_acts_138 rfl rfl ?_
      refine am_icmp_ge (tgt := 230) (n := 143) dL_acts_140 (by decide) rfl (fun _ => ?_) (fun q_z => absurd (nI_le (Nat.not_lt.mp z8) (by omega)) q_z)
      by_cases e8 : x % 12 = 8
      · refine am_iload (n := 232) dL_acts_230 rfl rfl ?_
        refine am_bipush (n := 234) (v := 8) dL_acts_232 rfl rfl ?_
        refine am_icmp_ne (tgt := 282) (n := 237) dL_acts_234 (by decide) rfl (fun q_z => absurd (by rw [e8]; rfl) q_z) (fun _ => ?_)
        exact at_cap hX hq hE hy
      · refine am_iload (n := 232) dL_acts_230 rfl rfl ?_
        refine am_bipush (n := 234) (v := 8) dL_acts_232 rfl rfl ?_
        refine am_icmp_ne (tgt := 282) (n := 237) dL_acts_234 (by decide) rfl (fun _ => ?_) (fun q_z => absurd q_z (fun q => e8 ((nI_eq (by omega) (by decide)).mp q)))
        by_cases e9 : x % 12 = 9
        · refine am_iload (n := 284) dL_acts_282 rfl rfl ?_
          refine am_bipush (n := 286) (v := 9) dL_acts_284 rfl rfl ?_
          refine am_icmp_ne (tgt := 317) (n := 289) dL_acts_286 (by decide) rfl (fun q_z => absurd (by rw [e9]; rfl) q_z) (fun _ => ?_)
          exact at_second hX hq hE hy
        · refine am_iload (n := 284) dL_acts_282 rfl rfl ?_
          refine am_bipush (n := 286) (v := 9) dL_acts_284 rfl rfl ?_
          refine am_icmp_ne (tgt := 317) (n := 289) dL_acts_286 (by decide) rfl (fun _ => ?_) (fun q_z => absurd q_z (fun q => e9 ((nI_eq (by omega) (by decide)).mp q)))
          by_cases e10 : x % 12 = 10
          · refine am_iload (n := 319) dL_acts_317 rfl rfl ?_
            refine am_bipush (n := 321) (v := 10) dL_acts_319 rfl rfl ?_
            refine am_icmp_ne (tgt := 352) (n := 324) dL_acts_321 (by decide) rfl (fun q_z => absurd (by rw [e10]; rfl) q_z) (fun _ => ?_)
            exact at_hear hX hq hE hy
          · refine am_iload (n := 319) dL_acts_317 rfl rfl ?_
            refine am_bipush (n := 321) (v := 10) dL_acts_319 rfl rfl ?_
            refine am_icmp_ne (tgt := 352) (n := 324) dL_acts_321 (by decide) rfl (fun _ => ?_) (fun q_z => absurd q_z (fun q => e10 ((nI_eq (by omega) (by decide)).mp q)))
            exact at_ear hX hq hE hy
end ACTS
