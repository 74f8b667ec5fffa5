/-! THE LAW'S CALLS THAT FAIL -/
section
theorem rf_of7 {G : GS} {E : EV} (h : eN G.1.2.2.2 0 = some E) : sp_of 0 7 0 G = (nI (E.1 7), G) := (rf_of3 h rfl).trans rfl
theorem rf_sec7 {G : GS} {E : EV} (h : eN G.1.2.2.2 0 = some E) (h9 : E.1 7 ≤ 9) : sp_second 0 7 (nI (E.1 7)) G = (-5, G) := rf_sec4 h rfl (inR_i (by decide) (Nat.zero_le _) h9) rfl
set_option maxRecDepth 100000 in
set_option maxHeartbeats 4000000 in
theorem rfA1 {g : Gx} {G : GS} {h0 : Hp} {P : Option Value → Hp → Prop} {X : Nat} {nm no kd lt na : Int32} {E : EV} (hxl : X < 2 ^ 31) (hno : inN no G.1.2.2.2.length = false) (hkd : inR kd 0 9 = false) (hk6 : ¬ kd = -6) (hlt : isLtr lt = false) (hna : inN na G.1.2.2.1.length = false) (hE : eN G.1.2.2.2 0 = some E) (hV : VE E)  (next : ∀ h' : Hp, XI G h' → FM h0 h' → AW g mmL_refusesAny (ZP g P) 321 [(0, some (.ref 0)), (1, some (.int (nI X))), (2, some (.int nm)), (3, some (.int (nI G.1.2.2.2.length))), (4, some (.int no)), (5, some (.int kd)), (6, some (.int lt)), (7, some (.int na)), (8, some (.int 1))] [] h') : ∀ h1 : Hp, XI G h1 → FM h0 h1 → AW g mmL_refusesAny (ZP g P) 105 [(0, some (.ref 0)), (1, some (.int (nI X))), (2, some (.int nm)), (3, some (.int (nI G.1.2.2.2.length))), (4, some (.int no)), (5, some (.int kd)), (6, some (.int lt)), (7, some (.int na))] [] h1 := by
  have hno1 : eN G.1.2.2.2 no = none := eN_f hno
  intro h1 X1 f1
  have t216 : ∀ h1 : Hp, XI G h1 → FM h0 h1 → AW g mmL_refusesAny (ZP g P) 216 [(0, some (.ref 0)), (1, some (.int (nI X))), (2, some (.int nm)), (3, some (.int (nI G.1.2.2.2.length))), (4, some (.int no)), (5, some (.int kd)), (6, some (.int lt)), (7, some (.int na))] [] h1 := by
    intro h1 X1 f1
    refine am_aload_n (n := 217) (i := 0) dL_refusesAny_216 rfl rfl rfl ?_
    refine am_iload (n := 219) dL_refusesAny_217 rfl rfl ?_
    refine am_iconst (n := 220) (v := 0) dL_refusesAny_219 rfl rfl ?_
    refine am_iload (n := 222) dL_refusesAny_220 rfl rfl ?_
    have k222 := cx_hear g no 0 kd G _ X1
    rw [rf_hear1 hno1] at k222
    refine caL_refusesAny_68 (n := 225) dL_refusesAny_222 (by first | exact ⟨rfl, rfl⟩ | assumption) k222 rfl rfl (Nat.le_of_ble_eq_true rfl) (by first | assumption | exact isC_of (by decide +kernel)) rfl ?_
    clear k222
    rintro r h2 ⟨rfl, X2, f2⟩
    replace f1 := f1.tr f2
    clear X1 f2
    have X1 := X2
    clear X2
    refine am_iconst (n := 226) (v := (-1)) dL_refusesAny_225 rfl rfl ?_
    refine am_icmp_ne (tgt := 318) (n := 229) dL_refusesAny_226 (by decide) rfl (fun q_z => absurd rfl q_z) (fun _ => ?_)
    refine am_aload_n (n := 230) (i := 0) dL_refusesAny_229 rfl rfl rfl ?_
    refine am_iconst (n := 231) (v := 0) dL_refusesAny_230 rfl rfl ?_
    refine am_iload (n := 233) dL_refusesAny_231 rfl rfl ?_
    refine am_iload (n := 235) dL_refusesAny_233 rfl rfl ?_
    have k235 := cx_hear g 0 lt kd G _ X1
    rw [rf_hear2 hE hlt] at k235
    refine caL_refusesAny_68 (n := 238) dL_refusesAny_235 (by first | exact ⟨rfl, rfl⟩ | assumption) k235 rfl rfl (Nat.le_of_ble_eq_true rfl) (by first | assumption | exact isC_of (by decide +kernel)) rfl ?_
    clear k235
    rintro r h2 ⟨rfl, X2, f2⟩
    replace f1 := f1.tr f2
    clear X1 f2
    have X1 := X2
    clear X2
    refine am_iconst (n := 239) (v := (-1)) dL_refusesAny_238 rfl rfl ?_
    refine am_icmp_ne (tgt := 318) (n := 242) dL_refusesAny_239 (by decide) rfl (fun q_z => absurd rfl q_z) (fun _ => ?_)
    refine am_aload_n (n := 243) (i := 0) dL_refusesAny_242 rfl rfl rfl ?_
    refine am_iconst (n := 244) (v := 0) dL_refusesAny_243 rfl rfl ?_
    refine am_iconst (n := 245) (v := 0) dL_refusesAny_244 rfl rfl ?_
    refine am_iload (n := 247) dL_refusesAny_245 rfl rfl ?_
    have k247 := cx_hear g 0 0 kd G _ X1
    rw [rf_hear3 hE rfl hkd] at k247
    refine caL_refusesAny_68 (n := 250) dL_refusesAny_247 (by first | exact ⟨rfl, rfl⟩ | assumption) k247 rfl rfl (Nat.le_of_ble_eq_true rfl) (by first | assumption | exact isC_of (by decide +kernel)) rfl ?_
    clear k247
    rintro r h2 ⟨rfl, X2, f2⟩
    replace f1 := f1.tr f2
    clear X1 f2
    have X1 := X2
    clear X2
    refine am_bipush (n := 252) (v := (-2)) dL_refusesAny_250 rfl rfl ?_
    refine am_icmp_ne (tgt := 318) (n := 255) dL_refusesAny_252 (by decide) rfl (fun q_z => absurd rfl q_z) (fun _ => ?_)
    refine am_aload_n (n := 256) (i := 0) dL_refusesAny_255 rfl rfl rfl ?_
    refine am_iload (n := 258) dL_refusesAny_256 rfl rfl ?_
    refine am_iconst (n := 259) (v := 0) dL_refusesAny_258 rfl rfl ?_
    refine am_iload (n := 261) dL_refusesAny_259 rfl rfl ?_
    have k261 := cx_second g no 0 kd G _ X1
    rw [rf_sec1 hno1] at k261
    refine caL_refusesAny_71 (n := 264) dL_refusesAny_261 (by first | exact ⟨rfl, rfl⟩ | assumption) k261 rfl rfl (Nat.le_of_ble_eq_true rfl) (by first | assumption | exact isC_of (by decide +kernel)) rfl ?_
    clear k261
    rintro r h2 ⟨rfl, X2, f2⟩
    replace f1 := f1.tr f2
    clear X1 f2
    have X1 := X2
    clear X2
    refine am_iconst (n := 265) (v := (-1)) dL_refusesAny_264 rfl rfl ?_
    refine am_icmp_ne (tgt := 318) (n := 268) dL_refusesAny_265 (by decide) rfl (fun q_z => absurd rfl q_z) (fun _ => ?_)
    refine am_aload_n (n := 269) (i := 0) dL_refusesAny_268 rfl rfl rfl ?_
    refine am_iconst (n := 270) (v := 0) dL_refusesAny_269 rfl rfl ?_
    refine am_iload (n := 272) dL_refusesAny_270 rfl rfl ?_
    refine am_iload (n := 274) dL_refusesAny_272 rfl rfl ?_
    have k274 := cx_second g 0 lt kd G _ X1
    rw [rf_sec2 hE hlt] at k274
    refine caL_refusesAny_71 (n := 277) dL_refusesAny_274 (by first | exact ⟨rfl, rfl⟩ | assumption) k274 rfl rfl (Nat.le_of_ble_eq_true rfl) (by first | assumption | exact isC_of (by decide +kernel)) rfl ?_
    clear k274
    rintro r h2 ⟨rfl, X2, f2⟩
    replace f1 := f1.tr f2
    clear X1 f2
    have X1 := X2
    clear X2
    refine am_iconst (n := 278) (v := (-1)) dL_refusesAny_277 rfl rfl ?_
    refine am_icmp_ne (tgt := 318) (n := 281) dL_refusesAny_278 (by decide) rfl (fun q_z => absurd rfl q_z) (fun _ => ?_)
    refine am_aload_n (n := 282) (i := 0) dL_refusesAny_281 rfl rfl rfl ?_
    refine am_iconst (n := 283) (v := 0) dL_refusesAny_282 rfl rfl ?_
    refine am_iconst (n := 284) (v := 0) dL_refusesAny_283 rfl rfl ?_
    refine am_iload (n := 286) dL_refusesAny_284 rfl rfl ?_
    have k286 := cx_second g 0 0 kd G _ X1
    rw [rf_sec3 hE rfl hkd hk6] at k286
    refine caL_refusesAny_71 (n := 289) dL_refusesAny_286 (by first | exact ⟨rfl, rfl⟩ | assumption) k286 rfl rfl (Nat.le_of_ble_eq_true rfl) (by first | assumption | exact isC_of (by decide +kernel)) rfl ?_
    clear k286
    rintro r h2 ⟨rfl, X2, f2⟩
    replace f1 := f1.tr f2
    clear X1 f2
    have X1 := X2
    clear X2
    refine am_bipush (n := 291) (v := (-2)) dL_refusesAny_289 rfl rfl ?_
    refine am_icmp_ne (tgt := 318) (n := 294) dL_refusesAny_291 (by decide) rfl (fun q_z => absurd rfl q_z) (fun _ => ?_)
    refine am_aload_n (n := 295) (i := 0) dL_refusesAny_294 rfl rfl rfl ?_
    refine am_iconst (n := 296) (v := 0) dL_refusesAny_295 rfl rfl ?_
    refine am_bipush (n := 298) (v := 7) dL_refusesAny_296 rfl rfl ?_
    refine am_aload_n (n := 299) (i := 0) dL_refusesAny_298 rfl rfl rfl ?_
    refine am_iconst (n := 300) (v := 0) dL_refusesAny_299 rfl rfl ?_
    refine am_bipush (n := 302) (v := 7) dL_refusesAny_300 rfl rfl ?_
    refine am_iconst (n := 303) (v := 0) dL_refusesAny_302 rfl rfl ?_
    have k303 := cx_of g 0 7 0 G _ X1
    rw [rf_of7 hE] at k303
    refine caL_refusesAny_49 (n := 306) dL_refusesAny_303 (by first | exact ⟨rfl, rfl⟩ | assumption) k303 rfl rfl (Nat.le_of_ble_eq_true rfl) (by first | assumption | exact isC_of (by decide +kernel)) rfl ?_
    clear k303
    rintro r h2 ⟨rfl, X2, f2⟩
    replace f1 := f1.tr f2
    clear X1 f2
    have X1 := X2
    clear X2
    have h9 := (hV.1 7 (by decide)).1
    skip
    have k306 := cx_second g 0 7 (nI (E.1 7)) G _ X1
    rw [rf_sec7 hE h9] at k306
    refine caL_refusesAny_71 (n := 309) dL_refusesAny_306 (by first | exact ⟨rfl, rfl⟩ | assumption) k306 rfl rfl (Nat.le_of_ble_eq_true rfl) (by first | assumption | exact isC_of (by decide +kernel)) rfl ?_
    rintro r h2 ⟨rfl, X2, f2⟩
    refine am_bipush (n := 311) (v := (-5)) dL_refusesAny_309 rfl rfl ?_
    refine am_icmp_ne (tgt := 318) (n := 314) dL_refusesAny_311 (by decide) rfl (fun q_z => absurd rfl q_z) (fun _ => ?_)
    refine am_iconst (n := 315) (v := 1) dL_refusesAny_314 rfl rfl ?_
    refine am_goto (tgt := 319) dL_refusesAny_315 (by decide) ?_
    refine am_istore (n := 321) dL_refusesAny_319 (Nat.le_of_ble_eq_true rfl) rfl rfl ?_
    exact am_loc _ rfl (next h2 X2 (f1.tr f2))
  have t200 : ∀ h1 : Hp, XI G h1 → FM h0 h1 → AW g mmL_refusesAny (ZP g P) 200 [(0, some (.ref 0)), (1, some (.int (nI X))), (2, some (.int nm)), (3, some (.int (nI G.1.2.2.2.length))), (4, some (.int no)), (5, some (.int kd)), (6, some (.int lt)), (7, some (.int na))] [] h1 := by
    intro h1 X1 f1
    refine am_iload_n (n := 201) (i := 3) dL_refusesAny_200 rfl rfl rfl ?_
    refine am_iconst (n := 202) (v := 4) dL_refusesAny_201 rfl rfl ?_
    refine am_icmp_lt (tgt := 216) (n := 205) dL_refusesAny_202 (by decide) rfl (fun c_202 => ?_) (fun c_202 => ?_)
    · exact t216 h1 X1 f1
    · have h4 : 4 ≤ G.1.2.2.2.length := Nat.not_lt.mp (fun q => c_202 (nI_lt q (by decide)))
      refine am_aload_n (n := 206) (i := 0) dL_refusesAny_205 rfl rfl rfl ?_
      refine am_bipush (n := 208) (v := (-6)) dL_refusesAny_206 rfl rfl ?_
      have k208 := cx_ear g (-6) G _ X1
      rw [rf_earN h4] at k208
      refine caL_refusesAny_65 (n := 211) dL_refusesAny_208 (by first | exact ⟨rfl, rfl⟩ | assumption) k208 rfl rfl (Nat.le_of_ble_eq_true rfl) (by first | assumption | exact isC_of (by decide +kernel)) rfl ?_
      clear k208
      rintro r h2 ⟨rfl, X2, f2⟩
      replace f1 := f1.tr f2
      clear X1 f2
      have X1 := X2
      clear X2
      refine am_bipush (n := 213) (v := (-4)) dL_refusesAny_211 rfl rfl ?_
      refine am_icmp_ne (tgt := 318) (n := 216) dL_refusesAny_213 (by decide) rfl (fun q_z => absurd rfl q_z) (fun _ => ?_)
      exact t216 _ X1 f1
  refine am_aload_n (n := 106) (i := 0) dL_refusesAny_105 rfl rfl rfl ?_
  refine am_iconst (n := 107) (v := 2) dL_refusesAny_106 rfl rfl ?_
  refine am_iconst (n := 108) (v := 1) dL_refusesAny_107 rfl rfl ?_
  have k108 := cx_set g 2 1 G _ X1
  rw [rf_set (by decide) (by decide)] at k108
  refine caL_refusesAny_59 (n := 111) dL_refusesAny_108 (by first | exact ⟨rfl, rfl⟩ | assumption) k108 rfl rfl (Nat.le_of_ble_eq_true rfl) (by first | assumption | exact isC_of (by decide +kernel)) rfl ?_
  clear k108
  rintro r h2 ⟨rfl, X2, f2⟩
  replace f1 := f1.tr f2
  clear X1 f2
  have X1 := X2
  clear X2
  refine am_bipush (n := 113) (v := (-2)) dL_refusesAny_111 rfl rfl ?_
  refine am_icmp_ne (tgt := 318) (n := 116) dL_refusesAny_113 (by decide) rfl (fun q_z => absurd rfl q_z) (fun _ => ?_)
  refine am_aload_n (n := 117) (i := 0) dL_refusesAny_116 rfl rfl rfl ?_
  refine am_iconst (n := 118) (v := (-1)) dL_refusesAny_117 rfl rfl ?_
  refine am_iconst (n := 119) (v := 1) dL_refusesAny_118 rfl rfl ?_
  have k119 := cx_set g (-1) 1 G _ X1
  rw [rf_set (by decide) (by decide)] at k119
  refine caL_refusesAny_59 (n := 122) dL_refusesAny_119 (by first | exact ⟨rfl, rfl⟩ | assumption) k119 rfl rfl (Nat.le_of_ble_eq_true rfl) (by first | assumption | exact isC_of (by decide +kernel)) rfl ?_
  clear k119
  rintro r h2 ⟨rfl, X2, f2⟩
  replace f1 := f1.tr f2
  clear X1 f2
  have X1 := X2
  clear X2
  refine am_bipush (n := 124) (v := (-2)) dL_refusesAny_122 rfl rfl ?_
  refine am_icmp_ne (tgt := 318) (n := 127) dL_refusesAny_124 (by decide) rfl (fun q_z => absurd rfl q_z) (fun _ => ?_)
  refine am_aload_n (n := 128) (i := 0) dL_refusesAny_127 rfl rfl rfl ?_
  refine am_iconst (n := 129) (v := 0) dL_refusesAny_128 rfl rfl ?_
  refine am_iconst (n := 130) (v := 0) dL_refusesAny_129 rfl rfl ?_
  have k130 := cx_set g 0 0 G _ X1
  rw [rf_set (by decide) (by decide)] at k130
  refine caL_refusesAny_59 (n := 133) dL_refusesAny_130 (by first | exact ⟨rfl, rfl⟩ | assumption) k130 rfl rfl (Nat.le_of_ble_eq_true rfl) (by first | assumption | exact isC_of (by decide +kernel)) rfl ?_
  clear k130
  rintro r h2 ⟨rfl, X2, f2⟩
  replace f1 := f1.tr f2
  clear X1 f2
  have X1 := X2
  clear X2
  refine am_bipush (n := 135) (v := (-2)) dL_refusesAny_133 rfl rfl ?_
  refine am_icmp_ne (tgt := 318) (n := 138) dL_refusesAny_135 (by decide) rfl (fun q_z => absurd rfl q_z) (fun _ => ?_)
  refine am_aload_n (n := 139) (i := 0) dL_refusesAny_138 rfl rfl rfl ?_
  refine am_iconst (n := 140) (v := 0) dL_refusesAny_139 rfl rfl ?_
  refine am_bipush (n := 142) (v := 6) dL_refusesAny_140 rfl rfl ?_
  have k142 := cx_set g 0 6 G _ X1
  rw [rf_set (by decide) (by decide)] at k142
  refine caL_refusesAny_59 (n := 145) dL_refusesAny_142 (by first | exact ⟨rfl, rfl⟩ | assumption) k142 rfl rfl (Nat.le_of_ble_eq_true rfl) (by first | assumption | exact isC_of (by decide +kernel)) rfl ?_
  clear k142
  rintro r h2 ⟨rfl, X2, f2⟩
  replace f1 := f1.tr f2
  clear X1 f2
  have X1 := X2
  clear X2
  refine am_bipush (n := 147) (v := (-2)) dL_refusesAny_145 rfl rfl ?_
  refine am_icmp_ne (tgt := 318) (n := 150) dL_refusesAny_147 (by decide) rfl (fun q_z => absurd rfl q_z) (fun _ => ?_)
  refine am_aload_n (n := 151) (i := 0) dL_refusesAny_150 rfl rfl rfl ?_
  refine am_iconst (n := 152) (v := 1) dL_refusesAny_151 rfl rfl ?_
  refine am_iconst (n := 153) (v := 0) dL_refusesAny_152 rfl rfl ?_
  have k153 := cx_set g 1 0 G _ X1
  rw [rf_set (by decide) (by decide)] at k153
  refine caL_refusesAny_59 (n := 156) dL_refusesAny_153 (by first | exact ⟨rfl, rfl⟩ | assumption) k153 rfl rfl (Nat.le_of_ble_eq_true rfl) (by first | assumption | exact isC_of (by decide +kernel)) rfl ?_
  clear k153
  rintro r h2 ⟨rfl, X2, f2⟩
  replace f1 := f1.tr f2
  clear X1 f2
  have X1 := X2
  clear X2
  refine am_bipush (n := 158) (v := (-2)) dL_refusesAny_156 rfl rfl ?_
  refine am_icmp_ne (tgt := 318) (n := 161) dL_refusesAny_158 (by decide) rfl (fun q_z => absurd rfl q_z) (fun _ => ?_)
  refine am_aload_n (n := 162) (i := 0) dL_refusesAny_161 rfl rfl rfl ?_
  refine am_iconst (n := 163) (v := 1) dL_refusesAny_162 rfl rfl ?_
  refine am_bipush (n := 165) (v := 25) dL_refusesAny_163 rfl rfl ?_
  have k165 := cx_set g 1 25 G _ X1
  rw [rf_set (by decide) (by decide)] at k165
  refine caL_refusesAny_59 (n := 168) dL_refusesAny_165 (by first | exact ⟨rfl, rfl⟩ | assumption) k165 rfl rfl (Nat.le_of_ble_eq_true rfl) (by first | assumption | exact isC_of (by decide +kernel)) rfl ?_
  clear k165
  rintro r h2 ⟨rfl, X2, f2⟩
  replace f1 := f1.tr f2
  clear X1 f2
  have X1 := X2
  clear X2
  refine am_bipush (n := 170) (v := (-2)) dL_refusesAny_168 rfl rfl ?_
  refine am_icmp_ne (tgt := 318) (n := 173) dL_refusesAny_170 (by decide) rfl (fun q_z => absurd rfl q_z) (fun _ => ?_)
  refine am_aload_n (n := 174) (i := 0) dL_refusesAny_173 rfl rfl rfl ?_
  refine am_iload (n := 176) dL_refusesAny_174 rfl rfl ?_
  have k176 := cx_drop g na G _ X1
  rw [rf_drop hna] at k176
  refine caL_refusesAny_62 (n := 179) dL_refusesAny_176 (by first | exact ⟨rfl, rfl⟩ | assumption) k176 rfl rfl (Nat.le_of_ble_eq_true rfl) (by first | assumption | exact isC_of (by decide +kernel)) rfl ?_
  clear k176
  rintro r h2 ⟨rfl, X2, f2⟩
  replace f1 := f1.tr f2
  clear X1 f2
  have X1 := X2
  clear X2
  refine am_iconst (n := 180) (v := (-1)) dL_refusesAny_179 rfl rfl ?_
  refine am_icmp_ne (tgt := 318) (n := 183) dL_refusesAny_180 (by decide) rfl (fun q_z => absurd rfl q_z) (fun _ => ?_)
  refine am_iload (n := 185) dL_refusesAny_183 rfl rfl ?_
  refine am_bipush (n := 187) (v := (-6)) dL_refusesAny_185 rfl rfl ?_
  refine am_icmp_eq (tgt := 200) (n := 190) dL_refusesAny_187 (by decide) rfl (fun c_187 => ?_) (fun c_187 => ?_)
  · exact t200 _ X1 f1
  · skip
    refine am_aload_n (n := 191) (i := 0) dL_refusesAny_190 rfl rfl rfl ?_
    refine am_iload (n := 193) dL_refusesAny_191 rfl rfl ?_
    have k193 := cx_ear g no G _ X1
    rw [rf_ear hno c_187] at k193
    refine caL_refusesAny_65 (n := 196) dL_refusesAny_193 (by first | exact ⟨rfl, rfl⟩ | assumption) k193 rfl rfl (Nat.le_of_ble_eq_true rfl) (by first | assumption | exact isC_of (by decide +kernel)) rfl ?_
    clear k193
    rintro r h2 ⟨rfl, X2, f2⟩
    replace f1 := f1.tr f2
    clear X1 f2
    have X1 := X2
    clear X2
    refine am_iconst (n := 197) (v := (-1)) dL_refusesAny_196 rfl rfl ?_
    refine am_icmp_ne (tgt := 318) (n := 200) dL_refusesAny_197 (by decide) rfl (fun q_z => absurd rfl q_z) (fun _ => ?_)
    exact t200 _ X1 f1
set_option maxRecDepth 100000 in
set_option maxHeartbeats 4000000 in
theorem rfB0 {g : Gx} {G : GS} {h0 : Hp} {P : Option Value → Hp → Prop} {X : Nat} {nm no kd lt na : Int32} {E : EV} (hxl : X < 2 ^ 31) (hno : inN no G.1.2.2.2.length = false) (hkd : inR kd 0 9 = false) (hk6 : ¬ kd = -6) (hlt : isLtr lt = false) (hna : inN na G.1.2.2.1.length = false) (hE : eN G.1.2.2.2 0 = some E) (hV : VE E) (par : X % 2 = 0) (next : ∀ h' : Hp, XI G h' → FM h0 h' → AW g mmL_refusesAny (ZP g P) 519 [(0, some (.ref 0)), (1, some (.int (nI X))), (2, some (.int nm)), (3, some (.int (nI G.1.2.2.2.length))), (4, some (.int no)), (5, some (.int kd)), (6, some (.int lt)), (7, some (.int na)), (8, some (.int 1))] [] h') : ∀ h1 : Hp, XI G h1 → FM h0 h1 → AW g mmL_refusesAny (ZP g P) 321 [(0, some (.ref 0)), (1, some (.int (nI X))), (2, some (.int nm)), (3, some (.int (nI G.1.2.2.2.length))), (4, some (.int no)), (5, some (.int kd)), (6, some (.int lt)), (7, some (.int na)), (8, some (.int 1))] [] h1 := by
  have hno1 : eN G.1.2.2.2 no = none := eN_f hno
  intro h1 X1 f1
  have t439 : ∀ h1 : Hp, XI G h1 → FM h0 h1 → AW g mmL_refusesAny (ZP g P) 439 [(0, some (.ref 0)), (1, some (.int (nI X))), (2, some (.int nm)), (3, some (.int (nI G.1.2.2.2.length))), (4, some (.int no)), (5, some (.int kd)), (6, some (.int lt)), (7, some (.int na)), (8, some (.int 1))] [] h1 := by
    intro h1 X1 f1
    refine am_aload_n (n := 440) (i := 0) dL_refusesAny_439 rfl rfl rfl ?_
    refine am_iload (n := 442) dL_refusesAny_440 rfl rfl ?_
    refine am_iconst (n := 443) (v := 0) dL_refusesAny_442 rfl rfl ?_
    refine am_bipush (n := 445) (v := 9) dL_refusesAny_443 rfl rfl ?_
    have k445 := cx_of g no 0 9 G _ X1
    rw [rf_of1 hno1] at k445
    refine caL_refusesAny_49 (n := 448) dL_refusesAny_445 (by first | exact ⟨rfl, rfl⟩ | assumption) k445 rfl rfl (Nat.le_of_ble_eq_true rfl) (by first | assumption | exact isC_of (by decide +kernel)) rfl ?_
    clear k445
    rintro r h2 ⟨rfl, X2, f2⟩
    replace f1 := f1.tr f2
    clear X1 f2
    have X1 := X2
    clear X2
    refine am_iconst (n := 449) (v := (-1)) dL_refusesAny_448 rfl rfl ?_
    refine am_icmp_ne (tgt := 516) (n := 452) dL_refusesAny_449 (by decide) rfl (fun q_z => absurd rfl q_z) (fun _ => ?_)
    refine am_aload_n (n := 453) (i := 0) dL_refusesAny_452 rfl rfl rfl ?_
    refine am_iconst (n := 454) (v := 0) dL_refusesAny_453 rfl rfl ?_
    refine am_iload (n := 456) dL_refusesAny_454 rfl rfl ?_
    refine am_bipush (n := 458) (v := 9) dL_refusesAny_456 rfl rfl ?_
    have k458 := cx_of g 0 lt 9 G _ X1
    rw [rf_of2 hE hlt] at k458
    refine caL_refusesAny_49 (n := 461) dL_refusesAny_458 (by first | exact ⟨rfl, rfl⟩ | assumption) k458 rfl rfl (Nat.le_of_ble_eq_true rfl) (by first | assumption | exact isC_of (by decide +kernel)) rfl ?_
    clear k458
    rintro r h2 ⟨rfl, X2, f2⟩
    replace f1 := f1.tr f2
    clear X1 f2
    have X1 := X2
    clear X2
    refine am_iconst (n := 462) (v := (-1)) dL_refusesAny_461 rfl rfl ?_
    refine am_icmp_ne (tgt := 516) (n := 465) dL_refusesAny_462 (by decide) rfl (fun q_z => absurd rfl q_z) (fun _ => ?_)
    refine am_aload_n (n := 466) (i := 0) dL_refusesAny_465 rfl rfl rfl ?_
    refine am_iconst (n := 467) (v := 0) dL_refusesAny_466 rfl rfl ?_
    refine am_iconst (n := 468) (v := 0) dL_refusesAny_467 rfl rfl ?_
    refine am_iconst (n := 469) (v := 3) dL_refusesAny_468 rfl rfl ?_
    have k469 := cx_of g 0 0 3 G _ X1
    rw [rf_of3 hE rfl] at k469
    refine caL_refusesAny_49 (n := 472) dL_refusesAny_469 (by first | exact ⟨rfl, rfl⟩ | assumption) k469 rfl rfl (Nat.le_of_ble_eq_true rfl) (by first | assumption | exact isC_of (by decide +kernel)) rfl ?_
    clear k469
    rintro r h2 ⟨rfl, X2, f2⟩
    replace f1 := f1.tr f2
    clear X1 f2
    have X1 := X2
    clear X2
    refine am_bipush (n := 474) (v := (-2)) dL_refusesAny_472 rfl rfl ?_
    refine am_icmp_ne (tgt := 516) (n := 477) dL_refusesAny_474 (by decide) rfl (fun q_z => absurd rfl q_z) (fun _ => ?_)
    refine am_aload_n (n := 478) (i := 0) dL_refusesAny_477 rfl rfl rfl ?_
    refine am_iload (n := 480) dL_refusesAny_478 rfl rfl ?_
    refine am_bipush (n := 482) (v := 9) dL_refusesAny_480 rfl rfl ?_
    have k482 := cx_ofEar g no 9 G _ X1
    rw [rf_oe1 hno1] at k482
    refine caL_refusesAny_53 (n := 485) dL_refusesAny_482 (by first | exact ⟨rfl, rfl⟩ | assumption) k482 rfl rfl (Nat.le_of_ble_eq_true rfl) (by first | assumption | exact isC_of (by decide +kernel)) rfl ?_
    clear k482
    rintro r h2 ⟨rfl, X2, f2⟩
    replace f1 := f1.tr f2
    clear X1 f2
    have X1 := X2
    clear X2
    refine am_iconst (n := 486) (v := (-1)) dL_refusesAny_485 rfl rfl ?_
    refine am_icmp_ne (tgt := 516) (n := 489) dL_refusesAny_486 (by decide) rfl (fun q_z => absurd rfl q_z) (fun _ => ?_)
    refine am_aload_n (n := 490) (i := 0) dL_refusesAny_489 rfl rfl rfl ?_
    refine am_iconst (n := 491) (v := 0) dL_refusesAny_490 rfl rfl ?_
    refine am_bipush (n := 493) (v := 8) dL_refusesAny_491 rfl rfl ?_
    have k493 := cx_ofEar g 0 8 G _ X1
    rw [rf_oe2 hE (oeS_8 _ _)] at k493
    refine caL_refusesAny_53 (n := 496) dL_refusesAny_493 (by first | exact ⟨rfl, rfl⟩ | assumption) k493 rfl rfl (Nat.le_of_ble_eq_true rfl) (by first | assumption | exact isC_of (by decide +kernel)) rfl ?_
    clear k493
    rintro r h2 ⟨rfl, X2, f2⟩
    replace f1 := f1.tr f2
    clear X1 f2
    have X1 := X2
    clear X2
    refine am_bipush (n := 498) (v := (-2)) dL_refusesAny_496 rfl rfl ?_
    refine am_icmp_ne (tgt := 516) (n := 501) dL_refusesAny_498 (by decide) rfl (fun q_z => absurd rfl q_z) (fun _ => ?_)
    refine am_aload_n (n := 502) (i := 0) dL_refusesAny_501 rfl rfl rfl ?_
    refine am_iconst (n := 503) (v := 0) dL_refusesAny_502 rfl rfl ?_
    refine am_iconst (n := 504) (v := (-1)) dL_refusesAny_503 rfl rfl ?_
    have k504 := cx_ofEar g 0 (-1) G _ X1
    rw [rf_oe2 hE (oeS_m1 _ _)] at k504
    refine caL_refusesAny_53 (n := 507) dL_refusesAny_504 (by first | exact ⟨rfl, rfl⟩ | assumption) k504 rfl rfl (Nat.le_of_ble_eq_true rfl) (by first | assumption | exact isC_of (by decide +kernel)) rfl ?_
    clear k504
    rintro r h2 ⟨rfl, X2, f2⟩
    replace f1 := f1.tr f2
    clear X1 f2
    have X1 := X2
    clear X2
    refine am_bipush (n := 509) (v := (-2)) dL_refusesAny_507 rfl rfl ?_
    refine am_icmp_ne (tgt := 516) (n := 512) dL_refusesAny_509 (by decide) rfl (fun q_z => absurd rfl q_z) (fun _ => ?_)
    refine am_iconst (n := 513) (v := 1) dL_refusesAny_512 rfl rfl ?_
    refine am_goto (tgt := 517) dL_refusesAny_513 (by decide) ?_
    refine am_istore (n := 519) dL_refusesAny_517 (Nat.le_of_ble_eq_true rfl) rfl rfl ?_
    exact am_loc _ rfl (next _ X1 f1)
  refine am_iload (n := 323) dL_refusesAny_321 rfl rfl ?_
  refine am_if_eq (tgt := 516) (n := 326) dL_refusesAny_323 (by decide) rfl (fun q_z => absurd q_z (by decide)) (fun _ => ?_)
  refine am_aload_n (n := 327) (i := 0) dL_refusesAny_326 rfl rfl rfl ?_
  refine am_iload (n := 329) dL_refusesAny_327 rfl rfl ?_
  refine am_bipush (n := 331) (v := 9) dL_refusesAny_329 rfl rfl ?_
  have k331 := cx_habits g no 9 G _ X1
  rw [rf_hab1 hno1] at k331
  refine caL_refusesAny_74 (n := 334) dL_refusesAny_331 (by first | exact ⟨rfl, rfl⟩ | assumption) k331 rfl rfl (Nat.le_of_ble_eq_true rfl) (by first | assumption | exact isC_of (by decide +kernel)) rfl ?_
  clear k331
  rintro r h2 ⟨rfl, X2, f2⟩
  replace f1 := f1.tr f2
  clear X1 f2
  have X1 := X2
  clear X2
  refine am_iconst (n := 335) (v := (-1)) dL_refusesAny_334 rfl rfl ?_
  refine am_icmp_ne (tgt := 516) (n := 338) dL_refusesAny_335 (by decide) rfl (fun q_z => absurd rfl q_z) (fun _ => ?_)
  refine am_aload_n (n := 339) (i := 0) dL_refusesAny_338 rfl rfl rfl ?_
  refine am_iconst (n := 340) (v := 0) dL_refusesAny_339 rfl rfl ?_
  refine am_iload_n (n := 341) (i := 1) dL_refusesAny_340 rfl rfl rfl ?_
  refine am_iconst (n := 342) (v := 2) dL_refusesAny_341 rfl rfl ?_
  refine am_irem (n := 343) dL_refusesAny_342 (by decide) rfl ?_
  rw [i_rem (x := 2) 2 hxl (by decide) (by decide) rfl, par]
  refine am_if_ne (tgt := 350) (n := 346) dL_refusesAny_343 (by decide) rfl (fun q_z => absurd (by decide) q_z) (fun _ => ?_)
  refine am_iconst (n := 347) (v := (-1)) dL_refusesAny_346 rfl rfl ?_
  refine am_goto (tgt := 352) dL_refusesAny_347 (by decide) ?_
  have k352 := cx_habits g 0 (-1) G _ X1
  rw [rf_hab2 hE (by decide)] at k352
  refine caL_refusesAny_74 (n := 355) dL_refusesAny_352 (by first | exact ⟨rfl, rfl⟩ | assumption) k352 rfl rfl (Nat.le_of_ble_eq_true rfl) (by first | assumption | exact isC_of (by decide +kernel)) rfl ?_
  clear k352
  rintro r h2 ⟨rfl, X2, f2⟩
  replace f1 := f1.tr f2
  clear X1 f2
  have X1 := X2
  clear X2
  refine am_bipush (n := 357) (v := (-2)) dL_refusesAny_355 rfl rfl ?_
  refine am_icmp_ne (tgt := 516) (n := 360) dL_refusesAny_357 (by decide) rfl (fun q_z => absurd rfl q_z) (fun _ => ?_)
  refine am_aload_n (n := 361) (i := 0) dL_refusesAny_360 rfl rfl rfl ?_
  refine am_iload (n := 363) dL_refusesAny_361 rfl rfl ?_
  refine am_iconst (n := 364) (v := 3) dL_refusesAny_363 rfl rfl ?_
  refine am_iconst (n := 365) (v := 3) dL_refusesAny_364 rfl rfl ?_
  have k365 := cx_merge g no 3 3 G _ X1
  rw [rf_mer1 hno1] at k365
  refine caL_refusesAny_77 (n := 368) dL_refusesAny_365 (by first | exact ⟨rfl, rfl⟩ | assumption) k365 rfl rfl (Nat.le_of_ble_eq_true rfl) (by first | assumption | exact isC_of (by decide +kernel)) rfl ?_
  clear k365
  rintro r h2 ⟨rfl, X2, f2⟩
  replace f1 := f1.tr f2
  clear X1 f2
  have X1 := X2
  clear X2
  refine am_iconst (n := 369) (v := (-1)) dL_refusesAny_368 rfl rfl ?_
  refine am_icmp_ne (tgt := 516) (n := 372) dL_refusesAny_369 (by decide) rfl (fun q_z => absurd rfl q_z) (fun _ => ?_)
  refine am_aload_n (n := 373) (i := 0) dL_refusesAny_372 rfl rfl rfl ?_
  refine am_iconst (n := 374) (v := 0) dL_refusesAny_373 rfl rfl ?_
  refine am_iload (n := 376) dL_refusesAny_374 rfl rfl ?_
  refine am_iconst (n := 377) (v := 1) dL_refusesAny_376 rfl rfl ?_
  have k377 := cx_merge g 0 kd 1 G _ X1
  rw [rf_mer2 hE (canM_1 hkd)] at k377
  refine caL_refusesAny_77 (n := 380) dL_refusesAny_377 (by first | exact ⟨rfl, rfl⟩ | assumption) k377 rfl rfl (Nat.le_of_ble_eq_true rfl) (by first | assumption | exact isC_of (by decide +kernel)) rfl ?_
  clear k377
  rintro r h2 ⟨rfl, X2, f2⟩
  replace f1 := f1.tr f2
  clear X1 f2
  have X1 := X2
  clear X2
  refine am_bipush (n := 382) (v := (-2)) dL_refusesAny_380 rfl rfl ?_
  refine am_icmp_ne (tgt := 516) (n := 385) dL_refusesAny_382 (by decide) rfl (fun q_z => absurd rfl q_z) (fun _ => ?_)
  refine am_aload_n (n := 386) (i := 0) dL_refusesAny_385 rfl rfl rfl ?_
  refine am_iconst (n := 387) (v := 0) dL_refusesAny_386 rfl rfl ?_
  refine am_iconst (n := 388) (v := 1) dL_refusesAny_387 rfl rfl ?_
  refine am_iload (n := 390) dL_refusesAny_388 rfl rfl ?_
  have k390 := cx_merge g 0 1 kd G _ X1
  rw [rf_mer2 hE (canM_2 hkd)] at k390
  refine caL_refusesAny_77 (n := 393) dL_refusesAny_390 (by first | exact ⟨rfl, rfl⟩ | assumption) k390 rfl rfl (Nat.le_of_ble_eq_true rfl) (by first | assumption | exact isC_of (by decide +kernel)) rfl ?_
  clear k390
  rintro r h2 ⟨rfl, X2, f2⟩
  replace f1 := f1.tr f2
  clear X1 f2
  have X1 := X2
  clear X2
  refine am_bipush (n := 395) (v := (-2)) dL_refusesAny_393 rfl rfl ?_
  refine am_icmp_ne (tgt := 516) (n := 398) dL_refusesAny_395 (by decide) rfl (fun q_z => absurd rfl q_z) (fun _ => ?_)
  refine am_aload_n (n := 399) (i := 0) dL_refusesAny_398 rfl rfl rfl ?_
  refine am_iconst (n := 400) (v := 0) dL_refusesAny_399 rfl rfl ?_
  refine am_iconst (n := 401) (v := 4) dL_refusesAny_400 rfl rfl ?_
  refine am_iconst (n := 402) (v := 4) dL_refusesAny_401 rfl rfl ?_
  have k402 := cx_merge g 0 4 4 G _ X1
  rw [rf_mer2 hE (canM_s 4)] at k402
  refine caL_refusesAny_77 (n := 405) dL_refusesAny_402 (by first | exact ⟨rfl, rfl⟩ | assumption) k402 rfl rfl (Nat.le_of_ble_eq_true rfl) (by first | assumption | exact isC_of (by decide +kernel)) rfl ?_
  clear k402
  rintro r h2 ⟨rfl, X2, f2⟩
  replace f1 := f1.tr f2
  clear X1 f2
  have X1 := X2
  clear X2
  refine am_bipush (n := 407) (v := (-2)) dL_refusesAny_405 rfl rfl ?_
  refine am_icmp_ne (tgt := 516) (n := 410) dL_refusesAny_407 (by decide) rfl (fun q_z => absurd rfl q_z) (fun _ => ?_)
  refine am_aload_n (n := 411) (i := 0) dL_refusesAny_410 rfl rfl rfl ?_
  refine am_iload (n := 413) dL_refusesAny_411 rfl rfl ?_
  have k413 := cx_split g no G _ X1
  rw [rf_spl1 hno1] at k413
  refine caL_refusesAny_80 (n := 416) dL_refusesAny_413 (by first | exact ⟨rfl, rfl⟩ | assumption) k413 rfl rfl (Nat.le_of_ble_eq_true rfl) (by first | assumption | exact isC_of (by decide +kernel)) rfl ?_
  clear k413
  rintro r h2 ⟨rfl, X2, f2⟩
  replace f1 := f1.tr f2
  clear X1 f2
  have X1 := X2
  clear X2
  refine am_iconst (n := 417) (v := (-1)) dL_refusesAny_416 rfl rfl ?_
  refine am_icmp_ne (tgt := 516) (n := 420) dL_refusesAny_417 (by decide) rfl (fun q_z => absurd rfl q_z) (fun _ => ?_)
  refine am_aload_n (n := 421) (i := 0) dL_refusesAny_420 rfl rfl rfl ?_
  refine am_iconst (n := 422) (v := 0) dL_refusesAny_421 rfl rfl ?_
  refine am_iconst (n := 423) (v := 1) dL_refusesAny_422 rfl rfl ?_
  have k423 := cx_ofEar g 0 1 G _ X1
  rw [rf_oe2 hE (oeS_1 _ _)] at k423
  refine caL_refusesAny_53 (n := 426) dL_refusesAny_423 (by first | exact ⟨rfl, rfl⟩ | assumption) k423 rfl rfl (Nat.le_of_ble_eq_true rfl) (by first | assumption | exact isC_of (by decide +kernel)) rfl ?_
  clear k423
  rintro r h2 ⟨rfl, X2, f2⟩
  replace f1 := f1.tr f2
  clear X1 f2
  have X1 := X2
  clear X2
  refine am_if_gt (tgt := 439) (n := 429) dL_refusesAny_426 (by decide) rfl (fun c_426 => ?_) (fun c_426 => ?_)
  · exact t439 _ X1 f1
  · have he : E.2.2.2 = [] := List.eq_nil_of_length_eq_zero (Classical.byContradiction (fun q => c_426 (by have := hV.2.2.1; exact nI_lt (a := 0) (Nat.pos_of_ne_zero q) (by omega))))
    refine am_aload_n (n := 430) (i := 0) dL_refusesAny_429 rfl rfl rfl ?_
    refine am_iconst (n := 431) (v := 0) dL_refusesAny_430 rfl rfl ?_
    have k431 := cx_split g 0 G _ X1
    rw [rf_spl2 hE he] at k431
    refine caL_refusesAny_80 (n := 434) dL_refusesAny_431 (by first | exact ⟨rfl, rfl⟩ | assumption) k431 rfl rfl (Nat.le_of_ble_eq_true rfl) (by first | assumption | exact isC_of (by decide +kernel)) rfl ?_
    clear k431
    rintro r h2 ⟨rfl, X2, f2⟩
    replace f1 := f1.tr f2
    clear X1 f2
    have X1 := X2
    clear X2
    refine am_bipush (n := 436) (v := (-5)) dL_refusesAny_434 rfl rfl ?_
    refine am_icmp_ne (tgt := 516) (n := 439) dL_refusesAny_436 (by decide) rfl (fun q_z => absurd rfl q_z) (fun _ => ?_)
    exact t439 _ X1 f1
set_option maxRecDepth 100000 in
set_option maxHeartbeats 4000000 in
theorem rfC0 {g : Gx} {G : GS} {h0 : Hp} {P : Option Value → Hp → Prop} {X : Nat} {nm no kd lt na : Int32} {E : EV} (hxl : X < 2 ^ 31) (hno : inN no G.1.2.2.2.length = false) (hkd : inR kd 0 9 = false) (hk6 : ¬ kd = -6) (hlt : isLtr lt = false) (hna : inN na G.1.2.2.1.length = false) (hE : eN G.1.2.2.2 0 = some E) (hV : VE E) (par : X % 2 = 0) (next : ∀ h' : Hp, XI G h' → FM h0 h' → AW g mmL_refusesAny (ZP g P) 745 [(0, some (.ref 0)), (1, some (.int (nI X))), (2, some (.int nm)), (3, some (.int (nI G.1.2.2.2.length))), (4, some (.int no)), (5, some (.int kd)), (6, some (.int lt)), (7, some (.int na)), (8, some (.int 1))] [] h') : ∀ h1 : Hp, XI G h1 → FM h0 h1 → AW g mmL_refusesAny (ZP g P) 519 [(0, some (.ref 0)), (1, some (.int (nI X))), (2, some (.int nm)), (3, some (.int (nI G.1.2.2.2.length))), (4, some (.int no)), (5, some (.int kd)), (6, some (.int lt)), (7, some (.int na)), (8, some (.int 1))] [] h1 := by
  have hno1 : eN G.1.2.2.2 no = none := eN_f hno
  intro h1 X1 f1
  refine am_iload (n := 521) dL_refusesAny_519 rfl rfl ?_
  refine am_if_eq (tgt := 742) (n := 524) dL_refusesAny_521 (by decide) rfl (fun q_z => absurd q_z (by decide)) (fun _ => ?_)
  refine am_aload_n (n := 525) (i := 0) dL_refusesAny_524 rfl rfl rfl ?_
  refine am_iload (n := 527) dL_refusesAny_525 rfl rfl ?_
  refine am_iconst (n := 528) (v := 0) dL_refusesAny_527 rfl rfl ?_
  refine am_iconst (n := 529) (v := 0) dL_refusesAny_528 rfl rfl ?_
  refine am_bipush (n := 531) (v := 9) dL_refusesAny_529 rfl rfl ?_
  have k531 := cx_code g no 0 0 9 G _ X1
  rw [rf_code1 hno1] at k531
  refine caL_refusesAny_83 (n := 534) dL_refusesAny_531 (by first | exact ⟨rfl, rfl⟩ | assumption) k531 rfl rfl (Nat.le_of_ble_eq_true rfl) (by first | assumption | exact isC_of (by decide +kernel)) rfl ?_
  clear k531
  rintro r h2 ⟨rfl, X2, f2⟩
  replace f1 := f1.tr f2
  clear X1 f2
  have X1 := X2
  clear X2
  refine am_iconst (n := 535) (v := (-1)) dL_refusesAny_534 rfl rfl ?_
  refine am_icmp_ne (tgt := 742) (n := 538) dL_refusesAny_535 (by decide) rfl (fun q_z => absurd rfl q_z) (fun _ => ?_)
  refine am_aload_n (n := 539) (i := 0) dL_refusesAny_538 rfl rfl rfl ?_
  refine am_iconst (n := 540) (v := 0) dL_refusesAny_539 rfl rfl ?_
  refine am_iload (n := 542) dL_refusesAny_540 rfl rfl ?_
  refine am_iconst (n := 543) (v := 0) dL_refusesAny_542 rfl rfl ?_
  refine am_bipush (n := 545) (v := 9) dL_refusesAny_543 rfl rfl ?_
  have k545 := cx_code g 0 na 0 9 G _ X1
  rw [rf_code2 hE hna] at k545
  refine caL_refusesAny_83 (n := 548) dL_refusesAny_545 (by first | exact ⟨rfl, rfl⟩ | assumption) k545 rfl rfl (Nat.le_of_ble_eq_true rfl) (by first | assumption | exact isC_of (by decide +kernel)) rfl ?_
  clear k545
  rintro r h2 ⟨rfl, X2, f2⟩
  replace f1 := f1.tr f2
  clear X1 f2
  have X1 := X2
  clear X2
  refine am_iconst (n := 549) (v := (-1)) dL_refusesAny_548 rfl rfl ?_
  refine am_icmp_ne (tgt := 742) (n := 552) dL_refusesAny_549 (by decide) rfl (fun q_z => absurd rfl q_z) (fun _ => ?_)
  refine am_aload_n (n := 553) (i := 0) dL_refusesAny_552 rfl rfl rfl ?_
  refine am_iload (n := 555) dL_refusesAny_553 rfl rfl ?_
  refine am_iconst (n := 556) (v := 0) dL_refusesAny_555 rfl rfl ?_
  refine am_bipush (n := 558) (v := 9) dL_refusesAny_556 rfl rfl ?_
  have k558 := cx_drawer g no 0 9 G _ X1
  rw [rf_dr1 hno1] at k558
  refine caL_refusesAny_87 (n := 561) dL_refusesAny_558 (by first | exact ⟨rfl, rfl⟩ | assumption) k558 rfl rfl (Nat.le_of_ble_eq_true rfl) (by first | assumption | exact isC_of (by decide +kernel)) rfl ?_
  clear k558
  rintro r h2 ⟨rfl, X2, f2⟩
  replace f1 := f1.tr f2
  clear X1 f2
  have X1 := X2
  clear X2
  refine am_iconst (n := 562) (v := (-1)) dL_refusesAny_561 rfl rfl ?_
  refine am_icmp_ne (tgt := 742) (n := 565) dL_refusesAny_562 (by decide) rfl (fun q_z => absurd rfl q_z) (fun _ => ?_)
  refine am_aload_n (n := 566) (i := 0) dL_refusesAny_565 rfl rfl rfl ?_
  refine am_iconst (n := 567) (v := 0) dL_refusesAny_566 rfl rfl ?_
  refine am_iconst (n := 568) (v := (-1)) dL_refusesAny_567 rfl rfl ?_
  refine am_bipush (n := 570) (v := 9) dL_refusesAny_568 rfl rfl ?_
  have k570 := cx_drawer g 0 (-1) 9 G _ X1
  rw [rf_dr2 hE (by decide)] at k570
  refine caL_refusesAny_87 (n := 573) dL_refusesAny_570 (by first | exact ⟨rfl, rfl⟩ | assumption) k570 rfl rfl (Nat.le_of_ble_eq_true rfl) (by first | assumption | exact isC_of (by decide +kernel)) rfl ?_
  clear k570
  rintro r h2 ⟨rfl, X2, f2⟩
  replace f1 := f1.tr f2
  clear X1 f2
  have X1 := X2
  clear X2
  refine am_iconst (n := 574) (v := (-1)) dL_refusesAny_573 rfl rfl ?_
  refine am_icmp_ne (tgt := 742) (n := 577) dL_refusesAny_574 (by decide) rfl (fun q_z => absurd rfl q_z) (fun _ => ?_)
  refine am_aload_n (n := 578) (i := 0) dL_refusesAny_577 rfl rfl rfl ?_
  refine am_iload_n (n := 579) (i := 1) dL_refusesAny_578 rfl rfl rfl ?_
  refine am_iconst (n := 580) (v := 2) dL_refusesAny_579 rfl rfl ?_
  refine am_irem (n := 581) dL_refusesAny_580 (by decide) rfl ?_
  rw [i_rem (x := 2) 2 hxl (by decide) (by decide) rfl, par]
  refine am_if_ne (tgt := 588) (n := 584) dL_refusesAny_581 (by decide) rfl (fun q_z => absurd (by decide) q_z) (fun _ => ?_)
  refine am_iconst (n := 585) (v := (-1)) dL_refusesAny_584 rfl rfl ?_
  refine am_goto (tgt := 590) dL_refusesAny_585 (by decide) ?_
  have k590 := cx_count g (-1) G _ X1
  rw [rf_cnt1] at k590
  refine caL_refusesAny_33 (n := 593) dL_refusesAny_590 (by first | exact ⟨rfl, rfl⟩ | assumption) k590 rfl rfl (Nat.le_of_ble_eq_true rfl) (by first | assumption | exact isC_of (by decide +kernel)) rfl ?_
  clear k590
  rintro r h2 ⟨rfl, X2, f2⟩
  replace f1 := f1.tr f2
  clear X1 f2
  have X1 := X2
  clear X2
  refine am_bipush (n := 595) (v := (-2)) dL_refusesAny_593 rfl rfl ?_
  refine am_icmp_ne (tgt := 742) (n := 598) dL_refusesAny_595 (by decide) rfl (fun q_z => absurd rfl q_z) (fun _ => ?_)
  refine am_aload_n (n := 599) (i := 0) dL_refusesAny_598 rfl rfl rfl ?_
  refine am_iload (n := 601) dL_refusesAny_599 rfl rfl ?_
  refine am_iconst (n := 602) (v := 0) dL_refusesAny_601 rfl rfl ?_
  refine am_iconst (n := 603) (v := 0) dL_refusesAny_602 rfl rfl ?_
  have k603 := cx_alike g no 0 0 G _ X1
  rw [rf_al1 hno1] at k603
  refine caL_refusesAny_90 (n := 606) dL_refusesAny_603 (by first | exact ⟨rfl, rfl⟩ | assumption) k603 rfl rfl (Nat.le_of_ble_eq_true rfl) (by first | assumption | exact isC_of (by decide +kernel)) rfl ?_
  clear k603
  rintro r h2 ⟨rfl, X2, f2⟩
  replace f1 := f1.tr f2
  clear X1 f2
  have X1 := X2
  clear X2
  refine am_iconst (n := 607) (v := (-1)) dL_refusesAny_606 rfl rfl ?_
  refine am_icmp_ne (tgt := 742) (n := 610) dL_refusesAny_607 (by decide) rfl (fun q_z => absurd rfl q_z) (fun _ => ?_)
  refine am_aload_n (n := 611) (i := 0) dL_refusesAny_610 rfl rfl rfl ?_
  refine am_iconst (n := 612) (v := 0) dL_refusesAny_611 rfl rfl ?_
  refine am_iload (n := 614) dL_refusesAny_612 rfl rfl ?_
  refine am_iload (n := 616) dL_refusesAny_614 rfl rfl ?_
  have k616 := cx_alike g 0 na na G _ X1
  rw [rf_al2 hE hna] at k616
  refine caL_refusesAny_90 (n := 619) dL_refusesAny_616 (by first | exact ⟨rfl, rfl⟩ | assumption) k616 rfl rfl (Nat.le_of_ble_eq_true rfl) (by first | assumption | exact isC_of (by decide +kernel)) rfl ?_
  clear k616
  rintro r h2 ⟨rfl, X2, f2⟩
  replace f1 := f1.tr f2
  clear X1 f2
  have X1 := X2
  clear X2
  refine am_iconst (n := 620) (v := (-1)) dL_refusesAny_619 rfl rfl ?_
  refine am_icmp_ne (tgt := 742) (n := 623) dL_refusesAny_620 (by decide) rfl (fun q_z => absurd rfl q_z) (fun _ => ?_)
  refine am_aload_n (n := 624) (i := 0) dL_refusesAny_623 rfl rfl rfl ?_
  refine am_iload (n := 626) dL_refusesAny_624 rfl rfl ?_
  refine am_iconst (n := 627) (v := 1) dL_refusesAny_626 rfl rfl ?_
  refine am_iconst (n := 628) (v := 1) dL_refusesAny_627 rfl rfl ?_
  refine am_bipush (n := 630) (v := 9) dL_refusesAny_628 rfl rfl ?_
  have k630 := cx_ifMerged g no 1 1 9 G _ X1
  rw [rf_im1 hno1] at k630
  refine caL_refusesAny_93 (n := 633) dL_refusesAny_630 (by first | exact ⟨rfl, rfl⟩ | assumption) k630 rfl rfl (Nat.le_of_ble_eq_true rfl) (by first | assumption | exact isC_of (by decide +kernel)) rfl ?_
  clear k630
  rintro r h2 ⟨rfl, X2, f2⟩
  replace f1 := f1.tr f2
  clear X1 f2
  have X1 := X2
  clear X2
  refine am_iconst (n := 634) (v := (-1)) dL_refusesAny_633 rfl rfl ?_
  refine am_icmp_ne (tgt := 742) (n := 637) dL_refusesAny_634 (by decide) rfl (fun q_z => absurd rfl q_z) (fun _ => ?_)
  refine am_aload_n (n := 638) (i := 0) dL_refusesAny_637 rfl rfl rfl ?_
  refine am_iconst (n := 639) (v := 0) dL_refusesAny_638 rfl rfl ?_
  refine am_iconst (n := 640) (v := 1) dL_refusesAny_639 rfl rfl ?_
  refine am_iconst (n := 641) (v := 2) dL_refusesAny_640 rfl rfl ?_
  refine am_iload_n (n := 642) (i := 1) dL_refusesAny_641 rfl rfl rfl ?_
  refine am_iconst (n := 643) (v := 2) dL_refusesAny_642 rfl rfl ?_
  refine am_irem (n := 644) dL_refusesAny_643 (by decide) rfl ?_
  rw [i_rem (x := 2) 2 hxl (by decide) (by decide) rfl, par]
  refine am_if_ne (tgt := 651) (n := 647) dL_refusesAny_644 (by decide) rfl (fun q_z => absurd (by decide) q_z) (fun _ => ?_)
  refine am_iconst (n := 648) (v := (-1)) dL_refusesAny_647 rfl rfl ?_
  refine am_goto (tgt := 652) dL_refusesAny_648 (by decide) ?_
  have k652 := cx_ifMerged g 0 1 2 (-1) G _ X1
  rw [rf_im2 hE (by decide)] at k652
  refine caL_refusesAny_93 (n := 655) dL_refusesAny_652 (by first | exact ⟨rfl, rfl⟩ | assumption) k652 rfl rfl (Nat.le_of_ble_eq_true rfl) (by first | assumption | exact isC_of (by decide +kernel)) rfl ?_
  clear k652
  rintro r h2 ⟨rfl, X2, f2⟩
  replace f1 := f1.tr f2
  clear X1 f2
  have X1 := X2
  clear X2
  refine am_bipush (n := 657) (v := (-2)) dL_refusesAny_655 rfl rfl ?_
  refine am_icmp_ne (tgt := 742) (n := 660) dL_refusesAny_657 (by decide) rfl (fun q_z => absurd rfl q_z) (fun _ => ?_)
  refine am_aload_n (n := 661) (i := 0) dL_refusesAny_660 rfl rfl rfl ?_
  refine am_iconst (n := 662) (v := 0) dL_refusesAny_661 rfl rfl ?_
  refine am_iload (n := 664) dL_refusesAny_662 rfl rfl ?_
  refine am_iconst (n := 665) (v := 2) dL_refusesAny_664 rfl rfl ?_
  refine am_iconst (n := 666) (v := 0) dL_refusesAny_665 rfl rfl ?_
  have k666 := cx_ifMerged g 0 kd 2 0 G _ X1
  rw [rf_im3 hE (canM_1 hkd)] at k666
  refine caL_refusesAny_93 (n := 669) dL_refusesAny_666 (by first | exact ⟨rfl, rfl⟩ | assumption) k666 rfl rfl (Nat.le_of_ble_eq_true rfl) (by first | assumption | exact isC_of (by decide +kernel)) rfl ?_
  clear k666
  rintro r h2 ⟨rfl, X2, f2⟩
  replace f1 := f1.tr f2
  clear X1 f2
  have X1 := X2
  clear X2
  refine am_bipush (n := 671) (v := (-2)) dL_refusesAny_669 rfl rfl ?_
  refine am_icmp_ne (tgt := 742) (n := 674) dL_refusesAny_671 (by decide) rfl (fun q_z => absurd rfl q_z) (fun _ => ?_)
  refine am_aload_n (n := 675) (i := 0) dL_refusesAny_674 rfl rfl rfl ?_
  refine am_iload (n := 677) dL_refusesAny_675 rfl rfl ?_
  refine am_bipush (n := 679) (v := 9) dL_refusesAny_677 rfl rfl ?_
  have k679 := cx_bestMerger g no 9 G _ X1
  rw [rf_bm1 hno1] at k679
  refine caL_refusesAny_96 (n := 682) dL_refusesAny_679 (by first | exact ⟨rfl, rfl⟩ | assumption) k679 rfl rfl (Nat.le_of_ble_eq_true rfl) (by first | assumption | exact isC_of (by decide +kernel)) rfl ?_
  clear k679
  rintro r h2 ⟨rfl, X2, f2⟩
  replace f1 := f1.tr f2
  clear X1 f2
  have X1 := X2
  clear X2
  refine am_iconst (n := 683) (v := (-1)) dL_refusesAny_682 rfl rfl ?_
  refine am_icmp_ne (tgt := 742) (n := 686) dL_refusesAny_683 (by decide) rfl (fun q_z => absurd rfl q_z) (fun _ => ?_)
  refine am_aload_n (n := 687) (i := 0) dL_refusesAny_686 rfl rfl rfl ?_
  refine am_iconst (n := 688) (v := 0) dL_refusesAny_687 rfl rfl ?_
  refine am_iload_n (n := 689) (i := 1) dL_refusesAny_688 rfl rfl rfl ?_
  refine am_iconst (n := 690) (v := 2) dL_refusesAny_689 rfl rfl ?_
  refine am_irem (n := 691) dL_refusesAny_690 (by decide) rfl ?_
  rw [i_rem (x := 2) 2 hxl (by decide) (by decide) rfl, par]
  refine am_if_ne (tgt := 698) (n := 694) dL_refusesAny_691 (by decide) rfl (fun q_z => absurd (by decide) q_z) (fun _ => ?_)
  refine am_iconst (n := 695) (v := (-1)) dL_refusesAny_694 rfl rfl ?_
  refine am_goto (tgt := 699) dL_refusesAny_695 (by decide) ?_
  have k699 := cx_bestMerger g 0 (-1) G _ X1
  rw [rf_bm2 hE (by decide)] at k699
  refine caL_refusesAny_96 (n := 702) dL_refusesAny_699 (by first | exact ⟨rfl, rfl⟩ | assumption) k699 rfl rfl (Nat.le_of_ble_eq_true rfl) (by first | assumption | exact isC_of (by decide +kernel)) rfl ?_
  clear k699
  rintro r h2 ⟨rfl, X2, f2⟩
  replace f1 := f1.tr f2
  clear X1 f2
  have X1 := X2
  clear X2
  refine am_bipush (n := 704) (v := (-2)) dL_refusesAny_702 rfl rfl ?_
  refine am_icmp_ne (tgt := 742) (n := 707) dL_refusesAny_704 (by decide) rfl (fun q_z => absurd rfl q_z) (fun _ => ?_)
  refine am_aload_n (n := 708) (i := 0) dL_refusesAny_707 rfl rfl rfl ?_
  refine am_iload (n := 710) dL_refusesAny_708 rfl rfl ?_
  refine am_iconst (n := 711) (v := 0) dL_refusesAny_710 rfl rfl ?_
  have k711 := cx_quarrel g no 0 G _ X1
  rw [rf_q1 hno1] at k711
  refine caL_refusesAny_99 (n := 714) dL_refusesAny_711 (by first | exact ⟨rfl, rfl⟩ | assumption) k711 rfl rfl (Nat.le_of_ble_eq_true rfl) (by first | assumption | exact isC_of (by decide +kernel)) rfl ?_
  clear k711
  rintro r h2 ⟨rfl, X2, f2⟩
  replace f1 := f1.tr f2
  clear X1 f2
  have X1 := X2
  clear X2
  refine am_iconst (n := 715) (v := (-1)) dL_refusesAny_714 rfl rfl ?_
  refine am_icmp_ne (tgt := 742) (n := 718) dL_refusesAny_715 (by decide) rfl (fun q_z => absurd rfl q_z) (fun _ => ?_)
  refine am_aload_n (n := 719) (i := 0) dL_refusesAny_718 rfl rfl rfl ?_
  refine am_iconst (n := 720) (v := 0) dL_refusesAny_719 rfl rfl ?_
  refine am_iload (n := 722) dL_refusesAny_720 rfl rfl ?_
  have k722 := cx_quarrel g 0 no G _ X1
  rw [rf_q2 hE hno1] at k722
  refine caL_refusesAny_99 (n := 725) dL_refusesAny_722 (by first | exact ⟨rfl, rfl⟩ | assumption) k722 rfl rfl (Nat.le_of_ble_eq_true rfl) (by first | assumption | exact isC_of (by decide +kernel)) rfl ?_
  clear k722
  rintro r h2 ⟨rfl, X2, f2⟩
  replace f1 := f1.tr f2
  clear X1 f2
  have X1 := X2
  clear X2
  refine am_iconst (n := 726) (v := (-1)) dL_refusesAny_725 rfl rfl ?_
  refine am_icmp_ne (tgt := 742) (n := 729) dL_refusesAny_726 (by decide) rfl (fun q_z => absurd rfl q_z) (fun _ => ?_)
  refine am_aload_n (n := 730) (i := 0) dL_refusesAny_729 rfl rfl rfl ?_
  refine am_iconst (n := 731) (v := 0) dL_refusesAny_730 rfl rfl ?_
  refine am_iconst (n := 732) (v := 0) dL_refusesAny_731 rfl rfl ?_
  have k732 := cx_quarrel g 0 0 G _ X1
  rw [rf_q3 hE] at k732
  refine caL_refusesAny_99 (n := 735) dL_refusesAny_732 (by first | exact ⟨rfl, rfl⟩ | assumption) k732 rfl rfl (Nat.le_of_ble_eq_true rfl) (by first | assumption | exact isC_of (by decide +kernel)) rfl ?_
  clear k732
  rintro r h2 ⟨rfl, X2, f2⟩
  replace f1 := f1.tr f2
  clear X1 f2
  have X1 := X2
  clear X2
  refine am_if_ne (tgt := 742) (n := 738) dL_refusesAny_735 (by decide) rfl (fun q_z => absurd rfl q_z) (fun _ => ?_)
  refine am_iconst (n := 739) (v := 1) dL_refusesAny_738 rfl rfl ?_
  refine am_goto (tgt := 743) dL_refusesAny_739 (by decide) ?_
  refine am_istore (n := 745) dL_refusesAny_743 (Nat.le_of_ble_eq_true rfl) rfl rfl ?_
  exact am_loc _ rfl (next _ X1 f1)
set_option maxRecDepth 100000 in
set_option maxHeartbeats 4000000 in
theorem rfB1 {g : Gx} {G : GS} {h0 : Hp} {P : Option Value → Hp → Prop} {X : Nat} {nm no kd lt na : Int32} {E : EV} (hxl : X < 2 ^ 31) (hno : inN no G.1.2.2.2.length = false) (hkd : inR kd 0 9 = false) (hk6 : ¬ kd = -6) (hlt : isLtr lt = false) (hna : inN na G.1.2.2.1.length = false) (hE : eN G.1.2.2.2 0 = some E) (hV : VE E) (par : X % 2 = 1) (next : ∀ h' : Hp, XI G h' → FM h0 h' → AW g mmL_refusesAny (ZP g P) 519 [(0, some (.ref 0)), (1, some (.int (nI X))), (2, some (.int nm)), (3, some (.int (nI G.1.2.2.2.length))), (4, some (.int no)), (5, some (.int kd)), (6, some (.int lt)), (7, some (.int na)), (8, some (.int 1))] [] h') : ∀ h1 : Hp, XI G h1 → FM h0 h1 → AW g mmL_refusesAny (ZP g P) 321 [(0, some (.ref 0)), (1, some (.int (nI X))), (2, some (.int nm)), (3, some (.int (nI G.1.2.2.2.length))), (4, some (.int no)), (5, some (.int kd)), (6, some (.int lt)), (7, some (.int na)), (8, some (.int 1))] [] h1 := by
  have hno1 : eN G.1.2.2.2 no = none := eN_f hno
  intro h1 X1 f1
  have t439 : ∀ h1 : Hp, XI G h1 → FM h0 h1 → AW g mmL_refusesAny (ZP g P) 439 [(0, some (.ref 0)), (1, some (.int (nI X))), (2, some (.int nm)), (3, some (.int (nI G.1.2.2.2.length))), (4, some (.int no)), (5, some (.int kd)), (6, some (.int lt)), (7, some (.int na)), (8, some (.int 1))] [] h1 := by
    intro h1 X1 f1
    refine am_aload_n (n := 440) (i := 0) dL_refusesAny_439 rfl rfl rfl ?_
    refine am_iload (n := 442) dL_refusesAny_440 rfl rfl ?_
    refine am_iconst (n := 443) (v := 0) dL_refusesAny_442 rfl rfl ?_
    refine am_bipush (n := 445) (v := 9) dL_refusesAny_443 rfl rfl ?_
    have k445 := cx_of g no 0 9 G _ X1
    rw [rf_of1 hno1] at k445
    refine caL_refusesAny_49 (n := 448) dL_refusesAny_445 (by first | exact ⟨rfl, rfl⟩ | assumption) k445 rfl rfl (Nat.le_of_ble_eq_true rfl) (by first | assumption | exact isC_of (by decide +kernel)) rfl ?_
    clear k445
    rintro r h2 ⟨rfl, X2, f2⟩
    replace f1 := f1.tr f2
    clear X1 f2
    have X1 := X2
    clear X2
    refine am_iconst (n := 449) (v := (-1)) dL_refusesAny_448 rfl rfl ?_
    refine am_icmp_ne (tgt := 516) (n := 452) dL_refusesAny_449 (by decide) rfl (fun q_z => absurd rfl q_z) (fun _ => ?_)
    refine am_aload_n (n := 453) (i := 0) dL_refusesAny_452 rfl rfl rfl ?_
    refine am_iconst (n := 454) (v := 0) dL_refusesAny_453 rfl rfl ?_
    refine am_iload (n := 456) dL_refusesAny_454 rfl rfl ?_
    refine am_bipush (n := 458) (v := 9) dL_refusesAny_456 rfl rfl ?_
    have k458 := cx_of g 0 lt 9 G _ X1
    rw [rf_of2 hE hlt] at k458
    refine caL_refusesAny_49 (n := 461) dL_refusesAny_458 (by first | exact ⟨rfl, rfl⟩ | assumption) k458 rfl rfl (Nat.le_of_ble_eq_true rfl) (by first | assumption | exact isC_of (by decide +kernel)) rfl ?_
    clear k458
    rintro r h2 ⟨rfl, X2, f2⟩
    replace f1 := f1.tr f2
    clear X1 f2
    have X1 := X2
    clear X2
    refine am_iconst (n := 462) (v := (-1)) dL_refusesAny_461 rfl rfl ?_
    refine am_icmp_ne (tgt := 516) (n := 465) dL_refusesAny_462 (by decide) rfl (fun q_z => absurd rfl q_z) (fun _ => ?_)
    refine am_aload_n (n := 466) (i := 0) dL_refusesAny_465 rfl rfl rfl ?_
    refine am_iconst (n := 467) (v := 0) dL_refusesAny_466 rfl rfl ?_
    refine am_iconst (n := 468) (v := 0) dL_refusesAny_467 rfl rfl ?_
    refine am_iconst (n := 469) (v := 3) dL_refusesAny_468 rfl rfl ?_
    have k469 := cx_of g 0 0 3 G _ X1
    rw [rf_of3 hE rfl] at k469
    refine caL_refusesAny_49 (n := 472) dL_refusesAny_469 (by first | exact ⟨rfl, rfl⟩ | assumption) k469 rfl rfl (Nat.le_of_ble_eq_true rfl) (by first | assumption | exact isC_of (by decide +kernel)) rfl ?_
    clear k469
    rintro r h2 ⟨rfl, X2, f2⟩
    replace f1 := f1.tr f2
    clear X1 f2
    have X1 := X2
    clear X2
    refine am_bipush (n := 474) (v := (-2)) dL_refusesAny_472 rfl rfl ?_
    refine am_icmp_ne (tgt := 516) (n := 477) dL_refusesAny_474 (by decide) rfl (fun q_z => absurd rfl q_z) (fun _ => ?_)
    refine am_aload_n (n := 478) (i := 0) dL_refusesAny_477 rfl rfl rfl ?_
    refine am_iload (n := 480) dL_refusesAny_478 rfl rfl ?_
    refine am_bipush (n := 482) (v := 9) dL_refusesAny_480 rfl rfl ?_
    have k482 := cx_ofEar g no 9 G _ X1
    rw [rf_oe1 hno1] at k482
    refine caL_refusesAny_53 (n := 485) dL_refusesAny_482 (by first | exact ⟨rfl, rfl⟩ | assumption) k482 rfl rfl (Nat.le_of_ble_eq_true rfl) (by first | assumption | exact isC_of (by decide +kernel)) rfl ?_
    clear k482
    rintro r h2 ⟨rfl, X2, f2⟩
    replace f1 := f1.tr f2
    clear X1 f2
    have X1 := X2
    clear X2
    refine am_iconst (n := 486) (v := (-1)) dL_refusesAny_485 rfl rfl ?_
    refine am_icmp_ne (tgt := 516) (n := 489) dL_refusesAny_486 (by decide) rfl (fun q_z => absurd rfl q_z) (fun _ => ?_)
    refine am_aload_n (n := 490) (i := 0) dL_refusesAny_489 rfl rfl rfl ?_
    refine am_iconst (n := 491) (v := 0) dL_refusesAny_490 rfl rfl ?_
    refine am_bipush (n := 493) (v := 8) dL_refusesAny_491 rfl rfl ?_
    have k493 := cx_ofEar g 0 8 G _ X1
    rw [rf_oe2 hE (oeS_8 _ _)] at k493
    refine caL_refusesAny_53 (n := 496) dL_refusesAny_493 (by first | exact ⟨rfl, rfl⟩ | assumption) k493 rfl rfl (Nat.le_of_ble_eq_true rfl) (by first | assumption | exact isC_of (by decide +kernel)) rfl ?_
    clear k493
    rintro r h2 ⟨rfl, X2, f2⟩
    replace f1 := f1.tr f2
    clear X1 f2
    have X1 := X2
    clear X2
    refine am_bipush (n := 498) (v := (-2)) dL_refusesAny_496 rfl rfl ?_
    refine am_icmp_ne (tgt := 516) (n := 501) dL_refusesAny_498 (by decide) rfl (fun q_z => absurd rfl q_z) (fun _ => ?_)
    refine am_aload_n (n := 502) (i := 0) dL_refusesAny_501 rfl rfl rfl ?_
    refine am_iconst (n := 503) (v := 0) dL_refusesAny_502 rfl rfl ?_
    refine am_iconst (n := 504) (v := (-1)) dL_refusesAny_503 rfl rfl ?_
    have k504 := cx_ofEar g 0 (-1) G _ X1
    rw [rf_oe2 hE (oeS_m1 _ _)] at k504
    refine caL_refusesAny_53 (n := 507) dL_refusesAny_504 (by first | exact ⟨rfl, rfl⟩ | assumption) k504 rfl rfl (Nat.le_of_ble_eq_true rfl) (by first | assumption | exact isC_of (by decide +kernel)) rfl ?_
    clear k504
    rintro r h2 ⟨rfl, X2, f2⟩
    replace f1 := f1.tr f2
    clear X1 f2
    have X1 := X2
    clear X2
    refine am_bipush (n := 509) (v := (-2)) dL_refusesAny_507 rfl rfl ?_
    refine am_icmp_ne (tgt := 516) (n := 512) dL_refusesAny_509 (by decide) rfl (fun q_z => absurd rfl q_z) (fun _ => ?_)
    refine am_iconst (n := 513) (v := 1) dL_refusesAny_512 rfl rfl ?_
    refine am_goto (tgt := 517) dL_refusesAny_513 (by decide) ?_
    refine am_istore (n := 519) dL_refusesAny_517 (Nat.le_of_ble_eq_true rfl) rfl rfl ?_
    exact am_loc _ rfl (next _ X1 f1)
  refine am_iload (n := 323) dL_refusesAny_321 rfl rfl ?_
  refine am_if_eq (tgt := 516) (n := 326) dL_refusesAny_323 (by decide) rfl (fun q_z => absurd q_z (by decide)) (fun _ => ?_)
  refine am_aload_n (n := 327) (i := 0) dL_refusesAny_326 rfl rfl rfl ?_
  refine am_iload (n := 329) dL_refusesAny_327 rfl rfl ?_
  refine am_bipush (n := 331) (v := 9) dL_refusesAny_329 rfl rfl ?_
  have k331 := cx_habits g no 9 G _ X1
  rw [rf_hab1 hno1] at k331
  refine caL_refusesAny_74 (n := 334) dL_refusesAny_331 (by first | exact ⟨rfl, rfl⟩ | assumption) k331 rfl rfl (Nat.le_of_ble_eq_true rfl) (by first | assumption | exact isC_of (by decide +kernel)) rfl ?_
  clear k331
  rintro r h2 ⟨rfl, X2, f2⟩
  replace f1 := f1.tr f2
  clear X1 f2
  have X1 := X2
  clear X2
  refine am_iconst (n := 335) (v := (-1)) dL_refusesAny_334 rfl rfl ?_
  refine am_icmp_ne (tgt := 516) (n := 338) dL_refusesAny_335 (by decide) rfl (fun q_z => absurd rfl q_z) (fun _ => ?_)
  refine am_aload_n (n := 339) (i := 0) dL_refusesAny_338 rfl rfl rfl ?_
  refine am_iconst (n := 340) (v := 0) dL_refusesAny_339 rfl rfl ?_
  refine am_iload_n (n := 341) (i := 1) dL_refusesAny_340 rfl rfl rfl ?_
  refine am_iconst (n := 342) (v := 2) dL_refusesAny_341 rfl rfl ?_
  refine am_irem (n := 343) dL_refusesAny_342 (by decide) rfl ?_
  rw [i_rem (x := 2) 2 hxl (by decide) (by decide) rfl, par]
  refine am_if_ne (tgt := 350) (n := 346) dL_refusesAny_343 (by decide) rfl (fun _ => ?_) (fun q_z => absurd q_z (by decide))
  refine am_bipush (n := 352) (v := 8) dL_refusesAny_350 rfl rfl ?_
  have k352 := cx_habits g 0 8 G _ X1
  rw [rf_hab2 hE (by decide)] at k352
  refine caL_refusesAny_74 (n := 355) dL_refusesAny_352 (by first | exact ⟨rfl, rfl⟩ | assumption) k352 rfl rfl (Nat.le_of_ble_eq_true rfl) (by first | assumption | exact isC_of (by decide +kernel)) rfl ?_
  clear k352
  rintro r h2 ⟨rfl, X2, f2⟩
  replace f1 := f1.tr f2
  clear X1 f2
  have X1 := X2
  clear X2
  refine am_bipush (n := 357) (v := (-2)) dL_refusesAny_355 rfl rfl ?_
  refine am_icmp_ne (tgt := 516) (n := 360) dL_refusesAny_357 (by decide) rfl (fun q_z => absurd rfl q_z) (fun _ => ?_)
  refine am_aload_n (n := 361) (i := 0) dL_refusesAny_360 rfl rfl rfl ?_
  refine am_iload (n := 363) dL_refusesAny_361 rfl rfl ?_
  refine am_iconst (n := 364) (v := 3) dL_refusesAny_363 rfl rfl ?_
  refine am_iconst (n := 365) (v := 3) dL_refusesAny_364 rfl rfl ?_
  have k365 := cx_merge g no 3 3 G _ X1
  rw [rf_mer1 hno1] at k365
  refine caL_refusesAny_77 (n := 368) dL_refusesAny_365 (by first | exact ⟨rfl, rfl⟩ | assumption) k365 rfl rfl (Nat.le_of_ble_eq_true rfl) (by first | assumption | exact isC_of (by decide +kernel)) rfl ?_
  clear k365
  rintro r h2 ⟨rfl, X2, f2⟩
  replace f1 := f1.tr f2
  clear X1 f2
  have X1 := X2
  clear X2
  refine am_iconst (n := 369) (v := (-1)) dL_refusesAny_368 rfl rfl ?_
  refine am_icmp_ne (tgt := 516) (n := 372) dL_refusesAny_369 (by decide) rfl (fun q_z => absurd rfl q_z) (fun _ => ?_)
  refine am_aload_n (n := 373) (i := 0) dL_refusesAny_372 rfl rfl rfl ?_
  refine am_iconst (n := 374) (v := 0) dL_refusesAny_373 rfl rfl ?_
  refine am_iload (n := 376) dL_refusesAny_374 rfl rfl ?_
  refine am_iconst (n := 377) (v := 1) dL_refusesAny_376 rfl rfl ?_
  have k377 := cx_merge g 0 kd 1 G _ X1
  rw [rf_mer2 hE (canM_1 hkd)] at k377
  refine caL_refusesAny_77 (n := 380) dL_refusesAny_377 (by first | exact ⟨rfl, rfl⟩ | assumption) k377 rfl rfl (Nat.le_of_ble_eq_true rfl) (by first | assumption | exact isC_of (by decide +kernel)) rfl ?_
  clear k377
  rintro r h2 ⟨rfl, X2, f2⟩
  replace f1 := f1.tr f2
  clear X1 f2
  have X1 := X2
  clear X2
  refine am_bipush (n := 382) (v := (-2)) dL_refusesAny_380 rfl rfl ?_
  refine am_icmp_ne (tgt := 516) (n := 385) dL_refusesAny_382 (by decide) rfl (fun q_z => absurd rfl q_z) (fun _ => ?_)
  refine am_aload_n (n := 386) (i := 0) dL_refusesAny_385 rfl rfl rfl ?_
  refine am_iconst (n := 387) (v := 0) dL_refusesAny_386 rfl rfl ?_
  refine am_iconst (n := 388) (v := 1) dL_refusesAny_387 rfl rfl ?_
  refine am_iload (n := 390) dL_refusesAny_388 rfl rfl ?_
  have k390 := cx_merge g 0 1 kd G _ X1
  rw [rf_mer2 hE (canM_2 hkd)] at k390
  refine caL_refusesAny_77 (n := 393) dL_refusesAny_390 (by first | exact ⟨rfl, rfl⟩ | assumption) k390 rfl rfl (Nat.le_of_ble_eq_true rfl) (by first | assumption | exact isC_of (by decide +kernel)) rfl ?_
  clear k390
  rintro r h2 ⟨rfl, X2, f2⟩
  replace f1 := f1.tr f2
  clear X1 f2
  have X1 := X2
  clear X2
  refine am_bipush (n := 395) (v := (-2)) dL_refusesAny_393 rfl rfl ?_
  refine am_icmp_ne (tgt := 516) (n := 398) dL_refusesAny_395 (by decide) rfl (fun q_z => absurd rfl q_z) (fun _ => ?_)
  refine am_aload_n (n := 399) (i := 0) dL_refusesAny_398 rfl rfl rfl ?_
  refine am_iconst (n := 400) (v := 0) dL_refusesAny_399 rfl rfl ?_
  refine am_iconst (n := 401) (v := 4) dL_refusesAny_400 rfl rfl ?_
  refine am_iconst (n := 402) (v := 4) dL_refusesAny_401 rfl rfl ?_
  have k402 := cx_merge g 0 4 4 G _ X1
  rw [rf_mer2 hE (canM_s 4)] at k402
  refine caL_refusesAny_77 (n := 405) dL_refusesAny_402 (by first | exact ⟨rfl, rfl⟩ | assumption) k402 rfl rfl (Nat.le_of_ble_eq_true rfl) (by first | assumption | exact isC_of (by decide +kernel)) rfl ?_
  clear k402
  rintro r h2 ⟨rfl, X2, f2⟩
  replace f1 := f1.tr f2
  clear X1 f2
  have X1 := X2
  clear X2
  refine am_bipush (n := 407) (v := (-2)) dL_refusesAny_405 rfl rfl ?_
  refine am_icmp_ne (tgt := 516) (n := 410) dL_refusesAny_407 (by decide) rfl (fun q_z => absurd rfl q_z) (fun _ => ?_)
  refine am_aload_n (n := 411) (i := 0) dL_refusesAny_410 rfl rfl rfl ?_
  refine am_iload (n := 413) dL_refusesAny_411 rfl rfl ?_
  have k413 := cx_split g no G _ X1
  rw [rf_spl1 hno1] at k413
  refine caL_refusesAny_80 (n := 416) dL_refusesAny_413 (by first | exact ⟨rfl, rfl⟩ | assumption) k413 rfl rfl (Nat.le_of_ble_eq_true rfl) (by first | assumption | exact isC_of (by decide +kernel)) rfl ?_
  clear k413
  rintro r h2 ⟨rfl, X2, f2⟩
  replace f1 := f1.tr f2
  clear X1 f2
  have X1 := X2
  clear X2
  refine am_iconst (n := 417) (v := (-1)) dL_refusesAny_416 rfl rfl ?_
  refine am_icmp_ne (tgt := 516) (n := 420) dL_refusesAny_417 (by decide) rfl (fun q_z => absurd rfl q_z) (fun _ => ?_)
  refine am_aload_n (n := 421) (i := 0) dL_refusesAny_420 rfl rfl rfl ?_
  refine am_iconst (n := 422) (v := 0) dL_refusesAny_421 rfl rfl ?_
  refine am_iconst (n := 423) (v := 1) dL_refusesAny_422 rfl rfl ?_
  have k423 := cx_ofEar g 0 1 G _ X1
  rw [rf_oe2 hE (oeS_1 _ _)] at k423
  refine caL_refusesAny_53 (n := 426) dL_refusesAny_423 (by first | exact ⟨rfl, rfl⟩ | assumption) k423 rfl rfl (Nat.le_of_ble_eq_true rfl) (by first | assumption | exact isC_of (by decide +kernel)) rfl ?_
  clear k423
  rintro r h2 ⟨rfl, X2, f2⟩
  replace f1 := f1.tr f2
  clear X1 f2
  have X1 := X2
  clear X2
  refine am_if_gt (tgt := 439) (n := 429) dL_refusesAny_426 (by decide) rfl (fun c_426 => ?_) (fun c_426 => ?_)
  · exact t439 _ X1 f1
  · have he : E.2.2.2 = [] := List.eq_nil_of_length_eq_zero (Classical.byContradiction (fun q => c_426 (by have := hV.2.2.1; exact nI_lt (a := 0) (Nat.pos_of_ne_zero q) (by omega))))
    refine am_aload_n (n := 430) (i := 0) dL_refusesAny_429 rfl rfl rfl ?_
    refine am_iconst (n := 431) (v := 0) dL_refusesAny_430 rfl rfl ?_
    have k431 := cx_split g 0 G _ X1
    rw [rf_spl2 hE he] at k431
    refine caL_refusesAny_80 (n := 434) dL_refusesAny_431 (by first | exact ⟨rfl, rfl⟩ | assumption) k431 rfl rfl (Nat.le_of_ble_eq_true rfl) (by first | assumption | exact isC_of (by decide +kernel)) rfl ?_
    clear k431
    rintro r h2 ⟨rfl, X2, f2⟩
    replace f1 := f1.tr f2
    clear X1 f2
    have X1 := X2
    clear X2
    refine am_bipush (n := 436) (v := (-5)) dL_refusesAny_434 rfl rfl ?_
    refine am_icmp_ne (tgt := 516) (n := 439) dL_refusesAny_436 (by decide) rfl (fun q_z => absurd rfl q_z) (fun _ => ?_)
    exact t439 _ X1 f1
set_option maxRecDepth 100000 in
set_option maxHeartbeats 4000000 in
theorem rfC1 {g : Gx} {G : GS} {h0 : Hp} {P : Option Value → Hp → Prop} {X : Nat} {nm no kd lt na : Int32} {E : EV} (hxl : X < 2 ^ 31) (hno : inN no G.1.2.2.2.length = false) (hkd : inR kd 0 9 = false) (hk6 : ¬ kd = -6) (hlt : isLtr lt = false) (hna : inN na G.1.2.2.1.length = false) (hE : eN G.1.2.2.2 0 = some E) (hV : VE E) (par : X % 2 = 1) (next : ∀ h' : Hp, XI G h' → FM h0 h' → AW g mmL_refusesAny (ZP g P) 745 [(0, some (.ref 0)), (1, some (.int (nI X))), (2, some (.int nm)), (3, some (.int (nI G.1.2.2.2.length))), (4, some (.int no)), (5, some (.int kd)), (6, some (.int lt)), (7, some (.int na)), (8, some (.int 1))] [] h') : ∀ h1 : Hp, XI G h1 → FM h0 h1 → AW g mmL_refusesAny (ZP g P) 519 [(0, some (.ref 0)), (1, some (.int (nI X))), (2, some (.int nm)), (3, some (.int (nI G.1.2.2.2.length))), (4, some (.int no)), (5, some (.int kd)), (6, some (.int lt)), (7, some (.int na)), (8, some (.int 1))] [] h1 := by
  have hno1 : eN G.1.2.2.2 no = none := eN_f hno
  intro h1 X1 f1
  refine am_iload (n := 521) dL_refusesAny_519 rfl rfl ?_
  refine am_if_eq (tgt := 742) (n := 524) dL_refusesAny_521 (by decide) rfl (fun q_z => absurd q_z (by decide)) (fun _ => ?_)
  refine am_aload_n (n := 525) (i := 0) dL_refusesAny_524 rfl rfl rfl ?_
  refine am_iload (n := 527) dL_refusesAny_525 rfl rfl ?_
  refine am_iconst (n := 528) (v := 0) dL_refusesAny_527 rfl rfl ?_
  refine am_iconst (n := 529) (v := 0) dL_refusesAny_528 rfl rfl ?_
  refine am_bipush (n := 531) (v := 9) dL_refusesAny_529 rfl rfl ?_
  have k531 := cx_code g no 0 0 9 G _ X1
  rw [rf_code1 hno1] at k531
  refine caL_refusesAny_83 (n := 534) dL_refusesAny_531 (by first | exact ⟨rfl, rfl⟩ | assumption) k531 rfl rfl (Nat.le_of_ble_eq_true rfl) (by first | assumption | exact isC_of (by decide +kernel)) rfl ?_
  clear k531
  rintro r h2 ⟨rfl, X2, f2⟩
  replace f1 := f1.tr f2
  clear X1 f2
  have X1 := X2
  clear X2
  refine am_iconst (n := 535) (v := (-1)) dL_refusesAny_534 rfl rfl ?_
  refine am_icmp_ne (tgt := 742) (n := 538) dL_refusesAny_535 (by decide) rfl (fun q_z => absurd rfl q_z) (fun _ => ?_)
  refine am_aload_n (n := 539) (i := 0) dL_refusesAny_538 rfl rfl rfl ?_
  refine am_iconst (n := 540) (v := 0) dL_refusesAny_539 rfl rfl ?_
  refine am_iload (n := 542) dL_refusesAny_540 rfl rfl ?_
  refine am_iconst (n := 543) (v := 0) dL_refusesAny_542 rfl rfl ?_
  refine am_bipush (n := 545) (v := 9) dL_refusesAny_543 rfl rfl ?_
  have k545 := cx_code g 0 na 0 9 G _ X1
  rw [rf_code2 hE hna] at k545
  refine caL_refusesAny_83 (n := 548) dL_refusesAny_545 (by first | exact ⟨rfl, rfl⟩ | assumption) k545 rfl rfl (Nat.le_of_ble_eq_true rfl) (by first | assumption | exact isC_of (by decide +kernel)) rfl ?_
  clear k545
  rintro r h2 ⟨rfl, X2, f2⟩
  replace f1 := f1.tr f2
  clear X1 f2
  have X1 := X2
  clear X2
  refine am_iconst (n := 549) (v := (-1)) dL_refusesAny_548 rfl rfl ?_
  refine am_icmp_ne (tgt := 742) (n := 552) dL_refusesAny_549 (by decide) rfl (fun q_z => absurd rfl q_z) (fun _ => ?_)
  refine am_aload_n (n := 553) (i := 0) dL_refusesAny_552 rfl rfl rfl ?_
  refine am_iload (n := 555) dL_refusesAny_553 rfl rfl ?_
  refine am_iconst (n := 556) (v := 0) dL_refusesAny_555 rfl rfl ?_
  refine am_bipush (n := 558) (v := 9) dL_refusesAny_556 rfl rfl ?_
  have k558 := cx_drawer g no 0 9 G _ X1
  rw [rf_dr1 hno1] at k558
  refine caL_refusesAny_87 (n := 561) dL_refusesAny_558 (by first | exact ⟨rfl, rfl⟩ | assumption) k558 rfl rfl (Nat.le_of_ble_eq_true rfl) (by first | assumption | exact isC_of (by decide +kernel)) rfl ?_
  clear k558
  rintro r h2 ⟨rfl, X2, f2⟩
  replace f1 := f1.tr f2
  clear X1 f2
  have X1 := X2
  clear X2
  refine am_iconst (n := 562) (v := (-1)) dL_refusesAny_561 rfl rfl ?_
  refine am_icmp_ne (tgt := 742) (n := 565) dL_refusesAny_562 (by decide) rfl (fun q_z => absurd rfl q_z) (fun _ => ?_)
  refine am_aload_n (n := 566) (i := 0) dL_refusesAny_565 rfl rfl rfl ?_
  refine am_iconst (n := 567) (v := 0) dL_refusesAny_566 rfl rfl ?_
  refine am_iconst (n := 568) (v := (-1)) dL_refusesAny_567 rfl rfl ?_
  refine am_bipush (n := 570) (v := 9) dL_refusesAny_568 rfl rfl ?_
  have k570 := cx_drawer g 0 (-1) 9 G _ X1
  rw [rf_dr2 hE (by decide)] at k570
  refine caL_refusesAny_87 (n := 573) dL_refusesAny_570 (by first | exact ⟨rfl, rfl⟩ | assumption) k570 rfl rfl (Nat.le_of_ble_eq_true rfl) (by first | assumption | exact isC_of (by decide +kernel)) rfl ?_
  clear k570
  rintro r h2 ⟨rfl, X2, f2⟩
  replace f1 := f1.tr f2
  clear X1 f2
  have X1 := X2
  clear X2
  refine am_iconst (n := 574) (v := (-1)) dL_refusesAny_573 rfl rfl ?_
  refine am_icmp_ne (tgt := 742) (n := 577) dL_refusesAny_574 (by decide) rfl (fun q_z => absurd rfl q_z) (fun _ => ?_)
  refine am_aload_n (n := 578) (i := 0) dL_refusesAny_577 rfl rfl rfl ?_
  refine am_iload_n (n := 579) (i := 1) dL_refusesAny_578 rfl rfl rfl ?_
  refine am_iconst (n := 580) (v := 2) dL_refusesAny_579 rfl rfl ?_
  refine am_irem (n := 581) dL_refusesAny_580 (by decide) rfl ?_
  rw [i_rem (x := 2) 2 hxl (by decide) (by decide) rfl, par]
  refine am_if_ne (tgt := 588) (n := 584) dL_refusesAny_581 (by decide) rfl (fun _ => ?_) (fun q_z => absurd q_z (by decide))
  refine am_bipush (n := 590) (v := 7) dL_refusesAny_588 rfl rfl ?_
  have k590 := cx_count g 7 G _ X1
  rw [rf_cnt7] at k590
  refine caL_refusesAny_33 (n := 593) dL_refusesAny_590 (by first | exact ⟨rfl, rfl⟩ | assumption) k590 rfl rfl (Nat.le_of_ble_eq_true rfl) (by first | assumption | exact isC_of (by decide +kernel)) rfl ?_
  clear k590
  rintro r h2 ⟨rfl, X2, f2⟩
  replace f1 := f1.tr f2
  clear X1 f2
  have X1 := X2
  clear X2
  refine am_bipush (n := 595) (v := (-2)) dL_refusesAny_593 rfl rfl ?_
  refine am_icmp_ne (tgt := 742) (n := 598) dL_refusesAny_595 (by decide) rfl (fun q_z => absurd rfl q_z) (fun _ => ?_)
  refine am_aload_n (n := 599) (i := 0) dL_refusesAny_598 rfl rfl rfl ?_
  refine am_iload (n := 601) dL_refusesAny_599 rfl rfl ?_
  refine am_iconst (n := 602) (v := 0) dL_refusesAny_601 rfl rfl ?_
  refine am_iconst (n := 603) (v := 0) dL_refusesAny_602 rfl rfl ?_
  have k603 := cx_alike g no 0 0 G _ X1
  rw [rf_al1 hno1] at k603
  refine caL_refusesAny_90 (n := 606) dL_refusesAny_603 (by first | exact ⟨rfl, rfl⟩ | assumption) k603 rfl rfl (Nat.le_of_ble_eq_true rfl) (by first | assumption | exact isC_of (by decide +kernel)) rfl ?_
  clear k603
  rintro r h2 ⟨rfl, X2, f2⟩
  replace f1 := f1.tr f2
  clear X1 f2
  have X1 := X2
  clear X2
  refine am_iconst (n := 607) (v := (-1)) dL_refusesAny_606 rfl rfl ?_
  refine am_icmp_ne (tgt := 742) (n := 610) dL_refusesAny_607 (by decide) rfl (fun q_z => absurd rfl q_z) (fun _ => ?_)
  refine am_aload_n (n := 611) (i := 0) dL_refusesAny_610 rfl rfl rfl ?_
  refine am_iconst (n := 612) (v := 0) dL_refusesAny_611 rfl rfl ?_
  refine am_iload (n := 614) dL_refusesAny_612 rfl rfl ?_
  refine am_iload (n := 616) dL_refusesAny_614 rfl rfl ?_
  have k616 := cx_alike g 0 na na G _ X1
  rw [rf_al2 hE hna] at k616
  refine caL_refusesAny_90 (n := 619) dL_refusesAny_616 (by first | exact ⟨rfl, rfl⟩ | assumption) k616 rfl rfl (Nat.le_of_ble_eq_true rfl) (by first | assumption | exact isC_of (by decide +kernel)) rfl ?_
  clear k616
  rintro r h2 ⟨rfl, X2, f2⟩
  replace f1 := f1.tr f2
  clear X1 f2
  have X1 := X2
  clear X2
  refine am_iconst (n := 620) (v := (-1)) dL_refusesAny_619 rfl rfl ?_
  refine am_icmp_ne (tgt := 742) (n := 623) dL_refusesAny_620 (by decide) rfl (fun q_z => absurd rfl q_z) (fun _ => ?_)
  refine am_aload_n (n := 624) (i := 0) dL_refusesAny_623 rfl rfl rfl ?_
  refine am_iload (n := 626) dL_refusesAny_624 rfl rfl ?_
  refine am_iconst (n := 627) (v := 1) dL_refusesAny_626 rfl rfl ?_
  refine am_iconst (n := 628) (v := 1) dL_refusesAny_627 rfl rfl ?_
  refine am_bipush (n := 630) (v := 9) dL_refusesAny_628 rfl rfl ?_
  have k630 := cx_ifMerged g no 1 1 9 G _ X1
  rw [rf_im1 hno1] at k630
  refine caL_refusesAny_93 (n := 633) dL_refusesAny_630 (by first | exact ⟨rfl, rfl⟩ | assumption) k630 rfl rfl (Nat.le_of_ble_eq_true rfl) (by first | assumption | exact isC_of (by decide +kernel)) rfl ?_
  clear k630
  rintro r h2 ⟨rfl, X2, f2⟩
  replace f1 := f1.tr f2
  clear X1 f2
  have X1 := X2
  clear X2
  refine am_iconst (n := 634) (v := (-1)) dL_refusesAny_633 rfl rfl ?_
  refine am_icmp_ne (tgt := 742) (n := 637) dL_refusesAny_634 (by decide) rfl (fun q_z => absurd rfl q_z) (fun _ => ?_)
  refine am_aload_n (n := 638) (i := 0) dL_refusesAny_637 rfl rfl rfl ?_
  refine am_iconst (n := 639) (v := 0) dL_refusesAny_638 rfl rfl ?_
  refine am_iconst (n := 640) (v := 1) dL_refusesAny_639 rfl rfl ?_
  refine am_iconst (n := 641) (v := 2) dL_refusesAny_640 rfl rfl ?_
  refine am_iload_n (n := 642) (i := 1) dL_refusesAny_641 rfl rfl rfl ?_
  refine am_iconst (n := 643) (v := 2) dL_refusesAny_642 rfl rfl ?_
  refine am_irem (n := 644) dL_refusesAny_643 (by decide) rfl ?_
  rw [i_rem (x := 2) 2 hxl (by decide) (by decide) rfl, par]
  refine am_if_ne (tgt := 651) (n := 647) dL_refusesAny_644 (by decide) rfl (fun _ => ?_) (fun q_z => absurd q_z (by decide))
  refine am_iconst (n := 652) (v := 2) dL_refusesAny_651 rfl rfl ?_
  have k652 := cx_ifMerged g 0 1 2 2 G _ X1
  rw [rf_im2 hE (by decide)] at k652
  refine caL_refusesAny_93 (n := 655) dL_refusesAny_652 (by first | exact ⟨rfl, rfl⟩ | assumption) k652 rfl rfl (Nat.le_of_ble_eq_true rfl) (by first | assumption | exact isC_of (by decide +kernel)) rfl ?_
  clear k652
  rintro r h2 ⟨rfl, X2, f2⟩
  replace f1 := f1.tr f2
  clear X1 f2
  have X1 := X2
  clear X2
  refine am_bipush (n := 657) (v := (-2)) dL_refusesAny_655 rfl rfl ?_
  refine am_icmp_ne (tgt := 742) (n := 660) dL_refusesAny_657 (by decide) rfl (fun q_z => absurd rfl q_z) (fun _ => ?_)
  refine am_aload_n (n := 661) (i := 0) dL_refusesAny_660 rfl rfl rfl ?_
  refine am_iconst (n := 662) (v := 0) dL_refusesAny_661 rfl rfl ?_
  refine am_iload (n := 664) dL_refusesAny_662 rfl rfl ?_
  refine am_iconst (n := 665) (v := 2) dL_refusesAny_664 rfl rfl ?_
  refine am_iconst (n := 666) (v := 0) dL_refusesAny_665 rfl rfl ?_
  have k666 := cx_ifMerged g 0 kd 2 0 G _ X1
  rw [rf_im3 hE (canM_1 hkd)] at k666
  refine caL_refusesAny_93 (n := 669) dL_refusesAny_666 (by first | exact ⟨rfl, rfl⟩ | assumption) k666 rfl rfl (Nat.le_of_ble_eq_true rfl) (by first | assumption | exact isC_of (by decide +kernel)) rfl ?_
  clear k666
  rintro r h2 ⟨rfl, X2, f2⟩
  replace f1 := f1.tr f2
  clear X1 f2
  have X1 := X2
  clear X2
  refine am_bipush (n := 671) (v := (-2)) dL_refusesAny_669 rfl rfl ?_
  refine am_icmp_ne (tgt := 742) (n := 674) dL_refusesAny_671 (by decide) rfl (fun q_z => absurd rfl q_z) (fun _ => ?_)
  refine am_aload_n (n := 675) (i := 0) dL_refusesAny_674 rfl rfl rfl ?_
  refine am_iload (n := 677) dL_refusesAny_675 rfl rfl ?_
  refine am_bipush (n := 679) (v := 9) dL_refusesAny_677 rfl rfl ?_
  have k679 := cx_bestMerger g no 9 G _ X1
  rw [rf_bm1 hno1] at k679
  refine caL_refusesAny_96 (n := 682) dL_refusesAny_679 (by first | exact ⟨rfl, rfl⟩ | assumption) k679 rfl rfl (Nat.le_of_ble_eq_true rfl) (by first | assumption | exact isC_of (by decide +kernel)) rfl ?_
  clear k679
  rintro r h2 ⟨rfl, X2, f2⟩
  replace f1 := f1.tr f2
  clear X1 f2
  have X1 := X2
  clear X2
  refine am_iconst (n := 683) (v := (-1)) dL_refusesAny_682 rfl rfl ?_
  refine am_icmp_ne (tgt := 742) (n := 686) dL_refusesAny_683 (by decide) rfl (fun q_z => absurd rfl q_z) (fun _ => ?_)
  refine am_aload_n (n := 687) (i := 0) dL_refusesAny_686 rfl rfl rfl ?_
  refine am_iconst (n := 688) (v := 0) dL_refusesAny_687 rfl rfl ?_
  refine am_iload_n (n := 689) (i := 1) dL_refusesAny_688 rfl rfl rfl ?_
  refine am_iconst (n := 690) (v := 2) dL_refusesAny_689 rfl rfl ?_
  refine am_irem (n := 691) dL_refusesAny_690 (by decide) rfl ?_
  rw [i_rem (x := 2) 2 hxl (by decide) (by decide) rfl, par]
  refine am_if_ne (tgt := 698) (n := 694) dL_refusesAny_691 (by decide) rfl (fun _ => ?_) (fun q_z => absurd q_z (by decide))
  refine am_iconst (n := 699) (v := 3) dL_refusesAny_698 rfl rfl ?_
  have k699 := cx_bestMerger g 0 3 G _ X1
  rw [rf_bm2 hE (by decide)] at k699
  refine caL_refusesAny_96 (n := 702) dL_refusesAny_699 (by first | exact ⟨rfl, rfl⟩ | assumption) k699 rfl rfl (Nat.le_of_ble_eq_true rfl) (by first | assumption | exact isC_of (by decide +kernel)) rfl ?_
  clear k699
  rintro r h2 ⟨rfl, X2, f2⟩
  replace f1 := f1.tr f2
  clear X1 f2
  have X1 := X2
  clear X2
  refine am_bipush (n := 704) (v := (-2)) dL_refusesAny_702 rfl rfl ?_
  refine am_icmp_ne (tgt := 742) (n := 707) dL_refusesAny_704 (by decide) rfl (fun q_z => absurd rfl q_z) (fun _ => ?_)
  refine am_aload_n (n := 708) (i := 0) dL_refusesAny_707 rfl rfl rfl ?_
  refine am_iload (n := 710) dL_refusesAny_708 rfl rfl ?_
  refine am_iconst (n := 711) (v := 0) dL_refusesAny_710 rfl rfl ?_
  have k711 := cx_quarrel g no 0 G _ X1
  rw [rf_q1 hno1] at k711
  refine caL_refusesAny_99 (n := 714) dL_refusesAny_711 (by first | exact ⟨rfl, rfl⟩ | assumption) k711 rfl rfl (Nat.le_of_ble_eq_true rfl) (by first | assumption | exact isC_of (by decide +kernel)) rfl ?_
  clear k711
  rintro r h2 ⟨rfl, X2, f2⟩
  replace f1 := f1.tr f2
  clear X1 f2
  have X1 := X2
  clear X2
  refine am_iconst (n := 715) (v := (-1)) dL_refusesAny_714 rfl rfl ?_
  refine am_icmp_ne (tgt := 742) (n := 718) dL_refusesAny_715 (by decide) rfl (fun q_z => absurd rfl q_z) (fun _ => ?_)
  refine am_aload_n (n := 719) (i := 0) dL_refusesAny_718 rfl rfl rfl ?_
  refine am_iconst (n := 720) (v := 0) dL_refusesAny_719 rfl rfl ?_
  refine am_iload (n := 722) dL_refusesAny_720 rfl rfl ?_
  have k722 := cx_quarrel g 0 no G _ X1
  rw [rf_q2 hE hno1] at k722
  refine caL_refusesAny_99 (n := 725) dL_refusesAny_722 (by first | exact ⟨rfl, rfl⟩ | assumption) k722 rfl rfl (Nat.le_of_ble_eq_true rfl) (by first | assumption | exact isC_of (by decide +kernel)) rfl ?_
  clear k722
  rintro r h2 ⟨rfl, X2, f2⟩
  replace f1 := f1.tr f2
  clear X1 f2
  have X1 := X2
  clear X2
  refine am_iconst (n := 726) (v := (-1)) dL_refusesAny_725 rfl rfl ?_
  refine am_icmp_ne (tgt := 742) (n := 729) dL_refusesAny_726 (by decide) rfl (fun q_z => absurd rfl q_z) (fun _ => ?_)
  refine am_aload_n (n := 730) (i := 0) dL_refusesAny_729 rfl rfl rfl ?_
  refine am_iconst (n := 731) (v := 0) dL_refusesAny_730 rfl rfl ?_
  refine am_iconst (n := 732) (v := 0) dL_refusesAny_731 rfl rfl ?_
  have k732 := cx_quarrel g 0 0 G _ X1
  rw [rf_q3 hE] at k732
  refine caL_refusesAny_99 (n := 735) dL_refusesAny_732 (by first | exact ⟨rfl, rfl⟩ | assumption) k732 rfl rfl (Nat.le_of_ble_eq_true rfl) (by first | assumption | exact isC_of (by decide +kernel)) rfl ?_
  clear k732
  rintro r h2 ⟨rfl, X2, f2⟩
  replace f1 := f1.tr f2
  clear X1 f2
  have X1 := X2
  clear X2
  refine am_if_ne (tgt := 742) (n := 738) dL_refusesAny_735 (by decide) rfl (fun q_z => absurd rfl q_z) (fun _ => ?_)
  refine am_iconst (n := 739) (v := 1) dL_refusesAny_738 rfl rfl ?_
  refine am_goto (tgt := 743) dL_refusesAny_739 (by decide) ?_
  refine am_istore (n := 745) dL_refusesAny_743 (Nat.le_of_ble_eq_true rfl) rfl rfl ?_
  exact am_loc _ rfl (next _ X1 f1)
set_option maxRecDepth 100000 in
set_option maxHeartbeats 4000000 in
theorem rfD {g : Gx} {G : GS} {h0 : Hp} {P : Option Value → Hp → Prop} {X : Nat} {nm no kd lt na : Int32} {E : EV} (hP : P = fun v h' => v = some (.int 1) ∧ XI G h' ∧ FM h0 h') : ∀ h1 : Hp, XI G h1 → FM h0 h1 → AW g mmL_refusesAny (ZP g P) 745 [(0, some (.ref 0)), (1, some (.int (nI X))), (2, some (.int nm)), (3, some (.int (nI G.1.2.2.2.length))), (4, some (.int no)), (5, some (.int kd)), (6, some (.int lt)), (7, some (.int na)), (8, some (.int 1))] [] h1 := by
  intro h1 X1 f1
  refine am_iload (n := 747) dL_refusesAny_745 rfl rfl ?_
  refine am_if_eq (tgt := 832) (n := 750) dL_refusesAny_747 (by decide) rfl (fun q_z => absurd q_z (by decide)) (fun _ => ?_)
  refine am_aload_n (n := 751) (i := 0) dL_refusesAny_750 rfl rfl rfl ?_
  refine am_iconst (n := 752) (v := 2) dL_refusesAny_751 rfl rfl ?_
  have k752 := cx_save g 2 G _ X1
  rw [rf_sav] at k752
  refine caL_refusesAny_102 (n := 755) dL_refusesAny_752 (by first | exact ⟨rfl, rfl⟩ | assumption) k752 rfl rfl (Nat.le_of_ble_eq_true rfl) (by first | assumption | exact isC_of (by decide +kernel)) rfl ?_
  clear k752
  rintro r h2 ⟨rfl, X2, f2⟩
  replace f1 := f1.tr f2
  clear X1 f2
  have X1 := X2
  clear X2
  refine am_bipush (n := 757) (v := (-2)) dL_refusesAny_755 rfl rfl ?_
  refine am_icmp_ne (tgt := 832) (n := 760) dL_refusesAny_757 (by decide) rfl (fun q_z => absurd rfl q_z) (fun _ => ?_)
  refine am_aload_n (n := 761) (i := 0) dL_refusesAny_760 rfl rfl rfl ?_
  refine am_iconst (n := 762) (v := (-1)) dL_refusesAny_761 rfl rfl ?_
  have k762 := cx_restore g (-1) G _ X1
  rw [rf_res] at k762
  refine caL_refusesAny_105 (n := 765) dL_refusesAny_762 (by first | exact ⟨rfl, rfl⟩ | assumption) k762 rfl rfl (Nat.le_of_ble_eq_true rfl) (by first | assumption | exact isC_of (by decide +kernel)) rfl ?_
  clear k762
  rintro r h2 ⟨rfl, X2, f2⟩
  replace f1 := f1.tr f2
  clear X1 f2
  have X1 := X2
  clear X2
  refine am_bipush (n := 767) (v := (-2)) dL_refusesAny_765 rfl rfl ?_
  refine am_icmp_ne (tgt := 832) (n := 770) dL_refusesAny_767 (by decide) rfl (fun q_z => absurd rfl q_z) (fun _ => ?_)
  refine am_aload_n (n := 771) (i := 0) dL_refusesAny_770 rfl rfl rfl ?_
  refine am_lconst (n := 772) (v := 0) dL_refusesAny_771 rfl rfl ?_
  have k772 := (fun G h X => cx_put g 0 G h X (by decide)) G _ X1
  rw [rf_put (by decide +kernel)] at k772
  refine caL_refusesAny_30 (n := 775) dL_refusesAny_772 (by first | exact ⟨rfl, rfl⟩ | assumption) k772 rfl rfl (Nat.le_of_ble_eq_true rfl) (by first | assumption | exact isC_of (by decide +kernel)) rfl ?_
  clear k772
  rintro r h2 ⟨rfl, X2, f2⟩
  replace f1 := f1.tr f2
  clear X1 f2
  have X1 := X2
  clear X2
  refine am_bipush (n := 777) (v := (-2)) dL_refusesAny_775 rfl rfl ?_
  refine am_icmp_ne (tgt := 832) (n := 780) dL_refusesAny_777 (by decide) rfl (fun q_z => absurd rfl q_z) (fun _ => ?_)
  refine am_aload_n (n := 781) (i := 0) dL_refusesAny_780 rfl rfl rfl ?_
  refine am_ldc2 (n := 784) (v := 32) dL_refusesAny_781 (by decide +kernel) rfl ?_
  have k784 := (fun G h X => cx_put g 32 G h X (by decide)) G _ X1
  rw [rf_put (by decide +kernel)] at k784
  refine caL_refusesAny_30 (n := 787) dL_refusesAny_784 (by first | exact ⟨rfl, rfl⟩ | assumption) k784 rfl rfl (Nat.le_of_ble_eq_true rfl) (by first | assumption | exact isC_of (by decide +kernel)) rfl ?_
  clear k784
  rintro r h2 ⟨rfl, X2, f2⟩
  replace f1 := f1.tr f2
  clear X1 f2
  have X1 := X2
  clear X2
  refine am_bipush (n := 789) (v := (-2)) dL_refusesAny_787 rfl rfl ?_
  refine am_icmp_ne (tgt := 832) (n := 792) dL_refusesAny_789 (by decide) rfl (fun q_z => absurd rfl q_z) (fun _ => ?_)
  refine am_aload_n (n := 793) (i := 0) dL_refusesAny_792 rfl rfl rfl ?_
  refine am_ldc2 (n := 796) (v := 127) dL_refusesAny_793 (by decide +kernel) rfl ?_
  have k796 := (fun G h X => cx_put g 127 G h X (by decide)) G _ X1
  rw [rf_put (by decide +kernel)] at k796
  refine caL_refusesAny_30 (n := 799) dL_refusesAny_796 (by first | exact ⟨rfl, rfl⟩ | assumption) k796 rfl rfl (Nat.le_of_ble_eq_true rfl) (by first | assumption | exact isC_of (by decide +kernel)) rfl ?_
  clear k796
  rintro r h2 ⟨rfl, X2, f2⟩
  replace f1 := f1.tr f2
  clear X1 f2
  have X1 := X2
  clear X2
  refine am_bipush (n := 801) (v := (-2)) dL_refusesAny_799 rfl rfl ?_
  refine am_icmp_ne (tgt := 832) (n := 804) dL_refusesAny_801 (by decide) rfl (fun q_z => absurd rfl q_z) (fun _ => ?_)
  refine am_aload_n (n := 805) (i := 0) dL_refusesAny_804 rfl rfl rfl ?_
  refine am_ldc2 (n := 808) (v := 24832) dL_refusesAny_805 (by decide +kernel) rfl ?_
  have k808 := (fun G h X => cx_put g 24832 G h X (by decide)) G _ X1
  rw [rf_put (by decide +kernel)] at k808
  refine caL_refusesAny_30 (n := 811) dL_refusesAny_808 (by first | exact ⟨rfl, rfl⟩ | assumption) k808 rfl rfl (Nat.le_of_ble_eq_true rfl) (by first | assumption | exact isC_of (by decide +kernel)) rfl ?_
  clear k808
  rintro r h2 ⟨rfl, X2, f2⟩
  replace f1 := f1.tr f2
  clear X1 f2
  have X1 := X2
  clear X2
  refine am_bipush (n := 813) (v := (-2)) dL_refusesAny_811 rfl rfl ?_
  refine am_icmp_ne (tgt := 832) (n := 816) dL_refusesAny_813 (by decide) rfl (fun q_z => absurd rfl q_z) (fun _ => ?_)
  refine am_aload_n (n := 817) (i := 0) dL_refusesAny_816 rfl rfl rfl ?_
  refine am_ldc2 (n := 820) (v := 6357089) dL_refusesAny_817 (by decide +kernel) rfl ?_
  have k820 := (fun G h X => cx_put g 6357089 G h X (by decide)) G _ X1
  rw [rf_put (by decide +kernel)] at k820
  refine caL_refusesAny_30 (n := 823) dL_refusesAny_820 (by first | exact ⟨rfl, rfl⟩ | assumption) k820 rfl rfl (Nat.le_of_ble_eq_true rfl) (by first | assumption | exact isC_of (by decide +kernel)) rfl ?_
  clear k820
  rintro r h2 ⟨rfl, X2, f2⟩
  replace f1 := f1.tr f2
  clear X1 f2
  have X1 := X2
  clear X2
  refine am_bipush (n := 825) (v := (-2)) dL_refusesAny_823 rfl rfl ?_
  refine am_icmp_ne (tgt := 832) (n := 828) dL_refusesAny_825 (by decide) rfl (fun q_z => absurd rfl q_z) (fun _ => ?_)
  refine am_iconst (n := 829) (v := 1) dL_refusesAny_828 rfl rfl ?_
  refine am_goto (tgt := 833) dL_refusesAny_829 (by decide) ?_
  subst hP
  refine am_iret dL_refusesAny_833 rfl rfl ?_
  exact ⟨rfl, X1, f1⟩
end
