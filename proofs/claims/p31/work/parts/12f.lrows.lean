theorem dL_acts_116 : decode cL_acts 116 = .ok (.ifCond .lt 17, 3) := by decide +kernel
theorem dL_acts_119 : decode cL_acts 119 = .ok (.aload_n 1, 1) := by decide +kernel
theorem dL_acts_120 : decode cL_acts 120 = .ok (.aload_n 2, 1) := by decide +kernel
theorem dL_acts_121 : decode cL_acts 121 = .ok (.iconst 0, 1) := by decide +kernel
theorem dL_acts_122 : decode cL_acts 122 = .ok (.iaload, 1) := by decide +kernel
theorem dL_acts_123 : decode cL_acts 123 = .ok (.lload 6, 2) := by decide +kernel
theorem dL_acts_125 : decode cL_acts 125 = .ok (.lastore, 1) := by decide +kernel
theorem dL_acts_126 : decode cL_acts 126 = .ok (.aload_n 2, 1) := by decide +kernel
theorem dL_acts_127 : decode cL_acts 127 = .ok (.iconst 0, 1) := by decide +kernel
theorem dL_acts_128 : decode cL_acts 128 = .ok (.dup2, 1) := by decide +kernel
theorem dL_acts_129 : decode cL_acts 129 = .ok (.iaload, 1) := by decide +kernel
theorem dL_acts_130 : decode cL_acts 130 = .ok (.iconst 1, 1) := by decide +kernel
theorem dL_acts_131 : decode cL_acts 131 = .ok (.iadd, 1) := by decide +kernel
theorem dL_acts_132 : decode cL_acts 132 = .ok (.iastore, 1) := by decide +kernel
theorem dL_acts_133 : decode cL_acts 133 = .ok (.iload 10, 2) := by decide +kernel
theorem dL_acts_135 : decode cL_acts 135 = .ok (.ireturn, 1) := by decide +kernel
theorem dL_acts_136 : decode cL_acts 136 = .ok (.iload 5, 2) := by decide +kernel
theorem dL_acts_138 : decode cL_acts 138 = .ok (.bipush 8, 2) := by decide +kernel
theorem dL_acts_140 : decode cL_acts 140 = .ok (.if_icmp .ge 90, 3) := by decide +kernel
theorem dL_acts_143 : decode cL_acts 143 = .ok (.iload 4, 2) := by decide +kernel
theorem dL_acts_145 : decode cL_acts 145 = .ok (.aload_n 2, 1) := by decide +kernel
theorem dL_acts_146 : decode cL_acts 146 = .ok (.iconst 0, 1) := by decide +kernel
theorem dL_acts_147 : decode cL_acts 147 = .ok (.iaload, 1) := by decide +kernel
theorem dL_acts_148 : decode cL_acts 148 = .ok (.iconst 1, 1) := by decide +kernel
theorem dL_acts_149 : decode cL_acts 149 = .ok (.iadd, 1) := by decide +kernel
theorem dL_acts_150 : decode cL_acts 150 = .ok (.irem, 1) := by decide +kernel
theorem dL_acts_151 : decode cL_acts 151 = .ok (.istore 6, 2) := by decide +kernel
theorem dL_acts_153 : decode cL_acts 153 = .ok (.iload 6, 2) := by decide +kernel
theorem dL_acts_155 : decode cL_acts 155 = .ok (.aload_n 2, 1) := by decide +kernel
theorem dL_acts_156 : decode cL_acts 156 = .ok (.iconst 0, 1) := by decide +kernel
theorem dL_acts_157 : decode cL_acts 157 = .ok (.iaload, 1) := by decide +kernel
theorem dL_acts_158 : decode cL_acts 158 = .ok (.if_icmp .ne 19, 3) := by decide +kernel
theorem dL_acts_161 : decode cL_acts 161 = .ok (.aload_n 0, 1) := by decide +kernel
theorem dL_acts_162 : decode cL_acts 162 = .ok (.iload 6, 2) := by decide +kernel
theorem dL_acts_164 : decode cL_acts 164 = .ok (.invokevirtual 62, 3) := by decide +kernel
theorem dL_acts_167 : decode cL_acts 167 = .ok (.iconst (-1), 1) := by decide +kernel
theorem dL_acts_168 : decode cL_acts 168 = .ok (.if_icmp .ne 7, 3) := by decide +kernel
theorem dL_acts_171 : decode cL_acts 171 = .ok (.iconst 1, 1) := by decide +kernel
theorem dL_acts_172 : decode cL_acts 172 = .ok (.goto 4, 3) := by decide +kernel
theorem dL_acts_175 : decode cL_acts 175 = .ok (.iconst 0, 1) := by decide +kernel
theorem dL_acts_176 : decode cL_acts 176 = .ok (.ireturn, 1) := by decide +kernel
theorem dL_acts_177 : decode cL_acts 177 = .ok (.aload_n 2, 1) := by decide +kernel
theorem dL_acts_178 : decode cL_acts 178 = .ok (.iconst 0, 1) := by decide +kernel
theorem dL_acts_179 : decode cL_acts 179 = .ok (.dup2, 1) := by decide +kernel
theorem dL_acts_180 : decode cL_acts 180 = .ok (.iaload, 1) := by decide +kernel
theorem dL_acts_181 : decode cL_acts 181 = .ok (.iconst 1, 1) := by decide +kernel
theorem dL_acts_182 : decode cL_acts 182 = .ok (.isub, 1) := by decide +kernel
theorem dL_acts_183 : decode cL_acts 183 = .ok (.iastore, 1) := by decide +kernel
theorem dL_acts_184 : decode cL_acts 184 = .ok (.iload 6, 2) := by decide +kernel
theorem dL_acts_186 : decode cL_acts 186 = .ok (.istore 7, 2) := by decide +kernel
theorem dL_acts_188 : decode cL_acts 188 = .ok (.iload 7, 2) := by decide +kernel
theorem dL_acts_190 : decode cL_acts 190 = .ok (.aload_n 2, 1) := by decide +kernel
theorem dL_acts_191 : decode cL_acts 191 = .ok (.iconst 0, 1) := by decide +kernel
theorem dL_acts_192 : decode cL_acts 192 = .ok (.iaload, 1) := by decide +kernel
theorem dL_acts_193 : decode cL_acts 193 = .ok (.if_icmp .ge 19, 3) := by decide +kernel
theorem dL_acts_196 : decode cL_acts 196 = .ok (.aload_n 1, 1) := by decide +kernel
theorem dL_acts_197 : decode cL_acts 197 = .ok (.iload 7, 2) := by decide +kernel
theorem dL_acts_199 : decode cL_acts 199 = .ok (.aload_n 1, 1) := by decide +kernel
theorem dL_acts_200 : decode cL_acts 200 = .ok (.iload 7, 2) := by decide +kernel
theorem dL_acts_202 : decode cL_acts 202 = .ok (.iconst 1, 1) := by decide +kernel
theorem dL_acts_203 : decode cL_acts 203 = .ok (.iadd, 1) := by decide +kernel
theorem dL_acts_204 : decode cL_acts 204 = .ok (.laload, 1) := by decide +kernel
theorem dL_acts_205 : decode cL_acts 205 = .ok (.lastore, 1) := by decide +kernel
theorem dL_acts_206 : decode cL_acts 206 = .ok (.iinc 7 1, 3) := by decide +kernel
theorem dL_acts_209 : decode cL_acts 209 = .ok (.goto (-21), 3) := by decide +kernel
theorem dL_acts_212 : decode cL_acts 212 = .ok (.aload_n 0, 1) := by decide +kernel
theorem dL_acts_213 : decode cL_acts 213 = .ok (.iload 6, 2) := by decide +kernel
theorem dL_acts_215 : decode cL_acts 215 = .ok (.invokevirtual 62, 3) := by decide +kernel
theorem dL_acts_218 : decode cL_acts 218 = .ok (.aload_n 2, 1) := by decide +kernel
theorem dL_acts_219 : decode cL_acts 219 = .ok (.iconst 0, 1) := by decide +kernel
theorem dL_acts_220 : decode cL_acts 220 = .ok (.iaload, 1) := by decide +kernel
theorem dL_acts_221 : decode cL_acts 221 = .ok (.if_icmp .ne 7, 3) := by decide +kernel
theorem dL_acts_224 : decode cL_acts 224 = .ok (.iconst 1, 1) := by decide +kernel
theorem dL_acts_225 : decode cL_acts 225 = .ok (.goto 4, 3) := by decide +kernel
theorem dL_acts_228 : decode cL_acts 228 = .ok (.iconst 0, 1) := by decide +kernel
theorem dL_acts_229 : decode cL_acts 229 = .ok (.ireturn, 1) := by decide +kernel
theorem dL_acts_230 : decode cL_acts 230 = .ok (.iload 5, 2) := by decide +kernel
theorem dL_acts_232 : decode cL_acts 232 = .ok (.bipush 8, 2) := by decide +kernel
theorem dL_acts_234 : decode cL_acts 234 = .ok (.if_icmp .ne 48, 3) := by decide +kernel
theorem dL_acts_237 : decode cL_acts 237 = .ok (.aload_n 2, 1) := by decide +kernel
theorem dL_acts_238 : decode cL_acts 238 = .ok (.iconst 1, 1) := by decide +kernel
theorem dL_acts_239 : decode cL_acts 239 = .ok (.iaload, 1) := by decide +kernel
theorem dL_acts_240 : decode cL_acts 240 = .ok (.istore 6, 2) := by decide +kernel
theorem dL_acts_242 : decode cL_acts 242 = .ok (.aload_n 2, 1) := by decide +kernel
theorem dL_acts_243 : decode cL_acts 243 = .ok (.iconst 1, 1) := by decide +kernel
theorem dL_acts_244 : decode cL_acts 244 = .ok (.iconst 1, 1) := by decide +kernel
theorem dL_acts_245 : decode cL_acts 245 = .ok (.iload 4, 2) := by decide +kernel
theorem dL_acts_247 : decode cL_acts 247 = .ok (.bipush 24, 2) := by decide +kernel
theorem dL_acts_249 : decode cL_acts 249 = .ok (.irem, 1) := by decide +kernel
theorem dL_acts_250 : decode cL_acts 250 = .ok (.iadd, 1) := by decide +kernel
theorem dL_acts_251 : decode cL_acts 251 = .ok (.iastore, 1) := by decide +kernel
theorem dL_acts_252 : decode cL_acts 252 = .ok (.aload_n 0, 1) := by decide +kernel
theorem dL_acts_253 : decode cL_acts 253 = .ok (.iconst 1, 1) := by decide +kernel
theorem dL_acts_254 : decode cL_acts 254 = .ok (.aload_n 2, 1) := by decide +kernel
theorem dL_acts_255 : decode cL_acts 255 = .ok (.iconst 1, 1) := by decide +kernel
theorem dL_acts_256 : decode cL_acts 256 = .ok (.iaload, 1) := by decide +kernel
theorem dL_acts_257 : decode cL_acts 257 = .ok (.invokevirtual 59, 3) := by decide +kernel
theorem dL_acts_260 : decode cL_acts 260 = .ok (.iload 6, 2) := by decide +kernel
theorem dL_acts_262 : decode cL_acts 262 = .ok (.if_icmp .ne 18, 3) := by decide +kernel
theorem dL_acts_265 : decode cL_acts 265 = .ok (.aload_n 0, 1) := by decide +kernel
theorem dL_acts_266 : decode cL_acts 266 = .ok (.iconst 3, 1) := by decide +kernel
theorem dL_acts_267 : decode cL_acts 267 = .ok (.invokevirtual 33, 3) := by decide +kernel
theorem dL_acts_270 : decode cL_acts 270 = .ok (.aload_n 2, 1) := by decide +kernel
theorem dL_acts_271 : decode cL_acts 271 = .ok (.iconst 1, 1) := by decide +kernel
theorem dL_acts_272 : decode cL_acts 272 = .ok (.iaload, 1) := by decide +kernel
theorem dL_acts_273 : decode cL_acts 273 = .ok (.if_icmp .ne 7, 3) := by decide +kernel
theorem dL_acts_276 : decode cL_acts 276 = .ok (.iconst 1, 1) := by decide +kernel
theorem dL_acts_277 : decode cL_acts 277 = .ok (.goto 4, 3) := by decide +kernel
theorem dL_acts_280 : decode cL_acts 280 = .ok (.iconst 0, 1) := by decide +kernel
theorem dL_acts_281 : decode cL_acts 281 = .ok (.ireturn, 1) := by decide +kernel
theorem dL_acts_282 : decode cL_acts 282 = .ok (.iload 5, 2) := by decide +kernel
theorem dL_acts_284 : decode cL_acts 284 = .ok (.bipush 9, 2) := by decide +kernel
theorem dL_acts_286 : decode cL_acts 286 = .ok (.if_icmp .ne 31, 3) := by decide +kernel
theorem dL_acts_289 : decode cL_acts 289 = .ok (.aload_n 0, 1) := by decide +kernel
theorem dL_acts_290 : decode cL_acts 290 = .ok (.iconst 0, 1) := by decide +kernel
theorem dL_acts_291 : decode cL_acts 291 = .ok (.iload 4, 2) := by decide +kernel
theorem dL_acts_293 : decode cL_acts 293 = .ok (.bipush 26, 2) := by decide +kernel
theorem dL_acts_295 : decode cL_acts 295 = .ok (.irem, 1) := by decide +kernel
theorem dL_acts_296 : decode cL_acts 296 = .ok (.iload 4, 2) := by decide +kernel
theorem dL_acts_298 : decode cL_acts 298 = .ok (.iconst 5, 1) := by decide +kernel
theorem dL_acts_299 : decode cL_acts 299 = .ok (.ishr, 1) := by decide +kernel
theorem dL_acts_300 : decode cL_acts 300 = .ok (.bipush 10, 2) := by decide +kernel
theorem dL_acts_302 : decode cL_acts 302 = .ok (.irem, 1) := by decide +kernel
theorem dL_acts_303 : decode cL_acts 303 = .ok (.invokevirtual 71, 3) := by decide +kernel
theorem dL_acts_306 : decode cL_acts 306 = .ok (.bipush (-6), 2) := by decide +kernel
theorem dL_acts_308 : decode cL_acts 308 = .ok (.if_icmp .lt 7, 3) := by decide +kernel
theorem dL_acts_311 : decode cL_acts 311 = .ok (.iconst 1, 1) := by decide +kernel
theorem dL_acts_312 : decode cL_acts 312 = .ok (.goto 4, 3) := by decide +kernel
theorem dL_acts_315 : decode cL_acts 315 = .ok (.iconst 0, 1) := by decide +kernel
theorem dL_acts_316 : decode cL_acts 316 = .ok (.ireturn, 1) := by decide +kernel
theorem dL_acts_317 : decode cL_acts 317 = .ok (.iload 5, 2) := by decide +kernel
theorem dL_acts_319 : decode cL_acts 319 = .ok (.bipush 10, 2) := by decide +kernel
theorem dL_acts_321 : decode cL_acts 321 = .ok (.if_icmp .ne 31, 3) := by decide +kernel
theorem dL_acts_324 : decode cL_acts 324 = .ok (.aload_n 0, 1) := by decide +kernel
theorem dL_acts_325 : decode cL_acts 325 = .ok (.iconst 0, 1) := by decide +kernel
theorem dL_acts_326 : decode cL_acts 326 = .ok (.iload 4, 2) := by decide +kernel
theorem dL_acts_328 : decode cL_acts 328 = .ok (.bipush 26, 2) := by decide +kernel
theorem dL_acts_330 : decode cL_acts 330 = .ok (.irem, 1) := by decide +kernel
theorem dL_acts_331 : decode cL_acts 331 = .ok (.iload 4, 2) := by decide +kernel
theorem dL_acts_333 : decode cL_acts 333 = .ok (.iconst 5, 1) := by decide +kernel
theorem dL_acts_334 : decode cL_acts 334 = .ok (.ishr, 1) := by decide +kernel
theorem dL_acts_335 : decode cL_acts 335 = .ok (.bipush 10, 2) := by decide +kernel
theorem dL_acts_337 : decode cL_acts 337 = .ok (.irem, 1) := by decide +kernel
theorem dL_acts_338 : decode cL_acts 338 = .ok (.invokevirtual 68, 3) := by decide +kernel
theorem dL_acts_341 : decode cL_acts 341 = .ok (.ifCond .lt 7, 3) := by decide +kernel
theorem dL_acts_344 : decode cL_acts 344 = .ok (.iconst 1, 1) := by decide +kernel
theorem dL_acts_345 : decode cL_acts 345 = .ok (.goto 34, 3) := by decide +kernel
theorem dL_acts_348 : decode cL_acts 348 = .ok (.iconst 0, 1) := by decide +kernel
theorem dL_acts_349 : decode cL_acts 349 = .ok (.goto 30, 3) := by decide +kernel
theorem dL_acts_352 : decode cL_acts 352 = .ok (.aload_n 0, 1) := by decide +kernel
theorem dL_acts_353 : decode cL_acts 353 = .ok (.iload 4, 2) := by decide +kernel
theorem dL_acts_355 : decode cL_acts 355 = .ok (.iconst 2, 1) := by decide +kernel
theorem dL_acts_356 : decode cL_acts 356 = .ok (.irem, 1) := by decide +kernel
theorem dL_acts_357 : decode cL_acts 357 = .ok (.ifCond .ne 7, 3) := by decide +kernel
theorem dL_acts_360 : decode cL_acts 360 = .ok (.iconst 0, 1) := by decide +kernel
theorem dL_acts_361 : decode cL_acts 361 = .ok (.goto 5, 3) := by decide +kernel
theorem dL_acts_364 : decode cL_acts 364 = .ok (.bipush (-6), 2) := by decide +kernel
theorem dL_acts_366 : decode cL_acts 366 = .ok (.invokevirtual 65, 3) := by decide +kernel
theorem dL_acts_369 : decode cL_acts 369 = .ok (.bipush (-4), 2) := by decide +kernel
theorem dL_acts_371 : decode cL_acts 371 = .ok (.if_icmp .lt 7, 3) := by decide +kernel
theorem dL_acts_374 : decode cL_acts 374 = .ok (.iconst 1, 1) := by decide +kernel
theorem dL_acts_375 : decode cL_acts 375 = .ok (.goto 4, 3) := by decide +kernel
theorem dL_acts_378 : decode cL_acts 378 = .ok (.iconst 0, 1) := by decide +kernel
theorem dL_acts_379 : decode cL_acts 379 = .ok (.ireturn, 1) := by decide +kernel
set_option maxRecDepth 20000 in
theorem ggL_law_X7_init : GoodIn wsL_law wsX7_init := goodIn_r _ [7, 8, 9, 10, 11, 12, 13, 14, 15, 16, 17, 18, 19, 20, 21, 22, 23, 24, 25, 26, 27, 28, 29, 30, 31, 32, 33, 34, 35, 36, 37, 38, 39, 40, 41, 42, 43, 3, 44, 45, 46, 47, 48, 49, 50, 51, 4, 52, 53, 54, 55, 56, 57, 58, 59, 60, 61, 62, 63, 64, 65, 66, 67, 68, 69, 70, 71, 72, 73, 74, 75, 76, 77, 78, 79, 80, 81, 82, 83, 84, 512, 513, 514, 515, 516, 517, 502, 503, 504, 505, 506, 507, 508, 509, 510, 511, 518, 519, 520, 521, 522, 523, 524, 525, 526, 527, 528, 529, 530, 531, 532, 533, 534, 535, 536] (by decide +kernel) (by decide +kernel)
set_option maxRecDepth 20000 in
theorem gL_law_X7_init : GoodIn wsL_law (wsX7_init) := ggL_law_X7_init
set_option maxRecDepth 20000 in
theorem ggL_law_X7_undo : GoodIn wsL_law wsX7_undo := goodIn_r _ [88, 16, 15, 14, 89, 90, 91, 13, 92, 41, 42, 43, 44, 93, 94, 95, 96, 45, 47, 97, 98, 99, 31, 100, 52, 101, 53, 63, 64, 54, 55, 56, 57, 502, 503, 504, 505, 506, 507, 508, 509, 510, 511, 512, 513, 514, 515, 516, 517, 527, 528, 529, 530, 531, 532, 533, 534] (by decide +kernel) (by decide +kernel)
set_option maxRecDepth 20000 in
theorem gL_law_X7_undo : GoodIn wsL_law (wsV RL 153 RX7 yX7_undo wsX7_undo) := goodIn_app (goodIn_of _ (by decide +kernel)) ggL_law_X7_undo
set_option maxRecDepth 20000 in
theorem ggL_law_X7_restore : GoodIn wsL_law wsX7_restore := goodIn_r _ [105, 19, 14, 17, 106, 107, 108, 2, 109, 110, 111, 112, 113, 16, 15, 89, 90, 91, 13, 92, 41, 42, 43, 44, 93, 94, 95, 96, 45, 47, 97, 98, 99, 31, 100, 52, 101, 53, 63, 64, 54, 55, 56, 57, 502, 503, 504, 505, 506, 507, 508, 509, 510, 511, 512, 513, 514, 515, 516, 517, 527, 528, 529, 530, 531, 532, 533, 534] (by decide +kernel) (by decide +kernel)
set_option maxRecDepth 20000 in
theorem gL_law_X7_restore : GoodIn wsL_law (wsV RL 105 RX7 yX7_restore wsX7_restore) := goodIn_app (goodIn_of _ (by decide +kernel)) ggL_law_X7_restore
set_option maxRecDepth 20000 in
theorem ggL_law_X7_save : GoodIn wsL_law wsX7_save := goodIn_r _ [117, 17, 14, 19, 106, 107, 108, 2, 109, 89, 90, 91, 13, 92, 41, 42, 43, 44, 93, 94, 95, 96, 45, 47, 97, 98, 99, 31, 100, 52, 101, 53, 63, 64, 54, 55, 56, 57, 502, 503, 504, 505, 506, 507, 508, 509, 510, 511, 512, 513, 514, 515, 516, 517, 527, 528, 529, 530, 531, 532, 533, 534] (by decide +kernel) (by decide +kernel)
set_option maxRecDepth 20000 in
theorem gL_law_X7_save : GoodIn wsL_law (wsV RL 102 RX7 yX7_save wsX7_save) := goodIn_app (goodIn_of _ (by decide +kernel)) ggL_law_X7_save
