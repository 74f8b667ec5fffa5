theorem dL_faults_57 : decode cL_faults 57 = .ok (.iload_n 3, 1) := by decide +kernel
theorem dL_faults_58 : decode cL_faults 58 = .ok (.ifCond .eq 37, 3) := by decide +kernel
theorem dL_faults_61 : decode cL_faults 61 = .ok (.aload_n 0, 1) := by decide +kernel
theorem dL_faults_62 : decode cL_faults 62 = .ok (.bipush 97, 2) := by decide +kernel
theorem dL_faults_64 : decode cL_faults 64 = .ok (.iload_n 1, 1) := by decide +kernel
theorem dL_faults_65 : decode cL_faults 65 = .ok (.iload 4, 2) := by decide +kernel
theorem dL_faults_67 : decode cL_faults 67 = .ok (.ishr, 1) := by decide +kernel
theorem dL_faults_68 : decode cL_faults 68 = .ok (.bipush 26, 2) := by decide +kernel
theorem dL_faults_70 : decode cL_faults 70 = .ok (.irem, 1) := by decide +kernel
theorem dL_faults_71 : decode cL_faults 71 = .ok (.iadd, 1) := by decide +kernel
theorem dL_faults_72 : decode cL_faults 72 = .ok (.i2l, 1) := by decide +kernel
theorem dL_faults_73 : decode cL_faults 73 = .ok (.invokevirtual 30, 3) := by decide +kernel
theorem dL_faults_76 : decode cL_faults 76 = .ok (.iload 4, 2) := by decide +kernel
theorem dL_faults_78 : decode cL_faults 78 = .ok (.iconst 1, 1) := by decide +kernel
theorem dL_faults_79 : decode cL_faults 79 = .ok (.iadd, 1) := by decide +kernel
theorem dL_faults_80 : decode cL_faults 80 = .ok (.if_icmp .ne 7, 3) := by decide +kernel
theorem dL_faults_83 : decode cL_faults 83 = .ok (.iconst 1, 1) := by decide +kernel
theorem dL_faults_84 : decode cL_faults 84 = .ok (.goto 4, 3) := by decide +kernel
theorem dL_faults_87 : decode cL_faults 87 = .ok (.iconst 0, 1) := by decide +kernel
theorem dL_faults_88 : decode cL_faults 88 = .ok (.istore_n 3, 1) := by decide +kernel
theorem dL_faults_89 : decode cL_faults 89 = .ok (.iinc 4 1, 3) := by decide +kernel
theorem dL_faults_92 : decode cL_faults 92 = .ok (.goto (-41), 3) := by decide +kernel
theorem dL_faults_95 : decode cL_faults 95 = .ok (.iload_n 1, 1) := by decide +kernel
theorem dL_faults_96 : decode cL_faults 96 = .ok (.iconst 3, 1) := by decide +kernel
theorem dL_faults_97 : decode cL_faults 97 = .ok (.irem, 1) := by decide +kernel
theorem dL_faults_98 : decode cL_faults 98 = .ok (.ifCond .ne 12, 3) := by decide +kernel
theorem dL_faults_101 : decode cL_faults 101 = .ok (.bipush 123, 2) := by decide +kernel
theorem dL_faults_103 : decode cL_faults 103 = .ok (.iload_n 1, 1) := by decide +kernel
theorem dL_faults_104 : decode cL_faults 104 = .ok (.iconst 4, 1) := by decide +kernel
theorem dL_faults_105 : decode cL_faults 105 = .ok (.irem, 1) := by decide +kernel
theorem dL_faults_106 : decode cL_faults 106 = .ok (.iadd, 1) := by decide +kernel
theorem dL_faults_107 : decode cL_faults 107 = .ok (.goto 10, 3) := by decide +kernel
theorem dL_faults_110 : decode cL_faults 110 = .ok (.bipush 33, 2) := by decide +kernel
theorem dL_faults_112 : decode cL_faults 112 = .ok (.iload_n 1, 1) := by decide +kernel
theorem dL_faults_113 : decode cL_faults 113 = .ok (.bipush 64, 2) := by decide +kernel
theorem dL_faults_115 : decode cL_faults 115 = .ok (.irem, 1) := by decide +kernel
theorem dL_faults_116 : decode cL_faults 116 = .ok (.iadd, 1) := by decide +kernel
theorem dL_faults_117 : decode cL_faults 117 = .ok (.istore 4, 2) := by decide +kernel
theorem dL_faults_119 : decode cL_faults 119 = .ok (.iload_n 3, 1) := by decide +kernel
theorem dL_faults_120 : decode cL_faults 120 = .ok (.ifCond .eq 65, 3) := by decide +kernel
theorem dL_faults_123 : decode cL_faults 123 = .ok (.aload_n 0, 1) := by decide +kernel
theorem dL_faults_124 : decode cL_faults 124 = .ok (.iload 4, 2) := by decide +kernel
theorem dL_faults_126 : decode cL_faults 126 = .ok (.i2l, 1) := by decide +kernel
theorem dL_faults_127 : decode cL_faults 127 = .ok (.bipush 8, 2) := by decide +kernel
theorem dL_faults_129 : decode cL_faults 129 = .ok (.lshl, 1) := by decide +kernel
theorem dL_faults_130 : decode cL_faults 130 = .ok (.ldc2_w 130, 3) := by decide +kernel
theorem dL_faults_133 : decode cL_faults 133 = .ok (.lor, 1) := by decide +kernel
theorem dL_faults_134 : decode cL_faults 134 = .ok (.invokevirtual 30, 3) := by decide +kernel
theorem dL_faults_137 : decode cL_faults 137 = .ok (.iload_n 2, 1) := by decide +kernel
theorem dL_faults_138 : decode cL_faults 138 = .ok (.iconst 2, 1) := by decide +kernel
theorem dL_faults_139 : decode cL_faults 139 = .ok (.iadd, 1) := by decide +kernel
theorem dL_faults_140 : decode cL_faults 140 = .ok (.if_icmp .ne 45, 3) := by decide +kernel
theorem dL_faults_143 : decode cL_faults 143 = .ok (.aload_n 0, 1) := by decide +kernel
theorem dL_faults_144 : decode cL_faults 144 = .ok (.invokevirtual 23, 3) := by decide +kernel
theorem dL_faults_147 : decode cL_faults 147 = .ok (.iload_n 2, 1) := by decide +kernel
theorem dL_faults_148 : decode cL_faults 148 = .ok (.if_icmp .ne 37, 3) := by decide +kernel
theorem dL_faults_151 : decode cL_faults 151 = .ok (.aload_n 0, 1) := by decide +kernel
theorem dL_faults_152 : decode cL_faults 152 = .ok (.invokevirtual 124, 3) := by decide +kernel
theorem dL_faults_155 : decode cL_faults 155 = .ok (.bipush (-3), 2) := by decide +kernel
theorem dL_faults_157 : decode cL_faults 157 = .ok (.if_icmp .ne 28, 3) := by decide +kernel
theorem dL_faults_160 : decode cL_faults 160 = .ok (.aload_n 0, 1) := by decide +kernel
theorem dL_faults_161 : decode cL_faults 161 = .ok (.iconst 4, 1) := by decide +kernel
theorem dL_faults_162 : decode cL_faults 162 = .ok (.invokevirtual 33, 3) := by decide +kernel
theorem dL_faults_165 : decode cL_faults 165 = .ok (.iload_n 2, 1) := by decide +kernel
theorem dL_faults_166 : decode cL_faults 166 = .ok (.iconst 2, 1) := by decide +kernel
theorem dL_faults_167 : decode cL_faults 167 = .ok (.iadd, 1) := by decide +kernel
theorem dL_faults_168 : decode cL_faults 168 = .ok (.if_icmp .ne 17, 3) := by decide +kernel
theorem dL_faults_171 : decode cL_faults 171 = .ok (.aload_n 0, 1) := by decide +kernel
theorem dL_faults_172 : decode cL_faults 172 = .ok (.invokevirtual 11, 3) := by decide +kernel
theorem dL_faults_175 : decode cL_faults 175 = .ok (.iload_n 2, 1) := by decide +kernel
theorem dL_faults_176 : decode cL_faults 176 = .ok (.iconst 2, 1) := by decide +kernel
theorem dL_faults_177 : decode cL_faults 177 = .ok (.iadd, 1) := by decide +kernel
theorem dL_faults_178 : decode cL_faults 178 = .ok (.if_icmp .ne 7, 3) := by decide +kernel
theorem dL_faults_181 : decode cL_faults 181 = .ok (.iconst 1, 1) := by decide +kernel
theorem dL_faults_182 : decode cL_faults 182 = .ok (.goto 4, 3) := by decide +kernel
theorem dL_faults_185 : decode cL_faults 185 = .ok (.iconst 0, 1) := by decide +kernel
theorem dL_faults_186 : decode cL_faults 186 = .ok (.istore_n 3, 1) := by decide +kernel
theorem dL_faults_187 : decode cL_faults 187 = .ok (.iload_n 3, 1) := by decide +kernel
theorem dL_faults_188 : decode cL_faults 188 = .ok (.ifCond .eq 100, 3) := by decide +kernel
theorem dL_faults_191 : decode cL_faults 191 = .ok (.aload_n 0, 1) := by decide +kernel
theorem dL_faults_192 : decode cL_faults 192 = .ok (.ldc2_w 132, 3) := by decide +kernel
theorem dL_faults_195 : decode cL_faults 195 = .ok (.invokevirtual 30, 3) := by decide +kernel
theorem dL_faults_198 : decode cL_faults 198 = .ok (.bipush 8, 2) := by decide +kernel
theorem dL_faults_200 : decode cL_faults 200 = .ok (.if_icmp .ne 88, 3) := by decide +kernel
theorem dL_faults_203 : decode cL_faults 203 = .ok (.aload_n 0, 1) := by decide +kernel
theorem dL_faults_204 : decode cL_faults 204 = .ok (.invokevirtual 23, 3) := by decide +kernel
theorem dL_faults_207 : decode cL_faults 207 = .ok (.bipush (-6), 2) := by decide +kernel
theorem dL_faults_209 : decode cL_faults 209 = .ok (.if_icmp .ne 79, 3) := by decide +kernel
theorem dL_faults_212 : decode cL_faults 212 = .ok (.aload_n 0, 1) := by decide +kernel
theorem dL_faults_213 : decode cL_faults 213 = .ok (.ldc2_w 134, 3) := by decide +kernel
theorem dL_faults_216 : decode cL_faults 216 = .ok (.invokevirtual 30, 3) := by decide +kernel
theorem dL_faults_219 : decode cL_faults 219 = .ok (.bipush 10, 2) := by decide +kernel
theorem dL_faults_221 : decode cL_faults 221 = .ok (.if_icmp .ne 67, 3) := by decide +kernel
theorem dL_faults_224 : decode cL_faults 224 = .ok (.aload_n 0, 1) := by decide +kernel
theorem dL_faults_225 : decode cL_faults 225 = .ok (.invokevirtual 23, 3) := by decide +kernel
theorem dL_faults_228 : decode cL_faults 228 = .ok (.bipush (-6), 2) := by decide +kernel
theorem dL_faults_230 : decode cL_faults 230 = .ok (.if_icmp .ne 58, 3) := by decide +kernel
theorem dL_faults_233 : decode cL_faults 233 = .ok (.aload_n 0, 1) := by decide +kernel
theorem dL_faults_234 : decode cL_faults 234 = .ok (.ldc2_w 130, 3) := by decide +kernel
theorem dL_faults_237 : decode cL_faults 237 = .ok (.invokevirtual 30, 3) := by decide +kernel
theorem dL_faults_240 : decode cL_faults 240 = .ok (.bipush 11, 2) := by decide +kernel
theorem dL_faults_242 : decode cL_faults 242 = .ok (.if_icmp .ne 46, 3) := by decide +kernel
theorem dL_faults_245 : decode cL_faults 245 = .ok (.aload_n 0, 1) := by decide +kernel
theorem dL_faults_246 : decode cL_faults 246 = .ok (.invokevirtual 23, 3) := by decide +kernel
theorem dL_faults_249 : decode cL_faults 249 = .ok (.bipush 10, 2) := by decide +kernel
theorem dL_faults_251 : decode cL_faults 251 = .ok (.if_icmp .ne 37, 3) := by decide +kernel
theorem dL_faults_254 : decode cL_faults 254 = .ok (.aload_n 0, 1) := by decide +kernel
theorem dL_faults_255 : decode cL_faults 255 = .ok (.ldc2_w 136, 3) := by decide +kernel
theorem dL_faults_258 : decode cL_faults 258 = .ok (.invokevirtual 30, 3) := by decide +kernel
theorem dL_faults_261 : decode cL_faults 261 = .ok (.bipush 12, 2) := by decide +kernel
theorem dL_faults_263 : decode cL_faults 263 = .ok (.if_icmp .ne 25, 3) := by decide +kernel
theorem dL_faults_266 : decode cL_faults 266 = .ok (.aload_n 0, 1) := by decide +kernel
theorem dL_faults_267 : decode cL_faults 267 = .ok (.invokevirtual 23, 3) := by decide +kernel
theorem dL_faults_270 : decode cL_faults 270 = .ok (.bipush 10, 2) := by decide +kernel
theorem dL_faults_272 : decode cL_faults 272 = .ok (.if_icmp .ne 16, 3) := by decide +kernel
theorem dL_faults_275 : decode cL_faults 275 = .ok (.aload_n 0, 1) := by decide +kernel
theorem dL_faults_276 : decode cL_faults 276 = .ok (.invokevirtual 124, 3) := by decide +kernel
theorem dL_faults_279 : decode cL_faults 279 = .ok (.bipush (-3), 2) := by decide +kernel
theorem dL_faults_281 : decode cL_faults 281 = .ok (.if_icmp .ne 7, 3) := by decide +kernel
theorem dL_faults_284 : decode cL_faults 284 = .ok (.iconst 1, 1) := by decide +kernel
theorem dL_faults_285 : decode cL_faults 285 = .ok (.goto 4, 3) := by decide +kernel
theorem dL_faults_288 : decode cL_faults 288 = .ok (.iconst 0, 1) := by decide +kernel
theorem dL_faults_289 : decode cL_faults 289 = .ok (.istore_n 3, 1) := by decide +kernel
theorem dL_faults_290 : decode cL_faults 290 = .ok (.iconst 0, 1) := by decide +kernel
theorem dL_faults_291 : decode cL_faults 291 = .ok (.istore 5, 2) := by decide +kernel
theorem dL_faults_293 : decode cL_faults 293 = .ok (.iload 5, 2) := by decide +kernel
theorem dL_faults_295 : decode cL_faults 295 = .ok (.bipush 17, 2) := by decide +kernel
theorem dL_faults_297 : decode cL_faults 297 = .ok (.if_icmp .ge 36, 3) := by decide +kernel
theorem dL_faults_300 : decode cL_faults 300 = .ok (.iload_n 3, 1) := by decide +kernel
theorem dL_faults_301 : decode cL_faults 301 = .ok (.ifCond .eq 32, 3) := by decide +kernel
theorem dL_faults_304 : decode cL_faults 304 = .ok (.aload_n 0, 1) := by decide +kernel
theorem dL_faults_305 : decode cL_faults 305 = .ok (.ldc2_w 138, 3) := by decide +kernel
theorem dL_faults_308 : decode cL_faults 308 = .ok (.invokevirtual 30, 3) := by decide +kernel
theorem dL_faults_311 : decode cL_faults 311 = .ok (.bipush 16, 2) := by decide +kernel
theorem dL_faults_313 : decode cL_faults 313 = .ok (.iconst 4, 1) := by decide +kernel
theorem dL_faults_314 : decode cL_faults 314 = .ok (.iload 5, 2) := by decide +kernel
theorem dL_faults_316 : decode cL_faults 316 = .ok (.imul, 1) := by decide +kernel
theorem dL_faults_317 : decode cL_faults 317 = .ok (.iadd, 1) := by decide +kernel
theorem dL_faults_318 : decode cL_faults 318 = .ok (.if_icmp .ne 7, 3) := by decide +kernel
theorem dL_faults_321 : decode cL_faults 321 = .ok (.iconst 1, 1) := by decide +kernel
theorem dL_faults_322 : decode cL_faults 322 = .ok (.goto 4, 3) := by decide +kernel
theorem dL_faults_325 : decode cL_faults 325 = .ok (.iconst 0, 1) := by decide +kernel
theorem dL_faults_326 : decode cL_faults 326 = .ok (.istore_n 3, 1) := by decide +kernel
theorem dL_faults_327 : decode cL_faults 327 = .ok (.iinc 5 1, 3) := by decide +kernel
theorem dL_faults_330 : decode cL_faults 330 = .ok (.goto (-37), 3) := by decide +kernel
theorem dL_faults_333 : decode cL_faults 333 = .ok (.iload_n 3, 1) := by decide +kernel
theorem dL_faults_334 : decode cL_faults 334 = .ok (.ifCond .eq 66, 3) := by decide +kernel
theorem dL_faults_337 : decode cL_faults 337 = .ok (.aload_n 0, 1) := by decide +kernel
theorem dL_faults_338 : decode cL_faults 338 = .ok (.iconst 4, 1) := by decide +kernel
theorem dL_faults_339 : decode cL_faults 339 = .ok (.invokevirtual 33, 3) := by decide +kernel
theorem dL_faults_342 : decode cL_faults 342 = .ok (.bipush 80, 2) := by decide +kernel
theorem dL_faults_344 : decode cL_faults 344 = .ok (.if_icmp .ne 56, 3) := by decide +kernel
theorem dL_faults_347 : decode cL_faults 347 = .ok (.aload_n 0, 1) := by decide +kernel
theorem dL_faults_348 : decode cL_faults 348 = .ok (.ldc2_w 130, 3) := by decide +kernel
theorem dL_faults_351 : decode cL_faults 351 = .ok (.invokevirtual 30, 3) := by decide +kernel
theorem dL_faults_354 : decode cL_faults 354 = .ok (.bipush (-4), 2) := by decide +kernel
theorem dL_faults_356 : decode cL_faults 356 = .ok (.if_icmp .ne 44, 3) := by decide +kernel
theorem dL_faults_359 : decode cL_faults 359 = .ok (.aload_n 0, 1) := by decide +kernel
theorem dL_faults_360 : decode cL_faults 360 = .ok (.ldc2_w 108, 3) := by decide +kernel
theorem dL_faults_363 : decode cL_faults 363 = .ok (.invokevirtual 30, 3) := by decide +kernel
theorem dL_faults_366 : decode cL_faults 366 = .ok (.bipush (-2), 2) := by decide +kernel
theorem dL_faults_368 : decode cL_faults 368 = .ok (.if_icmp .ne 32, 3) := by decide +kernel
theorem dL_faults_371 : decode cL_faults 371 = .ok (.aload_n 0, 1) := by decide +kernel
theorem dL_faults_372 : decode cL_faults 372 = .ok (.invokevirtual 23, 3) := by decide +kernel
theorem dL_faults_375 : decode cL_faults 375 = .ok (.bipush 10, 2) := by decide +kernel
theorem dL_faults_377 : decode cL_faults 377 = .ok (.if_icmp .ne 23, 3) := by decide +kernel
theorem dL_faults_380 : decode cL_faults 380 = .ok (.aload_n 0, 1) := by decide +kernel
theorem dL_faults_381 : decode cL_faults 381 = .ok (.invokevirtual 11, 3) := by decide +kernel
theorem dL_faults_384 : decode cL_faults 384 = .ok (.bipush 80, 2) := by decide +kernel
theorem dL_faults_386 : decode cL_faults 386 = .ok (.if_icmp .ne 14, 3) := by decide +kernel
theorem dL_faults_389 : decode cL_faults 389 = .ok (.aload_n 0, 1) := by decide +kernel
theorem dL_faults_390 : decode cL_faults 390 = .ok (.invokevirtual 11, 3) := by decide +kernel
theorem dL_faults_393 : decode cL_faults 393 = .ok (.ifCond .ne 7, 3) := by decide +kernel
theorem dL_faults_396 : decode cL_faults 396 = .ok (.iconst 1, 1) := by decide +kernel
theorem dL_faults_397 : decode cL_faults 397 = .ok (.goto 4, 3) := by decide +kernel
theorem dL_faults_400 : decode cL_faults 400 = .ok (.iconst 0, 1) := by decide +kernel
theorem dL_faults_401 : decode cL_faults 401 = .ok (.ireturn, 1) := by decide +kernel
set_option maxHeartbeats 4000000 in
set_option maxRecDepth 100000 in
theorem ggL_acts_L_draw : GoodIn wsL_acts wsL_draw := goodIn_r _ [4] rfl (by decide +kernel)
set_option maxRecDepth 20000 in
theorem gL_acts_L_draw : GoodIn wsL_acts (va_wsS RL 140 yL_draw wsL_draw) := goodIn_app (goodIn_of _ (by decide +kernel)) ggL_acts_L_draw
set_option maxHeartbeats 4000000 in
set_option maxRecDepth 100000 in
theorem ggL_acts_L_place : GoodIn wsL_acts wsL_place := goodIn_r _ [7] rfl (by decide +kernel)
set_option maxRecDepth 20000 in
theorem gL_acts_L_place : GoodIn wsL_acts (va_wsS RL 144 yL_place wsL_place) := goodIn_app (goodIn_of _ (by decide +kernel)) ggL_acts_L_place
set_option maxHeartbeats 4000000 in
set_option maxRecDepth 100000 in
theorem ggL_acts_L_writes : GoodIn wsL_acts wsL_writes := goodIn_r _ [10, 11, 12, 13, 14, 15, 16, 17, 18, 19, 3, 20, 21, 22, 23, 24, 25, 26, 27, 28, 29, 30, 31, 32, 33, 34, 35, 36, 37, 38, 39, 40, 41, 42, 43, 44, 45, 46, 47, 48, 49, 50, 51, 52, 53, 54, 55, 56, 57, 58, 59, 60, 61, 62, 63, 64, 65, 66, 67, 68, 69, 70, 71, 72, 73, 74, 75, 76, 77, 179, 180, 181, 182, 183, 184, 185, 186, 187, 188, 189, 190, 191, 192, 193, 194, 195, 196] rfl (by decide +kernel)
set_option maxRecDepth 20000 in
theorem gL_acts_L_writes : GoodIn wsL_acts (va_wsS RL 148 yL_writes wsL_writes) := goodIn_app (goodIn_of _ (by decide +kernel)) ggL_acts_L_writes
set_option maxHeartbeats 4000000 in
set_option maxRecDepth 100000 in
theorem ggL_acts_X7_add : GoodIn wsL_acts wsX7_add := goodIn_r _ [81, 16, 54, 55, 58, 82, 17, 25, 26, 27, 28, 29, 30, 31, 83, 84, 85, 86, 87, 88, 69, 89, 90, 91, 92, 63, 93, 65, 66, 94, 95, 96, 14, 97, 59, 98, 99, 100, 101, 102, 103, 104, 105, 106, 107, 108, 109, 110, 111, 112, 113, 114, 115, 116, 117, 118, 119, 120, 121, 122, 123, 124, 179, 180, 181, 182, 183, 184, 185, 186, 187, 188, 191, 192, 193, 194, 195, 196, 189, 190, 197, 198, 199, 200, 201, 202, 203, 204] rfl (by decide +kernel)
set_option maxRecDepth 20000 in
theorem gL_acts_X7_add : GoodIn wsL_acts (wsV RL 124 RX7 yX7_add wsX7_add) := goodIn_app (goodIn_of _ (by decide +kernel)) ggL_acts_X7_add
set_option maxHeartbeats 4000000 in
set_option maxRecDepth 100000 in
theorem ggL_acts_X7_count : GoodIn wsL_acts wsX7_count := goodIn_r _ [53, 54, 55, 56, 57, 58, 16, 17, 59, 60, 61, 62, 63, 64, 65, 66, 67, 68, 69, 70, 71, 72, 73, 74, 75, 76, 77, 179, 180, 181, 182, 183, 184, 185, 186, 187, 188, 191, 192, 193, 194, 195, 196, 189, 190] rfl (by decide +kernel)
set_option maxRecDepth 20000 in
theorem gL_acts_X7_count : GoodIn wsL_acts (wsV RL 33 RX7 yX7_count wsX7_count) := goodIn_app (goodIn_of _ (by decide +kernel)) ggL_acts_X7_count
set_option maxHeartbeats 4000000 in
set_option maxRecDepth 100000 in
theorem ggL_acts_L_many : GoodIn wsL_acts wsL_many := goodIn_r _ [20] rfl (by decide +kernel)
set_option maxRecDepth 20000 in
theorem gL_acts_L_many : GoodIn wsL_acts (va_wsS RL 17 yL_many wsL_many) := goodIn_app (goodIn_of _ (by decide +kernel)) ggL_acts_L_many
set_option maxHeartbeats 4000000 in
set_option maxRecDepth 100000 in
theorem ggL_acts_X7_drop : GoodIn wsL_acts wsX7_drop := goodIn_r _ [128, 54, 55, 129, 130, 131, 63, 132, 65, 94, 95, 96, 14, 97, 59, 98, 99, 100, 101, 102, 103, 104, 66, 105, 106, 107, 108, 109, 110, 111, 112, 113, 114, 115, 116, 117, 118, 119, 120, 121, 122, 123, 124, 133, 134, 135, 136, 179, 180, 181, 182, 183, 184, 185, 186, 187, 188, 191, 192, 193, 194, 195, 196, 197, 198, 199, 200, 201, 202, 203, 204] rfl (by decide +kernel)
set_option maxRecDepth 20000 in
theorem gL_acts_X7_drop : GoodIn wsL_acts (wsV RL 62 RX7 yX7_drop wsX7_drop) := goodIn_app (goodIn_of _ (by decide +kernel)) ggL_acts_X7_drop
set_option maxHeartbeats 4000000 in
set_option maxRecDepth 100000 in
theorem ggL_acts_X7_set : GoodIn wsL_acts wsX7_set := goodIn_r _ [140, 54, 57, 58, 141, 142, 14, 143, 94, 95, 96, 97, 59, 98, 99, 100, 101, 63, 102, 103, 104, 65, 66, 105, 106, 107, 108, 109, 110, 111, 112, 113, 114, 115, 116, 117, 118, 119, 120, 121, 122, 123, 124, 179, 180, 181, 182, 183, 184, 185, 186, 187, 188, 191, 192, 193, 194, 195, 196, 197, 198, 199, 200, 201, 202, 203, 204] rfl (by decide +kernel)
set_option maxRecDepth 20000 in
theorem gL_acts_X7_set : GoodIn wsL_acts (wsV RL 59 RX7 yX7_set wsX7_set) := goodIn_app (goodIn_of _ (by decide +kernel)) ggL_acts_X7_set
set_option maxHeartbeats 4000000 in
set_option maxRecDepth 100000 in
theorem ggL_acts_X7_second : GoodIn wsL_acts wsX7_second := goodIn_r _ [147, 54, 148, 149, 150, 151, 152, 63, 153, 109, 110, 154, 155, 69, 156, 157, 158, 14, 159, 141, 142, 143, 94, 95, 96, 97, 59, 98, 99, 100, 101, 102, 103, 104, 65, 66, 105, 106, 107, 108, 111, 112, 113, 114, 115, 116, 117, 118, 119, 120, 121, 122, 123, 124, 179, 180, 181, 182, 183, 184, 185, 186, 187, 188, 197, 198, 199, 200, 201, 202, 203, 204, 191, 192, 193, 194, 195, 196] rfl (by decide +kernel)
set_option maxRecDepth 20000 in
theorem gL_acts_X7_second : GoodIn wsL_acts (wsV RL 71 RX7 yX7_second wsX7_second) := goodIn_app (goodIn_of _ (by decide +kernel)) ggL_acts_X7_second
set_option maxHeartbeats 4000000 in
set_option maxRecDepth 100000 in
theorem ggL_acts_X7_hear : GoodIn wsL_acts wsX7_hear := goodIn_r _ [163, 54, 148, 150, 151, 152, 63, 153, 109, 110, 154, 155, 69, 156, 157, 158, 14, 159, 141, 142, 143, 94, 95, 96, 97, 59, 98, 99, 100, 101, 102, 103, 104, 65, 66, 105, 106, 107, 108, 111, 112, 113, 114, 115, 116, 117, 118, 119, 120, 121, 122, 123, 124, 164, 165, 166, 167, 179, 180, 181, 182, 183, 184, 185, 186, 187, 188, 197, 198, 199, 200, 201, 202, 203, 204, 191, 192, 193, 194, 195, 196] rfl (by decide +kernel)
set_option maxRecDepth 20000 in
theorem gL_acts_X7_hear : GoodIn wsL_acts (wsV RL 68 RX7 yX7_hear wsX7_hear) := goodIn_app (goodIn_of _ (by decide +kernel)) ggL_acts_X7_hear
set_option maxHeartbeats 4000000 in
set_option maxRecDepth 100000 in
theorem ggL_acts_X7_ear : GoodIn wsL_acts wsX7_ear := goodIn_r _ [171, 54, 56, 172, 150, 151, 152, 63, 153, 109, 110, 94, 95, 96, 14, 97, 59, 98, 99, 100, 101, 102, 103, 104, 65, 66, 105, 106, 107, 108, 111, 112, 113, 114, 115, 116, 117, 118, 119, 120, 121, 122, 123, 124, 173, 174, 175, 176, 177, 178, 179, 180, 181, 182, 183, 184, 185, 186, 187, 188, 191, 192, 193, 194, 195, 196, 197, 198, 199, 200, 201, 202, 203, 204] rfl (by decide +kernel)
set_option maxRecDepth 20000 in
theorem gL_acts_X7_ear : GoodIn wsL_acts (wsV RL 65 RX7 yX7_ear wsX7_ear) := goodIn_app (goodIn_of _ (by decide +kernel)) ggL_acts_X7_ear
theorem dL_acts_0 : decode cL_acts 0 = .ok (.iload_n 3, 1) := by decide +kernel
theorem dL_acts_1 : decode cL_acts 1 = .ok (.bipush 12, 2) := by decide +kernel
theorem dL_acts_3 : decode cL_acts 3 = .ok (.irem, 1) := by decide +kernel
theorem dL_acts_4 : decode cL_acts 4 = .ok (.istore 5, 2) := by decide +kernel
theorem dL_acts_6 : decode cL_acts 6 = .ok (.iload 5, 2) := by decide +kernel
theorem dL_acts_8 : decode cL_acts 8 = .ok (.bipush 6, 2) := by decide +kernel
theorem dL_acts_10 : decode cL_acts 10 = .ok (.if_icmp .ge 126, 3) := by decide +kernel
theorem dL_acts_13 : decode cL_acts 13 = .ok (.iload_n 3, 1) := by decide +kernel
theorem dL_acts_14 : decode cL_acts 14 = .ok (.bipush 12, 2) := by decide +kernel
theorem dL_acts_16 : decode cL_acts 16 = .ok (.idiv, 1) := by decide +kernel
theorem dL_acts_17 : decode cL_acts 17 = .ok (.iload 4, 2) := by decide +kernel
theorem dL_acts_19 : decode cL_acts 19 = .ok (.invokestatic 140, 3) := by decide +kernel
theorem dL_acts_22 : decode cL_acts 22 = .ok (.lstore 6, 2) := by decide +kernel
theorem dL_acts_24 : decode cL_acts 24 = .ok (.aload_n 1, 1) := by decide +kernel
theorem dL_acts_25 : decode cL_acts 25 = .ok (.aload_n 2, 1) := by decide +kernel
theorem dL_acts_26 : decode cL_acts 26 = .ok (.iconst 0, 1) := by decide +kernel
theorem dL_acts_27 : decode cL_acts 27 = .ok (.iaload, 1) := by decide +kernel
theorem dL_acts_28 : decode cL_acts 28 = .ok (.lload 6, 2) := by decide +kernel
theorem dL_acts_30 : decode cL_acts 30 = .ok (.invokestatic 144, 3) := by decide +kernel
theorem dL_acts_33 : decode cL_acts 33 = .ok (.istore 8, 2) := by decide +kernel
theorem dL_acts_35 : decode cL_acts 35 = .ok (.iload 8, 2) := by decide +kernel
theorem dL_acts_37 : decode cL_acts 37 = .ok (.aload_n 2, 1) := by decide +kernel
theorem dL_acts_38 : decode cL_acts 38 = .ok (.iconst 0, 1) := by decide +kernel
theorem dL_acts_39 : decode cL_acts 39 = .ok (.iaload, 1) := by decide +kernel
theorem dL_acts_40 : decode cL_acts 40 = .ok (.if_icmp .ge 8, 3) := by decide +kernel
theorem dL_acts_43 : decode cL_acts 43 = .ok (.bipush (-5), 2) := by decide +kernel
theorem dL_acts_45 : decode cL_acts 45 = .ok (.goto 20, 3) := by decide +kernel
theorem dL_acts_48 : decode cL_acts 48 = .ok (.aload_n 2, 1) := by decide +kernel
theorem dL_acts_49 : decode cL_acts 49 = .ok (.iconst 0, 1) := by decide +kernel
theorem dL_acts_50 : decode cL_acts 50 = .ok (.iaload, 1) := by decide +kernel
theorem dL_acts_51 : decode cL_acts 51 = .ok (.aload_n 2, 1) := by decide +kernel
theorem dL_acts_52 : decode cL_acts 52 = .ok (.iconst 1, 1) := by decide +kernel
theorem dL_acts_53 : decode cL_acts 53 = .ok (.iaload, 1) := by decide +kernel
theorem dL_acts_54 : decode cL_acts 54 = .ok (.if_icmp .lt 8, 3) := by decide +kernel
theorem dL_acts_57 : decode cL_acts 57 = .ok (.bipush (-4), 2) := by decide +kernel
theorem dL_acts_59 : decode cL_acts 59 = .ok (.goto 6, 3) := by decide +kernel
theorem dL_acts_62 : decode cL_acts 62 = .ok (.aload_n 2, 1) := by decide +kernel
theorem dL_acts_63 : decode cL_acts 63 = .ok (.iconst 0, 1) := by decide +kernel
theorem dL_acts_64 : decode cL_acts 64 = .ok (.iaload, 1) := by decide +kernel
theorem dL_acts_65 : decode cL_acts 65 = .ok (.istore 9, 2) := by decide +kernel
theorem dL_acts_67 : decode cL_acts 67 = .ok (.aload_n 0, 1) := by decide +kernel
theorem dL_acts_68 : decode cL_acts 68 = .ok (.lload 6, 2) := by decide +kernel
theorem dL_acts_70 : decode cL_acts 70 = .ok (.invokestatic 148, 3) := by decide +kernel
theorem dL_acts_73 : decode cL_acts 73 = .ok (.ifCond .eq 38, 3) := by decide +kernel
theorem dL_acts_76 : decode cL_acts 76 = .ok (.aload_n 0, 1) := by decide +kernel
theorem dL_acts_77 : decode cL_acts 77 = .ok (.invokevirtual 124, 3) := by decide +kernel
theorem dL_acts_80 : decode cL_acts 80 = .ok (.iload 9, 2) := by decide +kernel
theorem dL_acts_82 : decode cL_acts 82 = .ok (.if_icmp .ne 29, 3) := by decide +kernel
theorem dL_acts_85 : decode cL_acts 85 = .ok (.aload_n 0, 1) := by decide +kernel
theorem dL_acts_86 : decode cL_acts 86 = .ok (.iconst 4, 1) := by decide +kernel
theorem dL_acts_87 : decode cL_acts 87 = .ok (.invokevirtual 33, 3) := by decide +kernel
theorem dL_acts_90 : decode cL_acts 90 = .ok (.iload 9, 2) := by decide +kernel
theorem dL_acts_92 : decode cL_acts 92 = .ok (.ifCond .ge 11, 3) := by decide +kernel
theorem dL_acts_95 : decode cL_acts 95 = .ok (.lload 6, 2) := by decide +kernel
theorem dL_acts_97 : decode cL_acts 97 = .ok (.invokestatic 17, 3) := by decide +kernel
theorem dL_acts_100 : decode cL_acts 100 = .ok (.goto 4, 3) := by decide +kernel
theorem dL_acts_103 : decode cL_acts 103 = .ok (.iconst 0, 1) := by decide +kernel
theorem dL_acts_104 : decode cL_acts 104 = .ok (.if_icmp .ne 7, 3) := by decide +kernel
theorem dL_acts_107 : decode cL_acts 107 = .ok (.iconst 1, 1) := by decide +kernel
theorem dL_acts_108 : decode cL_acts 108 = .ok (.goto 4, 3) := by decide +kernel
theorem dL_acts_111 : decode cL_acts 111 = .ok (.iconst 0, 1) := by decide +kernel
theorem dL_acts_112 : decode cL_acts 112 = .ok (.istore 10, 2) := by decide +kernel
theorem dL_acts_114 : decode cL_acts 114 = .ok (.iload 9, 2) := by decide +kernel
theorem dL_acts_116 : decode cL_acts 116 = .ok (.ifCond .lt 17, 3) := by decide +kernel
theorem dL_acts_119 : decode cL_acts 119 = .ok (.aload_n 1, 1) := by decide +kernel
theorem dL_acts_120 : decode cL_acts 120 = .ok (.aload_n 2, 1) := by decide +kernel
theorem dL_acts_121 : decode cL_acts 121 = .ok (.iconst 0, 1) := by decide +kernel
theorem dL_acts_122 : decode cL_acts 122 = .ok (.iaload, 1) := by decide +kernel
theorem dL_acts_123 : decode cL_acts 123 = .ok (.lload 6, 2) := by decide +kernel
theorem dL_acts_125 : decode cL_acts 125 = .ok (.lastore, 1) := by decide +kernel
theorem dL_acts_126 : decode cL_acts 126 = .ok (.aload_n 2, 1) := by decide +kernel
theorem dL_acts_127 : decode cL_acts 127 = .ok (.iconst 0, 1) := by decide +kernel
theorem dL_acts_128 : decode cL_acts 128 = .ok (.dup2, 1) := by decide +kernel
theorem dL_acts_129 : decode cL_acts 129 = .ok (.iaload, 1) := by decide +kernel
theorem dL_acts_130 : decode cL_acts 130 = .ok (.iconst 1, 1) := by decide +kernel
theorem dL_acts_131 : decode cL_acts 131 = .ok (.iadd, 1) := by decide +kernel
theorem dL_acts_132 : decode cL_acts 132 = .ok (.iastore, 1) := by decide +kernel
theorem dL_acts_133 : decode cL_acts 133 = .ok (.iload 10, 2) := by decide +kernel
theorem dL_acts_135 : decode cL_acts 135 = .ok (.ireturn, 1) := by decide +kernel
theorem dL_acts_136 : decode cL_acts 136 = .ok (.iload 5, 2) := by decide +kernel
theorem dL_acts_138 : decode cL_acts 138 = .ok (.bipush 8, 2) := by decide +kernel
theorem dL_acts_140 : decode cL_acts 140 = .ok (.if_icmp .ge 90, 3) := by decide +kernel
theorem dL_acts_143 : decode cL_acts 143 = .ok (.iload 4, 2) := by decide +kernel
theorem dL_acts_145 : decode cL_acts 145 = .ok (.aload_n 2, 1) := by decide +kernel
theorem dL_acts_146 : decode cL_acts 146 = .ok (.iconst 0, 1) := by decide +kernel
theorem dL_acts_147 : decode cL_acts 147 = .ok (.iaload, 1) := by decide +kernel
theorem dL_acts_148 : decode cL_acts 148 = .ok (.iconst 1, 1) := by decide +kernel
theorem dL_acts_149 : decode cL_acts 149 = .ok (.iadd, 1) := by decide +kernel
theorem dL_acts_150 : decode cL_acts 150 = .ok (.irem, 1) := by decide +kernel
theorem dL_acts_151 : decode cL_acts 151 = .ok (.istore 6, 2) := by decide +kernel
theorem dL_acts_153 : decode cL_acts 153 = .ok (.iload 6, 2) := by decide +kernel
theorem dL_acts_155 : decode cL_acts 155 = .ok (.aload_n 2, 1) := by decide +kernel
theorem dL_acts_156 : decode cL_acts 156 = .ok (.iconst 0, 1) := by decide +kernel
theorem dL_acts_157 : decode cL_acts 157 = .ok (.iaload, 1) := by decide +kernel
theorem dL_acts_158 : decode cL_acts 158 = .ok (.if_icmp .ne 19, 3) := by decide +kernel
theorem dL_acts_161 : decode cL_acts 161 = .ok (.aload_n 0, 1) := by decide +kernel
theorem dL_acts_162 : decode cL_acts 162 = .ok (.iload 6, 2) := by decide +kernel
theorem dL_acts_164 : decode cL_acts 164 = .ok (.invokevirtual 62, 3) := by decide +kernel
theorem dL_acts_167 : decode cL_acts 167 = .ok (.iconst (-1), 1) := by decide +kernel
theorem dL_acts_168 : decode cL_acts 168 = .ok (.if_icmp .ne 7, 3) := by decide +kernel
theorem dL_acts_171 : decode cL_acts 171 = .ok (.iconst 1, 1) := by decide +kernel
theorem dL_acts_172 : decode cL_acts 172 = .ok (.goto 4, 3) := by decide +kernel
theorem dL_acts_175 : decode cL_acts 175 = .ok (.iconst 0, 1) := by decide +kernel
theorem dL_acts_176 : decode cL_acts 176 = .ok (.ireturn, 1) := by decide +kernel
theorem dL_acts_177 : decode cL_acts 177 = .ok (.aload_n 2, 1) := by decide +kernel
theorem dL_acts_178 : decode cL_acts 178 = .ok (.iconst 0, 1) := by decide +kernel
theorem dL_acts_179 : decode cL_acts 179 = .ok (.dup2, 1) := by decide +kernel
theorem dL_acts_180 : decode cL_acts 180 = .ok (.iaload, 1) := by decide +kernel
theorem dL_acts_181 : decode cL_acts 181 = .ok (.iconst 1, 1) := by decide +kernel
theorem dL_acts_182 : decode cL_acts 182 = .ok (.isub, 1) := by decide +kernel
theorem dL_acts_183 : decode cL_acts 183 = .ok (.iastore, 1) := by decide +kernel
theorem dL_acts_184 : decode cL_acts 184 = .ok (.iload 6, 2) := by decide +kernel
theorem dL_acts_186 : decode cL_acts 186 = .ok (.istore 7, 2) := by decide +kernel
theorem dL_acts_188 : decode cL_acts 188 = .ok (.iload 7, 2) := by decide +kernel
theorem dL_acts_190 : decode cL_acts 190 = .ok (.aload_n 2, 1) := by decide +kernel
theorem dL_acts_191 : decode cL_acts 191 = .ok (.iconst 0, 1) := by decide +kernel
theorem dL_acts_192 : decode cL_acts 192 = .ok (.iaload, 1) := by decide +kernel
theorem dL_acts_193 : decode cL_acts 193 = .ok (.if_icmp .ge 19, 3) := by decide +kernel
theorem dL_acts_196 : decode cL_acts 196 = .ok (.aload_n 1, 1) := by decide +kernel
theorem dL_acts_197 : decode cL_acts 197 = .ok (.iload 7, 2) := by decide +kernel
theorem dL_acts_199 : decode cL_acts 199 = .ok (.aload_n 1, 1) := by decide +kernel
theorem dL_acts_200 : decode cL_acts 200 = .ok (.iload 7, 2) := by decide +kernel
theorem dL_acts_202 : decode cL_acts 202 = .ok (.iconst 1, 1) := by decide +kernel
theorem dL_acts_203 : decode cL_acts 203 = .ok (.iadd, 1) := by decide +kernel
theorem dL_acts_204 : decode cL_acts 204 = .ok (.laload, 1) := by decide +kernel
theorem dL_acts_205 : decode cL_acts 205 = .ok (.lastore, 1) := by decide +kernel
theorem dL_acts_206 : decode cL_acts 206 = .ok (.iinc 7 1, 3) := by decide +kernel
theorem dL_acts_209 : decode cL_acts 209 = .ok (.goto (-21), 3) := by decide +kernel
theorem dL_acts_212 : decode cL_acts 212 = .ok (.aload_n 0, 1) := by decide +kernel
theorem dL_acts_213 : decode cL_acts 213 = .ok (.iload 6, 2) := by decide +kernel
theorem dL_acts_215 : decode cL_acts 215 = .ok (.invokevirtual 62, 3) := by decide +kernel
theorem dL_acts_218 : decode cL_acts 218 = .ok (.aload_n 2, 1) := by decide +kernel
theorem dL_acts_219 : decode cL_acts 219 = .ok (.iconst 0, 1) := by decide +kernel
theorem dL_acts_220 : decode cL_acts 220 = .ok (.iaload, 1) := by decide +kernel
theorem dL_acts_221 : decode cL_acts 221 = .ok (.if_icmp .ne 7, 3) := by decide +kernel
theorem dL_acts_224 : decode cL_acts 224 = .ok (.iconst 1, 1) := by decide +kernel
theorem dL_acts_225 : decode cL_acts 225 = .ok (.goto 4, 3) := by decide +kernel
theorem dL_acts_228 : decode cL_acts 228 = .ok (.iconst 0, 1) := by decide +kernel
theorem dL_acts_229 : decode cL_acts 229 = .ok (.ireturn, 1) := by decide +kernel
theorem dL_acts_230 : decode cL_acts 230 = .ok (.iload 5, 2) := by decide +kernel
theorem dL_acts_232 : decode cL_acts 232 = .ok (.bipush 8, 2) := by decide +kernel
theorem dL_acts_234 : decode cL_acts 234 = .ok (.if_icmp .ne 48, 3) := by decide +kernel
theorem dL_acts_237 : decode cL_acts 237 = .ok (.aload_n 2, 1) := by decide +kernel
theorem dL_acts_238 : decode cL_acts 238 = .ok (.iconst 1, 1) := by decide +kernel
theorem dL_acts_239 : decode cL_acts 239 = .ok (.iaload, 1) := by decide +kernel
theorem dL_acts_240 : decode cL_acts 240 = .ok (.istore 6, 2) := by decide +kernel
theorem dL_acts_242 : decode cL_acts 242 = .ok (.aload_n 2, 1) := by decide +kernel
theorem dL_acts_243 : decode cL_acts 243 = .ok (.iconst 1, 1) := by decide +kernel
theorem dL_acts_244 : decode cL_acts 244 = .ok (.iconst 1, 1) := by decide +kernel
theorem dL_acts_245 : decode cL_acts 245 = .ok (.iload 4, 2) := by decide +kernel
theorem dL_acts_247 : decode cL_acts 247 = .ok (.bipush 24, 2) := by decide +kernel
theorem dL_acts_249 : decode cL_acts 249 = .ok (.irem, 1) := by decide +kernel
theorem dL_acts_250 : decode cL_acts 250 = .ok (.iadd, 1) := by decide +kernel
theorem dL_acts_251 : decode cL_acts 251 = .ok (.iastore, 1) := by decide +kernel
theorem dL_acts_252 : decode cL_acts 252 = .ok (.aload_n 0, 1) := by decide +kernel
theorem dL_acts_253 : decode cL_acts 253 = .ok (.iconst 1, 1) := by decide +kernel
theorem dL_acts_254 : decode cL_acts 254 = .ok (.aload_n 2, 1) := by decide +kernel
theorem dL_acts_255 : decode cL_acts 255 = .ok (.iconst 1, 1) := by decide +kernel
theorem dL_acts_256 : decode cL_acts 256 = .ok (.iaload, 1) := by decide +kernel
theorem dL_acts_257 : decode cL_acts 257 = .ok (.invokevirtual 59, 3) := by decide +kernel
theorem dL_acts_260 : decode cL_acts 260 = .ok (.iload 6, 2) := by decide +kernel
theorem dL_acts_262 : decode cL_acts 262 = .ok (.if_icmp .ne 18, 3) := by decide +kernel
theorem dL_acts_265 : decode cL_acts 265 = .ok (.aload_n 0, 1) := by decide +kernel
theorem dL_acts_266 : decode cL_acts 266 = .ok (.iconst 3, 1) := by decide +kernel
theorem dL_acts_267 : decode cL_acts 267 = .ok (.invokevirtual 33, 3) := by decide +kernel
theorem dL_acts_270 : decode cL_acts 270 = .ok (.aload_n 2, 1) := by decide +kernel
theorem dL_acts_271 : decode cL_acts 271 = .ok (.iconst 1, 1) := by decide +kernel
theorem dL_acts_272 : decode cL_acts 272 = .ok (.iaload, 1) := by decide +kernel
theorem dL_acts_273 : decode cL_acts 273 = .ok (.if_icmp .ne 7, 3) := by decide +kernel
theorem dL_acts_276 : decode cL_acts 276 = .ok (.iconst 1, 1) := by decide +kernel
theorem dL_acts_277 : decode cL_acts 277 = .ok (.goto 4, 3) := by decide +kernel
theorem dL_acts_280 : decode cL_acts 280 = .ok (.iconst 0, 1) := by decide +kernel
theorem dL_acts_281 : decode cL_acts 281 = .ok (.ireturn, 1) := by decide +kernel
theorem dL_acts_282 : decode cL_acts 282 = .ok (.iload 5, 2) := by decide +kernel
theorem dL_acts_284 : decode cL_acts 284 = .ok (.bipush 9, 2) := by decide +kernel
theorem dL_acts_286 : decode cL_acts 286 = .ok (.if_icmp .ne 31, 3) := by decide +kernel
theorem dL_acts_289 : decode cL_acts 289 = .ok (.aload_n 0, 1) := by decide +kernel
theorem dL_acts_290 : decode cL_acts 290 = .ok (.iconst 0, 1) := by decide +kernel
theorem dL_acts_291 : decode cL_acts 291 = .ok (.iload 4, 2) := by decide +kernel
theorem dL_acts_293 : decode cL_acts 293 = .ok (.bipush 26, 2) := by decide +kernel
theorem dL_acts_295 : decode cL_acts 295 = .ok (.irem, 1) := by decide +kernel
theorem dL_acts_296 : decode cL_acts 296 = .ok (.iload 4, 2) := by decide +kernel
theorem dL_acts_298 : decode cL_acts 298 = .ok (.iconst 5, 1) := by decide +kernel
theorem dL_acts_299 : decode cL_acts 299 = .ok (.ishr, 1) := by decide +kernel
theorem dL_acts_300 : decode cL_acts 300 = .ok (.bipush 10, 2) := by decide +kernel
theorem dL_acts_302 : decode cL_acts 302 = .ok (.irem, 1) := by decide +kernel
theorem dL_acts_303 : decode cL_acts 303 = .ok (.invokevirtual 71, 3) := by decide +kernel
theorem dL_acts_306 : decode cL_acts 306 = .ok (.bipush (-6), 2) := by decide +kernel
theorem dL_acts_308 : decode cL_acts 308 = .ok (.if_icmp .lt 7, 3) := by decide +kernel
theorem dL_acts_311 : decode cL_acts 311 = .ok (.iconst 1, 1) := by decide +kernel
theorem dL_acts_312 : decode cL_acts 312 = .ok (.goto 4, 3) := by decide +kernel
theorem dL_acts_315 : decode cL_acts 315 = .ok (.iconst 0, 1) := by decide +kernel
theorem dL_acts_316 : decode cL_acts 316 = .ok (.ireturn, 1) := by decide +kernel
theorem dL_acts_317 : decode cL_acts 317 = .ok (.iload 5, 2) := by decide +kernel
theorem dL_acts_319 : decode cL_acts 319 = .ok (.bipush 10, 2) := by decide +kernel
theorem dL_acts_321 : decode cL_acts 321 = .ok (.if_icmp .ne 31, 3) := by decide +kernel
theorem dL_acts_324 : decode cL_acts 324 = .ok (.aload_n 0, 1) := by decide +kernel
theorem dL_acts_325 : decode cL_acts 325 = .ok (.iconst 0, 1) := by decide +kernel
theorem dL_acts_326 : decode cL_acts 326 = .ok (.iload 4, 2) := by decide +kernel
theorem dL_acts_328 : decode cL_acts 328 = .ok (.bipush 26, 2) := by decide +kernel
theorem dL_acts_330 : decode cL_acts 330 = .ok (.irem, 1) := by decide +kernel
theorem dL_acts_331 : decode cL_acts 331 = .ok (.iload 4, 2) := by decide +kernel
theorem dL_acts_333 : decode cL_acts 333 = .ok (.iconst 5, 1) := by decide +kernel
theorem dL_acts_334 : decode cL_acts 334 = .ok (.ishr, 1) := by decide +kernel
theorem dL_acts_335 : decode cL_acts 335 = .ok (.bipush 10, 2) := by decide +kernel
theorem dL_acts_337 : decode cL_acts 337 = .ok (.irem, 1) := by decide +kernel
theorem dL_acts_338 : decode cL_acts 338 = .ok (.invokevirtual 68, 3) := by decide +kernel
theorem dL_acts_341 : decode cL_acts 341 = .ok (.ifCond .lt 7, 3) := by decide +kernel
theorem dL_acts_344 : decode cL_acts 344 = .ok (.iconst 1, 1) := by decide +kernel
theorem dL_acts_345 : decode cL_acts 345 = .ok (.goto 34, 3) := by decide +kernel
theorem dL_acts_348 : decode cL_acts 348 = .ok (.iconst 0, 1) := by decide +kernel
theorem dL_acts_349 : decode cL_acts 349 = .ok (.goto 30, 3) := by decide +kernel
theorem dL_acts_352 : decode cL_acts 352 = .ok (.aload_n 0, 1) := by decide +kernel
theorem dL_acts_353 : decode cL_acts 353 = .ok (.iload 4, 2) := by decide +kernel
theorem dL_acts_355 : decode cL_acts 355 = .ok (.iconst 2, 1) := by decide +kernel
theorem dL_acts_356 : decode cL_acts 356 = .ok (.irem, 1) := by decide +kernel
theorem dL_acts_357 : decode cL_acts 357 = .ok (.ifCond .ne 7, 3) := by decide +kernel
theorem dL_acts_360 : decode cL_acts 360 = .ok (.iconst 0, 1) := by decide +kernel
theorem dL_acts_361 : decode cL_acts 361 = .ok (.goto 5, 3) := by decide +kernel
theorem dL_acts_364 : decode cL_acts 364 = .ok (.bipush (-6), 2) := by decide +kernel
theorem dL_acts_366 : decode cL_acts 366 = .ok (.invokevirtual 65, 3) := by decide +kernel
theorem dL_acts_369 : decode cL_acts 369 = .ok (.bipush (-4), 2) := by decide +kernel
theorem dL_acts_371 : decode cL_acts 371 = .ok (.if_icmp .lt 7, 3) := by decide +kernel
theorem dL_acts_374 : decode cL_acts 374 = .ok (.iconst 1, 1) := by decide +kernel
theorem dL_acts_375 : decode cL_acts 375 = .ok (.goto 4, 3) := by decide +kernel
theorem dL_acts_378 : decode cL_acts 378 = .ok (.iconst 0, 1) := by decide +kernel
theorem dL_acts_379 : decode cL_acts 379 = .ok (.ireturn, 1) := by decide +kernel
set_option maxHeartbeats 4000000 in
set_option maxRecDepth 100000 in
theorem ggL_law_X7_init : GoodIn wsL_law wsX7_init := goodIn_r _ [7, 8, 9, 10, 11, 12, 13, 14, 15, 16, 17, 18, 19, 20, 21, 22, 23, 24, 25, 26, 27, 28, 29, 30, 31, 32, 33, 34, 35, 36, 37, 38, 39, 40, 41, 42, 43, 3, 44, 45, 46, 47, 48, 49, 50, 51, 4, 52, 53, 54, 55, 56, 57, 58, 59, 60, 61, 62, 63, 64, 65, 66, 67, 68, 69, 70, 71, 72, 73, 74, 75, 76, 77, 78, 79, 80, 81, 82, 83, 84, 512, 513, 514, 515, 516, 517, 502, 503, 504, 505, 506, 507, 508, 509, 510, 511, 518, 519, 520, 521, 522, 523, 524, 525, 526, 527, 528, 529, 530, 531, 532, 533, 534, 535, 536] rfl (by decide +kernel)
set_option maxRecDepth 20000 in
theorem gL_law_X7_init : GoodIn wsL_law (wsX7_init) := ggL_law_X7_init
set_option maxHeartbeats 4000000 in
set_option maxRecDepth 100000 in
theorem ggL_law_X7_undo : GoodIn wsL_law wsX7_undo := goodIn_r _ [88, 16, 15, 14, 89, 90, 91, 13, 92, 41, 42, 43, 44, 93, 94, 95, 96, 45, 47, 97, 98, 99, 31, 100, 52, 101, 53, 63, 64, 54, 55, 56, 57, 502, 503, 504, 505, 506, 507, 508, 509, 510, 511, 512, 513, 514, 515, 516, 517, 527, 528, 529, 530, 531, 532, 533, 534] rfl (by decide +kernel)
set_option maxRecDepth 20000 in
theorem gL_law_X7_undo : GoodIn wsL_law (wsV RL 153 RX7 yX7_undo wsX7_undo) := goodIn_app (goodIn_of _ (by decide +kernel)) ggL_law_X7_undo
set_option maxHeartbeats 4000000 in
set_option maxRecDepth 100000 in
theorem ggL_law_X7_restore : GoodIn wsL_law wsX7_restore := goodIn_r _ [105, 19, 14, 17, 106, 107, 108, 2, 109, 110, 111, 112, 113, 16, 15, 89, 90, 91, 13, 92, 41, 42, 43, 44, 93, 94, 95, 96, 45, 47, 97, 98, 99, 31, 100, 52, 101, 53, 63, 64, 54, 55, 56, 57, 502, 503, 504, 505, 506, 507, 508, 509, 510, 511, 512, 513, 514, 515, 516, 517, 527, 528, 529, 530, 531, 532, 533, 534] rfl (by decide +kernel)
set_option maxRecDepth 20000 in
theorem gL_law_X7_restore : GoodIn wsL_law (wsV RL 105 RX7 yX7_restore wsX7_restore) := goodIn_app (goodIn_of _ (by decide +kernel)) ggL_law_X7_restore
set_option maxHeartbeats 4000000 in
set_option maxRecDepth 100000 in
theorem ggL_law_X7_save : GoodIn wsL_law wsX7_save := goodIn_r _ [117, 17, 14, 19, 106, 107, 108, 2, 109, 89, 90, 91, 13, 92, 41, 42, 43, 44, 93, 94, 95, 96, 45, 47, 97, 98, 99, 31, 100, 52, 101, 53, 63, 64, 54, 55, 56, 57, 502, 503, 504, 505, 506, 507, 508, 509, 510, 511, 512, 513, 514, 515, 516, 517, 527, 528, 529, 530, 531, 532, 533, 534] rfl (by decide +kernel)
set_option maxRecDepth 20000 in
theorem gL_law_X7_save : GoodIn wsL_law (wsV RL 102 RX7 yX7_save wsX7_save) := goodIn_app (goodIn_of _ (by decide +kernel)) ggL_law_X7_save
set_option maxHeartbeats 4000000 in
set_option maxRecDepth 100000 in
theorem ggL_law_X7_deafest : GoodIn wsL_law wsX7_deafest := goodIn_r _ [121, 14, 122, 27, 123, 124, 125, 13, 126, 45, 47, 127, 128, 129, 26, 130, 131, 132, 133, 134, 135, 78, 74, 77, 75, 136, 137, 138, 31, 139, 140, 141, 142, 143, 53, 144, 145, 146, 147, 148, 149, 150, 151, 152, 153, 154, 155, 63, 156, 157, 158, 159, 52, 160, 161, 162, 163, 164, 165, 166, 167, 76, 168, 169, 170, 171, 172, 173, 174, 175, 176, 177, 178, 179, 180, 181, 182, 183, 184, 185, 186, 187, 188, 189, 190, 191, 192, 193, 194, 502, 503, 504, 505, 506, 507, 508, 509, 510, 511, 512, 513, 514, 515, 516, 517, 520, 521, 522, 523, 524, 525, 526, 527, 528, 529, 530, 531, 532, 533, 534] rfl (by decide +kernel)
set_option maxRecDepth 20000 in
theorem gL_law_X7_deafest : GoodIn wsL_law (wsV RL 56 RX7 yX7_deafest wsX7_deafest) := goodIn_app (goodIn_of _ (by decide +kernel)) ggL_law_X7_deafest
set_option maxHeartbeats 4000000 in
set_option maxRecDepth 100000 in
theorem ggL_law_X7_count : GoodIn wsL_law wsX7_count := goodIn_r _ [198, 14, 106, 122, 199, 200, 23, 201, 16, 202, 203, 204, 13, 205, 43, 44, 206, 207, 146, 208, 209, 210, 211, 212, 145, 147, 148, 502, 503, 504, 505, 506, 507, 508, 509, 510, 511, 512, 513, 514, 515, 516, 517, 518, 519] rfl (by decide +kernel)
set_option maxRecDepth 20000 in
theorem gL_law_X7_count : GoodIn wsL_law (wsV RL 33 RX7 yX7_count wsX7_count) := goodIn_app (goodIn_of _ (by decide +kernel)) ggL_law_X7_count
set_option maxHeartbeats 4000000 in
set_option maxRecDepth 100000 in
theorem ggL_law_X7_ear : GoodIn wsL_law wsX7_ear := goodIn_r _ [216, 14, 122, 217, 123, 124, 125, 13, 126, 45, 47, 110, 111, 112, 2, 113, 16, 15, 89, 90, 91, 92, 41, 42, 43, 44, 93, 94, 95, 96, 97, 98, 99, 31, 100, 52, 101, 53, 63, 64, 54, 55, 56, 57, 218, 59, 60, 61, 62, 219, 502, 503, 504, 505, 506, 507, 508, 509, 510, 511, 512, 513, 514, 515, 516, 517, 527, 528, 529, 530, 531, 532, 533, 534] rfl (by decide +kernel)
set_option maxRecDepth 20000 in
theorem gL_law_X7_ear : GoodIn wsL_law (wsV RL 65 RX7 yX7_ear wsX7_ear) := goodIn_app (goodIn_of _ (by decide +kernel)) ggL_law_X7_ear
set_option maxHeartbeats 4000000 in
set_option maxRecDepth 100000 in
theorem ggL_law_L_cell : GoodIn wsL_law wsL_cell := goodIn_r _ [223, 224, 225] rfl (by decide +kernel)
set_option maxRecDepth 20000 in
theorem gL_law_L_cell : GoodIn wsL_law (va_wsS RL 156 yL_cell wsL_cell) := goodIn_app (goodIn_of _ (by decide +kernel)) ggL_law_L_cell
set_option maxHeartbeats 4000000 in
set_option maxRecDepth 100000 in
theorem ggL_law_L_seen : GoodIn wsL_law wsL_seen := goodIn_r _ [228, 229, 230, 195, 196, 197, 2, 198, 14, 106, 122, 199, 200, 23, 201, 16, 202, 203, 204, 13, 205, 43, 44, 206, 207, 146, 208, 209, 210, 211, 212, 145, 147, 148, 231, 232, 233, 234, 235, 236, 237, 238, 239, 240, 107, 108, 109, 241, 242, 243, 244, 245, 246, 247, 248, 123, 124, 125, 126, 45, 47, 249, 150, 151, 250, 251, 252, 31, 253, 52, 254, 255, 256, 257, 27, 258, 259, 260, 127, 128, 129, 26, 130, 131, 132, 133, 134, 135, 78, 74, 77, 75, 136, 137, 138, 139, 140, 141, 142, 143, 53, 144, 149, 152, 153, 154, 155, 63, 156, 157, 158, 159, 160, 161, 162, 163, 164, 165, 166, 167, 76, 261, 262, 263, 264, 265, 266, 267, 268, 188, 189, 190, 191, 192, 193, 194, 269, 270, 271, 272, 168, 169, 170, 171, 172, 173, 174, 175, 176, 177, 178, 179, 180, 181, 182, 183, 184, 185, 186, 187, 273, 274, 275, 276, 118, 119, 120, 121, 502, 503, 504, 505, 506, 507, 508, 509, 510, 511, 512, 513, 514, 515, 516, 517, 518, 519, 527, 528, 529, 530, 531, 532, 533, 534, 520, 521, 522, 523, 524, 525, 526] rfl (by decide +kernel)
set_option maxRecDepth 20000 in
theorem gL_law_L_seen : GoodIn wsL_law (va_wsS RL 116 yL_seen wsL_seen) := goodIn_app (goodIn_of _ (by decide +kernel)) ggL_law_L_seen
set_option maxHeartbeats 4000000 in
set_option maxRecDepth 100000 in
theorem ggL_law_L_acts : GoodIn wsL_law wsL_acts := goodIn_r _ [279, 280, 281, 222, 282, 283, 284, 285, 286, 287, 288, 289, 290, 291, 2, 292, 23, 201, 293, 294, 295, 296, 297, 298, 299, 300, 301, 302, 22, 303, 70, 69, 304, 305, 306, 230, 307, 308, 309, 310, 311, 312, 313, 314, 315, 316, 317, 318, 319, 320, 195, 196, 197, 198, 14, 106, 122, 199, 200, 16, 202, 203, 204, 13, 205, 43, 44, 206, 207, 146, 208, 209, 210, 211, 212, 145, 147, 148, 321, 322, 323, 324, 235, 325, 326, 327, 328, 329, 330, 331, 332, 333, 334, 335, 110, 111, 112, 113, 15, 89, 90, 91, 92, 41, 42, 93, 94, 95, 96, 45, 47, 97, 98, 99, 31, 100, 52, 101, 53, 63, 64, 54, 55, 56, 57, 336, 337, 338, 339, 236, 237, 238, 239, 340, 341, 342, 343, 344, 345, 346, 347, 107, 108, 109, 348, 349, 350, 351, 247, 248, 123, 124, 125, 126, 249, 150, 151, 352, 353, 354, 355, 356, 357, 358, 359, 360, 361, 362, 213, 214, 215, 216, 217, 218, 59, 60, 61, 62, 219, 502, 503, 504, 505, 506, 507, 508, 509, 510, 511, 518, 519, 512, 513, 514, 515, 516, 517, 527, 528, 529, 530, 531, 532, 533, 534] rfl (by decide +kernel)
set_option maxRecDepth 20000 in
theorem gL_law_L_acts : GoodIn wsL_law (va_wsS RL 160 yL_acts wsL_acts) := goodIn_app (goodIn_of _ (by decide +kernel)) ggL_law_L_acts
set_option maxHeartbeats 4000000 in
set_option maxRecDepth 100000 in
theorem ggL_law_L_tells : GoodIn wsL_law wsL_tells := goodIn_r _ [365, 195, 196, 197, 2, 198, 14, 106, 122, 199, 200, 23, 201, 16, 202, 203, 204, 13, 205, 43, 44, 206, 207, 146, 208, 209, 210, 211, 212, 145, 147, 148, 231, 232, 233, 234, 235, 236, 237, 238, 239, 240, 107, 108, 109, 241, 242, 293, 294, 222, 295, 304, 305, 306, 230, 502, 503, 504, 505, 506, 507, 508, 509, 510, 511, 512, 513, 514, 515, 516, 517, 518, 519] rfl (by decide +kernel)
set_option maxRecDepth 20000 in
theorem gL_law_L_tells : GoodIn wsL_law (va_wsS RL 164 yL_tells wsL_tells) := goodIn_app (goodIn_of _ (by decide +kernel)) ggL_law_L_tells
set_option maxHeartbeats 4000000 in
set_option maxRecDepth 100000 in
theorem ggL_law_L_refuses : GoodIn wsL_law wsL_refuses := goodIn_r _ [368, 226, 227, 222, 228, 229, 230, 195, 196, 197, 2, 198, 14, 106, 122, 199, 200, 23, 201, 16, 202, 203, 204, 13, 205, 43, 44, 206, 207, 146, 208, 209, 210, 211, 212, 145, 147, 148, 231, 232, 233, 234, 235, 236, 237, 238, 239, 240, 107, 108, 109, 241, 242, 243, 244, 245, 246, 247, 248, 123, 124, 125, 126, 45, 47, 249, 150, 151, 250, 251, 252, 31, 253, 52, 254, 255, 256, 257, 27, 258, 259, 260, 127, 128, 129, 26, 130, 131, 132, 133, 134, 135, 78, 74, 77, 75, 136, 137, 138, 139, 140, 141, 142, 143, 53, 144, 149, 152, 153, 154, 155, 63, 156, 157, 158, 159, 160, 161, 162, 163, 164, 165, 166, 167, 76, 261, 262, 263, 264, 265, 266, 267, 268, 188, 189, 190, 191, 192, 193, 194, 269, 270, 271, 272, 168, 169, 170, 171, 172, 173, 174, 175, 176, 177, 178, 179, 180, 181, 182, 183, 184, 185, 186, 187, 273, 274, 275, 276, 118, 119, 120, 121, 369, 370, 371, 372, 373, 374, 375, 344, 345, 346, 347, 110, 111, 112, 113, 15, 89, 90, 91, 92, 41, 42, 93, 94, 95, 96, 97, 98, 99, 100, 101, 64, 54, 55, 56, 57, 336, 337, 338, 339, 340, 341, 342, 343, 213, 214, 215, 216, 217, 218, 59, 60, 61, 62, 219, 355, 356, 357, 358, 352, 353, 354, 359, 360, 361, 362, 348, 349, 350, 351, 376, 377, 378, 379, 380, 381, 382, 383, 384, 385, 386, 387, 388, 389, 390, 391, 392, 393, 394, 395, 396, 397, 398, 399, 400, 401, 402, 403, 404, 405, 406, 407, 408, 409, 410, 411, 412, 413, 414, 415, 416, 417, 418, 419, 420, 421, 422, 423, 424, 425, 426, 427, 428, 429, 430, 431, 432, 433, 434, 435, 436, 437, 438, 439, 440, 441, 442, 443, 444, 445, 446, 447, 32, 448, 449, 450, 451, 452, 453, 454, 455, 28, 114, 115, 116, 117, 17, 19, 102, 103, 104, 105, 307, 308, 309, 310, 311, 312, 22, 313, 314, 315, 316, 317, 318, 319, 320, 70, 69, 502, 503, 504, 505, 506, 507, 508, 509, 510, 511, 512, 513, 514, 515, 516, 517, 518, 519, 527, 528, 529, 530, 531, 532, 533, 534, 520, 521, 522, 523, 524, 525, 526] rfl (by decide +kernel)
set_option maxRecDepth 20000 in
theorem gL_law_L_refuses : GoodIn wsL_law (va_wsS RL 168 yL_refuses wsL_refuses) := goodIn_app (goodIn_of _ (by decide +kernel)) ggL_law_L_refuses
set_option maxHeartbeats 4000000 in
set_option maxRecDepth 100000 in
theorem ggL_law_L_distances : GoodIn wsL_law wsL_distances := goodIn_r _ [458, 4, 459, 460, 461, 2, 462, 14, 36, 235, 236, 237, 238, 13, 239, 43, 463, 464, 465, 35, 466, 83, 467, 468, 267, 469, 470, 210, 146, 211, 212, 145, 147, 148, 471, 472, 473, 222, 474, 293, 294, 295, 304, 305, 306, 230, 502, 503, 504, 505, 506, 507, 508, 509, 510, 511, 512, 513, 514, 515, 516, 517, 535, 536] rfl (by decide +kernel)
set_option maxRecDepth 20000 in
theorem gL_law_L_distances : GoodIn wsL_law (va_wsS RL 171 yL_distances wsL_distances) := goodIn_app (goodIn_of _ (by decide +kernel)) ggL_law_L_distances
set_option maxHeartbeats 4000000 in
set_option maxRecDepth 100000 in
theorem ggL_law_L_faults : GoodIn wsL_law wsL_faults := goodIn_r _ [477, 478, 479, 480, 481, 482, 372, 289, 290, 291, 2, 292, 23, 201, 296, 297, 298, 299, 300, 301, 302, 22, 303, 70, 69, 321, 322, 323, 324, 14, 106, 200, 235, 325, 326, 327, 328, 329, 330, 146, 331, 332, 333, 334, 13, 335, 43, 44, 110, 111, 112, 113, 16, 15, 89, 90, 91, 92, 41, 42, 93, 94, 95, 96, 45, 47, 97, 98, 99, 31, 100, 52, 101, 53, 63, 64, 54, 55, 56, 57, 483, 484, 485, 486, 27, 36, 123, 124, 125, 126, 127, 128, 129, 26, 130, 131, 132, 133, 134, 135, 78, 74, 77, 75, 136, 137, 138, 139, 140, 141, 142, 143, 144, 145, 147, 148, 149, 150, 151, 152, 153, 154, 155, 156, 157, 158, 159, 160, 161, 162, 163, 164, 165, 166, 167, 76, 487, 488, 489, 490, 491, 492, 493, 35, 494, 495, 84, 496, 497, 464, 465, 466, 83, 467, 468, 267, 469, 470, 210, 211, 212, 471, 498, 499, 500, 501, 236, 237, 238, 239, 463, 307, 308, 309, 310, 311, 312, 313, 314, 315, 316, 317, 318, 319, 320, 195, 196, 197, 198, 122, 199, 202, 203, 204, 205, 206, 207, 208, 209, 502, 503, 504, 505, 506, 507, 508, 509, 510, 511, 518, 519, 512, 513, 514, 515, 516, 517, 527, 528, 529, 530, 531, 532, 533, 534, 520, 521, 522, 523, 524, 525, 526, 535, 536] rfl (by decide +kernel)
set_option maxRecDepth 20000 in
theorem gL_law_L_faults : GoodIn wsL_law (va_wsS RL 174 yL_faults wsL_faults) := goodIn_app (goodIn_of _ (by decide +kernel)) ggL_law_L_faults
theorem dL_law_0 : decode cL_law 0 = .ok (.new 12, 3) := by decide +kernel
theorem dL_law_3 : decode cL_law 3 = .ok (.dup, 1) := by decide +kernel
theorem dL_law_4 : decode cL_law 4 = .ok (.invokespecial 152, 3) := by decide +kernel
theorem dL_law_7 : decode cL_law 7 = .ok (.astore_n 1, 1) := by decide +kernel
theorem dL_law_8 : decode cL_law 8 = .ok (.bipush 24, 2) := by decide +kernel
theorem dL_law_10 : decode cL_law 10 = .ok (.newarray .long, 2) := by decide +kernel
theorem dL_law_12 : decode cL_law 12 = .ok (.astore_n 2, 1) := by decide +kernel
theorem dL_law_13 : decode cL_law 13 = .ok (.iconst 2, 1) := by decide +kernel
theorem dL_law_14 : decode cL_law 14 = .ok (.newarray .int, 2) := by decide +kernel
theorem dL_law_16 : decode cL_law 16 = .ok (.astore_n 3, 1) := by decide +kernel
theorem dL_law_17 : decode cL_law 17 = .ok (.aload_n 3, 1) := by decide +kernel
theorem dL_law_18 : decode cL_law 18 = .ok (.iconst 1, 1) := by decide +kernel
theorem dL_law_19 : decode cL_law 19 = .ok (.bipush 24, 2) := by decide +kernel
theorem dL_law_21 : decode cL_law 21 = .ok (.iastore, 1) := by decide +kernel
theorem dL_law_22 : decode cL_law 22 = .ok (.aload_n 1, 1) := by decide +kernel
theorem dL_law_23 : decode cL_law 23 = .ok (.invokevirtual 153, 3) := by decide +kernel
theorem dL_law_26 : decode cL_law 26 = .ok (.bipush (-5), 2) := by decide +kernel
theorem dL_law_28 : decode cL_law 28 = .ok (.if_icmp .ne 62, 3) := by decide +kernel
theorem dL_law_31 : decode cL_law 31 = .ok (.aload_n 1, 1) := by decide +kernel
theorem dL_law_32 : decode cL_law 32 = .ok (.iconst 0, 1) := by decide +kernel
theorem dL_law_33 : decode cL_law 33 = .ok (.invokevirtual 105, 3) := by decide +kernel
theorem dL_law_36 : decode cL_law 36 = .ok (.bipush (-5), 2) := by decide +kernel
theorem dL_law_38 : decode cL_law 38 = .ok (.if_icmp .ne 52, 3) := by decide +kernel
theorem dL_law_41 : decode cL_law 41 = .ok (.aload_n 1, 1) := by decide +kernel
theorem dL_law_42 : decode cL_law 42 = .ok (.iconst 1, 1) := by decide +kernel
theorem dL_law_43 : decode cL_law 43 = .ok (.invokevirtual 102, 3) := by decide +kernel
theorem dL_law_46 : decode cL_law 46 = .ok (.ifCond .ne 44, 3) := by decide +kernel
theorem dL_law_49 : decode cL_law 49 = .ok (.aload_n 1, 1) := by decide +kernel
theorem dL_law_50 : decode cL_law 50 = .ok (.invokevirtual 56, 3) := by decide +kernel
theorem dL_law_53 : decode cL_law 53 = .ok (.bipush (-6), 2) := by decide +kernel
theorem dL_law_55 : decode cL_law 55 = .ok (.if_icmp .ne 35, 3) := by decide +kernel
theorem dL_law_58 : decode cL_law 58 = .ok (.aload_n 1, 1) := by decide +kernel
theorem dL_law_59 : decode cL_law 59 = .ok (.iconst 2, 1) := by decide +kernel
theorem dL_law_60 : decode cL_law 60 = .ok (.invokevirtual 33, 3) := by decide +kernel
theorem dL_law_63 : decode cL_law 63 = .ok (.iconst 4, 1) := by decide +kernel
theorem dL_law_64 : decode cL_law 64 = .ok (.if_icmp .ne 26, 3) := by decide +kernel
theorem dL_law_67 : decode cL_law 67 = .ok (.aload_n 1, 1) := by decide +kernel
theorem dL_law_68 : decode cL_law 68 = .ok (.iconst 3, 1) := by decide +kernel
theorem dL_law_69 : decode cL_law 69 = .ok (.invokevirtual 33, 3) := by decide +kernel
theorem dL_law_72 : decode cL_law 72 = .ok (.bipush 24, 2) := by decide +kernel
theorem dL_law_74 : decode cL_law 74 = .ok (.if_icmp .ne 16, 3) := by decide +kernel
theorem dL_law_77 : decode cL_law 77 = .ok (.aload_n 1, 1) := by decide +kernel
theorem dL_law_78 : decode cL_law 78 = .ok (.bipush (-6), 2) := by decide +kernel
theorem dL_law_80 : decode cL_law 80 = .ok (.invokevirtual 65, 3) := by decide +kernel
theorem dL_law_83 : decode cL_law 83 = .ok (.ifCond .ne 7, 3) := by decide +kernel
theorem dL_law_86 : decode cL_law 86 = .ok (.iconst 1, 1) := by decide +kernel
theorem dL_law_87 : decode cL_law 87 = .ok (.goto 4, 3) := by decide +kernel
theorem dL_law_90 : decode cL_law 90 = .ok (.iconst 0, 1) := by decide +kernel
theorem dL_law_91 : decode cL_law 91 = .ok (.istore 4, 2) := by decide +kernel
theorem dL_law_93 : decode cL_law 93 = .ok (.iconst 0, 1) := by decide +kernel
theorem dL_law_94 : decode cL_law 94 = .ok (.istore 5, 2) := by decide +kernel
theorem dL_law_96 : decode cL_law 96 = .ok (.iload 5, 2) := by decide +kernel
theorem dL_law_98 : decode cL_law 98 = .ok (.bipush 40, 2) := by decide +kernel
theorem dL_law_100 : decode cL_law 100 = .ok (.if_icmp .ge 299, 3) := by decide +kernel
theorem dL_law_103 : decode cL_law 103 = .ok (.iload 4, 2) := by decide +kernel
theorem dL_law_105 : decode cL_law 105 = .ok (.ifCond .eq 294, 3) := by decide +kernel
theorem dL_law_108 : decode cL_law 108 = .ok (.aload_n 0, 1) := by decide +kernel
theorem dL_law_109 : decode cL_law 109 = .ok (.iconst 2, 1) := by decide +kernel
theorem dL_law_110 : decode cL_law 110 = .ok (.iload 5, 2) := by decide +kernel
theorem dL_law_112 : decode cL_law 112 = .ok (.imul, 1) := by decide +kernel
theorem dL_law_113 : decode cL_law 113 = .ok (.invokestatic 156, 3) := by decide +kernel
theorem dL_law_116 : decode cL_law 116 = .ok (.istore 6, 2) := by decide +kernel
theorem dL_law_118 : decode cL_law 118 = .ok (.aload_n 0, 1) := by decide +kernel
theorem dL_law_119 : decode cL_law 119 = .ok (.iconst 2, 1) := by decide +kernel
theorem dL_law_120 : decode cL_law 120 = .ok (.iload 5, 2) := by decide +kernel
theorem dL_law_122 : decode cL_law 122 = .ok (.imul, 1) := by decide +kernel
theorem dL_law_123 : decode cL_law 123 = .ok (.iconst 1, 1) := by decide +kernel
theorem dL_law_124 : decode cL_law 124 = .ok (.iadd, 1) := by decide +kernel
theorem dL_law_125 : decode cL_law 125 = .ok (.invokestatic 156, 3) := by decide +kernel
theorem dL_law_128 : decode cL_law 128 = .ok (.istore 7, 2) := by decide +kernel
theorem dL_law_130 : decode cL_law 130 = .ok (.aload_n 1, 1) := by decide +kernel
theorem dL_law_131 : decode cL_law 131 = .ok (.invokestatic 116, 3) := by decide +kernel
theorem dL_law_134 : decode cL_law 134 = .ok (.lstore 8, 2) := by decide +kernel
theorem dL_law_136 : decode cL_law 136 = .ok (.aload_n 1, 1) := by decide +kernel
theorem dL_law_137 : decode cL_law 137 = .ok (.iconst 5, 1) := by decide +kernel
theorem dL_law_138 : decode cL_law 138 = .ok (.invokevirtual 33, 3) := by decide +kernel
theorem dL_law_141 : decode cL_law 141 = .ok (.istore 10, 2) := by decide +kernel
theorem dL_law_143 : decode cL_law 143 = .ok (.aload_n 1, 1) := by decide +kernel
theorem dL_law_144 : decode cL_law 144 = .ok (.aload_n 2, 1) := by decide +kernel
theorem dL_law_145 : decode cL_law 145 = .ok (.aload_n 3, 1) := by decide +kernel
theorem dL_law_146 : decode cL_law 146 = .ok (.iload 6, 2) := by decide +kernel
theorem dL_law_148 : decode cL_law 148 = .ok (.iload 7, 2) := by decide +kernel
theorem dL_law_150 : decode cL_law 150 = .ok (.invokestatic 160, 3) := by decide +kernel
theorem dL_law_153 : decode cL_law 153 = .ok (.ifCond .eq 18, 3) := by decide +kernel
theorem dL_law_156 : decode cL_law 156 = .ok (.aload_n 1, 1) := by decide +kernel
theorem dL_law_157 : decode cL_law 157 = .ok (.aload_n 2, 1) := by decide +kernel
theorem dL_law_158 : decode cL_law 158 = .ok (.aload_n 3, 1) := by decide +kernel
theorem dL_law_159 : decode cL_law 159 = .ok (.iconst 0, 1) := by decide +kernel
theorem dL_law_160 : decode cL_law 160 = .ok (.iaload, 1) := by decide +kernel
theorem dL_law_161 : decode cL_law 161 = .ok (.invokestatic 164, 3) := by decide +kernel
theorem dL_law_164 : decode cL_law 164 = .ok (.ifCond .eq 7, 3) := by decide +kernel
theorem dL_law_167 : decode cL_law 167 = .ok (.iconst 1, 1) := by decide +kernel
theorem dL_law_168 : decode cL_law 168 = .ok (.goto 4, 3) := by decide +kernel
theorem dL_law_171 : decode cL_law 171 = .ok (.iconst 0, 1) := by decide +kernel
theorem dL_law_172 : decode cL_law 172 = .ok (.istore 4, 2) := by decide +kernel
theorem dL_law_174 : decode cL_law 174 = .ok (.aload_n 1, 1) := by decide +kernel
theorem dL_law_175 : decode cL_law 175 = .ok (.iconst 5, 1) := by decide +kernel
theorem dL_law_176 : decode cL_law 176 = .ok (.invokevirtual 33, 3) := by decide +kernel
theorem dL_law_179 : decode cL_law 179 = .ok (.istore 11, 2) := by decide +kernel
theorem dL_law_181 : decode cL_law 181 = .ok (.iload 4, 2) := by decide +kernel
theorem dL_law_183 : decode cL_law 183 = .ok (.ifCond .eq 54, 3) := by decide +kernel
theorem dL_law_186 : decode cL_law 186 = .ok (.iload 11, 2) := by decide +kernel
theorem dL_law_188 : decode cL_law 188 = .ok (.iload 10, 2) := by decide +kernel
theorem dL_law_190 : decode cL_law 190 = .ok (.if_icmp .eq 12, 3) := by decide +kernel
theorem dL_law_193 : decode cL_law 193 = .ok (.iload 11, 2) := by decide +kernel
theorem dL_law_195 : decode cL_law 195 = .ok (.iload 10, 2) := by decide +kernel
theorem dL_law_197 : decode cL_law 197 = .ok (.iconst 1, 1) := by decide +kernel
theorem dL_law_198 : decode cL_law 198 = .ok (.iadd, 1) := by decide +kernel
theorem dL_law_199 : decode cL_law 199 = .ok (.if_icmp .ne 38, 3) := by decide +kernel
theorem dL_law_202 : decode cL_law 202 = .ok (.iload 11, 2) := by decide +kernel
theorem dL_law_204 : decode cL_law 204 = .ok (.bipush 6, 2) := by decide +kernel
theorem dL_law_206 : decode cL_law 206 = .ok (.if_icmp .gt 31, 3) := by decide +kernel
theorem dL_law_209 : decode cL_law 209 = .ok (.iload 11, 2) := by decide +kernel
theorem dL_law_211 : decode cL_law 211 = .ok (.iload 10, 2) := by decide +kernel
theorem dL_law_213 : decode cL_law 213 = .ok (.if_icmp .gt 20, 3) := by decide +kernel
theorem dL_law_216 : decode cL_law 216 = .ok (.iload 10, 2) := by decide +kernel
theorem dL_law_218 : decode cL_law 218 = .ok (.bipush 6, 2) := by decide +kernel
theorem dL_law_220 : decode cL_law 220 = .ok (.if_icmp .eq 13, 3) := by decide +kernel
theorem dL_law_223 : decode cL_law 223 = .ok (.aload_n 1, 1) := by decide +kernel
theorem dL_law_224 : decode cL_law 224 = .ok (.invokestatic 116, 3) := by decide +kernel
theorem dL_law_227 : decode cL_law 227 = .ok (.lload 8, 2) := by decide +kernel
theorem dL_law_229 : decode cL_law 229 = .ok (.lcmp, 1) := by decide +kernel
theorem dL_law_230 : decode cL_law 230 = .ok (.ifCond .ne 7, 3) := by decide +kernel
theorem dL_law_233 : decode cL_law 233 = .ok (.iconst 1, 1) := by decide +kernel
theorem dL_law_234 : decode cL_law 234 = .ok (.goto 4, 3) := by decide +kernel
theorem dL_law_237 : decode cL_law 237 = .ok (.iconst 0, 1) := by decide +kernel
theorem dL_law_238 : decode cL_law 238 = .ok (.istore 4, 2) := by decide +kernel
theorem dL_law_240 : decode cL_law 240 = .ok (.iload 4, 2) := by decide +kernel
theorem dL_law_242 : decode cL_law 242 = .ok (.ifCond .eq 86, 3) := by decide +kernel
theorem dL_law_245 : decode cL_law 245 = .ok (.iload 11, 2) := by decide +kernel
theorem dL_law_247 : decode cL_law 247 = .ok (.iload 10, 2) := by decide +kernel
theorem dL_law_249 : decode cL_law 249 = .ok (.if_icmp .le 79, 3) := by decide +kernel
theorem dL_law_252 : decode cL_law 252 = .ok (.aload_n 1, 1) := by decide +kernel
theorem dL_law_253 : decode cL_law 253 = .ok (.invokestatic 116, 3) := by decide +kernel
theorem dL_law_256 : decode cL_law 256 = .ok (.lstore 12, 2) := by decide +kernel
theorem dL_law_258 : decode cL_law 258 = .ok (.aload_n 1, 1) := by decide +kernel
theorem dL_law_259 : decode cL_law 259 = .ok (.iconst 0, 1) := by decide +kernel
theorem dL_law_260 : decode cL_law 260 = .ok (.invokevirtual 102, 3) := by decide +kernel
theorem dL_law_263 : decode cL_law 263 = .ok (.aload_n 3, 1) := by decide +kernel
theorem dL_law_264 : decode cL_law 264 = .ok (.iconst 0, 1) := by decide +kernel
theorem dL_law_265 : decode cL_law 265 = .ok (.iaload, 1) := by decide +kernel
theorem dL_law_266 : decode cL_law 266 = .ok (.if_icmp .ne 59, 3) := by decide +kernel
theorem dL_law_269 : decode cL_law 269 = .ok (.aload_n 1, 1) := by decide +kernel
theorem dL_law_270 : decode cL_law 270 = .ok (.invokevirtual 153, 3) := by decide +kernel
theorem dL_law_273 : decode cL_law 273 = .ok (.iload 10, 2) := by decide +kernel
theorem dL_law_275 : decode cL_law 275 = .ok (.if_icmp .ne 50, 3) := by decide +kernel
