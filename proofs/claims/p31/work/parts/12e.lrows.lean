set_option maxRecDepth 20000 in
theorem ggL_faults_X7_find : GoodIn wsL_faults wsX7_find := goodIn_r _ [83, 12, 29, 84, 85, 32, 18, 19, 20, 21, 22, 23, 24, 86, 87, 88, 44, 89, 64, 65, 33, 34, 35, 36, 37, 38, 39, 40, 90, 91, 92, 93, 94, 95, 96, 97, 98, 99, 100, 101, 102, 103, 104, 105, 106, 69, 107, 108, 109, 110, 111, 73, 112, 113, 114, 115, 116, 117, 118, 119, 120, 121, 122, 74, 123, 124, 125, 126, 71, 127, 128, 129, 130, 131, 132, 133, 134, 135, 136, 137, 138, 139, 140, 141, 142, 143, 144, 145, 146, 147, 148, 149, 150, 151, 152, 153, 154, 155, 156, 157, 158, 159, 160, 161, 162, 163, 164, 165, 166, 167, 168, 169, 46, 170, 199, 200, 201, 202, 203, 204, 205, 206, 207, 208, 211, 212, 213, 214, 215, 216, 209, 210, 225, 226, 227, 228, 229, 230, 231, 217, 218, 219, 220, 221, 222, 223, 224, 232, 233] (by decide +kernel) (by decide +kernel)
set_option maxRecDepth 20000 in
theorem gL_faults_X7_find : GoodIn wsL_faults (wsV RL 127 RX7 yX7_find wsX7_find) := goodIn_app (goodIn_of _ (by decide +kernel)) ggL_faults_X7_find
set_option maxRecDepth 20000 in
theorem ggL_faults_X7_put : GoodIn wsL_faults wsX7_put := goodIn_r _ [174, 12, 13, 175, 176, 21, 177, 178, 179, 180, 181, 182, 183, 184, 23, 24, 199, 200, 201, 202, 203, 204, 205, 206, 207, 208, 209, 210] (by decide +kernel) (by decide +kernel)
set_option maxRecDepth 20000 in
theorem gL_faults_X7_put : GoodIn wsL_faults (wsV RL 30 RX7 yX7_put wsX7_put) := goodIn_app (goodIn_of _ (by decide +kernel)) ggL_faults_X7_put
set_option maxRecDepth 20000 in
theorem ggL_faults_X7_count : GoodIn wsL_faults wsX7_count := goodIn_r _ [188, 29, 30, 189, 190, 31, 12, 13, 52, 191, 192, 193, 44, 194, 46, 47, 195, 196, 39, 197, 198, 158, 159, 160, 113, 114, 115, 199, 200, 201, 202, 203, 204, 205, 206, 207, 208, 211, 212, 213, 214, 215, 216, 209, 210] (by decide +kernel) (by decide +kernel)
set_option maxRecDepth 20000 in
theorem gL_faults_X7_count : GoodIn wsL_faults (wsV RL 33 RX7 yX7_count wsX7_count) := goodIn_app (goodIn_of _ (by decide +kernel)) ggL_faults_X7_count
theorem dL_faults_0 : decode cL_faults 0 = .ok (.iload_n 1, 1) := by decide +kernel
theorem dL_faults_1 : decode cL_faults 1 = .ok (.bipush 10, 2) := by decide +kernel
theorem dL_faults_3 : decode cL_faults 3 = .ok (.irem, 1) := by decide +kernel
theorem dL_faults_4 : decode cL_faults 4 = .ok (.istore_n 2, 1) := by decide +kernel
theorem dL_faults_5 : decode cL_faults 5 = .ok (.aload_n 0, 1) := by decide +kernel
theorem dL_faults_6 : decode cL_faults 6 = .ok (.invokevirtual 11, 3) := by decide +kernel
theorem dL_faults_9 : decode cL_faults 9 = .ok (.ifCond .lt 37, 3) := by decide +kernel
theorem dL_faults_12 : decode cL_faults 12 = .ok (.aload_n 0, 1) := by decide +kernel
theorem dL_faults_13 : decode cL_faults 13 = .ok (.invokevirtual 23, 3) := by decide +kernel
theorem dL_faults_16 : decode cL_faults 16 = .ok (.ifCond .ne 30, 3) := by decide +kernel
theorem dL_faults_19 : decode cL_faults 19 = .ok (.aload_n 0, 1) := by decide +kernel
theorem dL_faults_20 : decode cL_faults 20 = .ok (.invokevirtual 124, 3) := by decide +kernel
theorem dL_faults_23 : decode cL_faults 23 = .ok (.bipush (-3), 2) := by decide +kernel
theorem dL_faults_25 : decode cL_faults 25 = .ok (.if_icmp .ne 21, 3) := by decide +kernel
theorem dL_faults_28 : decode cL_faults 28 = .ok (.aload_n 0, 1) := by decide +kernel
theorem dL_faults_29 : decode cL_faults 29 = .ok (.bipush 9, 2) := by decide +kernel
theorem dL_faults_31 : decode cL_faults 31 = .ok (.iconst 0, 1) := by decide +kernel
theorem dL_faults_32 : decode cL_faults 32 = .ok (.bipush 9, 2) := by decide +kernel
theorem dL_faults_34 : decode cL_faults 34 = .ok (.invokevirtual 127, 3) := by decide +kernel
theorem dL_faults_37 : decode cL_faults 37 = .ok (.bipush (-3), 2) := by decide +kernel
theorem dL_faults_39 : decode cL_faults 39 = .ok (.if_icmp .ne 7, 3) := by decide +kernel
theorem dL_faults_42 : decode cL_faults 42 = .ok (.iconst 1, 1) := by decide +kernel
theorem dL_faults_43 : decode cL_faults 43 = .ok (.goto 4, 3) := by decide +kernel
theorem dL_faults_46 : decode cL_faults 46 = .ok (.iconst 0, 1) := by decide +kernel
theorem dL_faults_47 : decode cL_faults 47 = .ok (.istore_n 3, 1) := by decide +kernel
theorem dL_faults_48 : decode cL_faults 48 = .ok (.iconst 0, 1) := by decide +kernel
theorem dL_faults_49 : decode cL_faults 49 = .ok (.istore 4, 2) := by decide +kernel
theorem dL_faults_51 : decode cL_faults 51 = .ok (.iload 4, 2) := by decide +kernel
theorem dL_faults_53 : decode cL_faults 53 = .ok (.iload_n 2, 1) := by decide +kernel
theorem dL_faults_54 : decode cL_faults 54 = .ok (.if_icmp .ge 41, 3) := by decide +kernel
theorem dL_faults_57 : decode cL_faults 57 = .ok (.iload_n 3, 1) := by decide +kernel
theorem dL_faults_58 : decode cL_faults 58 = .ok (.ifCond .eq 37, 3) := by decide +kernel
theorem dL_faults_61 : decode cL_faults 61 = .ok (.aload_n 0, 1) := by decide +kernel
theorem dL_faults_62 : decode cL_faults 62 = .ok (.bipush 97, 2) := by decide +kernel
theorem dL_faults_64 : decode cL_faults 64 = .ok (.iload_n 1, 1) := by decide +kernel
theorem dL_faults_65 : decode cL_faults 65 = .ok (.iload 4, 2) := by decide +kernel
theorem dL_faults_67 : decode cL_faults 67 = .ok (.ishr, 1) := by decide +kernel
theorem dL_faults_68 : decode cL_faults 68 = .ok (.bipush 26, 2) := by decide +kernel
theorem dL_faults_70 : decode cL_faults 70 = .ok (.irem, 1) := by decide +kernel
theorem dL_faults_71 : decode cL_faults 71 = .ok (.iadd, 1) := by decide +kernel
theorem dL_faults_72 : decode cL_faults 72 = .ok (.i2l, 1) := by decide +kernel
theorem dL_faults_73 : decode cL_faults 73 = .ok (.invokevirtual 30, 3) := by decide +kernel
theorem dL_faults_76 : decode cL_faults 76 = .ok (.iload 4, 2) := by decide +kernel
theorem dL_faults_78 : decode cL_faults 78 = .ok (.iconst 1, 1) := by decide +kernel
theorem dL_faults_79 : decode cL_faults 79 = .ok (.iadd, 1) := by decide +kernel
theorem dL_faults_80 : decode cL_faults 80 = .ok (.if_icmp .ne 7, 3) := by decide +kernel
theorem dL_faults_83 : decode cL_faults 83 = .ok (.iconst 1, 1) := by decide +kernel
theorem dL_faults_84 : decode cL_faults 84 = .ok (.goto 4, 3) := by decide +kernel
theorem dL_faults_87 : decode cL_faults 87 = .ok (.iconst 0, 1) := by decide +kernel
theorem dL_faults_88 : decode cL_faults 88 = .ok (.istore_n 3, 1) := by decide +kernel
theorem dL_faults_89 : decode cL_faults 89 = .ok (.iinc 4 1, 3) := by decide +kernel
theorem dL_faults_92 : decode cL_faults 92 = .ok (.goto (-41), 3) := by decide +kernel
theorem dL_faults_95 : decode cL_faults 95 = .ok (.iload_n 1, 1) := by decide +kernel
theorem dL_faults_96 : decode cL_faults 96 = .ok (.iconst 3, 1) := by decide +kernel
theorem dL_faults_97 : decode cL_faults 97 = .ok (.irem, 1) := by decide +kernel
theorem dL_faults_98 : decode cL_faults 98 = .ok (.ifCond .ne 12, 3) := by decide +kernel
theorem dL_faults_101 : decode cL_faults 101 = .ok (.bipush 123, 2) := by decide +kernel
theorem dL_faults_103 : decode cL_faults 103 = .ok (.iload_n 1, 1) := by decide +kernel
theorem dL_faults_104 : decode cL_faults 104 = .ok (.iconst 4, 1) := by decide +kernel
theorem dL_faults_105 : decode cL_faults 105 = .ok (.irem, 1) := by decide +kernel
theorem dL_faults_106 : decode cL_faults 106 = .ok (.iadd, 1) := by decide +kernel
theorem dL_faults_107 : decode cL_faults 107 = .ok (.goto 10, 3) := by decide +kernel
theorem dL_faults_110 : decode cL_faults 110 = .ok (.bipush 33, 2) := by decide +kernel
theorem dL_faults_112 : decode cL_faults 112 = .ok (.iload_n 1, 1) := by decide +kernel
theorem dL_faults_113 : decode cL_faults 113 = .ok (.bipush 64, 2) := by decide +kernel
theorem dL_faults_115 : decode cL_faults 115 = .ok (.irem, 1) := by decide +kernel
theorem dL_faults_116 : decode cL_faults 116 = .ok (.iadd, 1) := by decide +kernel
theorem dL_faults_117 : decode cL_faults 117 = .ok (.istore 4, 2) := by decide +kernel
theorem dL_faults_119 : decode cL_faults 119 = .ok (.iload_n 3, 1) := by decide +kernel
theorem dL_faults_120 : decode cL_faults 120 = .ok (.ifCond .eq 65, 3) := by decide +kernel
theorem dL_faults_123 : decode cL_faults 123 = .ok (.aload_n 0, 1) := by decide +kernel
theorem dL_faults_124 : decode cL_faults 124 = .ok (.iload 4, 2) := by decide +kernel
theorem dL_faults_126 : decode cL_faults 126 = .ok (.i2l, 1) := by decide +kernel
theorem dL_faults_127 : decode cL_faults 127 = .ok (.bipush 8, 2) := by decide +kernel
theorem dL_faults_129 : decode cL_faults 129 = .ok (.lshl, 1) := by decide +kernel
theorem dL_faults_130 : decode cL_faults 130 = .ok (.ldc2_w 130, 3) := by decide +kernel
theorem dL_faults_133 : decode cL_faults 133 = .ok (.lor, 1) := by decide +kernel
theorem dL_faults_134 : decode cL_faults 134 = .ok (.invokevirtual 30, 3) := by decide +kernel
theorem dL_faults_137 : decode cL_faults 137 = .ok (.iload_n 2, 1) := by decide +kernel
theorem dL_faults_138 : decode cL_faults 138 = .ok (.iconst 2, 1) := by decide +kernel
theorem dL_faults_139 : decode cL_faults 139 = .ok (.iadd, 1) := by decide +kernel
theorem dL_faults_140 : decode cL_faults 140 = .ok (.if_icmp .ne 45, 3) := by decide +kernel
theorem dL_faults_143 : decode cL_faults 143 = .ok (.aload_n 0, 1) := by decide +kernel
theorem dL_faults_144 : decode cL_faults 144 = .ok (.invokevirtual 23, 3) := by decide +kernel
theorem dL_faults_147 : decode cL_faults 147 = .ok (.iload_n 2, 1) := by decide +kernel
theorem dL_faults_148 : decode cL_faults 148 = .ok (.if_icmp .ne 37, 3) := by decide +kernel
theorem dL_faults_151 : decode cL_faults 151 = .ok (.aload_n 0, 1) := by decide +kernel
theorem dL_faults_152 : decode cL_faults 152 = .ok (.invokevirtual 124, 3) := by decide +kernel
theorem dL_faults_155 : decode cL_faults 155 = .ok (.bipush (-3), 2) := by decide +kernel
theorem dL_faults_157 : decode cL_faults 157 = .ok (.if_icmp .ne 28, 3) := by decide +kernel
theorem dL_faults_160 : decode cL_faults 160 = .ok (.aload_n 0, 1) := by decide +kernel
theorem dL_faults_161 : decode cL_faults 161 = .ok (.iconst 4, 1) := by decide +kernel
theorem dL_faults_162 : decode cL_faults 162 = .ok (.invokevirtual 33, 3) := by decide +kernel
theorem dL_faults_165 : decode cL_faults 165 = .ok (.iload_n 2, 1) := by decide +kernel
theorem dL_faults_166 : decode cL_faults 166 = .ok (.iconst 2, 1) := by decide +kernel
theorem dL_faults_167 : decode cL_faults 167 = .ok (.iadd, 1) := by decide +kernel
theorem dL_faults_168 : decode cL_faults 168 = .ok (.if_icmp .ne 17, 3) := by decide +kernel
theorem dL_faults_171 : decode cL_faults 171 = .ok (.aload_n 0, 1) := by decide +kernel
theorem dL_faults_172 : decode cL_faults 172 = .ok (.invokevirtual 11, 3) := by decide +kernel
theorem dL_faults_175 : decode cL_faults 175 = .ok (.iload_n 2, 1) := by decide +kernel
theorem dL_faults_176 : decode cL_faults 176 = .ok (.iconst 2, 1) := by decide +kernel
theorem dL_faults_177 : decode cL_faults 177 = .ok (.iadd, 1) := by decide +kernel
theorem dL_faults_178 : decode cL_faults 178 = .ok (.if_icmp .ne 7, 3) := by decide +kernel
theorem dL_faults_181 : decode cL_faults 181 = .ok (.iconst 1, 1) := by decide +kernel
theorem dL_faults_182 : decode cL_faults 182 = .ok (.goto 4, 3) := by decide +kernel
theorem dL_faults_185 : decode cL_faults 185 = .ok (.iconst 0, 1) := by decide +kernel
theorem dL_faults_186 : decode cL_faults 186 = .ok (.istore_n 3, 1) := by decide +kernel
theorem dL_faults_187 : decode cL_faults 187 = .ok (.iload_n 3, 1) := by decide +kernel
theorem dL_faults_188 : decode cL_faults 188 = .ok (.ifCond .eq 100, 3) := by decide +kernel
theorem dL_faults_191 : decode cL_faults 191 = .ok (.aload_n 0, 1) := by decide +kernel
theorem dL_faults_192 : decode cL_faults 192 = .ok (.ldc2_w 132, 3) := by decide +kernel
theorem dL_faults_195 : decode cL_faults 195 = .ok (.invokevirtual 30, 3) := by decide +kernel
theorem dL_faults_198 : decode cL_faults 198 = .ok (.bipush 8, 2) := by decide +kernel
theorem dL_faults_200 : decode cL_faults 200 = .ok (.if_icmp .ne 88, 3) := by decide +kernel
theorem dL_faults_203 : decode cL_faults 203 = .ok (.aload_n 0, 1) := by decide +kernel
theorem dL_faults_204 : decode cL_faults 204 = .ok (.invokevirtual 23, 3) := by decide +kernel
theorem dL_faults_207 : decode cL_faults 207 = .ok (.bipush (-6), 2) := by decide +kernel
theorem dL_faults_209 : decode cL_faults 209 = .ok (.if_icmp .ne 79, 3) := by decide +kernel
theorem dL_faults_212 : decode cL_faults 212 = .ok (.aload_n 0, 1) := by decide +kernel
theorem dL_faults_213 : decode cL_faults 213 = .ok (.ldc2_w 134, 3) := by decide +kernel
theorem dL_faults_216 : decode cL_faults 216 = .ok (.invokevirtual 30, 3) := by decide +kernel
theorem dL_faults_219 : decode cL_faults 219 = .ok (.bipush 10, 2) := by decide +kernel
theorem dL_faults_221 : decode cL_faults 221 = .ok (.if_icmp .ne 67, 3) := by decide +kernel
theorem dL_faults_224 : decode cL_faults 224 = .ok (.aload_n 0, 1) := by decide +kernel
theorem dL_faults_225 : decode cL_faults 225 = .ok (.invokevirtual 23, 3) := by decide +kernel
theorem dL_faults_228 : decode cL_faults 228 = .ok (.bipush (-6), 2) := by decide +kernel
theorem dL_faults_230 : decode cL_faults 230 = .ok (.if_icmp .ne 58, 3) := by decide +kernel
theorem dL_faults_233 : decode cL_faults 233 = .ok (.aload_n 0, 1) := by decide +kernel
theorem dL_faults_234 : decode cL_faults 234 = .ok (.ldc2_w 130, 3) := by decide +kernel
theorem dL_faults_237 : decode cL_faults 237 = .ok (.invokevirtual 30, 3) := by decide +kernel
theorem dL_faults_240 : decode cL_faults 240 = .ok (.bipush 11, 2) := by decide +kernel
theorem dL_faults_242 : decode cL_faults 242 = .ok (.if_icmp .ne 46, 3) := by decide +kernel
theorem dL_faults_245 : decode cL_faults 245 = .ok (.aload_n 0, 1) := by decide +kernel
theorem dL_faults_246 : decode cL_faults 246 = .ok (.invokevirtual 23, 3) := by decide +kernel
theorem dL_faults_249 : decode cL_faults 249 = .ok (.bipush 10, 2) := by decide +kernel
theorem dL_faults_251 : decode cL_faults 251 = .ok (.if_icmp .ne 37, 3) := by decide +kernel
theorem dL_faults_254 : decode cL_faults 254 = .ok (.aload_n 0, 1) := by decide +kernel
theorem dL_faults_255 : decode cL_faults 255 = .ok (.ldc2_w 136, 3) := by decide +kernel
theorem dL_faults_258 : decode cL_faults 258 = .ok (.invokevirtual 30, 3) := by decide +kernel
theorem dL_faults_261 : decode cL_faults 261 = .ok (.bipush 12, 2) := by decide +kernel
theorem dL_faults_263 : decode cL_faults 263 = .ok (.if_icmp .ne 25, 3) := by decide +kernel
theorem dL_faults_266 : decode cL_faults 266 = .ok (.aload_n 0, 1) := by decide +kernel
theorem dL_faults_267 : decode cL_faults 267 = .ok (.invokevirtual 23, 3) := by decide +kernel
theorem dL_faults_270 : decode cL_faults 270 = .ok (.bipush 10, 2) := by decide +kernel
theorem dL_faults_272 : decode cL_faults 272 = .ok (.if_icmp .ne 16, 3) := by decide +kernel
theorem dL_faults_275 : decode cL_faults 275 = .ok (.aload_n 0, 1) := by decide +kernel
theorem dL_faults_276 : decode cL_faults 276 = .ok (.invokevirtual 124, 3) := by decide +kernel
theorem dL_faults_279 : decode cL_faults 279 = .ok (.bipush (-3), 2) := by decide +kernel
theorem dL_faults_281 : decode cL_faults 281 = .ok (.if_icmp .ne 7, 3) := by decide +kernel
theorem dL_faults_284 : decode cL_faults 284 = .ok (.iconst 1, 1) := by decide +kernel
theorem dL_faults_285 : decode cL_faults 285 = .ok (.goto 4, 3) := by decide +kernel
theorem dL_faults_288 : decode cL_faults 288 = .ok (.iconst 0, 1) := by decide +kernel
theorem dL_faults_289 : decode cL_faults 289 = .ok (.istore_n 3, 1) := by decide +kernel
theorem dL_faults_290 : decode cL_faults 290 = .ok (.iconst 0, 1) := by decide +kernel
theorem dL_faults_291 : decode cL_faults 291 = .ok (.istore 5, 2) := by decide +kernel
theorem dL_faults_293 : decode cL_faults 293 = .ok (.iload 5, 2) := by decide +kernel
theorem dL_faults_295 : decode cL_faults 295 = .ok (.bipush 17, 2) := by decide +kernel
theorem dL_faults_297 : decode cL_faults 297 = .ok (.if_icmp .ge 36, 3) := by decide +kernel
theorem dL_faults_300 : decode cL_faults 300 = .ok (.iload_n 3, 1) := by decide +kernel
theorem dL_faults_301 : decode cL_faults 301 = .ok (.ifCond .eq 32, 3) := by decide +kernel
theorem dL_faults_304 : decode cL_faults 304 = .ok (.aload_n 0, 1) := by decide +kernel
theorem dL_faults_305 : decode cL_faults 305 = .ok (.ldc2_w 138, 3) := by decide +kernel
theorem dL_faults_308 : decode cL_faults 308 = .ok (.invokevirtual 30, 3) := by decide +kernel
theorem dL_faults_311 : decode cL_faults 311 = .ok (.bipush 16, 2) := by decide +kernel
theorem dL_faults_313 : decode cL_faults 313 = .ok (.iconst 4, 1) := by decide +kernel
theorem dL_faults_314 : decode cL_faults 314 = .ok (.iload 5, 2) := by decide +kernel
theorem dL_faults_316 : decode cL_faults 316 = .ok (.imul, 1) := by decide +kernel
theorem dL_faults_317 : decode cL_faults 317 = .ok (.iadd, 1) := by decide +kernel
theorem dL_faults_318 : decode cL_faults 318 = .ok (.if_icmp .ne 7, 3) := by decide +kernel
theorem dL_faults_321 : decode cL_faults 321 = .ok (.iconst 1, 1) := by decide +kernel
theorem dL_faults_322 : decode cL_faults 322 = .ok (.goto 4, 3) := by decide +kernel
theorem dL_faults_325 : decode cL_faults 325 = .ok (.iconst 0, 1) := by decide +kernel
theorem dL_faults_326 : decode cL_faults 326 = .ok (.istore_n 3, 1) := by decide +kernel
theorem dL_faults_327 : decode cL_faults 327 = .ok (.iinc 5 1, 3) := by decide +kernel
theorem dL_faults_330 : decode cL_faults 330 = .ok (.goto (-37), 3) := by decide +kernel
theorem dL_faults_333 : decode cL_faults 333 = .ok (.iload_n 3, 1) := by decide +kernel
theorem dL_faults_334 : decode cL_faults 334 = .ok (.ifCond .eq 66, 3) := by decide +kernel
theorem dL_faults_337 : decode cL_faults 337 = .ok (.aload_n 0, 1) := by decide +kernel
theorem dL_faults_338 : decode cL_faults 338 = .ok (.iconst 4, 1) := by decide +kernel
theorem dL_faults_339 : decode cL_faults 339 = .ok (.invokevirtual 33, 3) := by decide +kernel
theorem dL_faults_342 : decode cL_faults 342 = .ok (.bipush 80, 2) := by decide +kernel
theorem dL_faults_344 : decode cL_faults 344 = .ok (.if_icmp .ne 56, 3) := by decide +kernel
theorem dL_faults_347 : decode cL_faults 347 = .ok (.aload_n 0, 1) := by decide +kernel
theorem dL_faults_348 : decode cL_faults 348 = .ok (.ldc2_w 130, 3) := by decide +kernel
theorem dL_faults_351 : decode cL_faults 351 = .ok (.invokevirtual 30, 3) := by decide +kernel
theorem dL_faults_354 : decode cL_faults 354 = .ok (.bipush (-4), 2) := by decide +kernel
theorem dL_faults_356 : decode cL_faults 356 = .ok (.if_icmp .ne 44, 3) := by decide +kernel
theorem dL_faults_359 : decode cL_faults 359 = .ok (.aload_n 0, 1) := by decide +kernel
theorem dL_faults_360 : decode cL_faults 360 = .ok (.ldc2_w 108, 3) := by decide +kernel
theorem dL_faults_363 : decode cL_faults 363 = .ok (.invokevirtual 30, 3) := by decide +kernel
theorem dL_faults_366 : decode cL_faults 366 = .ok (.bipush (-2), 2) := by decide +kernel
theorem dL_faults_368 : decode cL_faults 368 = .ok (.if_icmp .ne 32, 3) := by decide +kernel
theorem dL_faults_371 : decode cL_faults 371 = .ok (.aload_n 0, 1) := by decide +kernel
theorem dL_faults_372 : decode cL_faults 372 = .ok (.invokevirtual 23, 3) := by decide +kernel
theorem dL_faults_375 : decode cL_faults 375 = .ok (.bipush 10, 2) := by decide +kernel
theorem dL_faults_377 : decode cL_faults 377 = .ok (.if_icmp .ne 23, 3) := by decide +kernel
theorem dL_faults_380 : decode cL_faults 380 = .ok (.aload_n 0, 1) := by decide +kernel
theorem dL_faults_381 : decode cL_faults 381 = .ok (.invokevirtual 11, 3) := by decide +kernel
theorem dL_faults_384 : decode cL_faults 384 = .ok (.bipush 80, 2) := by decide +kernel
theorem dL_faults_386 : decode cL_faults 386 = .ok (.if_icmp .ne 14, 3) := by decide +kernel
theorem dL_faults_389 : decode cL_faults 389 = .ok (.aload_n 0, 1) := by decide +kernel
theorem dL_faults_390 : decode cL_faults 390 = .ok (.invokevirtual 11, 3) := by decide +kernel
theorem dL_faults_393 : decode cL_faults 393 = .ok (.ifCond .ne 7, 3) := by decide +kernel
theorem dL_faults_396 : decode cL_faults 396 = .ok (.iconst 1, 1) := by decide +kernel
theorem dL_faults_397 : decode cL_faults 397 = .ok (.goto 4, 3) := by decide +kernel
theorem dL_faults_400 : decode cL_faults 400 = .ok (.iconst 0, 1) := by decide +kernel
theorem dL_faults_401 : decode cL_faults 401 = .ok (.ireturn, 1) := by decide +kernel
set_option maxRecDepth 20000 in
theorem ggL_acts_L_draw : GoodIn wsL_acts wsL_draw := goodIn_r _ [4] (by decide +kernel) (by decide +kernel)
set_option maxRecDepth 20000 in
theorem gL_acts_L_draw : GoodIn wsL_acts (va_wsS RL 140 yL_draw wsL_draw) := goodIn_app (goodIn_of _ (by decide +kernel)) ggL_acts_L_draw
set_option maxRecDepth 20000 in
theorem ggL_acts_L_place : GoodIn wsL_acts wsL_place := goodIn_r _ [7] (by decide +kernel) (by decide +kernel)
set_option maxRecDepth 20000 in
theorem gL_acts_L_place : GoodIn wsL_acts (va_wsS RL 144 yL_place wsL_place) := goodIn_app (goodIn_of _ (by decide +kernel)) ggL_acts_L_place
set_option maxRecDepth 20000 in
theorem ggL_acts_L_writes : GoodIn wsL_acts wsL_writes := goodIn_r _ [10, 11, 12, 13, 14, 15, 16, 17, 18, 19, 3, 20, 21, 22, 23, 24, 25, 26, 27, 28, 29, 30, 31, 32, 33, 34, 35, 36, 37, 38, 39, 40, 41, 42, 43, 44, 45, 46, 47, 48, 49, 50, 51, 52, 53, 54, 55, 56, 57, 58, 59, 60, 61, 62, 63, 64, 65, 66, 67, 68, 69, 70, 71, 72, 73, 74, 75, 76, 77, 179, 180, 181, 182, 183, 184, 185, 186, 187, 188, 189, 190, 191, 192, 193, 194, 195, 196] (by decide +kernel) (by decide +kernel)
set_option maxRecDepth 20000 in
theorem gL_acts_L_writes : GoodIn wsL_acts (va_wsS RL 148 yL_writes wsL_writes) := goodIn_app (goodIn_of _ (by decide +kernel)) ggL_acts_L_writes
set_option maxRecDepth 20000 in
theorem ggL_acts_X7_add : GoodIn wsL_acts wsX7_add := goodIn_r _ [81, 16, 54, 55, 58, 82, 17, 25, 26, 27, 28, 29, 30, 31, 83, 84, 85, 86, 87, 88, 69, 89, 90, 91, 92, 63, 93, 65, 66, 94, 95, 96, 14, 97, 59, 98, 99, 100, 101, 102, 103, 104, 105, 106, 107, 108, 109, 110, 111, 112, 113, 114, 115, 116, 117, 118, 119, 120, 121, 122, 123, 124, 179, 180, 181, 182, 183, 184, 185, 186, 187, 188, 191, 192, 193, 194, 195, 196, 189, 190, 197, 198, 199, 200, 201, 202, 203, 204] (by decide +kernel) (by decide +kernel)
set_option maxRecDepth 20000 in
theorem gL_acts_X7_add : GoodIn wsL_acts (wsV RL 124 RX7 yX7_add wsX7_add) := goodIn_app (goodIn_of _ (by decide +kernel)) ggL_acts_X7_add
set_option maxRecDepth 20000 in
theorem ggL_acts_X7_count : GoodIn wsL_acts wsX7_count := goodIn_r _ [53, 54, 55, 56, 57, 58, 16, 17, 59, 60, 61, 62, 63, 64, 65, 66, 67, 68, 69, 70, 71, 72, 73, 74, 75, 76, 77, 179, 180, 181, 182, 183, 184, 185, 186, 187, 188, 191, 192, 193, 194, 195, 196, 189, 190] (by decide +kernel) (by decide +kernel)
set_option maxRecDepth 20000 in
theorem gL_acts_X7_count : GoodIn wsL_acts (wsV RL 33 RX7 yX7_count wsX7_count) := goodIn_app (goodIn_of _ (by decide +kernel)) ggL_acts_X7_count
set_option maxRecDepth 20000 in
theorem ggL_acts_L_many : GoodIn wsL_acts wsL_many := goodIn_r _ [20] (by decide +kernel) (by decide +kernel)
set_option maxRecDepth 20000 in
theorem gL_acts_L_many : GoodIn wsL_acts (va_wsS RL 17 yL_many wsL_many) := goodIn_app (goodIn_of _ (by decide +kernel)) ggL_acts_L_many
set_option maxRecDepth 20000 in
theorem ggL_acts_X7_drop : GoodIn wsL_acts wsX7_drop := goodIn_r _ [128, 54, 55, 129, 130, 131, 63, 132, 65, 94, 95, 96, 14, 97, 59, 98, 99, 100, 101, 102, 103, 104, 66, 105, 106, 107, 108, 109, 110, 111, 112, 113, 114, 115, 116, 117, 118, 119, 120, 121, 122, 123, 124, 133, 134, 135, 136, 179, 180, 181, 182, 183, 184, 185, 186, 187, 188, 191, 192, 193, 194, 195, 196, 197, 198, 199, 200, 201, 202, 203, 204] (by decide +kernel) (by decide +kernel)
set_option maxRecDepth 20000 in
theorem gL_acts_X7_drop : GoodIn wsL_acts (wsV RL 62 RX7 yX7_drop wsX7_drop) := goodIn_app (goodIn_of _ (by decide +kernel)) ggL_acts_X7_drop
set_option maxRecDepth 20000 in
theorem ggL_acts_X7_set : GoodIn wsL_acts wsX7_set := goodIn_r _ [140, 54, 57, 58, 141, 142, 14, 143, 94, 95, 96, 97, 59, 98, 99, 100, 101, 63, 102, 103, 104, 65, 66, 105, 106, 107, 108, 109, 110, 111, 112, 113, 114, 115, 116, 117, 118, 119, 120, 121, 122, 123, 124, 179, 180, 181, 182, 183, 184, 185, 186, 187, 188, 191, 192, 193, 194, 195, 196, 197, 198, 199, 200, 201, 202, 203, 204] (by decide +kernel) (by decide +kernel)
set_option maxRecDepth 20000 in
theorem gL_acts_X7_set : GoodIn wsL_acts (wsV RL 59 RX7 yX7_set wsX7_set) := goodIn_app (goodIn_of _ (by decide +kernel)) ggL_acts_X7_set
set_option maxRecDepth 20000 in
theorem ggL_acts_X7_second : GoodIn wsL_acts wsX7_second := goodIn_r _ [147, 54, 148, 149, 150, 151, 152, 63, 153, 109, 110, 154, 155, 69, 156, 157, 158, 14, 159, 141, 142, 143, 94, 95, 96, 97, 59, 98, 99, 100, 101, 102, 103, 104, 65, 66, 105, 106, 107, 108, 111, 112, 113, 114, 115, 116, 117, 118, 119, 120, 121, 122, 123, 124, 179, 180, 181, 182, 183, 184, 185, 186, 187, 188, 197, 198, 199, 200, 201, 202, 203, 204, 191, 192, 193, 194, 195, 196] (by decide +kernel) (by decide +kernel)
set_option maxRecDepth 20000 in
theorem gL_acts_X7_second : GoodIn wsL_acts (wsV RL 71 RX7 yX7_second wsX7_second) := goodIn_app (goodIn_of _ (by decide +kernel)) ggL_acts_X7_second
set_option maxRecDepth 20000 in
theorem ggL_acts_X7_hear : GoodIn wsL_acts wsX7_hear := goodIn_r _ [163, 54, 148, 150, 151, 152, 63, 153, 109, 110, 154, 155, 69, 156, 157, 158, 14, 159, 141, 142, 143, 94, 95, 96, 97, 59, 98, 99, 100, 101, 102, 103, 104, 65, 66, 105, 106, 107, 108, 111, 112, 113, 114, 115, 116, 117, 118, 119, 120, 121, 122, 123, 124, 164, 165, 166, 167, 179, 180, 181, 182, 183, 184, 185, 186, 187, 188, 197, 198, 199, 200, 201, 202, 203, 204, 191, 192, 193, 194, 195, 196] (by decide +kernel) (by decide +kernel)
set_option maxRecDepth 20000 in
theorem gL_acts_X7_hear : GoodIn wsL_acts (wsV RL 68 RX7 yX7_hear wsX7_hear) := goodIn_app (goodIn_of _ (by decide +kernel)) ggL_acts_X7_hear
set_option maxRecDepth 20000 in
theorem ggL_acts_X7_ear : GoodIn wsL_acts wsX7_ear := goodIn_r _ [171, 54, 56, 172, 150, 151, 152, 63, 153, 109, 110, 94, 95, 96, 14, 97, 59, 98, 99, 100, 101, 102, 103, 104, 65, 66, 105, 106, 107, 108, 111, 112, 113, 114, 115, 116, 117, 118, 119, 120, 121, 122, 123, 124, 173, 174, 175, 176, 177, 178, 179, 180, 181, 182, 183, 184, 185, 186, 187, 188, 191, 192, 193, 194, 195, 196, 197, 198, 199, 200, 201, 202, 203, 204] (by decide +kernel) (by decide +kernel)
set_option maxRecDepth 20000 in
theorem gL_acts_X7_ear : GoodIn wsL_acts (wsV RL 65 RX7 yX7_ear wsX7_ear) := goodIn_app (goodIn_of _ (by decide +kernel)) ggL_acts_X7_ear
theorem dL_acts_0 : decode cL_acts 0 = .ok (.iload_n 3, 1) := by decide +kernel
theorem dL_acts_1 : decode cL_acts 1 = .ok (.bipush 12, 2) := by decide +kernel
theorem dL_acts_3 : decode cL_acts 3 = .ok (.irem, 1) := by decide +kernel
theorem dL_acts_4 : decode cL_acts 4 = .ok (.istore 5, 2) := by decide +kernel
theorem dL_acts_6 : decode cL_acts 6 = .ok (.iload 5, 2) := by decide +kernel
theorem dL_acts_8 : decode cL_acts 8 = .ok (.bipush 6, 2) := by decide +kernel
theorem dL_acts_10 : decode cL_acts 10 = .ok (.if_icmp .ge 126, 3) := by decide +kernel
theorem dL_acts_13 : decode cL_acts 13 = .ok (.iload_n 3, 1) := by decide +kernel
theorem dL_acts_14 : decode cL_acts 14 = .ok (.bipush 12, 2) := by decide +kernel
theorem dL_acts_16 : decode cL_acts 16 = .ok (.idiv, 1) := by decide +kernel
theorem dL_acts_17 : decode cL_acts 17 = .ok (.iload 4, 2) := by decide +kernel
theorem dL_acts_19 : decode cL_acts 19 = .ok (.invokestatic 140, 3) := by decide +kernel
theorem dL_acts_22 : decode cL_acts 22 = .ok (.lstore 6, 2) := by decide +kernel
theorem dL_acts_24 : decode cL_acts 24 = .ok (.aload_n 1, 1) := by decide +kernel
theorem dL_acts_25 : decode cL_acts 25 = .ok (.aload_n 2, 1) := by decide +kernel
theorem dL_acts_26 : decode cL_acts 26 = .ok (.iconst 0, 1) := by decide +kernel
theorem dL_acts_27 : decode cL_acts 27 = .ok (.iaload, 1) := by decide +kernel
theorem dL_acts_28 : decode cL_acts 28 = .ok (.lload 6, 2) := by decide +kernel
theorem dL_acts_30 : decode cL_acts 30 = .ok (.invokestatic 144, 3) := by decide +kernel
theorem dL_acts_33 : decode cL_acts 33 = .ok (.istore 8, 2) := by decide +kernel
theorem dL_acts_35 : decode cL_acts 35 = .ok (.iload 8, 2) := by decide +kernel
theorem dL_acts_37 : decode cL_acts 37 = .ok (.aload_n 2, 1) := by decide +kernel
theorem dL_acts_38 : decode cL_acts 38 = .ok (.iconst 0, 1) := by decide +kernel
theorem dL_acts_39 : decode cL_acts 39 = .ok (.iaload, 1) := by decide +kernel
theorem dL_acts_40 : decode cL_acts 40 = .ok (.if_icmp .ge 8, 3) := by decide +kernel
theorem dL_acts_43 : decode cL_acts 43 = .ok (.bipush (-5), 2) := by decide +kernel
theorem dL_acts_45 : decode cL_acts 45 = .ok (.goto 20, 3) := by decide +kernel
theorem dL_acts_48 : decode cL_acts 48 = .ok (.aload_n 2, 1) := by decide +kernel
theorem dL_acts_49 : decode cL_acts 49 = .ok (.iconst 0, 1) := by decide +kernel
theorem dL_acts_50 : decode cL_acts 50 = .ok (.iaload, 1) := by decide +kernel
theorem dL_acts_51 : decode cL_acts 51 = .ok (.aload_n 2, 1) := by decide +kernel
theorem dL_acts_52 : decode cL_acts 52 = .ok (.iconst 1, 1) := by decide +kernel
theorem dL_acts_53 : decode cL_acts 53 = .ok (.iaload, 1) := by decide +kernel
theorem dL_acts_54 : decode cL_acts 54 = .ok (.if_icmp .lt 8, 3) := by decide +kernel
theorem dL_acts_57 : decode cL_acts 57 = .ok (.bipush (-4), 2) := by decide +kernel
theorem dL_acts_59 : decode cL_acts 59 = .ok (.goto 6, 3) := by decide +kernel
theorem dL_acts_62 : decode cL_acts 62 = .ok (.aload_n 2, 1) := by decide +kernel
theorem dL_acts_63 : decode cL_acts 63 = .ok (.iconst 0, 1) := by decide +kernel
theorem dL_acts_64 : decode cL_acts 64 = .ok (.iaload, 1) := by decide +kernel
theorem dL_acts_65 : decode cL_acts 65 = .ok (.istore 9, 2) := by decide +kernel
theorem dL_acts_67 : decode cL_acts 67 = .ok (.aload_n 0, 1) := by decide +kernel
theorem dL_acts_68 : decode cL_acts 68 = .ok (.lload 6, 2) := by decide +kernel
theorem dL_acts_70 : decode cL_acts 70 = .ok (.invokestatic 148, 3) := by decide +kernel
theorem dL_acts_73 : decode cL_acts 73 = .ok (.ifCond .eq 38, 3) := by decide +kernel
theorem dL_acts_76 : decode cL_acts 76 = .ok (.aload_n 0, 1) := by decide +kernel
theorem dL_acts_77 : decode cL_acts 77 = .ok (.invokevirtual 124, 3) := by decide +kernel
theorem dL_acts_80 : decode cL_acts 80 = .ok (.iload 9, 2) := by decide +kernel
theorem dL_acts_82 : decode cL_acts 82 = .ok (.if_icmp .ne 29, 3) := by decide +kernel
theorem dL_acts_85 : decode cL_acts 85 = .ok (.aload_n 0, 1) := by decide +kernel
theorem dL_acts_86 : decode cL_acts 86 = .ok (.iconst 4, 1) := by decide +kernel
theorem dL_acts_87 : decode cL_acts 87 = .ok (.invokevirtual 33, 3) := by decide +kernel
theorem dL_acts_90 : decode cL_acts 90 = .ok (.iload 9, 2) := by decide +kernel
theorem dL_acts_92 : decode cL_acts 92 = .ok (.ifCond .ge 11, 3) := by decide +kernel
theorem dL_acts_95 : decode cL_acts 95 = .ok (.lload 6, 2) := by decide +kernel
theorem dL_acts_97 : decode cL_acts 97 = .ok (.invokestatic 17, 3) := by decide +kernel
theorem dL_acts_100 : decode cL_acts 100 = .ok (.goto 4, 3) := by decide +kernel
theorem dL_acts_103 : decode cL_acts 103 = .ok (.iconst 0, 1) := by decide +kernel
theorem dL_acts_104 : decode cL_acts 104 = .ok (.if_icmp .ne 7, 3) := by decide +kernel
theorem dL_acts_107 : decode cL_acts 107 = .ok (.iconst 1, 1) := by decide +kernel
theorem dL_acts_108 : decode cL_acts 108 = .ok (.goto 4, 3) := by decide +kernel
theorem dL_acts_111 : decode cL_acts 111 = .ok (.iconst 0, 1) := by decide +kernel
theorem dL_acts_112 : decode cL_acts 112 = .ok (.istore 10, 2) := by decide +kernel
theorem dL_acts_114 : decode cL_acts 114 = .ok (.iload 9, 2) := by decide +kernel
