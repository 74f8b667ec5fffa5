set_option maxRecDepth 20000 in
theorem ggL_seen_X7_deafest : GoodIn wsL_seen wsX7_deafest := goodIn_r _ [167, 8, 10, 74, 55, 56, 57, 19, 58, 59, 60, 78, 79, 80, 81, 82, 83, 84, 85, 86, 87, 88, 89, 90, 91, 92, 93, 94, 67, 95, 96, 97, 98, 99, 100, 101, 31, 25, 32, 33, 102, 62, 63, 103, 104, 105, 106, 107, 108, 109, 110, 111, 69, 112, 113, 114, 115, 116, 117, 118, 119, 120, 140, 141, 142, 143, 144, 145, 146, 147, 148, 149, 150, 151, 152, 153, 154, 155, 156, 157, 158, 159, 129, 130, 131, 132, 133, 134, 135, 168, 169, 170, 171, 172, 173, 174, 175, 176, 177, 178, 179, 180, 181, 182, 183, 194, 195, 196, 197, 198, 199, 200, 186, 187, 188, 189, 190, 191, 192, 193] (by decide +kernel) (by decide +kernel)
set_option maxRecDepth 20000 in
theorem gL_seen_X7_deafest : GoodIn wsL_seen (wsV RL 56 RX7 yX7_deafest wsX7_deafest) := goodIn_app (goodIn_of _ (by decide +kernel)) ggL_seen_X7_deafest
theorem dL_seen_0 : decode cL_seen 0 = .ok (.ldc2_w 47, 3) := by decide +kernel
theorem dL_seen_3 : decode cL_seen 3 = .ok (.lstore_n 1, 1) := by decide +kernel
theorem dL_seen_4 : decode cL_seen 4 = .ok (.iconst 0, 1) := by decide +kernel
theorem dL_seen_5 : decode cL_seen 5 = .ok (.istore_n 3, 1) := by decide +kernel
theorem dL_seen_6 : decode cL_seen 6 = .ok (.iload_n 3, 1) := by decide +kernel
theorem dL_seen_7 : decode cL_seen 7 = .ok (.iconst 4, 1) := by decide +kernel
theorem dL_seen_8 : decode cL_seen 8 = .ok (.if_icmp .ge 22, 3) := by decide +kernel
theorem dL_seen_11 : decode cL_seen 11 = .ok (.ldc2_w 9, 3) := by decide +kernel
theorem dL_seen_14 : decode cL_seen 14 = .ok (.lload_n 1, 1) := by decide +kernel
theorem dL_seen_15 : decode cL_seen 15 = .ok (.lmul, 1) := by decide +kernel
theorem dL_seen_16 : decode cL_seen 16 = .ok (.aload_n 0, 1) := by decide +kernel
theorem dL_seen_17 : decode cL_seen 17 = .ok (.iload_n 3, 1) := by decide +kernel
theorem dL_seen_18 : decode cL_seen 18 = .ok (.invokevirtual 33, 3) := by decide +kernel
theorem dL_seen_21 : decode cL_seen 21 = .ok (.i2l, 1) := by decide +kernel
theorem dL_seen_22 : decode cL_seen 22 = .ok (.ladd, 1) := by decide +kernel
theorem dL_seen_23 : decode cL_seen 23 = .ok (.lstore_n 1, 1) := by decide +kernel
theorem dL_seen_24 : decode cL_seen 24 = .ok (.iinc 3 1, 3) := by decide +kernel
theorem dL_seen_27 : decode cL_seen 27 = .ok (.goto (-21), 3) := by decide +kernel
theorem dL_seen_30 : decode cL_seen 30 = .ok (.iconst 0, 1) := by decide +kernel
theorem dL_seen_31 : decode cL_seen 31 = .ok (.istore_n 3, 1) := by decide +kernel
theorem dL_seen_32 : decode cL_seen 32 = .ok (.iload_n 3, 1) := by decide +kernel
theorem dL_seen_33 : decode cL_seen 33 = .ok (.aload_n 0, 1) := by decide +kernel
theorem dL_seen_34 : decode cL_seen 34 = .ok (.iconst 0, 1) := by decide +kernel
theorem dL_seen_35 : decode cL_seen 35 = .ok (.invokevirtual 33, 3) := by decide +kernel
theorem dL_seen_38 : decode cL_seen 38 = .ok (.if_icmp .ge 40, 3) := by decide +kernel
theorem dL_seen_41 : decode cL_seen 41 = .ok (.iconst 0, 1) := by decide +kernel
theorem dL_seen_42 : decode cL_seen 42 = .ok (.istore 4, 2) := by decide +kernel
theorem dL_seen_44 : decode cL_seen 44 = .ok (.iload 4, 2) := by decide +kernel
theorem dL_seen_46 : decode cL_seen 46 = .ok (.bipush 11, 2) := by decide +kernel
theorem dL_seen_48 : decode cL_seen 48 = .ok (.if_icmp .ge 24, 3) := by decide +kernel
theorem dL_seen_51 : decode cL_seen 51 = .ok (.ldc2_w 9, 3) := by decide +kernel
theorem dL_seen_54 : decode cL_seen 54 = .ok (.lload_n 1, 1) := by decide +kernel
theorem dL_seen_55 : decode cL_seen 55 = .ok (.lmul, 1) := by decide +kernel
theorem dL_seen_56 : decode cL_seen 56 = .ok (.aload_n 0, 1) := by decide +kernel
theorem dL_seen_57 : decode cL_seen 57 = .ok (.iload_n 3, 1) := by decide +kernel
theorem dL_seen_58 : decode cL_seen 58 = .ok (.iload 4, 2) := by decide +kernel
theorem dL_seen_60 : decode cL_seen 60 = .ok (.invokevirtual 37, 3) := by decide +kernel
theorem dL_seen_63 : decode cL_seen 63 = .ok (.i2l, 1) := by decide +kernel
theorem dL_seen_64 : decode cL_seen 64 = .ok (.ladd, 1) := by decide +kernel
theorem dL_seen_65 : decode cL_seen 65 = .ok (.lstore_n 1, 1) := by decide +kernel
theorem dL_seen_66 : decode cL_seen 66 = .ok (.iinc 4 1, 3) := by decide +kernel
theorem dL_seen_69 : decode cL_seen 69 = .ok (.goto (-25), 3) := by decide +kernel
theorem dL_seen_72 : decode cL_seen 72 = .ok (.iinc 3 1, 3) := by decide +kernel
theorem dL_seen_75 : decode cL_seen 75 = .ok (.goto (-43), 3) := by decide +kernel
theorem dL_seen_78 : decode cL_seen 78 = .ok (.iconst 0, 1) := by decide +kernel
theorem dL_seen_79 : decode cL_seen 79 = .ok (.istore_n 3, 1) := by decide +kernel
theorem dL_seen_80 : decode cL_seen 80 = .ok (.iload_n 3, 1) := by decide +kernel
theorem dL_seen_81 : decode cL_seen 81 = .ok (.bipush 104, 2) := by decide +kernel
theorem dL_seen_83 : decode cL_seen 83 = .ok (.if_icmp .ge 49, 3) := by decide +kernel
theorem dL_seen_86 : decode cL_seen 86 = .ok (.ldc2_w 9, 3) := by decide +kernel
theorem dL_seen_89 : decode cL_seen 89 = .ok (.ldc2_w 9, 3) := by decide +kernel
theorem dL_seen_92 : decode cL_seen 92 = .ok (.lload_n 1, 1) := by decide +kernel
theorem dL_seen_93 : decode cL_seen 93 = .ok (.lmul, 1) := by decide +kernel
theorem dL_seen_94 : decode cL_seen 94 = .ok (.aload_n 0, 1) := by decide +kernel
theorem dL_seen_95 : decode cL_seen 95 = .ok (.iload_n 3, 1) := by decide +kernel
theorem dL_seen_96 : decode cL_seen 96 = .ok (.bipush 26, 2) := by decide +kernel
theorem dL_seen_98 : decode cL_seen 98 = .ok (.idiv, 1) := by decide +kernel
theorem dL_seen_99 : decode cL_seen 99 = .ok (.iload_n 3, 1) := by decide +kernel
theorem dL_seen_100 : decode cL_seen 100 = .ok (.bipush 26, 2) := by decide +kernel
theorem dL_seen_102 : decode cL_seen 102 = .ok (.irem, 1) := by decide +kernel
theorem dL_seen_103 : decode cL_seen 103 = .ok (.iconst 0, 1) := by decide +kernel
theorem dL_seen_104 : decode cL_seen 104 = .ok (.invokevirtual 49, 3) := by decide +kernel
theorem dL_seen_107 : decode cL_seen 107 = .ok (.i2l, 1) := by decide +kernel
theorem dL_seen_108 : decode cL_seen 108 = .ok (.ladd, 1) := by decide +kernel
theorem dL_seen_109 : decode cL_seen 109 = .ok (.lmul, 1) := by decide +kernel
theorem dL_seen_110 : decode cL_seen 110 = .ok (.aload_n 0, 1) := by decide +kernel
theorem dL_seen_111 : decode cL_seen 111 = .ok (.iload_n 3, 1) := by decide +kernel
theorem dL_seen_112 : decode cL_seen 112 = .ok (.bipush 26, 2) := by decide +kernel
theorem dL_seen_114 : decode cL_seen 114 = .ok (.idiv, 1) := by decide +kernel
theorem dL_seen_115 : decode cL_seen 115 = .ok (.iload_n 3, 1) := by decide +kernel
theorem dL_seen_116 : decode cL_seen 116 = .ok (.bipush 26, 2) := by decide +kernel
theorem dL_seen_118 : decode cL_seen 118 = .ok (.irem, 1) := by decide +kernel
theorem dL_seen_119 : decode cL_seen 119 = .ok (.iconst 1, 1) := by decide +kernel
theorem dL_seen_120 : decode cL_seen 120 = .ok (.invokevirtual 49, 3) := by decide +kernel
theorem dL_seen_123 : decode cL_seen 123 = .ok (.i2l, 1) := by decide +kernel
theorem dL_seen_124 : decode cL_seen 124 = .ok (.ladd, 1) := by decide +kernel
theorem dL_seen_125 : decode cL_seen 125 = .ok (.lstore_n 1, 1) := by decide +kernel
theorem dL_seen_126 : decode cL_seen 126 = .ok (.iinc 3 1, 3) := by decide +kernel
theorem dL_seen_129 : decode cL_seen 129 = .ok (.goto (-49), 3) := by decide +kernel
theorem dL_seen_132 : decode cL_seen 132 = .ok (.iconst 0, 1) := by decide +kernel
theorem dL_seen_133 : decode cL_seen 133 = .ok (.istore_n 3, 1) := by decide +kernel
theorem dL_seen_134 : decode cL_seen 134 = .ok (.iload_n 3, 1) := by decide +kernel
theorem dL_seen_135 : decode cL_seen 135 = .ok (.bipush 32, 2) := by decide +kernel
theorem dL_seen_137 : decode cL_seen 137 = .ok (.if_icmp .ge 29, 3) := by decide +kernel
theorem dL_seen_140 : decode cL_seen 140 = .ok (.ldc2_w 9, 3) := by decide +kernel
theorem dL_seen_143 : decode cL_seen 143 = .ok (.lload_n 1, 1) := by decide +kernel
theorem dL_seen_144 : decode cL_seen 144 = .ok (.lmul, 1) := by decide +kernel
theorem dL_seen_145 : decode cL_seen 145 = .ok (.aload_n 0, 1) := by decide +kernel
theorem dL_seen_146 : decode cL_seen 146 = .ok (.iload_n 3, 1) := by decide +kernel
theorem dL_seen_147 : decode cL_seen 147 = .ok (.bipush 8, 2) := by decide +kernel
theorem dL_seen_149 : decode cL_seen 149 = .ok (.idiv, 1) := by decide +kernel
theorem dL_seen_150 : decode cL_seen 150 = .ok (.iload_n 3, 1) := by decide +kernel
theorem dL_seen_151 : decode cL_seen 151 = .ok (.bipush 8, 2) := by decide +kernel
theorem dL_seen_153 : decode cL_seen 153 = .ok (.irem, 1) := by decide +kernel
theorem dL_seen_154 : decode cL_seen 154 = .ok (.invokevirtual 53, 3) := by decide +kernel
theorem dL_seen_157 : decode cL_seen 157 = .ok (.i2l, 1) := by decide +kernel
theorem dL_seen_158 : decode cL_seen 158 = .ok (.ladd, 1) := by decide +kernel
theorem dL_seen_159 : decode cL_seen 159 = .ok (.lstore_n 1, 1) := by decide +kernel
theorem dL_seen_160 : decode cL_seen 160 = .ok (.iinc 3 1, 3) := by decide +kernel
theorem dL_seen_163 : decode cL_seen 163 = .ok (.goto (-29), 3) := by decide +kernel
theorem dL_seen_166 : decode cL_seen 166 = .ok (.ldc2_w 9, 3) := by decide +kernel
theorem dL_seen_169 : decode cL_seen 169 = .ok (.lload_n 1, 1) := by decide +kernel
theorem dL_seen_170 : decode cL_seen 170 = .ok (.lmul, 1) := by decide +kernel
theorem dL_seen_171 : decode cL_seen 171 = .ok (.aload_n 0, 1) := by decide +kernel
theorem dL_seen_172 : decode cL_seen 172 = .ok (.invokevirtual 56, 3) := by decide +kernel
theorem dL_seen_175 : decode cL_seen 175 = .ok (.i2l, 1) := by decide +kernel
theorem dL_seen_176 : decode cL_seen 176 = .ok (.ladd, 1) := by decide +kernel
theorem dL_seen_177 : decode cL_seen 177 = .ok (.lreturn, 1) := by decide +kernel
set_option maxRecDepth 20000 in
theorem ggL_refusesAny_X7_count : GoodIn wsL_refusesAny wsX7_count := goodIn_r _ [9, 10, 11, 12, 13, 14, 15, 16, 17, 18, 19, 20, 21, 22, 23, 24, 25, 26, 27, 28, 29, 30, 31, 32, 33, 34, 35, 330, 331, 332, 333, 334, 335, 336, 337, 338, 339, 340, 341, 342, 343, 344, 345, 346, 347] (by decide +kernel) (by decide +kernel)
set_option maxRecDepth 20000 in
theorem gL_refusesAny_X7_count : GoodIn wsL_refusesAny (wsV RL 33 RX7 yX7_count wsX7_count) := goodIn_app (goodIn_of _ (by decide +kernel)) ggL_refusesAny_X7_count
set_option maxRecDepth 20000 in
theorem ggL_refusesAny_X7_set : GoodIn wsL_refusesAny wsX7_set := goodIn_r _ [39, 10, 13, 14, 40, 41, 8, 42, 43, 44, 45, 46, 17, 47, 48, 49, 50, 21, 51, 52, 53, 23, 24, 54, 55, 56, 57, 58, 59, 60, 61, 62, 63, 64, 65, 66, 67, 68, 69, 70, 71, 72, 73, 330, 331, 332, 333, 334, 335, 336, 337, 338, 339, 340, 341, 342, 343, 344, 345, 348, 349, 350, 351, 352, 353, 354, 355] (by decide +kernel) (by decide +kernel)
set_option maxRecDepth 20000 in
theorem gL_refusesAny_X7_set : GoodIn wsL_refusesAny (wsV RL 59 RX7 yX7_set wsX7_set) := goodIn_app (goodIn_of _ (by decide +kernel)) ggL_refusesAny_X7_set
set_option maxRecDepth 20000 in
theorem ggL_refusesAny_X7_drop : GoodIn wsL_refusesAny wsX7_drop := goodIn_r _ [77, 10, 11, 78, 79, 80, 21, 81, 23, 43, 44, 45, 8, 46, 17, 47, 48, 49, 50, 51, 52, 53, 24, 54, 55, 56, 57, 58, 59, 60, 61, 62, 63, 64, 65, 66, 67, 68, 69, 70, 71, 72, 73, 82, 83, 84, 85, 330, 331, 332, 333, 334, 335, 336, 337, 338, 339, 340, 341, 342, 343, 344, 345, 348, 349, 350, 351, 352, 353, 354, 355] (by decide +kernel) (by decide +kernel)
set_option maxRecDepth 20000 in
theorem gL_refusesAny_X7_drop : GoodIn wsL_refusesAny (wsV RL 62 RX7 yX7_drop wsX7_drop) := goodIn_app (goodIn_of _ (by decide +kernel)) ggL_refusesAny_X7_drop
set_option maxRecDepth 20000 in
theorem ggL_refusesAny_X7_ear : GoodIn wsL_refusesAny wsX7_ear := goodIn_r _ [89, 10, 12, 90, 91, 92, 93, 21, 94, 58, 59, 43, 44, 45, 8, 46, 17, 47, 48, 49, 50, 51, 52, 53, 23, 24, 54, 55, 56, 57, 60, 61, 62, 63, 64, 65, 66, 67, 68, 69, 70, 71, 72, 73, 95, 96, 97, 98, 99, 100, 330, 331, 332, 333, 334, 335, 336, 337, 338, 339, 340, 341, 342, 343, 344, 345, 348, 349, 350, 351, 352, 353, 354, 355] (by decide +kernel) (by decide +kernel)
set_option maxRecDepth 20000 in
theorem gL_refusesAny_X7_ear : GoodIn wsL_refusesAny (wsV RL 65 RX7 yX7_ear wsX7_ear) := goodIn_app (goodIn_of _ (by decide +kernel)) ggL_refusesAny_X7_ear
set_option maxRecDepth 20000 in
theorem ggL_refusesAny_X7_hear : GoodIn wsL_refusesAny wsX7_hear := goodIn_r _ [104, 10, 105, 91, 92, 93, 21, 94, 58, 59, 106, 107, 27, 108, 109, 110, 8, 111, 40, 41, 42, 43, 44, 45, 46, 17, 47, 48, 49, 50, 51, 52, 53, 23, 24, 54, 55, 56, 57, 60, 61, 62, 63, 64, 65, 66, 67, 68, 69, 70, 71, 72, 73, 112, 113, 114, 115, 330, 331, 332, 333, 334, 335, 336, 337, 338, 339, 348, 349, 350, 351, 352, 353, 354, 355, 340, 341, 342, 343, 344, 345] (by decide +kernel) (by decide +kernel)
set_option maxRecDepth 20000 in
theorem gL_refusesAny_X7_hear : GoodIn wsL_refusesAny (wsV RL 68 RX7 yX7_hear wsX7_hear) := goodIn_app (goodIn_of _ (by decide +kernel)) ggL_refusesAny_X7_hear
set_option maxRecDepth 20000 in
theorem ggL_refusesAny_X7_second : GoodIn wsL_refusesAny wsX7_second := goodIn_r _ [119, 10, 105, 120, 91, 92, 93, 21, 94, 58, 59, 106, 107, 27, 108, 109, 110, 8, 111, 40, 41, 42, 43, 44, 45, 46, 17, 47, 48, 49, 50, 51, 52, 53, 23, 24, 54, 55, 56, 57, 60, 61, 62, 63, 64, 65, 66, 67, 68, 69, 70, 71, 72, 73, 330, 331, 332, 333, 334, 335, 336, 337, 338, 339, 348, 349, 350, 351, 352, 353, 354, 355, 340, 341, 342, 343, 344, 345] (by decide +kernel) (by decide +kernel)
set_option maxRecDepth 20000 in
theorem gL_refusesAny_X7_second : GoodIn wsL_refusesAny (wsV RL 71 RX7 yX7_second wsX7_second) := goodIn_app (goodIn_of _ (by decide +kernel)) ggL_refusesAny_X7_second
set_option maxRecDepth 20000 in
theorem ggL_refusesAny_X7_of : GoodIn wsL_refusesAny wsX7_of := goodIn_r _ [124, 10, 105, 120, 91, 92, 93, 21, 94, 58, 59, 106, 107, 27, 108, 125, 126, 127, 63, 128, 65, 330, 331, 332, 333, 334, 335, 336, 337, 338, 339, 348, 349, 350, 351, 352, 353, 354, 355, 340, 341, 342, 343, 344, 345] (by decide +kernel) (by decide +kernel)
set_option maxRecDepth 20000 in
theorem gL_refusesAny_X7_of : GoodIn wsL_refusesAny (wsV RL 49 RX7 yX7_of wsX7_of) := goodIn_app (goodIn_of _ (by decide +kernel)) ggL_refusesAny_X7_of
set_option maxRecDepth 20000 in
theorem ggL_refusesAny_X7_habits : GoodIn wsL_refusesAny wsX7_habits := goodIn_r _ [132, 10, 133, 91, 92, 93, 21, 94, 58, 59, 40, 41, 8, 42, 43, 44, 45, 46, 17, 47, 48, 49, 50, 51, 52, 53, 23, 24, 54, 55, 56, 57, 60, 61, 62, 63, 64, 65, 66, 67, 68, 69, 70, 71, 72, 73, 330, 331, 332, 333, 334, 335, 336, 337, 338, 339, 348, 349, 350, 351, 352, 353, 354, 355, 340, 341, 342, 343, 344, 345] (by decide +kernel) (by decide +kernel)
set_option maxRecDepth 20000 in
theorem gL_refusesAny_X7_habits : GoodIn wsL_refusesAny (wsV RL 74 RX7 yX7_habits wsX7_habits) := goodIn_app (goodIn_of _ (by decide +kernel)) ggL_refusesAny_X7_habits
set_option maxRecDepth 20000 in
theorem ggL_refusesAny_X7_merge : GoodIn wsL_refusesAny wsX7_merge := goodIn_r _ [137, 10, 91, 92, 93, 21, 94, 58, 59, 138, 139, 8, 140, 109, 110, 111, 40, 41, 42, 43, 44, 45, 46, 17, 47, 48, 49, 50, 51, 52, 53, 23, 24, 54, 55, 56, 57, 60, 61, 62, 63, 64, 65, 66, 67, 68, 69, 70, 71, 72, 73, 141, 142, 143, 144, 145, 113, 114, 115, 146, 147, 148, 149, 150, 151, 152, 153, 125, 126, 127, 128, 154, 155, 156, 157, 158, 159, 160, 330, 331, 332, 333, 334, 335, 336, 337, 338, 339, 340, 341, 342, 343, 344, 345, 348, 349, 350, 351, 352, 353, 354, 355] (by decide +kernel) (by decide +kernel)
set_option maxRecDepth 20000 in
theorem gL_refusesAny_X7_merge : GoodIn wsL_refusesAny (wsV RL 77 RX7 yX7_merge wsX7_merge) := goodIn_app (goodIn_of _ (by decide +kernel)) ggL_refusesAny_X7_merge
set_option maxRecDepth 20000 in
theorem ggL_refusesAny_X7_split : GoodIn wsL_refusesAny wsX7_split := goodIn_r _ [164, 10, 165, 91, 92, 93, 21, 94, 58, 59, 43, 44, 45, 8, 46, 17, 47, 48, 49, 50, 51, 52, 53, 23, 24, 54, 55, 56, 57, 60, 61, 62, 63, 64, 65, 66, 67, 68, 69, 70, 71, 72, 73, 166, 167, 168, 169, 145, 113, 114, 115, 330, 331, 332, 333, 334, 335, 336, 337, 338, 339, 348, 349, 350, 351, 352, 353, 354, 355, 340, 341, 342, 343, 344, 345] (by decide +kernel) (by decide +kernel)
set_option maxRecDepth 20000 in
theorem gL_refusesAny_X7_split : GoodIn wsL_refusesAny (wsV RL 80 RX7 yX7_split wsX7_split) := goodIn_app (goodIn_of _ (by decide +kernel)) ggL_refusesAny_X7_split
set_option maxRecDepth 20000 in
theorem ggL_refusesAny_X7_ofEar : GoodIn wsL_refusesAny wsX7_ofEar := goodIn_r _ [173, 10, 174, 133, 165, 175, 91, 92, 93, 21, 94, 58, 59, 176, 177, 178, 179, 180, 181, 182, 183, 184, 185, 186, 187, 188, 189, 190, 191, 192, 63, 193, 194, 195, 196, 197, 67, 198, 33, 27, 34, 35, 199, 107, 108, 200, 201, 202, 203, 68, 204, 205, 206, 207, 65, 208, 209, 210, 211, 212, 213, 214, 215, 216, 217, 218, 219, 220, 221, 222, 223, 224, 225, 155, 156, 157, 158, 159, 160, 226, 227, 228, 229, 230, 231, 232, 233, 234, 235, 236, 237, 238, 239, 240, 241, 242, 243, 244, 245, 246, 247, 248, 249, 250, 251, 252, 253, 125, 126, 127, 128, 330, 331, 332, 333, 334, 335, 336, 337, 338, 339, 348, 349, 350, 351, 352, 353, 354, 355, 356, 357, 358, 359, 360, 361, 362, 340, 341, 342, 343, 344, 345] (by decide +kernel) (by decide +kernel)
set_option maxRecDepth 20000 in
theorem gL_refusesAny_X7_ofEar : GoodIn wsL_refusesAny (wsV RL 53 RX7 yX7_ofEar wsX7_ofEar) := goodIn_app (goodIn_of _ (by decide +kernel)) ggL_refusesAny_X7_ofEar
