theorem dL_seen_147 : decode cL_seen 147 = .ok (.bipush 8, 2) := by decide +kernel
theorem dL_seen_149 : decode cL_seen 149 = .ok (.idiv, 1) := by decide +kernel
theorem dL_seen_150 : decode cL_seen 150 = .ok (.iload_n 3, 1) := by decide +kernel
theorem dL_seen_151 : decode cL_seen 151 = .ok (.bipush 8, 2) := by decide +kernel
theorem dL_seen_153 : decode cL_seen 153 = .ok (.irem, 1) := by decide +kernel
theorem dL_seen_154 : decode cL_seen 154 = .ok (.invokevirtual 53, 3) := by decide +kernel
theorem dL_seen_157 : decode cL_seen 157 = .ok (.i2l, 1) := by decide +kernel
theorem dL_seen_158 : decode cL_seen 158 = .ok (.ladd, 1) := by decide +kernel
theorem dL_seen_159 : decode cL_seen 159 = .ok (.lstore_n 1, 1) := by decide +kernel
theorem dL_seen_160 : decode cL_seen 160 = .ok (.iinc 3 1, 3) := by decide +kernel
theorem dL_seen_163 : decode cL_seen 163 = .ok (.goto (-29), 3) := by decide +kernel
theorem dL_seen_166 : decode cL_seen 166 = .ok (.ldc2_w 9, 3) := by decide +kernel
theorem dL_seen_169 : decode cL_seen 169 = .ok (.lload_n 1, 1) := by decide +kernel
theorem dL_seen_170 : decode cL_seen 170 = .ok (.lmul, 1) := by decide +kernel
theorem dL_seen_171 : decode cL_seen 171 = .ok (.aload_n 0, 1) := by decide +kernel
theorem dL_seen_172 : decode cL_seen 172 = .ok (.invokevirtual 56, 3) := by decide +kernel
theorem dL_seen_175 : decode cL_seen 175 = .ok (.i2l, 1) := by decide +kernel
theorem dL_seen_176 : decode cL_seen 176 = .ok (.ladd, 1) := by decide +kernel
theorem dL_seen_177 : decode cL_seen 177 = .ok (.lreturn, 1) := by decide +kernel
set_option maxHeartbeats 4000000 in
set_option maxRecDepth 100000 in
theorem ggL_refusesAny_X7_count : GoodIn wsL_refusesAny wsX7_count := goodIn_r _ [9, 10, 11, 12, 13, 14, 15, 16, 17, 18, 19, 20, 21, 22, 23, 24, 25, 26, 27, 28, 29, 30, 31, 32, 33, 34, 35, 330, 331, 332, 333, 334, 335, 336, 337, 338, 339, 340, 341, 342, 343, 344, 345, 346, 347] rfl (by decide +kernel)
set_option maxRecDepth 20000 in
theorem gL_refusesAny_X7_count : GoodIn wsL_refusesAny (wsV RL 33 RX7 yX7_count wsX7_count) := goodIn_app (goodIn_of _ (by decide +kernel)) ggL_refusesAny_X7_count
set_option maxHeartbeats 4000000 in
set_option maxRecDepth 100000 in
theorem ggL_refusesAny_X7_set : GoodIn wsL_refusesAny wsX7_set := goodIn_r _ [39, 10, 13, 14, 40, 41, 8, 42, 43, 44, 45, 46, 17, 47, 48, 49, 50, 21, 51, 52, 53, 23, 24, 54, 55, 56, 57, 58, 59, 60, 61, 62, 63, 64, 65, 66, 67, 68, 69, 70, 71, 72, 73, 330, 331, 332, 333, 334, 335, 336, 337, 338, 339, 340, 341, 342, 343, 344, 345, 348, 349, 350, 351, 352, 353, 354, 355] rfl (by decide +kernel)
set_option maxRecDepth 20000 in
theorem gL_refusesAny_X7_set : GoodIn wsL_refusesAny (wsV RL 59 RX7 yX7_set wsX7_set) := goodIn_app (goodIn_of _ (by decide +kernel)) ggL_refusesAny_X7_set
set_option maxHeartbeats 4000000 in
set_option maxRecDepth 100000 in
theorem ggL_refusesAny_X7_drop : GoodIn wsL_refusesAny wsX7_drop := goodIn_r _ [77, 10, 11, 78, 79, 80, 21, 81, 23, 43, 44, 45, 8, 46, 17, 47, 48, 49, 50, 51, 52, 53, 24, 54, 55, 56, 57, 58, 59, 60, 61, 62, 63, 64, 65, 66, 67, 68, 69, 70, 71, 72, 73, 82, 83, 84, 85, 330, 331, 332, 333, 334, 335, 336, 337, 338, 339, 340, 341, 342, 343, 344, 345, 348, 349, 350, 351, 352, 353, 354, 355] rfl (by decide +kernel)
set_option maxRecDepth 20000 in
theorem gL_refusesAny_X7_drop : GoodIn wsL_refusesAny (wsV RL 62 RX7 yX7_drop wsX7_drop) := goodIn_app (goodIn_of _ (by decide +kernel)) ggL_refusesAny_X7_drop
set_option maxHeartbeats 4000000 in
set_option maxRecDepth 100000 in
theorem ggL_refusesAny_X7_ear : GoodIn wsL_refusesAny wsX7_ear := goodIn_r _ [89, 10, 12, 90, 91, 92, 93, 21, 94, 58, 59, 43, 44, 45, 8, 46, 17, 47, 48, 49, 50, 51, 52, 53, 23, 24, 54, 55, 56, 57, 60, 61, 62, 63, 64, 65, 66, 67, 68, 69, 70, 71, 72, 73, 95, 96, 97, 98, 99, 100, 330, 331, 332, 333, 334, 335, 336, 337, 338, 339, 340, 341, 342, 343, 344, 345, 348, 349, 350, 351, 352, 353, 354, 355] rfl (by decide +kernel)
set_option maxRecDepth 20000 in
theorem gL_refusesAny_X7_ear : GoodIn wsL_refusesAny (wsV RL 65 RX7 yX7_ear wsX7_ear) := goodIn_app (goodIn_of _ (by decide +kernel)) ggL_refusesAny_X7_ear
set_option maxHeartbeats 4000000 in
set_option maxRecDepth 100000 in
theorem ggL_refusesAny_X7_hear : GoodIn wsL_refusesAny wsX7_hear := goodIn_r _ [104, 10, 105, 91, 92, 93, 21, 94, 58, 59, 106, 107, 27, 108, 109, 110, 8, 111, 40, 41, 42, 43, 44, 45, 46, 17, 47, 48, 49, 50, 51, 52, 53, 23, 24, 54, 55, 56, 57, 60, 61, 62, 63, 64, 65, 66, 67, 68, 69, 70, 71, 72, 73, 112, 113, 114, 115, 330, 331, 332, 333, 334, 335, 336, 337, 338, 339, 348, 349, 350, 351, 352, 353, 354, 355, 340, 341, 342, 343, 344, 345] rfl (by decide +kernel)
set_option maxRecDepth 20000 in
theorem gL_refusesAny_X7_hear : GoodIn wsL_refusesAny (wsV RL 68 RX7 yX7_hear wsX7_hear) := goodIn_app (goodIn_of _ (by decide +kernel)) ggL_refusesAny_X7_hear
set_option maxHeartbeats 4000000 in
set_option maxRecDepth 100000 in
theorem ggL_refusesAny_X7_second : GoodIn wsL_refusesAny wsX7_second := goodIn_r _ [119, 10, 105, 120, 91, 92, 93, 21, 94, 58, 59, 106, 107, 27, 108, 109, 110, 8, 111, 40, 41, 42, 43, 44, 45, 46, 17, 47, 48, 49, 50, 51, 52, 53, 23, 24, 54, 55, 56, 57, 60, 61, 62, 63, 64, 65, 66, 67, 68, 69, 70, 71, 72, 73, 330, 331, 332, 333, 334, 335, 336, 337, 338, 339, 348, 349, 350, 351, 352, 353, 354, 355, 340, 341, 342, 343, 344, 345] rfl (by decide +kernel)
set_option maxRecDepth 20000 in
theorem gL_refusesAny_X7_second : GoodIn wsL_refusesAny (wsV RL 71 RX7 yX7_second wsX7_second) := goodIn_app (goodIn_of _ (by decide +kernel)) ggL_refusesAny_X7_second
set_option maxHeartbeats 4000000 in
set_option maxRecDepth 100000 in
theorem ggL_refusesAny_X7_of : GoodIn wsL_refusesAny wsX7_of := goodIn_r _ [124, 10, 105, 120, 91, 92, 93, 21, 94, 58, 59, 106, 107, 27, 108, 125, 126, 127, 63, 128, 65, 330, 331, 332, 333, 334, 335, 336, 337, 338, 339, 348, 349, 350, 351, 352, 353, 354, 355, 340, 341, 342, 343, 344, 345] rfl (by decide +kernel)
set_option maxRecDepth 20000 in
theorem gL_refusesAny_X7_of : GoodIn wsL_refusesAny (wsV RL 49 RX7 yX7_of wsX7_of) := goodIn_app (goodIn_of _ (by decide +kernel)) ggL_refusesAny_X7_of
set_option maxHeartbeats 4000000 in
set_option maxRecDepth 100000 in
theorem ggL_refusesAny_X7_habits : GoodIn wsL_refusesAny wsX7_habits := goodIn_r _ [132, 10, 133, 91, 92, 93, 21, 94, 58, 59, 40, 41, 8, 42, 43, 44, 45, 46, 17, 47, 48, 49, 50, 51, 52, 53, 23, 24, 54, 55, 56, 57, 60, 61, 62, 63, 64, 65, 66, 67, 68, 69, 70, 71, 72, 73, 330, 331, 332, 333, 334, 335, 336, 337, 338, 339, 348, 349, 350, 351, 352, 353, 354, 355, 340, 341, 342, 343, 344, 345] rfl (by decide +kernel)
set_option maxRecDepth 20000 in
theorem gL_refusesAny_X7_habits : GoodIn wsL_refusesAny (wsV RL 74 RX7 yX7_habits wsX7_habits) := goodIn_app (goodIn_of _ (by decide +kernel)) ggL_refusesAny_X7_habits
set_option maxHeartbeats 4000000 in
set_option maxRecDepth 100000 in
theorem ggL_refusesAny_X7_merge : GoodIn wsL_refusesAny wsX7_merge := goodIn_r _ [137, 10, 91, 92, 93, 21, 94, 58, 59, 138, 139, 8, 140, 109, 110, 111, 40, 41, 42, 43, 44, 45, 46, 17, 47, 48, 49, 50, 51, 52, 53, 23, 24, 54, 55, 56, 57, 60, 61, 62, 63, 64, 65, 66, 67, 68, 69, 70, 71, 72, 73, 141, 142, 143, 144, 145, 113, 114, 115, 146, 147, 148, 149, 150, 151, 152, 153, 125, 126, 127, 128, 154, 155, 156, 157, 158, 159, 160, 330, 331, 332, 333, 334, 335, 336, 337, 338, 339, 340, 341, 342, 343, 344, 345, 348, 349, 350, 351, 352, 353, 354, 355] rfl (by decide +kernel)
set_option maxRecDepth 20000 in
theorem gL_refusesAny_X7_merge : GoodIn wsL_refusesAny (wsV RL 77 RX7 yX7_merge wsX7_merge) := goodIn_app (goodIn_of _ (by decide +kernel)) ggL_refusesAny_X7_merge
set_option maxHeartbeats 4000000 in
set_option maxRecDepth 100000 in
theorem ggL_refusesAny_X7_split : GoodIn wsL_refusesAny wsX7_split := goodIn_r _ [164, 10, 165, 91, 92, 93, 21, 94, 58, 59, 43, 44, 45, 8, 46, 17, 47, 48, 49, 50, 51, 52, 53, 23, 24, 54, 55, 56, 57, 60, 61, 62, 63, 64, 65, 66, 67, 68, 69, 70, 71, 72, 73, 166, 167, 168, 169, 145, 113, 114, 115, 330, 331, 332, 333, 334, 335, 336, 337, 338, 339, 348, 349, 350, 351, 352, 353, 354, 355, 340, 341, 342, 343, 344, 345] rfl (by decide +kernel)
set_option maxRecDepth 20000 in
theorem gL_refusesAny_X7_split : GoodIn wsL_refusesAny (wsV RL 80 RX7 yX7_split wsX7_split) := goodIn_app (goodIn_of _ (by decide +kernel)) ggL_refusesAny_X7_split
set_option maxHeartbeats 4000000 in
set_option maxRecDepth 100000 in
theorem ggL_refusesAny_X7_ofEar : GoodIn wsL_refusesAny wsX7_ofEar := goodIn_r _ [173, 10, 174, 133, 165, 175, 91, 92, 93, 21, 94, 58, 59, 176, 177, 178, 179, 180, 181, 182, 183, 184, 185, 186, 187, 188, 189, 190, 191, 192, 63, 193, 194, 195, 196, 197, 67, 198, 33, 27, 34, 35, 199, 107, 108, 200, 201, 202, 203, 68, 204, 205, 206, 207, 65, 208, 209, 210, 211, 212, 213, 214, 215, 216, 217, 218, 219, 220, 221, 222, 223, 224, 225, 155, 156, 157, 158, 159, 160, 226, 227, 228, 229, 230, 231, 232, 233, 234, 235, 236, 237, 238, 239, 240, 241, 242, 243, 244, 245, 246, 247, 248, 249, 250, 251, 252, 253, 125, 126, 127, 128, 330, 331, 332, 333, 334, 335, 336, 337, 338, 339, 348, 349, 350, 351, 352, 353, 354, 355, 356, 357, 358, 359, 360, 361, 362, 340, 341, 342, 343, 344, 345] rfl (by decide +kernel)
set_option maxRecDepth 20000 in
theorem gL_refusesAny_X7_ofEar : GoodIn wsL_refusesAny (wsV RL 53 RX7 yX7_ofEar wsX7_ofEar) := goodIn_app (goodIn_of _ (by decide +kernel)) ggL_refusesAny_X7_ofEar
set_option maxHeartbeats 4000000 in
set_option maxRecDepth 100000 in
theorem ggL_refusesAny_X7_code : GoodIn wsL_refusesAny wsX7_code := goodIn_r _ [257, 10, 174, 91, 92, 93, 21, 94, 58, 59, 78, 79, 80, 81, 23, 176, 177, 178, 179, 180, 181, 182, 183, 184, 185, 186, 187, 188, 189, 190, 191, 192, 63, 193, 194, 195, 196, 197, 67, 198, 33, 27, 34, 35, 199, 107, 108, 200, 201, 202, 203, 68, 204, 205, 206, 207, 65, 208, 209, 210, 211, 212, 213, 214, 215, 216, 258, 239, 240, 241, 40, 41, 8, 42, 259, 243, 244, 245, 238, 260, 261, 262, 263, 264, 265, 266, 267, 268, 269, 270, 330, 331, 332, 333, 334, 335, 336, 337, 338, 339, 340, 341, 342, 343, 344, 345, 356, 357, 358, 359, 360, 361, 362, 348, 349, 350, 351, 352, 353, 354, 355] rfl (by decide +kernel)
set_option maxRecDepth 20000 in
theorem gL_refusesAny_X7_code : GoodIn wsL_refusesAny (wsV RL 83 RX7 yX7_code wsX7_code) := goodIn_app (goodIn_of _ (by decide +kernel)) ggL_refusesAny_X7_code
set_option maxHeartbeats 4000000 in
set_option maxRecDepth 100000 in
theorem ggL_refusesAny_X7_drawer : GoodIn wsL_refusesAny wsX7_drawer := goodIn_r _ [274, 10, 174, 175, 91, 92, 93, 21, 94, 58, 59, 176, 177, 178, 179, 180, 181, 182, 183, 184, 185, 186, 187, 188, 189, 190, 191, 192, 63, 193, 194, 195, 196, 197, 67, 198, 33, 27, 34, 35, 199, 107, 108, 200, 201, 202, 203, 68, 204, 205, 206, 207, 65, 208, 209, 210, 211, 212, 213, 214, 215, 216, 40, 41, 8, 42, 275, 247, 248, 249, 276, 277, 278, 279, 330, 331, 332, 333, 334, 335, 336, 337, 338, 339, 356, 357, 358, 359, 360, 361, 362, 340, 341, 342, 343, 344, 345, 348, 349, 350, 351, 352, 353, 354, 355] rfl (by decide +kernel)
set_option maxRecDepth 20000 in
theorem gL_refusesAny_X7_drawer : GoodIn wsL_refusesAny (wsV RL 87 RX7 yX7_drawer wsX7_drawer) := goodIn_app (goodIn_of _ (by decide +kernel)) ggL_refusesAny_X7_drawer
set_option maxHeartbeats 4000000 in
set_option maxRecDepth 100000 in
theorem ggL_refusesAny_X7_alike : GoodIn wsL_refusesAny wsX7_alike := goodIn_r _ [283, 10, 174, 91, 92, 93, 21, 94, 58, 59, 78, 79, 80, 81, 23, 176, 177, 178, 179, 180, 181, 182, 183, 184, 185, 186, 187, 188, 189, 190, 191, 192, 63, 193, 194, 195, 196, 197, 67, 198, 33, 27, 34, 35, 199, 107, 108, 200, 201, 202, 203, 68, 204, 205, 206, 207, 65, 208, 209, 210, 211, 212, 213, 214, 215, 216, 284, 235, 236, 237, 238, 239, 240, 241, 242, 243, 244, 245, 246, 247, 248, 249, 330, 331, 332, 333, 334, 335, 336, 337, 338, 339, 340, 341, 342, 343, 344, 345, 356, 357, 358, 359, 360, 361, 362, 348, 349, 350, 351, 352, 353, 354, 355] rfl (by decide +kernel)
set_option maxRecDepth 20000 in
theorem gL_refusesAny_X7_alike : GoodIn wsL_refusesAny (wsV RL 90 RX7 yX7_alike wsX7_alike) := goodIn_app (goodIn_of _ (by decide +kernel)) ggL_refusesAny_X7_alike
set_option maxHeartbeats 4000000 in
set_option maxRecDepth 100000 in
theorem ggL_refusesAny_X7_ifMerged : GoodIn wsL_refusesAny wsX7_ifMerged := goodIn_r _ [288, 10, 174, 175, 91, 92, 93, 21, 94, 58, 59, 138, 139, 8, 140, 109, 110, 111, 40, 41, 42, 289, 290, 291, 292, 293, 100, 61, 62, 63, 64, 65, 66, 55, 56, 57, 67, 68, 69, 70, 71, 72, 73, 141, 142, 143, 144, 145, 113, 114, 115, 146, 147, 148, 149, 150, 151, 152, 153, 176, 177, 178, 179, 180, 181, 182, 183, 184, 185, 186, 187, 188, 189, 190, 191, 192, 193, 194, 195, 196, 197, 198, 33, 27, 34, 35, 199, 107, 108, 200, 201, 202, 203, 204, 205, 206, 207, 208, 209, 210, 211, 212, 213, 214, 215, 216, 230, 231, 232, 233, 234, 235, 236, 237, 238, 239, 240, 241, 242, 243, 244, 245, 246, 247, 248, 249, 225, 155, 156, 157, 158, 159, 160, 330, 331, 332, 333, 334, 335, 336, 337, 338, 339, 356, 357, 358, 359, 360, 361, 362, 340, 341, 342, 343, 344, 345, 348, 349, 350, 351, 352, 353, 354, 355] rfl (by decide +kernel)
set_option maxRecDepth 20000 in
theorem gL_refusesAny_X7_ifMerged : GoodIn wsL_refusesAny (wsV RL 93 RX7 yX7_ifMerged wsX7_ifMerged) := goodIn_app (goodIn_of _ (by decide +kernel)) ggL_refusesAny_X7_ifMerged
set_option maxHeartbeats 4000000 in
set_option maxRecDepth 100000 in
theorem ggL_refusesAny_X7_bestMerger : GoodIn wsL_refusesAny wsX7_bestMerger := goodIn_r _ [297, 10, 174, 91, 92, 93, 21, 94, 58, 59, 40, 41, 8, 42, 125, 126, 127, 63, 128, 65, 289, 290, 291, 292, 293, 100, 61, 62, 64, 66, 55, 56, 57, 67, 68, 69, 70, 71, 72, 73, 141, 142, 143, 144, 145, 113, 114, 115, 146, 147, 148, 149, 150, 151, 152, 153, 176, 177, 178, 179, 180, 181, 182, 183, 184, 185, 186, 187, 188, 189, 190, 191, 192, 193, 194, 195, 196, 197, 198, 33, 27, 34, 35, 199, 107, 108, 200, 201, 202, 203, 204, 205, 206, 207, 208, 209, 210, 211, 212, 213, 214, 215, 216, 230, 231, 232, 233, 234, 235, 236, 237, 238, 239, 240, 241, 242, 243, 244, 245, 246, 247, 248, 249, 225, 155, 156, 157, 158, 159, 160, 330, 331, 332, 333, 334, 335, 336, 337, 338, 339, 340, 341, 342, 343, 344, 345, 348, 349, 350, 351, 352, 353, 354, 355, 356, 357, 358, 359, 360, 361, 362] rfl (by decide +kernel)
set_option maxRecDepth 20000 in
theorem gL_refusesAny_X7_bestMerger : GoodIn wsL_refusesAny (wsV RL 96 RX7 yX7_bestMerger wsX7_bestMerger) := goodIn_app (goodIn_of _ (by decide +kernel)) ggL_refusesAny_X7_bestMerger
set_option maxHeartbeats 4000000 in
set_option maxRecDepth 100000 in
theorem ggL_refusesAny_X7_quarrel : GoodIn wsL_refusesAny wsX7_quarrel := goodIn_r _ [301, 10, 174, 302, 11, 91, 92, 93, 21, 94, 58, 59, 176, 177, 178, 179, 180, 181, 182, 183, 184, 185, 186, 187, 188, 189, 190, 191, 192, 63, 193, 194, 195, 196, 197, 67, 198, 33, 27, 34, 35, 199, 107, 108, 200, 201, 202, 203, 68, 204, 205, 206, 207, 65, 208, 209, 210, 211, 212, 213, 214, 215, 216, 284, 235, 236, 237, 238, 239, 240, 241, 242, 243, 244, 245, 246, 247, 248, 249, 154, 155, 156, 157, 158, 159, 160, 330, 331, 332, 333, 334, 335, 336, 337, 338, 339, 340, 341, 342, 343, 344, 345, 356, 357, 358, 359, 360, 361, 362, 348, 349, 350, 351, 352, 353, 354, 355] rfl (by decide +kernel)
set_option maxRecDepth 20000 in
theorem gL_refusesAny_X7_quarrel : GoodIn wsL_refusesAny (wsV RL 99 RX7 yX7_quarrel wsX7_quarrel) := goodIn_app (goodIn_of _ (by decide +kernel)) ggL_refusesAny_X7_quarrel
set_option maxHeartbeats 4000000 in
set_option maxRecDepth 100000 in
theorem ggL_refusesAny_X7_save : GoodIn wsL_refusesAny wsX7_save := goodIn_r _ [306, 307, 10, 308, 11, 40, 41, 8, 42, 48, 49, 50, 21, 51, 52, 53, 23, 24, 54, 55, 56, 57, 58, 59, 60, 61, 62, 63, 64, 65, 66, 67, 68, 69, 70, 71, 72, 73, 330, 331, 332, 333, 334, 335, 336, 337, 338, 339, 340, 341, 342, 343, 344, 345, 348, 349, 350, 351, 352, 353, 354, 355] rfl (by decide +kernel)
set_option maxRecDepth 20000 in
theorem gL_refusesAny_X7_save : GoodIn wsL_refusesAny (wsV RL 102 RX7 yX7_save wsX7_save) := goodIn_app (goodIn_of _ (by decide +kernel)) ggL_refusesAny_X7_save
set_option maxHeartbeats 4000000 in
set_option maxRecDepth 100000 in
theorem ggL_refusesAny_X7_restore : GoodIn wsL_refusesAny wsX7_restore := goodIn_r _ [312, 308, 10, 307, 11, 40, 41, 8, 42, 43, 44, 45, 46, 17, 47, 48, 49, 50, 21, 51, 52, 53, 23, 24, 54, 55, 56, 57, 58, 59, 60, 61, 62, 63, 64, 65, 66, 67, 68, 69, 70, 71, 72, 73, 330, 331, 332, 333, 334, 335, 336, 337, 338, 339, 340, 341, 342, 343, 344, 345, 348, 349, 350, 351, 352, 353, 354, 355] rfl (by decide +kernel)
set_option maxRecDepth 20000 in
theorem gL_refusesAny_X7_restore : GoodIn wsL_refusesAny (wsV RL 105 RX7 yX7_restore wsX7_restore) := goodIn_app (goodIn_of _ (by decide +kernel)) ggL_refusesAny_X7_restore
set_option maxHeartbeats 4000000 in
set_option maxRecDepth 100000 in
theorem ggL_refusesAny_X7_put : GoodIn wsL_refusesAny wsX7_put := goodIn_r _ [316, 15, 16, 317, 318, 319, 320, 321, 322, 323, 324, 325, 326, 327, 328, 329, 330, 331, 332, 333, 334, 335, 336, 337, 338, 339, 346, 347] rfl (by decide +kernel)
set_option maxRecDepth 20000 in
theorem gL_refusesAny_X7_put : GoodIn wsL_refusesAny (wsV RL 30 RX7 yX7_put wsX7_put) := goodIn_app (goodIn_of _ (by decide +kernel)) ggL_refusesAny_X7_put
theorem dL_refusesAny_0 : decode cL_refusesAny 0 = .ok (.aload_n 0, 1) := by decide +kernel
theorem dL_refusesAny_1 : decode cL_refusesAny 1 = .ok (.iconst 0, 1) := by decide +kernel
theorem dL_refusesAny_2 : decode cL_refusesAny 2 = .ok (.invokevirtual 33, 3) := by decide +kernel
theorem dL_refusesAny_5 : decode cL_refusesAny 5 = .ok (.istore_n 2, 1) := by decide +kernel
theorem dL_refusesAny_6 : decode cL_refusesAny 6 = .ok (.aload_n 0, 1) := by decide +kernel
theorem dL_refusesAny_7 : decode cL_refusesAny 7 = .ok (.iconst 1, 1) := by decide +kernel
theorem dL_refusesAny_8 : decode cL_refusesAny 8 = .ok (.invokevirtual 33, 3) := by decide +kernel
theorem dL_refusesAny_11 : decode cL_refusesAny 11 = .ok (.istore_n 3, 1) := by decide +kernel
theorem dL_refusesAny_12 : decode cL_refusesAny 12 = .ok (.iload_n 1, 1) := by decide +kernel
theorem dL_refusesAny_13 : decode cL_refusesAny 13 = .ok (.iconst 2, 1) := by decide +kernel
theorem dL_refusesAny_14 : decode cL_refusesAny 14 = .ok (.irem, 1) := by decide +kernel
theorem dL_refusesAny_15 : decode cL_refusesAny 15 = .ok (.ifCond .ne 12, 3) := by decide +kernel
theorem dL_refusesAny_18 : decode cL_refusesAny 18 = .ok (.iconst (-1), 1) := by decide +kernel
theorem dL_refusesAny_19 : decode cL_refusesAny 19 = .ok (.iload_n 1, 1) := by decide +kernel
theorem dL_refusesAny_20 : decode cL_refusesAny 20 = .ok (.bipush 99, 2) := by decide +kernel
theorem dL_refusesAny_22 : decode cL_refusesAny 22 = .ok (.irem, 1) := by decide +kernel
theorem dL_refusesAny_23 : decode cL_refusesAny 23 = .ok (.isub, 1) := by decide +kernel
theorem dL_refusesAny_24 : decode cL_refusesAny 24 = .ok (.goto 9, 3) := by decide +kernel
theorem dL_refusesAny_27 : decode cL_refusesAny 27 = .ok (.iload_n 3, 1) := by decide +kernel
theorem dL_refusesAny_28 : decode cL_refusesAny 28 = .ok (.iload_n 1, 1) := by decide +kernel
theorem dL_refusesAny_29 : decode cL_refusesAny 29 = .ok (.bipush 99, 2) := by decide +kernel
theorem dL_refusesAny_31 : decode cL_refusesAny 31 = .ok (.irem, 1) := by decide +kernel
theorem dL_refusesAny_32 : decode cL_refusesAny 32 = .ok (.iadd, 1) := by decide +kernel
theorem dL_refusesAny_33 : decode cL_refusesAny 33 = .ok (.istore 4, 2) := by decide +kernel
theorem dL_refusesAny_35 : decode cL_refusesAny 35 = .ok (.iload_n 1, 1) := by decide +kernel
theorem dL_refusesAny_36 : decode cL_refusesAny 36 = .ok (.iconst 2, 1) := by decide +kernel
theorem dL_refusesAny_37 : decode cL_refusesAny 37 = .ok (.irem, 1) := by decide +kernel
theorem dL_refusesAny_38 : decode cL_refusesAny 38 = .ok (.ifCond .ne 11, 3) := by decide +kernel
theorem dL_refusesAny_41 : decode cL_refusesAny 41 = .ok (.iconst (-1), 1) := by decide +kernel
theorem dL_refusesAny_42 : decode cL_refusesAny 42 = .ok (.iload_n 1, 1) := by decide +kernel
theorem dL_refusesAny_43 : decode cL_refusesAny 43 = .ok (.iconst 5, 1) := by decide +kernel
theorem dL_refusesAny_44 : decode cL_refusesAny 44 = .ok (.irem, 1) := by decide +kernel
theorem dL_refusesAny_45 : decode cL_refusesAny 45 = .ok (.isub, 1) := by decide +kernel
theorem dL_refusesAny_46 : decode cL_refusesAny 46 = .ok (.goto 10, 3) := by decide +kernel
theorem dL_refusesAny_49 : decode cL_refusesAny 49 = .ok (.bipush 10, 2) := by decide +kernel
theorem dL_refusesAny_51 : decode cL_refusesAny 51 = .ok (.iload_n 1, 1) := by decide +kernel
theorem dL_refusesAny_52 : decode cL_refusesAny 52 = .ok (.bipush 99, 2) := by decide +kernel
theorem dL_refusesAny_54 : decode cL_refusesAny 54 = .ok (.irem, 1) := by decide +kernel
theorem dL_refusesAny_55 : decode cL_refusesAny 55 = .ok (.iadd, 1) := by decide +kernel
theorem dL_refusesAny_56 : decode cL_refusesAny 56 = .ok (.istore 5, 2) := by decide +kernel
theorem dL_refusesAny_58 : decode cL_refusesAny 58 = .ok (.iload_n 1, 1) := by decide +kernel
theorem dL_refusesAny_59 : decode cL_refusesAny 59 = .ok (.iconst 2, 1) := by decide +kernel
theorem dL_refusesAny_60 : decode cL_refusesAny 60 = .ok (.irem, 1) := by decide +kernel
theorem dL_refusesAny_61 : decode cL_refusesAny 61 = .ok (.ifCond .ne 12, 3) := by decide +kernel
theorem dL_refusesAny_64 : decode cL_refusesAny 64 = .ok (.iconst (-1), 1) := by decide +kernel
theorem dL_refusesAny_65 : decode cL_refusesAny 65 = .ok (.iload_n 1, 1) := by decide +kernel
theorem dL_refusesAny_66 : decode cL_refusesAny 66 = .ok (.bipush 99, 2) := by decide +kernel
theorem dL_refusesAny_68 : decode cL_refusesAny 68 = .ok (.irem, 1) := by decide +kernel
theorem dL_refusesAny_69 : decode cL_refusesAny 69 = .ok (.isub, 1) := by decide +kernel
theorem dL_refusesAny_70 : decode cL_refusesAny 70 = .ok (.goto 10, 3) := by decide +kernel
theorem dL_refusesAny_73 : decode cL_refusesAny 73 = .ok (.bipush 26, 2) := by decide +kernel
theorem dL_refusesAny_75 : decode cL_refusesAny 75 = .ok (.iload_n 1, 1) := by decide +kernel
theorem dL_refusesAny_76 : decode cL_refusesAny 76 = .ok (.bipush 99, 2) := by decide +kernel
theorem dL_refusesAny_78 : decode cL_refusesAny 78 = .ok (.irem, 1) := by decide +kernel
theorem dL_refusesAny_79 : decode cL_refusesAny 79 = .ok (.iadd, 1) := by decide +kernel
theorem dL_refusesAny_80 : decode cL_refusesAny 80 = .ok (.istore 6, 2) := by decide +kernel
theorem dL_refusesAny_82 : decode cL_refusesAny 82 = .ok (.iload_n 1, 1) := by decide +kernel
theorem dL_refusesAny_83 : decode cL_refusesAny 83 = .ok (.iconst 2, 1) := by decide +kernel
theorem dL_refusesAny_84 : decode cL_refusesAny 84 = .ok (.irem, 1) := by decide +kernel
theorem dL_refusesAny_85 : decode cL_refusesAny 85 = .ok (.ifCond .ne 12, 3) := by decide +kernel
theorem dL_refusesAny_88 : decode cL_refusesAny 88 = .ok (.iconst (-1), 1) := by decide +kernel
theorem dL_refusesAny_89 : decode cL_refusesAny 89 = .ok (.iload_n 1, 1) := by decide +kernel
theorem dL_refusesAny_90 : decode cL_refusesAny 90 = .ok (.bipush 99, 2) := by decide +kernel
theorem dL_refusesAny_92 : decode cL_refusesAny 92 = .ok (.irem, 1) := by decide +kernel
theorem dL_refusesAny_93 : decode cL_refusesAny 93 = .ok (.isub, 1) := by decide +kernel
theorem dL_refusesAny_94 : decode cL_refusesAny 94 = .ok (.goto 9, 3) := by decide +kernel
theorem dL_refusesAny_97 : decode cL_refusesAny 97 = .ok (.iload_n 2, 1) := by decide +kernel
theorem dL_refusesAny_98 : decode cL_refusesAny 98 = .ok (.iload_n 1, 1) := by decide +kernel
theorem dL_refusesAny_99 : decode cL_refusesAny 99 = .ok (.bipush 99, 2) := by decide +kernel
theorem dL_refusesAny_101 : decode cL_refusesAny 101 = .ok (.irem, 1) := by decide +kernel
theorem dL_refusesAny_102 : decode cL_refusesAny 102 = .ok (.iadd, 1) := by decide +kernel
theorem dL_refusesAny_103 : decode cL_refusesAny 103 = .ok (.istore 7, 2) := by decide +kernel
theorem dL_refusesAny_105 : decode cL_refusesAny 105 = .ok (.aload_n 0, 1) := by decide +kernel
theorem dL_refusesAny_106 : decode cL_refusesAny 106 = .ok (.iconst 2, 1) := by decide +kernel
theorem dL_refusesAny_107 : decode cL_refusesAny 107 = .ok (.iconst 1, 1) := by decide +kernel
theorem dL_refusesAny_108 : decode cL_refusesAny 108 = .ok (.invokevirtual 59, 3) := by decide +kernel
theorem dL_refusesAny_111 : decode cL_refusesAny 111 = .ok (.bipush (-2), 2) := by decide +kernel
theorem dL_refusesAny_113 : decode cL_refusesAny 113 = .ok (.if_icmp .ne 205, 3) := by decide +kernel
theorem dL_refusesAny_116 : decode cL_refusesAny 116 = .ok (.aload_n 0, 1) := by decide +kernel
theorem dL_refusesAny_117 : decode cL_refusesAny 117 = .ok (.iconst (-1), 1) := by decide +kernel
theorem dL_refusesAny_118 : decode cL_refusesAny 118 = .ok (.iconst 1, 1) := by decide +kernel
theorem dL_refusesAny_119 : decode cL_refusesAny 119 = .ok (.invokevirtual 59, 3) := by decide +kernel
theorem dL_refusesAny_122 : decode cL_refusesAny 122 = .ok (.bipush (-2), 2) := by decide +kernel
theorem dL_refusesAny_124 : decode cL_refusesAny 124 = .ok (.if_icmp .ne 194, 3) := by decide +kernel
theorem dL_refusesAny_127 : decode cL_refusesAny 127 = .ok (.aload_n 0, 1) := by decide +kernel
theorem dL_refusesAny_128 : decode cL_refusesAny 128 = .ok (.iconst 0, 1) := by decide +kernel
theorem dL_refusesAny_129 : decode cL_refusesAny 129 = .ok (.iconst 0, 1) := by decide +kernel
theorem dL_refusesAny_130 : decode cL_refusesAny 130 = .ok (.invokevirtual 59, 3) := by decide +kernel
theorem dL_refusesAny_133 : decode cL_refusesAny 133 = .ok (.bipush (-2), 2) := by decide +kernel
theorem dL_refusesAny_135 : decode cL_refusesAny 135 = .ok (.if_icmp .ne 183, 3) := by decide +kernel
theorem dL_refusesAny_138 : decode cL_refusesAny 138 = .ok (.aload_n 0, 1) := by decide +kernel
theorem dL_refusesAny_139 : decode cL_refusesAny 139 = .ok (.iconst 0, 1) := by decide +kernel
theorem dL_refusesAny_140 : decode cL_refusesAny 140 = .ok (.bipush 6, 2) := by decide +kernel
theorem dL_refusesAny_142 : decode cL_refusesAny 142 = .ok (.invokevirtual 59, 3) := by decide +kernel
theorem dL_refusesAny_145 : decode cL_refusesAny 145 = .ok (.bipush (-2), 2) := by decide +kernel
theorem dL_refusesAny_147 : decode cL_refusesAny 147 = .ok (.if_icmp .ne 171, 3) := by decide +kernel
theorem dL_refusesAny_150 : decode cL_refusesAny 150 = .ok (.aload_n 0, 1) := by decide +kernel
theorem dL_refusesAny_151 : decode cL_refusesAny 151 = .ok (.iconst 1, 1) := by decide +kernel
theorem dL_refusesAny_152 : decode cL_refusesAny 152 = .ok (.iconst 0, 1) := by decide +kernel
theorem dL_refusesAny_153 : decode cL_refusesAny 153 = .ok (.invokevirtual 59, 3) := by decide +kernel
theorem dL_refusesAny_156 : decode cL_refusesAny 156 = .ok (.bipush (-2), 2) := by decide +kernel
theorem dL_refusesAny_158 : decode cL_refusesAny 158 = .ok (.if_icmp .ne 160, 3) := by decide +kernel
theorem dL_refusesAny_161 : decode cL_refusesAny 161 = .ok (.aload_n 0, 1) := by decide +kernel
theorem dL_refusesAny_162 : decode cL_refusesAny 162 = .ok (.iconst 1, 1) := by decide +kernel
theorem dL_refusesAny_163 : decode cL_refusesAny 163 = .ok (.bipush 25, 2) := by decide +kernel
theorem dL_refusesAny_165 : decode cL_refusesAny 165 = .ok (.invokevirtual 59, 3) := by decide +kernel
theorem dL_refusesAny_168 : decode cL_refusesAny 168 = .ok (.bipush (-2), 2) := by decide +kernel
theorem dL_refusesAny_170 : decode cL_refusesAny 170 = .ok (.if_icmp .ne 148, 3) := by decide +kernel
theorem dL_refusesAny_173 : decode cL_refusesAny 173 = .ok (.aload_n 0, 1) := by decide +kernel
theorem dL_refusesAny_174 : decode cL_refusesAny 174 = .ok (.iload 7, 2) := by decide +kernel
theorem dL_refusesAny_176 : decode cL_refusesAny 176 = .ok (.invokevirtual 62, 3) := by decide +kernel
theorem dL_refusesAny_179 : decode cL_refusesAny 179 = .ok (.iconst (-1), 1) := by decide +kernel
theorem dL_refusesAny_180 : decode cL_refusesAny 180 = .ok (.if_icmp .ne 138, 3) := by decide +kernel
theorem dL_refusesAny_183 : decode cL_refusesAny 183 = .ok (.iload 4, 2) := by decide +kernel
theorem dL_refusesAny_185 : decode cL_refusesAny 185 = .ok (.bipush (-6), 2) := by decide +kernel
theorem dL_refusesAny_187 : decode cL_refusesAny 187 = .ok (.if_icmp .eq 13, 3) := by decide +kernel
theorem dL_refusesAny_190 : decode cL_refusesAny 190 = .ok (.aload_n 0, 1) := by decide +kernel
theorem dL_refusesAny_191 : decode cL_refusesAny 191 = .ok (.iload 4, 2) := by decide +kernel
theorem dL_refusesAny_193 : decode cL_refusesAny 193 = .ok (.invokevirtual 65, 3) := by decide +kernel
theorem dL_refusesAny_196 : decode cL_refusesAny 196 = .ok (.iconst (-1), 1) := by decide +kernel
theorem dL_refusesAny_197 : decode cL_refusesAny 197 = .ok (.if_icmp .ne 121, 3) := by decide +kernel
theorem dL_refusesAny_200 : decode cL_refusesAny 200 = .ok (.iload_n 3, 1) := by decide +kernel
theorem dL_refusesAny_201 : decode cL_refusesAny 201 = .ok (.iconst 4, 1) := by decide +kernel
theorem dL_refusesAny_202 : decode cL_refusesAny 202 = .ok (.if_icmp .lt 14, 3) := by decide +kernel
theorem dL_refusesAny_205 : decode cL_refusesAny 205 = .ok (.aload_n 0, 1) := by decide +kernel
theorem dL_refusesAny_206 : decode cL_refusesAny 206 = .ok (.bipush (-6), 2) := by decide +kernel
theorem dL_refusesAny_208 : decode cL_refusesAny 208 = .ok (.invokevirtual 65, 3) := by decide +kernel
theorem dL_refusesAny_211 : decode cL_refusesAny 211 = .ok (.bipush (-4), 2) := by decide +kernel
theorem dL_refusesAny_213 : decode cL_refusesAny 213 = .ok (.if_icmp .ne 105, 3) := by decide +kernel
theorem dL_refusesAny_216 : decode cL_refusesAny 216 = .ok (.aload_n 0, 1) := by decide +kernel
theorem dL_refusesAny_217 : decode cL_refusesAny 217 = .ok (.iload 4, 2) := by decide +kernel
theorem dL_refusesAny_219 : decode cL_refusesAny 219 = .ok (.iconst 0, 1) := by decide +kernel
theorem dL_refusesAny_220 : decode cL_refusesAny 220 = .ok (.iload 5, 2) := by decide +kernel
theorem dL_refusesAny_222 : decode cL_refusesAny 222 = .ok (.invokevirtual 68, 3) := by decide +kernel
theorem dL_refusesAny_225 : decode cL_refusesAny 225 = .ok (.iconst (-1), 1) := by decide +kernel
theorem dL_refusesAny_226 : decode cL_refusesAny 226 = .ok (.if_icmp .ne 92, 3) := by decide +kernel
theorem dL_refusesAny_229 : decode cL_refusesAny 229 = .ok (.aload_n 0, 1) := by decide +kernel
theorem dL_refusesAny_230 : decode cL_refusesAny 230 = .ok (.iconst 0, 1) := by decide +kernel
theorem dL_refusesAny_231 : decode cL_refusesAny 231 = .ok (.iload 6, 2) := by decide +kernel
theorem dL_refusesAny_233 : decode cL_refusesAny 233 = .ok (.iload 5, 2) := by decide +kernel
theorem dL_refusesAny_235 : decode cL_refusesAny 235 = .ok (.invokevirtual 68, 3) := by decide +kernel
theorem dL_refusesAny_238 : decode cL_refusesAny 238 = .ok (.iconst (-1), 1) := by decide +kernel
theorem dL_refusesAny_239 : decode cL_refusesAny 239 = .ok (.if_icmp .ne 79, 3) := by decide +kernel
theorem dL_refusesAny_242 : decode cL_refusesAny 242 = .ok (.aload_n 0, 1) := by decide +kernel
theorem dL_refusesAny_243 : decode cL_refusesAny 243 = .ok (.iconst 0, 1) := by decide +kernel
theorem dL_refusesAny_244 : decode cL_refusesAny 244 = .ok (.iconst 0, 1) := by decide +kernel
theorem dL_refusesAny_245 : decode cL_refusesAny 245 = .ok (.iload 5, 2) := by decide +kernel
theorem dL_refusesAny_247 : decode cL_refusesAny 247 = .ok (.invokevirtual 68, 3) := by decide +kernel
theorem dL_refusesAny_250 : decode cL_refusesAny 250 = .ok (.bipush (-2), 2) := by decide +kernel
theorem dL_refusesAny_252 : decode cL_refusesAny 252 = .ok (.if_icmp .ne 66, 3) := by decide +kernel
theorem dL_refusesAny_255 : decode cL_refusesAny 255 = .ok (.aload_n 0, 1) := by decide +kernel
theorem dL_refusesAny_256 : decode cL_refusesAny 256 = .ok (.iload 4, 2) := by decide +kernel
theorem dL_refusesAny_258 : decode cL_refusesAny 258 = .ok (.iconst 0, 1) := by decide +kernel
theorem dL_refusesAny_259 : decode cL_refusesAny 259 = .ok (.iload 5, 2) := by decide +kernel
theorem dL_refusesAny_261 : decode cL_refusesAny 261 = .ok (.invokevirtual 71, 3) := by decide +kernel
theorem dL_refusesAny_264 : decode cL_refusesAny 264 = .ok (.iconst (-1), 1) := by decide +kernel
theorem dL_refusesAny_265 : decode cL_refusesAny 265 = .ok (.if_icmp .ne 53, 3) := by decide +kernel
theorem dL_refusesAny_268 : decode cL_refusesAny 268 = .ok (.aload_n 0, 1) := by decide +kernel
theorem dL_refusesAny_269 : decode cL_refusesAny 269 = .ok (.iconst 0, 1) := by decide +kernel
theorem dL_refusesAny_270 : decode cL_refusesAny 270 = .ok (.iload 6, 2) := by decide +kernel
theorem dL_refusesAny_272 : decode cL_refusesAny 272 = .ok (.iload 5, 2) := by decide +kernel
theorem dL_refusesAny_274 : decode cL_refusesAny 274 = .ok (.invokevirtual 71, 3) := by decide +kernel
theorem dL_refusesAny_277 : decode cL_refusesAny 277 = .ok (.iconst (-1), 1) := by decide +kernel
theorem dL_refusesAny_278 : decode cL_refusesAny 278 = .ok (.if_icmp .ne 40, 3) := by decide +kernel
theorem dL_refusesAny_281 : decode cL_refusesAny 281 = .ok (.aload_n 0, 1) := by decide +kernel
theorem dL_refusesAny_282 : decode cL_refusesAny 282 = .ok (.iconst 0, 1) := by decide +kernel
theorem dL_refusesAny_283 : decode cL_refusesAny 283 = .ok (.iconst 0, 1) := by decide +kernel
theorem dL_refusesAny_284 : decode cL_refusesAny 284 = .ok (.iload 5, 2) := by decide +kernel
theorem dL_refusesAny_286 : decode cL_refusesAny 286 = .ok (.invokevirtual 71, 3) := by decide +kernel
theorem dL_refusesAny_289 : decode cL_refusesAny 289 = .ok (.bipush (-2), 2) := by decide +kernel
theorem dL_refusesAny_291 : decode cL_refusesAny 291 = .ok (.if_icmp .ne 27, 3) := by decide +kernel
theorem dL_refusesAny_294 : decode cL_refusesAny 294 = .ok (.aload_n 0, 1) := by decide +kernel
theorem dL_refusesAny_295 : decode cL_refusesAny 295 = .ok (.iconst 0, 1) := by decide +kernel
theorem dL_refusesAny_296 : decode cL_refusesAny 296 = .ok (.bipush 7, 2) := by decide +kernel
theorem dL_refusesAny_298 : decode cL_refusesAny 298 = .ok (.aload_n 0, 1) := by decide +kernel
theorem dL_refusesAny_299 : decode cL_refusesAny 299 = .ok (.iconst 0, 1) := by decide +kernel
theorem dL_refusesAny_300 : decode cL_refusesAny 300 = .ok (.bipush 7, 2) := by decide +kernel
theorem dL_refusesAny_302 : decode cL_refusesAny 302 = .ok (.iconst 0, 1) := by decide +kernel
theorem dL_refusesAny_303 : decode cL_refusesAny 303 = .ok (.invokevirtual 49, 3) := by decide +kernel
theorem dL_refusesAny_306 : decode cL_refusesAny 306 = .ok (.invokevirtual 71, 3) := by decide +kernel
theorem dL_refusesAny_309 : decode cL_refusesAny 309 = .ok (.bipush (-5), 2) := by decide +kernel
theorem dL_refusesAny_311 : decode cL_refusesAny 311 = .ok (.if_icmp .ne 7, 3) := by decide +kernel
theorem dL_refusesAny_314 : decode cL_refusesAny 314 = .ok (.iconst 1, 1) := by decide +kernel
theorem dL_refusesAny_315 : decode cL_refusesAny 315 = .ok (.goto 4, 3) := by decide +kernel
theorem dL_refusesAny_318 : decode cL_refusesAny 318 = .ok (.iconst 0, 1) := by decide +kernel
theorem dL_refusesAny_319 : decode cL_refusesAny 319 = .ok (.istore 8, 2) := by decide +kernel
theorem dL_refusesAny_321 : decode cL_refusesAny 321 = .ok (.iload 8, 2) := by decide +kernel
theorem dL_refusesAny_323 : decode cL_refusesAny 323 = .ok (.ifCond .eq 193, 3) := by decide +kernel
theorem dL_refusesAny_326 : decode cL_refusesAny 326 = .ok (.aload_n 0, 1) := by decide +kernel
theorem dL_refusesAny_327 : decode cL_refusesAny 327 = .ok (.iload 4, 2) := by decide +kernel
theorem dL_refusesAny_329 : decode cL_refusesAny 329 = .ok (.bipush 9, 2) := by decide +kernel
theorem dL_refusesAny_331 : decode cL_refusesAny 331 = .ok (.invokevirtual 74, 3) := by decide +kernel
theorem dL_refusesAny_334 : decode cL_refusesAny 334 = .ok (.iconst (-1), 1) := by decide +kernel
theorem dL_refusesAny_335 : decode cL_refusesAny 335 = .ok (.if_icmp .ne 181, 3) := by decide +kernel
theorem dL_refusesAny_338 : decode cL_refusesAny 338 = .ok (.aload_n 0, 1) := by decide +kernel
theorem dL_refusesAny_339 : decode cL_refusesAny 339 = .ok (.iconst 0, 1) := by decide +kernel
theorem dL_refusesAny_340 : decode cL_refusesAny 340 = .ok (.iload_n 1, 1) := by decide +kernel
theorem dL_refusesAny_341 : decode cL_refusesAny 341 = .ok (.iconst 2, 1) := by decide +kernel
theorem dL_refusesAny_342 : decode cL_refusesAny 342 = .ok (.irem, 1) := by decide +kernel
theorem dL_refusesAny_343 : decode cL_refusesAny 343 = .ok (.ifCond .ne 7, 3) := by decide +kernel
theorem dL_refusesAny_346 : decode cL_refusesAny 346 = .ok (.iconst (-1), 1) := by decide +kernel
theorem dL_refusesAny_347 : decode cL_refusesAny 347 = .ok (.goto 5, 3) := by decide +kernel
theorem dL_refusesAny_350 : decode cL_refusesAny 350 = .ok (.bipush 8, 2) := by decide +kernel
theorem dL_refusesAny_352 : decode cL_refusesAny 352 = .ok (.invokevirtual 74, 3) := by decide +kernel
theorem dL_refusesAny_355 : decode cL_refusesAny 355 = .ok (.bipush (-2), 2) := by decide +kernel
theorem dL_refusesAny_357 : decode cL_refusesAny 357 = .ok (.if_icmp .ne 159, 3) := by decide +kernel
theorem dL_refusesAny_360 : decode cL_refusesAny 360 = .ok (.aload_n 0, 1) := by decide +kernel
theorem dL_refusesAny_361 : decode cL_refusesAny 361 = .ok (.iload 4, 2) := by decide +kernel
theorem dL_refusesAny_363 : decode cL_refusesAny 363 = .ok (.iconst 3, 1) := by decide +kernel
theorem dL_refusesAny_364 : decode cL_refusesAny 364 = .ok (.iconst 3, 1) := by decide +kernel
theorem dL_refusesAny_365 : decode cL_refusesAny 365 = .ok (.invokevirtual 77, 3) := by decide +kernel
theorem dL_refusesAny_368 : decode cL_refusesAny 368 = .ok (.iconst (-1), 1) := by decide +kernel
theorem dL_refusesAny_369 : decode cL_refusesAny 369 = .ok (.if_icmp .ne 147, 3) := by decide +kernel
theorem dL_refusesAny_372 : decode cL_refusesAny 372 = .ok (.aload_n 0, 1) := by decide +kernel
theorem dL_refusesAny_373 : decode cL_refusesAny 373 = .ok (.iconst 0, 1) := by decide +kernel
theorem dL_refusesAny_374 : decode cL_refusesAny 374 = .ok (.iload 5, 2) := by decide +kernel
theorem dL_refusesAny_376 : decode cL_refusesAny 376 = .ok (.iconst 1, 1) := by decide +kernel
theorem dL_refusesAny_377 : decode cL_refusesAny 377 = .ok (.invokevirtual 77, 3) := by decide +kernel
theorem dL_refusesAny_380 : decode cL_refusesAny 380 = .ok (.bipush (-2), 2) := by decide +kernel
theorem dL_refusesAny_382 : decode cL_refusesAny 382 = .ok (.if_icmp .ne 134, 3) := by decide +kernel
theorem dL_refusesAny_385 : decode cL_refusesAny 385 = .ok (.aload_n 0, 1) := by decide +kernel
theorem dL_refusesAny_386 : decode cL_refusesAny 386 = .ok (.iconst 0, 1) := by decide +kernel
theorem dL_refusesAny_387 : decode cL_refusesAny 387 = .ok (.iconst 1, 1) := by decide +kernel
theorem dL_refusesAny_388 : decode cL_refusesAny 388 = .ok (.iload 5, 2) := by decide +kernel
theorem dL_refusesAny_390 : decode cL_refusesAny 390 = .ok (.invokevirtual 77, 3) := by decide +kernel
theorem dL_refusesAny_393 : decode cL_refusesAny 393 = .ok (.bipush (-2), 2) := by decide +kernel
theorem dL_refusesAny_395 : decode cL_refusesAny 395 = .ok (.if_icmp .ne 121, 3) := by decide +kernel
theorem dL_refusesAny_398 : decode cL_refusesAny 398 = .ok (.aload_n 0, 1) := by decide +kernel
theorem dL_refusesAny_399 : decode cL_refusesAny 399 = .ok (.iconst 0, 1) := by decide +kernel
theorem dL_refusesAny_400 : decode cL_refusesAny 400 = .ok (.iconst 4, 1) := by decide +kernel
theorem dL_refusesAny_401 : decode cL_refusesAny 401 = .ok (.iconst 4, 1) := by decide +kernel
theorem dL_refusesAny_402 : decode cL_refusesAny 402 = .ok (.invokevirtual 77, 3) := by decide +kernel
theorem dL_refusesAny_405 : decode cL_refusesAny 405 = .ok (.bipush (-2), 2) := by decide +kernel
theorem dL_refusesAny_407 : decode cL_refusesAny 407 = .ok (.if_icmp .ne 109, 3) := by decide +kernel
theorem dL_refusesAny_410 : decode cL_refusesAny 410 = .ok (.aload_n 0, 1) := by decide +kernel
theorem dL_refusesAny_411 : decode cL_refusesAny 411 = .ok (.iload 4, 2) := by decide +kernel
theorem dL_refusesAny_413 : decode cL_refusesAny 413 = .ok (.invokevirtual 80, 3) := by decide +kernel
theorem dL_refusesAny_416 : decode cL_refusesAny 416 = .ok (.iconst (-1), 1) := by decide +kernel
theorem dL_refusesAny_417 : decode cL_refusesAny 417 = .ok (.if_icmp .ne 99, 3) := by decide +kernel
theorem dL_refusesAny_420 : decode cL_refusesAny 420 = .ok (.aload_n 0, 1) := by decide +kernel
theorem dL_refusesAny_421 : decode cL_refusesAny 421 = .ok (.iconst 0, 1) := by decide +kernel
theorem dL_refusesAny_422 : decode cL_refusesAny 422 = .ok (.iconst 1, 1) := by decide +kernel
theorem dL_refusesAny_423 : decode cL_refusesAny 423 = .ok (.invokevirtual 53, 3) := by decide +kernel
theorem dL_refusesAny_426 : decode cL_refusesAny 426 = .ok (.ifCond .gt 13, 3) := by decide +kernel
theorem dL_refusesAny_429 : decode cL_refusesAny 429 = .ok (.aload_n 0, 1) := by decide +kernel
theorem dL_refusesAny_430 : decode cL_refusesAny 430 = .ok (.iconst 0, 1) := by decide +kernel
theorem dL_refusesAny_431 : decode cL_refusesAny 431 = .ok (.invokevirtual 80, 3) := by decide +kernel
theorem dL_refusesAny_434 : decode cL_refusesAny 434 = .ok (.bipush (-5), 2) := by decide +kernel
theorem dL_refusesAny_436 : decode cL_refusesAny 436 = .ok (.if_icmp .ne 80, 3) := by decide +kernel
theorem dL_refusesAny_439 : decode cL_refusesAny 439 = .ok (.aload_n 0, 1) := by decide +kernel
theorem dL_refusesAny_440 : decode cL_refusesAny 440 = .ok (.iload 4, 2) := by decide +kernel
theorem dL_refusesAny_442 : decode cL_refusesAny 442 = .ok (.iconst 0, 1) := by decide +kernel
theorem dL_refusesAny_443 : decode cL_refusesAny 443 = .ok (.bipush 9, 2) := by decide +kernel
theorem dL_refusesAny_445 : decode cL_refusesAny 445 = .ok (.invokevirtual 49, 3) := by decide +kernel
theorem dL_refusesAny_448 : decode cL_refusesAny 448 = .ok (.iconst (-1), 1) := by decide +kernel
theorem dL_refusesAny_449 : decode cL_refusesAny 449 = .ok (.if_icmp .ne 67, 3) := by decide +kernel
theorem dL_refusesAny_452 : decode cL_refusesAny 452 = .ok (.aload_n 0, 1) := by decide +kernel
theorem dL_refusesAny_453 : decode cL_refusesAny 453 = .ok (.iconst 0, 1) := by decide +kernel
theorem dL_refusesAny_454 : decode cL_refusesAny 454 = .ok (.iload 6, 2) := by decide +kernel
theorem dL_refusesAny_456 : decode cL_refusesAny 456 = .ok (.bipush 9, 2) := by decide +kernel
theorem dL_refusesAny_458 : decode cL_refusesAny 458 = .ok (.invokevirtual 49, 3) := by decide +kernel
theorem dL_refusesAny_461 : decode cL_refusesAny 461 = .ok (.iconst (-1), 1) := by decide +kernel
theorem dL_refusesAny_462 : decode cL_refusesAny 462 = .ok (.if_icmp .ne 54, 3) := by decide +kernel
theorem dL_refusesAny_465 : decode cL_refusesAny 465 = .ok (.aload_n 0, 1) := by decide +kernel
theorem dL_refusesAny_466 : decode cL_refusesAny 466 = .ok (.iconst 0, 1) := by decide +kernel
theorem dL_refusesAny_467 : decode cL_refusesAny 467 = .ok (.iconst 0, 1) := by decide +kernel
theorem dL_refusesAny_468 : decode cL_refusesAny 468 = .ok (.iconst 3, 1) := by decide +kernel
theorem dL_refusesAny_469 : decode cL_refusesAny 469 = .ok (.invokevirtual 49, 3) := by decide +kernel
theorem dL_refusesAny_472 : decode cL_refusesAny 472 = .ok (.bipush (-2), 2) := by decide +kernel
theorem dL_refusesAny_474 : decode cL_refusesAny 474 = .ok (.if_icmp .ne 42, 3) := by decide +kernel
theorem dL_refusesAny_477 : decode cL_refusesAny 477 = .ok (.aload_n 0, 1) := by decide +kernel
theorem dL_refusesAny_478 : decode cL_refusesAny 478 = .ok (.iload 4, 2) := by decide +kernel
theorem dL_refusesAny_480 : decode cL_refusesAny 480 = .ok (.bipush 9, 2) := by decide +kernel
theorem dL_refusesAny_482 : decode cL_refusesAny 482 = .ok (.invokevirtual 53, 3) := by decide +kernel
theorem dL_refusesAny_485 : decode cL_refusesAny 485 = .ok (.iconst (-1), 1) := by decide +kernel
theorem dL_refusesAny_486 : decode cL_refusesAny 486 = .ok (.if_icmp .ne 30, 3) := by decide +kernel
theorem dL_refusesAny_489 : decode cL_refusesAny 489 = .ok (.aload_n 0, 1) := by decide +kernel
theorem dL_refusesAny_490 : decode cL_refusesAny 490 = .ok (.iconst 0, 1) := by decide +kernel
theorem dL_refusesAny_491 : decode cL_refusesAny 491 = .ok (.bipush 8, 2) := by decide +kernel
theorem dL_refusesAny_493 : decode cL_refusesAny 493 = .ok (.invokevirtual 53, 3) := by decide +kernel
theorem dL_refusesAny_496 : decode cL_refusesAny 496 = .ok (.bipush (-2), 2) := by decide +kernel
theorem dL_refusesAny_498 : decode cL_refusesAny 498 = .ok (.if_icmp .ne 18, 3) := by decide +kernel
theorem dL_refusesAny_501 : decode cL_refusesAny 501 = .ok (.aload_n 0, 1) := by decide +kernel
theorem dL_refusesAny_502 : decode cL_refusesAny 502 = .ok (.iconst 0, 1) := by decide +kernel
theorem dL_refusesAny_503 : decode cL_refusesAny 503 = .ok (.iconst (-1), 1) := by decide +kernel
theorem dL_refusesAny_504 : decode cL_refusesAny 504 = .ok (.invokevirtual 53, 3) := by decide +kernel
theorem dL_refusesAny_507 : decode cL_refusesAny 507 = .ok (.bipush (-2), 2) := by decide +kernel
theorem dL_refusesAny_509 : decode cL_refusesAny 509 = .ok (.if_icmp .ne 7, 3) := by decide +kernel
theorem dL_refusesAny_512 : decode cL_refusesAny 512 = .ok (.iconst 1, 1) := by decide +kernel
theorem dL_refusesAny_513 : decode cL_refusesAny 513 = .ok (.goto 4, 3) := by decide +kernel
theorem dL_refusesAny_516 : decode cL_refusesAny 516 = .ok (.iconst 0, 1) := by decide +kernel
theorem dL_refusesAny_517 : decode cL_refusesAny 517 = .ok (.istore 8, 2) := by decide +kernel
theorem dL_refusesAny_519 : decode cL_refusesAny 519 = .ok (.iload 8, 2) := by decide +kernel
theorem dL_refusesAny_521 : decode cL_refusesAny 521 = .ok (.ifCond .eq 221, 3) := by decide +kernel
theorem dL_refusesAny_524 : decode cL_refusesAny 524 = .ok (.aload_n 0, 1) := by decide +kernel
theorem dL_refusesAny_525 : decode cL_refusesAny 525 = .ok (.iload 4, 2) := by decide +kernel
theorem dL_refusesAny_527 : decode cL_refusesAny 527 = .ok (.iconst 0, 1) := by decide +kernel
theorem dL_refusesAny_528 : decode cL_refusesAny 528 = .ok (.iconst 0, 1) := by decide +kernel
theorem dL_refusesAny_529 : decode cL_refusesAny 529 = .ok (.bipush 9, 2) := by decide +kernel
theorem dL_refusesAny_531 : decode cL_refusesAny 531 = .ok (.invokevirtual 83, 3) := by decide +kernel
theorem dL_refusesAny_534 : decode cL_refusesAny 534 = .ok (.iconst (-1), 1) := by decide +kernel
theorem dL_refusesAny_535 : decode cL_refusesAny 535 = .ok (.if_icmp .ne 207, 3) := by decide +kernel
theorem dL_refusesAny_538 : decode cL_refusesAny 538 = .ok (.aload_n 0, 1) := by decide +kernel
theorem dL_refusesAny_539 : decode cL_refusesAny 539 = .ok (.iconst 0, 1) := by decide +kernel
theorem dL_refusesAny_540 : decode cL_refusesAny 540 = .ok (.iload 7, 2) := by decide +kernel
theorem dL_refusesAny_542 : decode cL_refusesAny 542 = .ok (.iconst 0, 1) := by decide +kernel
theorem dL_refusesAny_543 : decode cL_refusesAny 543 = .ok (.bipush 9, 2) := by decide +kernel
theorem dL_refusesAny_545 : decode cL_refusesAny 545 = .ok (.invokevirtual 83, 3) := by decide +kernel
theorem dL_refusesAny_548 : decode cL_refusesAny 548 = .ok (.iconst (-1), 1) := by decide +kernel
theorem dL_refusesAny_549 : decode cL_refusesAny 549 = .ok (.if_icmp .ne 193, 3) := by decide +kernel
theorem dL_refusesAny_552 : decode cL_refusesAny 552 = .ok (.aload_n 0, 1) := by decide +kernel
theorem dL_refusesAny_553 : decode cL_refusesAny 553 = .ok (.iload 4, 2) := by decide +kernel
theorem dL_refusesAny_555 : decode cL_refusesAny 555 = .ok (.iconst 0, 1) := by decide +kernel
theorem dL_refusesAny_556 : decode cL_refusesAny 556 = .ok (.bipush 9, 2) := by decide +kernel
theorem dL_refusesAny_558 : decode cL_refusesAny 558 = .ok (.invokevirtual 87, 3) := by decide +kernel
theorem dL_refusesAny_561 : decode cL_refusesAny 561 = .ok (.iconst (-1), 1) := by decide +kernel
theorem dL_refusesAny_562 : decode cL_refusesAny 562 = .ok (.if_icmp .ne 180, 3) := by decide +kernel
theorem dL_refusesAny_565 : decode cL_refusesAny 565 = .ok (.aload_n 0, 1) := by decide +kernel
theorem dL_refusesAny_566 : decode cL_refusesAny 566 = .ok (.iconst 0, 1) := by decide +kernel
theorem dL_refusesAny_567 : decode cL_refusesAny 567 = .ok (.iconst (-1), 1) := by decide +kernel
theorem dL_refusesAny_568 : decode cL_refusesAny 568 = .ok (.bipush 9, 2) := by decide +kernel
theorem dL_refusesAny_570 : decode cL_refusesAny 570 = .ok (.invokevirtual 87, 3) := by decide +kernel
theorem dL_refusesAny_573 : decode cL_refusesAny 573 = .ok (.iconst (-1), 1) := by decide +kernel
theorem dL_refusesAny_574 : decode cL_refusesAny 574 = .ok (.if_icmp .ne 168, 3) := by decide +kernel
theorem dL_refusesAny_577 : decode cL_refusesAny 577 = .ok (.aload_n 0, 1) := by decide +kernel
theorem dL_refusesAny_578 : decode cL_refusesAny 578 = .ok (.iload_n 1, 1) := by decide +kernel
theorem dL_refusesAny_579 : decode cL_refusesAny 579 = .ok (.iconst 2, 1) := by decide +kernel
theorem dL_refusesAny_580 : decode cL_refusesAny 580 = .ok (.irem, 1) := by decide +kernel
theorem dL_refusesAny_581 : decode cL_refusesAny 581 = .ok (.ifCond .ne 7, 3) := by decide +kernel
theorem dL_refusesAny_584 : decode cL_refusesAny 584 = .ok (.iconst (-1), 1) := by decide +kernel
theorem dL_refusesAny_585 : decode cL_refusesAny 585 = .ok (.goto 5, 3) := by decide +kernel
theorem dL_refusesAny_588 : decode cL_refusesAny 588 = .ok (.bipush 7, 2) := by decide +kernel
theorem dL_refusesAny_590 : decode cL_refusesAny 590 = .ok (.invokevirtual 33, 3) := by decide +kernel
theorem dL_refusesAny_593 : decode cL_refusesAny 593 = .ok (.bipush (-2), 2) := by decide +kernel
theorem dL_refusesAny_595 : decode cL_refusesAny 595 = .ok (.if_icmp .ne 147, 3) := by decide +kernel
theorem dL_refusesAny_598 : decode cL_refusesAny 598 = .ok (.aload_n 0, 1) := by decide +kernel
theorem dL_refusesAny_599 : decode cL_refusesAny 599 = .ok (.iload 4, 2) := by decide +kernel
theorem dL_refusesAny_601 : decode cL_refusesAny 601 = .ok (.iconst 0, 1) := by decide +kernel
theorem dL_refusesAny_602 : decode cL_refusesAny 602 = .ok (.iconst 0, 1) := by decide +kernel
theorem dL_refusesAny_603 : decode cL_refusesAny 603 = .ok (.invokevirtual 90, 3) := by decide +kernel
theorem dL_refusesAny_606 : decode cL_refusesAny 606 = .ok (.iconst (-1), 1) := by decide +kernel
theorem dL_refusesAny_607 : decode cL_refusesAny 607 = .ok (.if_icmp .ne 135, 3) := by decide +kernel
theorem dL_refusesAny_610 : decode cL_refusesAny 610 = .ok (.aload_n 0, 1) := by decide +kernel
theorem dL_refusesAny_611 : decode cL_refusesAny 611 = .ok (.iconst 0, 1) := by decide +kernel
theorem dL_refusesAny_612 : decode cL_refusesAny 612 = .ok (.iload 7, 2) := by decide +kernel
theorem dL_refusesAny_614 : decode cL_refusesAny 614 = .ok (.iload 7, 2) := by decide +kernel
theorem dL_refusesAny_616 : decode cL_refusesAny 616 = .ok (.invokevirtual 90, 3) := by decide +kernel
theorem dL_refusesAny_619 : decode cL_refusesAny 619 = .ok (.iconst (-1), 1) := by decide +kernel
theorem dL_refusesAny_620 : decode cL_refusesAny 620 = .ok (.if_icmp .ne 122, 3) := by decide +kernel
theorem dL_refusesAny_623 : decode cL_refusesAny 623 = .ok (.aload_n 0, 1) := by decide +kernel
theorem dL_refusesAny_624 : decode cL_refusesAny 624 = .ok (.iload 4, 2) := by decide +kernel
theorem dL_refusesAny_626 : decode cL_refusesAny 626 = .ok (.iconst 1, 1) := by decide +kernel
theorem dL_refusesAny_627 : decode cL_refusesAny 627 = .ok (.iconst 1, 1) := by decide +kernel
theorem dL_refusesAny_628 : decode cL_refusesAny 628 = .ok (.bipush 9, 2) := by decide +kernel
theorem dL_refusesAny_630 : decode cL_refusesAny 630 = .ok (.invokevirtual 93, 3) := by decide +kernel
theorem dL_refusesAny_633 : decode cL_refusesAny 633 = .ok (.iconst (-1), 1) := by decide +kernel
theorem dL_refusesAny_634 : decode cL_refusesAny 634 = .ok (.if_icmp .ne 108, 3) := by decide +kernel
theorem dL_refusesAny_637 : decode cL_refusesAny 637 = .ok (.aload_n 0, 1) := by decide +kernel
theorem dL_refusesAny_638 : decode cL_refusesAny 638 = .ok (.iconst 0, 1) := by decide +kernel
theorem dL_refusesAny_639 : decode cL_refusesAny 639 = .ok (.iconst 1, 1) := by decide +kernel
theorem dL_refusesAny_640 : decode cL_refusesAny 640 = .ok (.iconst 2, 1) := by decide +kernel
theorem dL_refusesAny_641 : decode cL_refusesAny 641 = .ok (.iload_n 1, 1) := by decide +kernel
theorem dL_refusesAny_642 : decode cL_refusesAny 642 = .ok (.iconst 2, 1) := by decide +kernel
theorem dL_refusesAny_643 : decode cL_refusesAny 643 = .ok (.irem, 1) := by decide +kernel
theorem dL_refusesAny_644 : decode cL_refusesAny 644 = .ok (.ifCond .ne 7, 3) := by decide +kernel
theorem dL_refusesAny_647 : decode cL_refusesAny 647 = .ok (.iconst (-1), 1) := by decide +kernel
theorem dL_refusesAny_648 : decode cL_refusesAny 648 = .ok (.goto 4, 3) := by decide +kernel
theorem dL_refusesAny_651 : decode cL_refusesAny 651 = .ok (.iconst 2, 1) := by decide +kernel
theorem dL_refusesAny_652 : decode cL_refusesAny 652 = .ok (.invokevirtual 93, 3) := by decide +kernel
theorem dL_refusesAny_655 : decode cL_refusesAny 655 = .ok (.bipush (-2), 2) := by decide +kernel
theorem dL_refusesAny_657 : decode cL_refusesAny 657 = .ok (.if_icmp .ne 85, 3) := by decide +kernel
theorem dL_refusesAny_660 : decode cL_refusesAny 660 = .ok (.aload_n 0, 1) := by decide +kernel
theorem dL_refusesAny_661 : decode cL_refusesAny 661 = .ok (.iconst 0, 1) := by decide +kernel
theorem dL_refusesAny_662 : decode cL_refusesAny 662 = .ok (.iload 5, 2) := by decide +kernel
theorem dL_refusesAny_664 : decode cL_refusesAny 664 = .ok (.iconst 2, 1) := by decide +kernel
theorem dL_refusesAny_665 : decode cL_refusesAny 665 = .ok (.iconst 0, 1) := by decide +kernel
theorem dL_refusesAny_666 : decode cL_refusesAny 666 = .ok (.invokevirtual 93, 3) := by decide +kernel
theorem dL_refusesAny_669 : decode cL_refusesAny 669 = .ok (.bipush (-2), 2) := by decide +kernel
theorem dL_refusesAny_671 : decode cL_refusesAny 671 = .ok (.if_icmp .ne 71, 3) := by decide +kernel
theorem dL_refusesAny_674 : decode cL_refusesAny 674 = .ok (.aload_n 0, 1) := by decide +kernel
theorem dL_refusesAny_675 : decode cL_refusesAny 675 = .ok (.iload 4, 2) := by decide +kernel
theorem dL_refusesAny_677 : decode cL_refusesAny 677 = .ok (.bipush 9, 2) := by decide +kernel
theorem dL_refusesAny_679 : decode cL_refusesAny 679 = .ok (.invokevirtual 96, 3) := by decide +kernel
theorem dL_refusesAny_682 : decode cL_refusesAny 682 = .ok (.iconst (-1), 1) := by decide +kernel
theorem dL_refusesAny_683 : decode cL_refusesAny 683 = .ok (.if_icmp .ne 59, 3) := by decide +kernel
theorem dL_refusesAny_686 : decode cL_refusesAny 686 = .ok (.aload_n 0, 1) := by decide +kernel
theorem dL_refusesAny_687 : decode cL_refusesAny 687 = .ok (.iconst 0, 1) := by decide +kernel
theorem dL_refusesAny_688 : decode cL_refusesAny 688 = .ok (.iload_n 1, 1) := by decide +kernel
theorem dL_refusesAny_689 : decode cL_refusesAny 689 = .ok (.iconst 2, 1) := by decide +kernel
theorem dL_refusesAny_690 : decode cL_refusesAny 690 = .ok (.irem, 1) := by decide +kernel
theorem dL_refusesAny_691 : decode cL_refusesAny 691 = .ok (.ifCond .ne 7, 3) := by decide +kernel
theorem dL_refusesAny_694 : decode cL_refusesAny 694 = .ok (.iconst (-1), 1) := by decide +kernel
theorem dL_refusesAny_695 : decode cL_refusesAny 695 = .ok (.goto 4, 3) := by decide +kernel
theorem dL_refusesAny_698 : decode cL_refusesAny 698 = .ok (.iconst 3, 1) := by decide +kernel
theorem dL_refusesAny_699 : decode cL_refusesAny 699 = .ok (.invokevirtual 96, 3) := by decide +kernel
theorem dL_refusesAny_702 : decode cL_refusesAny 702 = .ok (.bipush (-2), 2) := by decide +kernel
theorem dL_refusesAny_704 : decode cL_refusesAny 704 = .ok (.if_icmp .ne 38, 3) := by decide +kernel
theorem dL_refusesAny_707 : decode cL_refusesAny 707 = .ok (.aload_n 0, 1) := by decide +kernel
theorem dL_refusesAny_708 : decode cL_refusesAny 708 = .ok (.iload 4, 2) := by decide +kernel
theorem dL_refusesAny_710 : decode cL_refusesAny 710 = .ok (.iconst 0, 1) := by decide +kernel
theorem dL_refusesAny_711 : decode cL_refusesAny 711 = .ok (.invokevirtual 99, 3) := by decide +kernel
theorem dL_refusesAny_714 : decode cL_refusesAny 714 = .ok (.iconst (-1), 1) := by decide +kernel
theorem dL_refusesAny_715 : decode cL_refusesAny 715 = .ok (.if_icmp .ne 27, 3) := by decide +kernel
theorem dL_refusesAny_718 : decode cL_refusesAny 718 = .ok (.aload_n 0, 1) := by decide +kernel
theorem dL_refusesAny_719 : decode cL_refusesAny 719 = .ok (.iconst 0, 1) := by decide +kernel
theorem dL_refusesAny_720 : decode cL_refusesAny 720 = .ok (.iload 4, 2) := by decide +kernel
theorem dL_refusesAny_722 : decode cL_refusesAny 722 = .ok (.invokevirtual 99, 3) := by decide +kernel
theorem dL_refusesAny_725 : decode cL_refusesAny 725 = .ok (.iconst (-1), 1) := by decide +kernel
theorem dL_refusesAny_726 : decode cL_refusesAny 726 = .ok (.if_icmp .ne 16, 3) := by decide +kernel
theorem dL_refusesAny_729 : decode cL_refusesAny 729 = .ok (.aload_n 0, 1) := by decide +kernel
theorem dL_refusesAny_730 : decode cL_refusesAny 730 = .ok (.iconst 0, 1) := by decide +kernel
theorem dL_refusesAny_731 : decode cL_refusesAny 731 = .ok (.iconst 0, 1) := by decide +kernel
theorem dL_refusesAny_732 : decode cL_refusesAny 732 = .ok (.invokevirtual 99, 3) := by decide +kernel
theorem dL_refusesAny_735 : decode cL_refusesAny 735 = .ok (.ifCond .ne 7, 3) := by decide +kernel
theorem dL_refusesAny_738 : decode cL_refusesAny 738 = .ok (.iconst 1, 1) := by decide +kernel
theorem dL_refusesAny_739 : decode cL_refusesAny 739 = .ok (.goto 4, 3) := by decide +kernel
theorem dL_refusesAny_742 : decode cL_refusesAny 742 = .ok (.iconst 0, 1) := by decide +kernel
theorem dL_refusesAny_743 : decode cL_refusesAny 743 = .ok (.istore 8, 2) := by decide +kernel
theorem dL_refusesAny_745 : decode cL_refusesAny 745 = .ok (.iload 8, 2) := by decide +kernel
theorem dL_refusesAny_747 : decode cL_refusesAny 747 = .ok (.ifCond .eq 85, 3) := by decide +kernel
theorem dL_refusesAny_750 : decode cL_refusesAny 750 = .ok (.aload_n 0, 1) := by decide +kernel
theorem dL_refusesAny_751 : decode cL_refusesAny 751 = .ok (.iconst 2, 1) := by decide +kernel
theorem dL_refusesAny_752 : decode cL_refusesAny 752 = .ok (.invokevirtual 102, 3) := by decide +kernel
theorem dL_refusesAny_755 : decode cL_refusesAny 755 = .ok (.bipush (-2), 2) := by decide +kernel
theorem dL_refusesAny_757 : decode cL_refusesAny 757 = .ok (.if_icmp .ne 75, 3) := by decide +kernel
theorem dL_refusesAny_760 : decode cL_refusesAny 760 = .ok (.aload_n 0, 1) := by decide +kernel
theorem dL_refusesAny_761 : decode cL_refusesAny 761 = .ok (.iconst (-1), 1) := by decide +kernel
theorem dL_refusesAny_762 : decode cL_refusesAny 762 = .ok (.invokevirtual 105, 3) := by decide +kernel
theorem dL_refusesAny_765 : decode cL_refusesAny 765 = .ok (.bipush (-2), 2) := by decide +kernel
theorem dL_refusesAny_767 : decode cL_refusesAny 767 = .ok (.if_icmp .ne 65, 3) := by decide +kernel
theorem dL_refusesAny_770 : decode cL_refusesAny 770 = .ok (.aload_n 0, 1) := by decide +kernel
theorem dL_refusesAny_771 : decode cL_refusesAny 771 = .ok (.lconst 0, 1) := by decide +kernel
theorem dL_refusesAny_772 : decode cL_refusesAny 772 = .ok (.invokevirtual 30, 3) := by decide +kernel
theorem dL_refusesAny_775 : decode cL_refusesAny 775 = .ok (.bipush (-2), 2) := by decide +kernel
theorem dL_refusesAny_777 : decode cL_refusesAny 777 = .ok (.if_icmp .ne 55, 3) := by decide +kernel
theorem dL_refusesAny_780 : decode cL_refusesAny 780 = .ok (.aload_n 0, 1) := by decide +kernel
theorem dL_refusesAny_781 : decode cL_refusesAny 781 = .ok (.ldc2_w 108, 3) := by decide +kernel
theorem dL_refusesAny_784 : decode cL_refusesAny 784 = .ok (.invokevirtual 30, 3) := by decide +kernel
theorem dL_refusesAny_787 : decode cL_refusesAny 787 = .ok (.bipush (-2), 2) := by decide +kernel
theorem dL_refusesAny_789 : decode cL_refusesAny 789 = .ok (.if_icmp .ne 43, 3) := by decide +kernel
theorem dL_refusesAny_792 : decode cL_refusesAny 792 = .ok (.aload_n 0, 1) := by decide +kernel
theorem dL_refusesAny_793 : decode cL_refusesAny 793 = .ok (.ldc2_w 110, 3) := by decide +kernel
theorem dL_refusesAny_796 : decode cL_refusesAny 796 = .ok (.invokevirtual 30, 3) := by decide +kernel
theorem dL_refusesAny_799 : decode cL_refusesAny 799 = .ok (.bipush (-2), 2) := by decide +kernel
theorem dL_refusesAny_801 : decode cL_refusesAny 801 = .ok (.if_icmp .ne 31, 3) := by decide +kernel
theorem dL_refusesAny_804 : decode cL_refusesAny 804 = .ok (.aload_n 0, 1) := by decide +kernel
theorem dL_refusesAny_805 : decode cL_refusesAny 805 = .ok (.ldc2_w 112, 3) := by decide +kernel
theorem dL_refusesAny_808 : decode cL_refusesAny 808 = .ok (.invokevirtual 30, 3) := by decide +kernel
theorem dL_refusesAny_811 : decode cL_refusesAny 811 = .ok (.bipush (-2), 2) := by decide +kernel
theorem dL_refusesAny_813 : decode cL_refusesAny 813 = .ok (.if_icmp .ne 19, 3) := by decide +kernel
theorem dL_refusesAny_816 : decode cL_refusesAny 816 = .ok (.aload_n 0, 1) := by decide +kernel
theorem dL_refusesAny_817 : decode cL_refusesAny 817 = .ok (.ldc2_w 114, 3) := by decide +kernel
theorem dL_refusesAny_820 : decode cL_refusesAny 820 = .ok (.invokevirtual 30, 3) := by decide +kernel
theorem dL_refusesAny_823 : decode cL_refusesAny 823 = .ok (.bipush (-2), 2) := by decide +kernel
theorem dL_refusesAny_825 : decode cL_refusesAny 825 = .ok (.if_icmp .ne 7, 3) := by decide +kernel
theorem dL_refusesAny_828 : decode cL_refusesAny 828 = .ok (.iconst 1, 1) := by decide +kernel
theorem dL_refusesAny_829 : decode cL_refusesAny 829 = .ok (.goto 4, 3) := by decide +kernel
theorem dL_refusesAny_832 : decode cL_refusesAny 832 = .ok (.iconst 0, 1) := by decide +kernel
theorem dL_refusesAny_833 : decode cL_refusesAny 833 = .ok (.ireturn, 1) := by decide +kernel
set_option maxHeartbeats 4000000 in
set_option maxRecDepth 100000 in
theorem ggL_refuses_L_seen : GoodIn wsL_refuses wsL_seen := goodIn_r _ [4, 5, 6, 7, 8, 9, 10, 11, 12, 13, 14, 15, 16, 17, 18, 19, 20, 21, 22, 23, 24, 25, 26, 27, 28, 29, 30, 31, 32, 33, 34, 35, 36, 37, 38, 39, 40, 41, 42, 43, 44, 45, 46, 47, 48, 49, 50, 51, 52, 53, 54, 55, 56, 57, 58, 59, 60, 61, 62, 63, 64, 65, 66, 67, 68, 69, 70, 71, 72, 73, 74, 75, 76, 77, 78, 79, 80, 81, 82, 83, 84, 85, 86, 87, 88, 89, 90, 91, 92, 93, 94, 95, 96, 97, 98, 99, 100, 101, 102, 103, 104, 105, 106, 107, 108, 109, 110, 111, 112, 113, 114, 115, 116, 117, 118, 119, 120, 121, 122, 123, 124, 125, 126, 127, 128, 129, 130, 131, 132, 133, 134, 135, 136, 137, 138, 139, 140, 141, 142, 143, 144, 145, 146, 147, 148, 149, 150, 151, 152, 153, 154, 155, 156, 157, 158, 159, 160, 161, 162, 163, 164, 165, 166, 167, 168, 169, 170, 171, 351, 352, 353, 354, 355, 356, 357, 358, 359, 360, 361, 362, 363, 364, 365, 366, 367, 368, 369, 370, 371, 372, 373, 374, 375, 376, 377, 378, 379, 380, 381, 382, 383] rfl (by decide +kernel)
set_option maxRecDepth 20000 in
theorem gL_refuses_L_seen : GoodIn wsL_refuses (va_wsS RL 116 yL_seen wsL_seen) := goodIn_app (goodIn_of _ (by decide +kernel)) ggL_refuses_L_seen
set_option maxHeartbeats 4000000 in
set_option maxRecDepth 100000 in
theorem ggL_refuses_X7_count : GoodIn wsL_refuses wsX7_count := goodIn_r _ [11, 12, 13, 14, 15, 16, 17, 18, 19, 20, 21, 22, 23, 24, 25, 26, 27, 28, 29, 30, 31, 32, 33, 34, 35, 36, 37, 351, 352, 353, 354, 355, 356, 357, 358, 359, 360, 361, 362, 363, 364, 365, 366, 367, 368] rfl (by decide +kernel)
set_option maxRecDepth 20000 in
theorem gL_refuses_X7_count : GoodIn wsL_refuses (wsV RL 33 RX7 yX7_count wsX7_count) := goodIn_app (goodIn_of _ (by decide +kernel)) ggL_refuses_X7_count
set_option maxHeartbeats 4000000 in
set_option maxRecDepth 100000 in
theorem ggL_refuses_L_refusesAny : GoodIn wsL_refuses wsL_refusesAny := goodIn_r _ [174, 175, 176, 177, 178, 7, 8, 9, 10, 11, 12, 13, 14, 15, 16, 17, 18, 19, 20, 21, 22, 23, 24, 25, 26, 27, 28, 29, 30, 31, 32, 33, 34, 35, 36, 37, 179, 180, 181, 182, 48, 49, 50, 183, 184, 185, 186, 187, 188, 189, 190, 191, 192, 193, 194, 195, 196, 197, 63, 64, 198, 199, 200, 71, 201, 73, 202, 104, 111, 203, 204, 205, 206, 207, 208, 209, 210, 211, 43, 44, 45, 46, 212, 213, 214, 215, 216, 217, 218, 219, 220, 59, 60, 61, 62, 221, 222, 223, 224, 225, 226, 227, 228, 229, 230, 57, 65, 66, 67, 231, 232, 233, 234, 235, 236, 237, 238, 239, 240, 241, 58, 53, 54, 55, 56, 68, 69, 70, 72, 242, 243, 244, 245, 79, 246, 247, 248, 249, 250, 251, 252, 253, 254, 255, 256, 257, 258, 259, 260, 261, 262, 263, 264, 265, 266, 134, 135, 136, 137, 138, 139, 267, 268, 269, 270, 80, 271, 272, 273, 274, 74, 75, 76, 77, 78, 81, 82, 83, 84, 85, 86, 87, 88, 89, 90, 91, 92, 93, 94, 95, 96, 97, 98, 99, 100, 101, 102, 103, 105, 106, 107, 108, 109, 110, 112, 113, 114, 115, 116, 117, 118, 119, 120, 121, 122, 123, 124, 125, 126, 127, 128, 129, 130, 131, 132, 133, 140, 141, 142, 143, 144, 145, 146, 147, 148, 149, 150, 151, 152, 153, 154, 155, 156, 157, 158, 159, 160, 161, 162, 163, 164, 165, 166, 167, 275, 276, 277, 278, 279, 280, 281, 282, 283, 284, 285, 286, 287, 288, 289, 290, 291, 292, 293, 294, 295, 296, 297, 298, 299, 300, 301, 302, 303, 304, 305, 306, 307, 308, 309, 310, 311, 312, 313, 314, 315, 316, 317, 318, 319, 320, 321, 322, 323, 324, 325, 326, 327, 328, 329, 330, 331, 332, 333, 334, 335, 336, 337, 338, 339, 340, 341, 342, 343, 344, 345, 346, 347, 348, 349, 350, 351, 352, 353, 354, 355, 356, 357, 358, 359, 360, 361, 362, 363, 364, 365, 366, 367, 368, 369, 370, 371, 372, 373, 374, 375, 376, 377, 378, 379, 380, 381, 382, 383] rfl (by decide +kernel)
set_option maxRecDepth 20000 in
theorem gL_refuses_L_refusesAny : GoodIn wsL_refuses (va_wsS RL 120 yL_refusesAny wsL_refusesAny) := goodIn_app (goodIn_of _ (by decide +kernel)) ggL_refuses_L_refusesAny
theorem dL_refuses_0 : decode cL_refuses 0 = .ok (.aload_n 0, 1) := by decide +kernel
theorem dL_refuses_1 : decode cL_refuses 1 = .ok (.invokestatic 116, 3) := by decide +kernel
theorem dL_refuses_4 : decode cL_refuses 4 = .ok (.lstore_n 2, 1) := by decide +kernel
theorem dL_refuses_5 : decode cL_refuses 5 = .ok (.aload_n 0, 1) := by decide +kernel
theorem dL_refuses_6 : decode cL_refuses 6 = .ok (.iconst 5, 1) := by decide +kernel
theorem dL_refuses_7 : decode cL_refuses 7 = .ok (.invokevirtual 33, 3) := by decide +kernel
theorem dL_refuses_10 : decode cL_refuses 10 = .ok (.istore 4, 2) := by decide +kernel
theorem dL_refuses_12 : decode cL_refuses 12 = .ok (.aload_n 0, 1) := by decide +kernel
theorem dL_refuses_13 : decode cL_refuses 13 = .ok (.iconst 4, 1) := by decide +kernel
theorem dL_refuses_14 : decode cL_refuses 14 = .ok (.invokevirtual 33, 3) := by decide +kernel
theorem dL_refuses_17 : decode cL_refuses 17 = .ok (.istore 5, 2) := by decide +kernel
theorem dL_refuses_19 : decode cL_refuses 19 = .ok (.aload_n 0, 1) := by decide +kernel
theorem dL_refuses_20 : decode cL_refuses 20 = .ok (.iload_n 1, 1) := by decide +kernel
theorem dL_refuses_21 : decode cL_refuses 21 = .ok (.invokestatic 120, 3) := by decide +kernel
theorem dL_refuses_24 : decode cL_refuses 24 = .ok (.ifCond .eq 36, 3) := by decide +kernel
theorem dL_refuses_27 : decode cL_refuses 27 = .ok (.aload_n 0, 1) := by decide +kernel
theorem dL_refuses_28 : decode cL_refuses 28 = .ok (.invokestatic 116, 3) := by decide +kernel
theorem dL_refuses_31 : decode cL_refuses 31 = .ok (.lload_n 2, 1) := by decide +kernel
theorem dL_refuses_32 : decode cL_refuses 32 = .ok (.lcmp, 1) := by decide +kernel
theorem dL_refuses_33 : decode cL_refuses 33 = .ok (.ifCond .ne 27, 3) := by decide +kernel
theorem dL_refuses_36 : decode cL_refuses 36 = .ok (.aload_n 0, 1) := by decide +kernel
theorem dL_refuses_37 : decode cL_refuses 37 = .ok (.iconst 5, 1) := by decide +kernel
theorem dL_refuses_38 : decode cL_refuses 38 = .ok (.invokevirtual 33, 3) := by decide +kernel
theorem dL_refuses_41 : decode cL_refuses 41 = .ok (.iload 4, 2) := by decide +kernel
theorem dL_refuses_43 : decode cL_refuses 43 = .ok (.if_icmp .ne 17, 3) := by decide +kernel
theorem dL_refuses_46 : decode cL_refuses 46 = .ok (.aload_n 0, 1) := by decide +kernel
theorem dL_refuses_47 : decode cL_refuses 47 = .ok (.iconst 4, 1) := by decide +kernel
theorem dL_refuses_48 : decode cL_refuses 48 = .ok (.invokevirtual 33, 3) := by decide +kernel
theorem dL_refuses_51 : decode cL_refuses 51 = .ok (.iload 5, 2) := by decide +kernel
theorem dL_refuses_53 : decode cL_refuses 53 = .ok (.if_icmp .ne 7, 3) := by decide +kernel
theorem dL_refuses_56 : decode cL_refuses 56 = .ok (.iconst 1, 1) := by decide +kernel
theorem dL_refuses_57 : decode cL_refuses 57 = .ok (.goto 4, 3) := by decide +kernel
theorem dL_refuses_60 : decode cL_refuses 60 = .ok (.iconst 0, 1) := by decide +kernel
theorem dL_refuses_61 : decode cL_refuses 61 = .ok (.ireturn, 1) := by decide +kernel
set_option maxHeartbeats 4000000 in
set_option maxRecDepth 100000 in
theorem ggL_faults_X7_wipe : GoodIn wsL_faults wsX7_wipe := goodIn_r _ [11, 12, 13, 199, 200, 201, 202, 203, 204, 205, 206, 207, 208, 209, 210] rfl (by decide +kernel)
set_option maxRecDepth 20000 in
theorem gL_faults_X7_wipe : GoodIn wsL_faults (wsV RL 11 RX7 yX7_wipe wsX7_wipe) := goodIn_app (goodIn_of _ (by decide +kernel)) ggL_faults_X7_wipe
set_option maxHeartbeats 4000000 in
set_option maxRecDepth 100000 in
theorem ggL_faults_X7_fault : GoodIn wsL_faults wsX7_fault := goodIn_r _ [17, 12, 18, 19, 20, 21, 22, 23, 24, 199, 200, 201, 202, 203, 204, 205, 206, 207, 208, 209, 210] rfl (by decide +kernel)
set_option maxRecDepth 20000 in
theorem gL_faults_X7_fault : GoodIn wsL_faults (wsV RL 23 RX7 yX7_fault wsX7_fault) := goodIn_app (goodIn_of _ (by decide +kernel)) ggL_faults_X7_fault
set_option maxHeartbeats 4000000 in
set_option maxRecDepth 100000 in
theorem ggL_faults_X7_add : GoodIn wsL_faults wsX7_add := goodIn_r _ [28, 12, 29, 30, 31, 32, 13, 18, 19, 20, 21, 22, 23, 24, 33, 34, 35, 36, 37, 38, 39, 40, 41, 42, 43, 44, 45, 46, 47, 48, 49, 50, 10, 51, 52, 53, 54, 55, 56, 57, 58, 59, 60, 61, 62, 63, 64, 65, 66, 67, 68, 69, 70, 71, 72, 73, 74, 75, 76, 77, 78, 79, 199, 200, 201, 202, 203, 204, 205, 206, 207, 208, 211, 212, 213, 214, 215, 216, 209, 210, 217, 218, 219, 220, 221, 222, 223, 224] rfl (by decide +kernel)
set_option maxRecDepth 20000 in
theorem gL_faults_X7_add : GoodIn wsL_faults (wsV RL 124 RX7 yX7_add wsX7_add) := goodIn_app (goodIn_of _ (by decide +kernel)) ggL_faults_X7_add
set_option maxHeartbeats 4000000 in
set_option maxRecDepth 100000 in
theorem ggL_faults_X7_find : GoodIn wsL_faults wsX7_find := goodIn_r _ [83, 12, 29, 84, 85, 32, 18, 19, 20, 21, 22, 23, 24, 86, 87, 88, 44, 89, 64, 65, 33, 34, 35, 36, 37, 38, 39, 40, 90, 91, 92, 93, 94, 95, 96, 97, 98, 99, 100, 101, 102, 103, 104, 105, 106, 69, 107, 108, 109, 110, 111, 73, 112, 113, 114, 115, 116, 117, 118, 119, 120, 121, 122, 74, 123, 124, 125, 126, 71, 127, 128, 129, 130, 131, 132, 133, 134, 135, 136, 137, 138, 139, 140, 141, 142, 143, 144, 145, 146, 147, 148, 149, 150, 151, 152, 153, 154, 155, 156, 157, 158, 159, 160, 161, 162, 163, 164, 165, 166, 167, 168, 169, 46, 170, 199, 200, 201, 202, 203, 204, 205, 206, 207, 208, 211, 212, 213, 214, 215, 216, 209, 210, 225, 226, 227, 228, 229, 230, 231, 217, 218, 219, 220, 221, 222, 223, 224, 232, 233] rfl (by decide +kernel)
set_option maxRecDepth 20000 in
theorem gL_faults_X7_find : GoodIn wsL_faults (wsV RL 127 RX7 yX7_find wsX7_find) := goodIn_app (goodIn_of _ (by decide +kernel)) ggL_faults_X7_find
set_option maxHeartbeats 4000000 in
set_option maxRecDepth 100000 in
theorem ggL_faults_X7_put : GoodIn wsL_faults wsX7_put := goodIn_r _ [174, 12, 13, 175, 176, 21, 177, 178, 179, 180, 181, 182, 183, 184, 23, 24, 199, 200, 201, 202, 203, 204, 205, 206, 207, 208, 209, 210] rfl (by decide +kernel)
set_option maxRecDepth 20000 in
theorem gL_faults_X7_put : GoodIn wsL_faults (wsV RL 30 RX7 yX7_put wsX7_put) := goodIn_app (goodIn_of _ (by decide +kernel)) ggL_faults_X7_put
set_option maxHeartbeats 4000000 in
set_option maxRecDepth 100000 in
theorem ggL_faults_X7_count : GoodIn wsL_faults wsX7_count := goodIn_r _ [188, 29, 30, 189, 190, 31, 12, 13, 52, 191, 192, 193, 44, 194, 46, 47, 195, 196, 39, 197, 198, 158, 159, 160, 113, 114, 115, 199, 200, 201, 202, 203, 204, 205, 206, 207, 208, 211, 212, 213, 214, 215, 216, 209, 210] rfl (by decide +kernel)
set_option maxRecDepth 20000 in
theorem gL_faults_X7_count : GoodIn wsL_faults (wsV RL 33 RX7 yX7_count wsX7_count) := goodIn_app (goodIn_of _ (by decide +kernel)) ggL_faults_X7_count
theorem dL_faults_0 : decode cL_faults 0 = .ok (.iload_n 1, 1) := by decide +kernel
theorem dL_faults_1 : decode cL_faults 1 = .ok (.bipush 10, 2) := by decide +kernel
theorem dL_faults_3 : decode cL_faults 3 = .ok (.irem, 1) := by decide +kernel
theorem dL_faults_4 : decode cL_faults 4 = .ok (.istore_n 2, 1) := by decide +kernel
theorem dL_faults_5 : decode cL_faults 5 = .ok (.aload_n 0, 1) := by decide +kernel
theorem dL_faults_6 : decode cL_faults 6 = .ok (.invokevirtual 11, 3) := by decide +kernel
theorem dL_faults_9 : decode cL_faults 9 = .ok (.ifCond .lt 37, 3) := by decide +kernel
theorem dL_faults_12 : decode cL_faults 12 = .ok (.aload_n 0, 1) := by decide +kernel
theorem dL_faults_13 : decode cL_faults 13 = .ok (.invokevirtual 23, 3) := by decide +kernel
theorem dL_faults_16 : decode cL_faults 16 = .ok (.ifCond .ne 30, 3) := by decide +kernel
theorem dL_faults_19 : decode cL_faults 19 = .ok (.aload_n 0, 1) := by decide +kernel
theorem dL_faults_20 : decode cL_faults 20 = .ok (.invokevirtual 124, 3) := by decide +kernel
theorem dL_faults_23 : decode cL_faults 23 = .ok (.bipush (-3), 2) := by decide +kernel
theorem dL_faults_25 : decode cL_faults 25 = .ok (.if_icmp .ne 21, 3) := by decide +kernel
theorem dL_faults_28 : decode cL_faults 28 = .ok (.aload_n 0, 1) := by decide +kernel
theorem dL_faults_29 : decode cL_faults 29 = .ok (.bipush 9, 2) := by decide +kernel
theorem dL_faults_31 : decode cL_faults 31 = .ok (.iconst 0, 1) := by decide +kernel
theorem dL_faults_32 : decode cL_faults 32 = .ok (.bipush 9, 2) := by decide +kernel
theorem dL_faults_34 : decode cL_faults 34 = .ok (.invokevirtual 127, 3) := by decide +kernel
theorem dL_faults_37 : decode cL_faults 37 = .ok (.bipush (-3), 2) := by decide +kernel
theorem dL_faults_39 : decode cL_faults 39 = .ok (.if_icmp .ne 7, 3) := by decide +kernel
theorem dL_faults_42 : decode cL_faults 42 = .ok (.iconst 1, 1) := by decide +kernel
theorem dL_faults_43 : decode cL_faults 43 = .ok (.goto 4, 3) := by decide +kernel
theorem dL_faults_46 : decode cL_faults 46 = .ok (.iconst 0, 1) := by decide +kernel
theorem dL_faults_47 : decode cL_faults 47 = .ok (.istore_n 3, 1) := by decide +kernel
theorem dL_faults_48 : decode cL_faults 48 = .ok (.iconst 0, 1) := by decide +kernel
theorem dL_faults_49 : decode cL_faults 49 = .ok (.istore 4, 2) := by decide +kernel
theorem dL_faults_51 : decode cL_faults 51 = .ok (.iload 4, 2) := by decide +kernel
theorem dL_faults_53 : decode cL_faults 53 = .ok (.iload_n 2, 1) := by decide +kernel
theorem dL_faults_54 : decode cL_faults 54 = .ok (.if_icmp .ge 41, 3) := by decide +kernel
