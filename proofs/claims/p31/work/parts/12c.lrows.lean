set_option maxRecDepth 20000 in
theorem ggL_refusesAny_X7_code : GoodIn wsL_refusesAny wsX7_code := goodIn_r _ [257, 10, 174, 91, 92, 93, 21, 94, 58, 59, 78, 79, 80, 81, 23, 176, 177, 178, 179, 180, 181, 182, 183, 184, 185, 186, 187, 188, 189, 190, 191, 192, 63, 193, 194, 195, 196, 197, 67, 198, 33, 27, 34, 35, 199, 107, 108, 200, 201, 202, 203, 68, 204, 205, 206, 207, 65, 208, 209, 210, 211, 212, 213, 214, 215, 216, 258, 239, 240, 241, 40, 41, 8, 42, 259, 243, 244, 245, 238, 260, 261, 262, 263, 264, 265, 266, 267, 268, 269, 270, 330, 331, 332, 333, 334, 335, 336, 337, 338, 339, 340, 341, 342, 343, 344, 345, 356, 357, 358, 359, 360, 361, 362, 348, 349, 350, 351, 352, 353, 354, 355] (by decide +kernel) (by decide +kernel)
set_option maxRecDepth 20000 in
theorem gL_refusesAny_X7_code : GoodIn wsL_refusesAny (wsV RL 83 RX7 yX7_code wsX7_code) := goodIn_app (goodIn_of _ (by decide +kernel)) ggL_refusesAny_X7_code
set_option maxRecDepth 20000 in
theorem ggL_refusesAny_X7_drawer : GoodIn wsL_refusesAny wsX7_drawer := goodIn_r _ [274, 10, 174, 175, 91, 92, 93, 21, 94, 58, 59, 176, 177, 178, 179, 180, 181, 182, 183, 184, 185, 186, 187, 188, 189, 190, 191, 192, 63, 193, 194, 195, 196, 197, 67, 198, 33, 27, 34, 35, 199, 107, 108, 200, 201, 202, 203, 68, 204, 205, 206, 207, 65, 208, 209, 210, 211, 212, 213, 214, 215, 216, 40, 41, 8, 42, 275, 247, 248, 249, 276, 277, 278, 279, 330, 331, 332, 333, 334, 335, 336, 337, 338, 339, 356, 357, 358, 359, 360, 361, 362, 340, 341, 342, 343, 344, 345, 348, 349, 350, 351, 352, 353, 354, 355] (by decide +kernel) (by decide +kernel)
set_option maxRecDepth 20000 in
theorem gL_refusesAny_X7_drawer : GoodIn wsL_refusesAny (wsV RL 87 RX7 yX7_drawer wsX7_drawer) := goodIn_app (goodIn_of _ (by decide +kernel)) ggL_refusesAny_X7_drawer
set_option maxRecDepth 20000 in
theorem ggL_refusesAny_X7_alike : GoodIn wsL_refusesAny wsX7_alike := goodIn_r _ [283, 10, 174, 91, 92, 93, 21, 94, 58, 59, 78, 79, 80, 81, 23, 176, 177, 178, 179, 180, 181, 182, 183, 184, 185, 186, 187, 188, 189, 190, 191, 192, 63, 193, 194, 195, 196, 197, 67, 198, 33, 27, 34, 35, 199, 107, 108, 200, 201, 202, 203, 68, 204, 205, 206, 207, 65, 208, 209, 210, 211, 212, 213, 214, 215, 216, 284, 235, 236, 237, 238, 239, 240, 241, 242, 243, 244, 245, 246, 247, 248, 249, 330, 331, 332, 333, 334, 335, 336, 337, 338, 339, 340, 341, 342, 343, 344, 345, 356, 357, 358, 359, 360, 361, 362, 348, 349, 350, 351, 352, 353, 354, 355] (by decide +kernel) (by decide +kernel)
set_option maxRecDepth 20000 in
theorem gL_refusesAny_X7_alike : GoodIn wsL_refusesAny (wsV RL 90 RX7 yX7_alike wsX7_alike) := goodIn_app (goodIn_of _ (by decide +kernel)) ggL_refusesAny_X7_alike
set_option maxRecDepth 20000 in
theorem ggL_refusesAny_X7_ifMerged : GoodIn wsL_refusesAny wsX7_ifMerged := goodIn_r _ [288, 10, 174, 175, 91, 92, 93, 21, 94, 58, 59, 138, 139, 8, 140, 109, 110, 111, 40, 41, 42, 289, 290, 291, 292, 293, 100, 61, 62, 63, 64, 65, 66, 55, 56, 57, 67, 68, 69, 70, 71, 72, 73, 141, 142, 143, 144, 145, 113, 114, 115, 146, 147, 148, 149, 150, 151, 152, 153, 176, 177, 178, 179, 180, 181, 182, 183, 184, 185, 186, 187, 188, 189, 190, 191, 192, 193, 194, 195, 196, 197, 198, 33, 27, 34, 35, 199, 107, 108, 200, 201, 202, 203, 204, 205, 206, 207, 208, 209, 210, 211, 212, 213, 214, 215, 216, 230, 231, 232, 233, 234, 235, 236, 237, 238, 239, 240, 241, 242, 243, 244, 245, 246, 247, 248, 249, 225, 155, 156, 157, 158, 159, 160, 330, 331, 332, 333, 334, 335, 336, 337, 338, 339, 356, 357, 358, 359, 360, 361, 362, 340, 341, 342, 343, 344, 345, 348, 349, 350, 351, 352, 353, 354, 355] (by decide +kernel) (by decide +kernel)
set_option maxRecDepth 20000 in
theorem gL_refusesAny_X7_ifMerged : GoodIn wsL_refusesAny (wsV RL 93 RX7 yX7_ifMerged wsX7_ifMerged) := goodIn_app (goodIn_of _ (by decide +kernel)) ggL_refusesAny_X7_ifMerged
set_option maxRecDepth 20000 in
theorem ggL_refusesAny_X7_bestMerger : GoodIn wsL_refusesAny wsX7_bestMerger := goodIn_r _ [297, 10, 174, 91, 92, 93, 21, 94, 58, 59, 40, 41, 8, 42, 125, 126, 127, 63, 128, 65, 289, 290, 291, 292, 293, 100, 61, 62, 64, 66, 55, 56, 57, 67, 68, 69, 70, 71, 72, 73, 141, 142, 143, 144, 145, 113, 114, 115, 146, 147, 148, 149, 150, 151, 152, 153, 176, 177, 178, 179, 180, 181, 182, 183, 184, 185, 186, 187, 188, 189, 190, 191, 192, 193, 194, 195, 196, 197, 198, 33, 27, 34, 35, 199, 107, 108, 200, 201, 202, 203, 204, 205, 206, 207, 208, 209, 210, 211, 212, 213, 214, 215, 216, 230, 231, 232, 233, 234, 235, 236, 237, 238, 239, 240, 241, 242, 243, 244, 245, 246, 247, 248, 249, 225, 155, 156, 157, 158, 159, 160, 330, 331, 332, 333, 334, 335, 336, 337, 338, 339, 340, 341, 342, 343, 344, 345, 348, 349, 350, 351, 352, 353, 354, 355, 356, 357, 358, 359, 360, 361, 362] (by decide +kernel) (by decide +kernel)
set_option maxRecDepth 20000 in
theorem gL_refusesAny_X7_bestMerger : GoodIn wsL_refusesAny (wsV RL 96 RX7 yX7_bestMerger wsX7_bestMerger) := goodIn_app (goodIn_of _ (by decide +kernel)) ggL_refusesAny_X7_bestMerger
set_option maxRecDepth 20000 in
theorem ggL_refusesAny_X7_quarrel : GoodIn wsL_refusesAny wsX7_quarrel := goodIn_r _ [301, 10, 174, 302, 11, 91, 92, 93, 21, 94, 58, 59, 176, 177, 178, 179, 180, 181, 182, 183, 184, 185, 186, 187, 188, 189, 190, 191, 192, 63, 193, 194, 195, 196, 197, 67, 198, 33, 27, 34, 35, 199, 107, 108, 200, 201, 202, 203, 68, 204, 205, 206, 207, 65, 208, 209, 210, 211, 212, 213, 214, 215, 216, 284, 235, 236, 237, 238, 239, 240, 241, 242, 243, 244, 245, 246, 247, 248, 249, 154, 155, 156, 157, 158, 159, 160, 330, 331, 332, 333, 334, 335, 336, 337, 338, 339, 340, 341, 342, 343, 344, 345, 356, 357, 358, 359, 360, 361, 362, 348, 349, 350, 351, 352, 353, 354, 355] (by decide +kernel) (by decide +kernel)
set_option maxRecDepth 20000 in
theorem gL_refusesAny_X7_quarrel : GoodIn wsL_refusesAny (wsV RL 99 RX7 yX7_quarrel wsX7_quarrel) := goodIn_app (goodIn_of _ (by decide +kernel)) ggL_refusesAny_X7_quarrel
set_option maxRecDepth 20000 in
theorem ggL_refusesAny_X7_save : GoodIn wsL_refusesAny wsX7_save := goodIn_r _ [306, 307, 10, 308, 11, 40, 41, 8, 42, 48, 49, 50, 21, 51, 52, 53, 23, 24, 54, 55, 56, 57, 58, 59, 60, 61, 62, 63, 64, 65, 66, 67, 68, 69, 70, 71, 72, 73, 330, 331, 332, 333, 334, 335, 336, 337, 338, 339, 340, 341, 342, 343, 344, 345, 348, 349, 350, 351, 352, 353, 354, 355] (by decide +kernel) (by decide +kernel)
set_option maxRecDepth 20000 in
theorem gL_refusesAny_X7_save : GoodIn wsL_refusesAny (wsV RL 102 RX7 yX7_save wsX7_save) := goodIn_app (goodIn_of _ (by decide +kernel)) ggL_refusesAny_X7_save
set_option maxRecDepth 20000 in
theorem ggL_refusesAny_X7_restore : GoodIn wsL_refusesAny wsX7_restore := goodIn_r _ [312, 308, 10, 307, 11, 40, 41, 8, 42, 43, 44, 45, 46, 17, 47, 48, 49, 50, 21, 51, 52, 53, 23, 24, 54, 55, 56, 57, 58, 59, 60, 61, 62, 63, 64, 65, 66, 67, 68, 69, 70, 71, 72, 73, 330, 331, 332, 333, 334, 335, 336, 337, 338, 339, 340, 341, 342, 343, 344, 345, 348, 349, 350, 351, 352, 353, 354, 355] (by decide +kernel) (by decide +kernel)
set_option maxRecDepth 20000 in
theorem gL_refusesAny_X7_restore : GoodIn wsL_refusesAny (wsV RL 105 RX7 yX7_restore wsX7_restore) := goodIn_app (goodIn_of _ (by decide +kernel)) ggL_refusesAny_X7_restore
set_option maxRecDepth 20000 in
theorem ggL_refusesAny_X7_put : GoodIn wsL_refusesAny wsX7_put := goodIn_r _ [316, 15, 16, 317, 318, 319, 320, 321, 322, 323, 324, 325, 326, 327, 328, 329, 330, 331, 332, 333, 334, 335, 336, 337, 338, 339, 346, 347] (by decide +kernel) (by decide +kernel)
set_option maxRecDepth 20000 in
theorem gL_refusesAny_X7_put : GoodIn wsL_refusesAny (wsV RL 30 RX7 yX7_put wsX7_put) := goodIn_app (goodIn_of _ (by decide +kernel)) ggL_refusesAny_X7_put
theorem dL_refusesAny_0 : decode cL_refusesAny 0 = .ok (.aload_n 0, 1) := by decide +kernel
theorem dL_refusesAny_1 : decode cL_refusesAny 1 = .ok (.iconst 0, 1) := by decide +kernel
theorem dL_refusesAny_2 : decode cL_refusesAny 2 = .ok (.invokevirtual 33, 3) := by decide +kernel
theorem dL_refusesAny_5 : decode cL_refusesAny 5 = .ok (.istore_n 2, 1) := by decide +kernel
theorem dL_refusesAny_6 : decode cL_refusesAny 6 = .ok (.aload_n 0, 1) := by decide +kernel
theorem dL_refusesAny_7 : decode cL_refusesAny 7 = .ok (.iconst 1, 1) := by decide +kernel
theorem dL_refusesAny_8 : decode cL_refusesAny 8 = .ok (.invokevirtual 33, 3) := by decide +kernel
theorem dL_refusesAny_11 : decode cL_refusesAny 11 = .ok (.istore_n 3, 1) := by decide +kernel
theorem dL_refusesAny_12 : decode cL_refusesAny 12 = .ok (.iload_n 1, 1) := by decide +kernel
theorem dL_refusesAny_13 : decode cL_refusesAny 13 = .ok (.iconst 2, 1) := by decide +kernel
theorem dL_refusesAny_14 : decode cL_refusesAny 14 = .ok (.irem, 1) := by decide +kernel
theorem dL_refusesAny_15 : decode cL_refusesAny 15 = .ok (.ifCond .ne 12, 3) := by decide +kernel
theorem dL_refusesAny_18 : decode cL_refusesAny 18 = .ok (.iconst (-1), 1) := by decide +kernel
theorem dL_refusesAny_19 : decode cL_refusesAny 19 = .ok (.iload_n 1, 1) := by decide +kernel
theorem dL_refusesAny_20 : decode cL_refusesAny 20 = .ok (.bipush 99, 2) := by decide +kernel
theorem dL_refusesAny_22 : decode cL_refusesAny 22 = .ok (.irem, 1) := by decide +kernel
theorem dL_refusesAny_23 : decode cL_refusesAny 23 = .ok (.isub, 1) := by decide +kernel
theorem dL_refusesAny_24 : decode cL_refusesAny 24 = .ok (.goto 9, 3) := by decide +kernel
theorem dL_refusesAny_27 : decode cL_refusesAny 27 = .ok (.iload_n 3, 1) := by decide +kernel
theorem dL_refusesAny_28 : decode cL_refusesAny 28 = .ok (.iload_n 1, 1) := by decide +kernel
theorem dL_refusesAny_29 : decode cL_refusesAny 29 = .ok (.bipush 99, 2) := by decide +kernel
theorem dL_refusesAny_31 : decode cL_refusesAny 31 = .ok (.irem, 1) := by decide +kernel
theorem dL_refusesAny_32 : decode cL_refusesAny 32 = .ok (.iadd, 1) := by decide +kernel
theorem dL_refusesAny_33 : decode cL_refusesAny 33 = .ok (.istore 4, 2) := by decide +kernel
theorem dL_refusesAny_35 : decode cL_refusesAny 35 = .ok (.iload_n 1, 1) := by decide +kernel
theorem dL_refusesAny_36 : decode cL_refusesAny 36 = .ok (.iconst 2, 1) := by decide +kernel
theorem dL_refusesAny_37 : decode cL_refusesAny 37 = .ok (.irem, 1) := by decide +kernel
theorem dL_refusesAny_38 : decode cL_refusesAny 38 = .ok (.ifCond .ne 11, 3) := by decide +kernel
theorem dL_refusesAny_41 : decode cL_refusesAny 41 = .ok (.iconst (-1), 1) := by decide +kernel
theorem dL_refusesAny_42 : decode cL_refusesAny 42 = .ok (.iload_n 1, 1) := by decide +kernel
theorem dL_refusesAny_43 : decode cL_refusesAny 43 = .ok (.iconst 5, 1) := by decide +kernel
theorem dL_refusesAny_44 : decode cL_refusesAny 44 = .ok (.irem, 1) := by decide +kernel
theorem dL_refusesAny_45 : decode cL_refusesAny 45 = .ok (.isub, 1) := by decide +kernel
theorem dL_refusesAny_46 : decode cL_refusesAny 46 = .ok (.goto 10, 3) := by decide +kernel
theorem dL_refusesAny_49 : decode cL_refusesAny 49 = .ok (.bipush 10, 2) := by decide +kernel
theorem dL_refusesAny_51 : decode cL_refusesAny 51 = .ok (.iload_n 1, 1) := by decide +kernel
theorem dL_refusesAny_52 : decode cL_refusesAny 52 = .ok (.bipush 99, 2) := by decide +kernel
theorem dL_refusesAny_54 : decode cL_refusesAny 54 = .ok (.irem, 1) := by decide +kernel
theorem dL_refusesAny_55 : decode cL_refusesAny 55 = .ok (.iadd, 1) := by decide +kernel
theorem dL_refusesAny_56 : decode cL_refusesAny 56 = .ok (.istore 5, 2) := by decide +kernel
theorem dL_refusesAny_58 : decode cL_refusesAny 58 = .ok (.iload_n 1, 1) := by decide +kernel
theorem dL_refusesAny_59 : decode cL_refusesAny 59 = .ok (.iconst 2, 1) := by decide +kernel
theorem dL_refusesAny_60 : decode cL_refusesAny 60 = .ok (.irem, 1) := by decide +kernel
theorem dL_refusesAny_61 : decode cL_refusesAny 61 = .ok (.ifCond .ne 12, 3) := by decide +kernel
theorem dL_refusesAny_64 : decode cL_refusesAny 64 = .ok (.iconst (-1), 1) := by decide +kernel
theorem dL_refusesAny_65 : decode cL_refusesAny 65 = .ok (.iload_n 1, 1) := by decide +kernel
theorem dL_refusesAny_66 : decode cL_refusesAny 66 = .ok (.bipush 99, 2) := by decide +kernel
theorem dL_refusesAny_68 : decode cL_refusesAny 68 = .ok (.irem, 1) := by decide +kernel
theorem dL_refusesAny_69 : decode cL_refusesAny 69 = .ok (.isub, 1) := by decide +kernel
theorem dL_refusesAny_70 : decode cL_refusesAny 70 = .ok (.goto 10, 3) := by decide +kernel
theorem dL_refusesAny_73 : decode cL_refusesAny 73 = .ok (.bipush 26, 2) := by decide +kernel
theorem dL_refusesAny_75 : decode cL_refusesAny 75 = .ok (.iload_n 1, 1) := by decide +kernel
theorem dL_refusesAny_76 : decode cL_refusesAny 76 = .ok (.bipush 99, 2) := by decide +kernel
theorem dL_refusesAny_78 : decode cL_refusesAny 78 = .ok (.irem, 1) := by decide +kernel
theorem dL_refusesAny_79 : decode cL_refusesAny 79 = .ok (.iadd, 1) := by decide +kernel
theorem dL_refusesAny_80 : decode cL_refusesAny 80 = .ok (.istore 6, 2) := by decide +kernel
theorem dL_refusesAny_82 : decode cL_refusesAny 82 = .ok (.iload_n 1, 1) := by decide +kernel
theorem dL_refusesAny_83 : decode cL_refusesAny 83 = .ok (.iconst 2, 1) := by decide +kernel
theorem dL_refusesAny_84 : decode cL_refusesAny 84 = .ok (.irem, 1) := by decide +kernel
theorem dL_refusesAny_85 : decode cL_refusesAny 85 = .ok (.ifCond .ne 12, 3) := by decide +kernel
theorem dL_refusesAny_88 : decode cL_refusesAny 88 = .ok (.iconst (-1), 1) := by decide +kernel
theorem dL_refusesAny_89 : decode cL_refusesAny 89 = .ok (.iload_n 1, 1) := by decide +kernel
theorem dL_refusesAny_90 : decode cL_refusesAny 90 = .ok (.bipush 99, 2) := by decide +kernel
theorem dL_refusesAny_92 : decode cL_refusesAny 92 = .ok (.irem, 1) := by decide +kernel
theorem dL_refusesAny_93 : decode cL_refusesAny 93 = .ok (.isub, 1) := by decide +kernel
theorem dL_refusesAny_94 : decode cL_refusesAny 94 = .ok (.goto 9, 3) := by decide +kernel
theorem dL_refusesAny_97 : decode cL_refusesAny 97 = .ok (.iload_n 2, 1) := by decide +kernel
theorem dL_refusesAny_98 : decode cL_refusesAny 98 = .ok (.iload_n 1, 1) := by decide +kernel
theorem dL_refusesAny_99 : decode cL_refusesAny 99 = .ok (.bipush 99, 2) := by decide +kernel
theorem dL_refusesAny_101 : decode cL_refusesAny 101 = .ok (.irem, 1) := by decide +kernel
theorem dL_refusesAny_102 : decode cL_refusesAny 102 = .ok (.iadd, 1) := by decide +kernel
theorem dL_refusesAny_103 : decode cL_refusesAny 103 = .ok (.istore 7, 2) := by decide +kernel
theorem dL_refusesAny_105 : decode cL_refusesAny 105 = .ok (.aload_n 0, 1) := by decide +kernel
theorem dL_refusesAny_106 : decode cL_refusesAny 106 = .ok (.iconst 2, 1) := by decide +kernel
theorem dL_refusesAny_107 : decode cL_refusesAny 107 = .ok (.iconst 1, 1) := by decide +kernel
theorem dL_refusesAny_108 : decode cL_refusesAny 108 = .ok (.invokevirtual 59, 3) := by decide +kernel
theorem dL_refusesAny_111 : decode cL_refusesAny 111 = .ok (.bipush (-2), 2) := by decide +kernel
theorem dL_refusesAny_113 : decode cL_refusesAny 113 = .ok (.if_icmp .ne 205, 3) := by decide +kernel
theorem dL_refusesAny_116 : decode cL_refusesAny 116 = .ok (.aload_n 0, 1) := by decide +kernel
theorem dL_refusesAny_117 : decode cL_refusesAny 117 = .ok (.iconst (-1), 1) := by decide +kernel
theorem dL_refusesAny_118 : decode cL_refusesAny 118 = .ok (.iconst 1, 1) := by decide +kernel
theorem dL_refusesAny_119 : decode cL_refusesAny 119 = .ok (.invokevirtual 59, 3) := by decide +kernel
theorem dL_refusesAny_122 : decode cL_refusesAny 122 = .ok (.bipush (-2), 2) := by decide +kernel
theorem dL_refusesAny_124 : decode cL_refusesAny 124 = .ok (.if_icmp .ne 194, 3) := by decide +kernel
theorem dL_refusesAny_127 : decode cL_refusesAny 127 = .ok (.aload_n 0, 1) := by decide +kernel
theorem dL_refusesAny_128 : decode cL_refusesAny 128 = .ok (.iconst 0, 1) := by decide +kernel
theorem dL_refusesAny_129 : decode cL_refusesAny 129 = .ok (.iconst 0, 1) := by decide +kernel
theorem dL_refusesAny_130 : decode cL_refusesAny 130 = .ok (.invokevirtual 59, 3) := by decide +kernel
theorem dL_refusesAny_133 : decode cL_refusesAny 133 = .ok (.bipush (-2), 2) := by decide +kernel
theorem dL_refusesAny_135 : decode cL_refusesAny 135 = .ok (.if_icmp .ne 183, 3) := by decide +kernel
theorem dL_refusesAny_138 : decode cL_refusesAny 138 = .ok (.aload_n 0, 1) := by decide +kernel
theorem dL_refusesAny_139 : decode cL_refusesAny 139 = .ok (.iconst 0, 1) := by decide +kernel
theorem dL_refusesAny_140 : decode cL_refusesAny 140 = .ok (.bipush 6, 2) := by decide +kernel
theorem dL_refusesAny_142 : decode cL_refusesAny 142 = .ok (.invokevirtual 59, 3) := by decide +kernel
theorem dL_refusesAny_145 : decode cL_refusesAny 145 = .ok (.bipush (-2), 2) := by decide +kernel
theorem dL_refusesAny_147 : decode cL_refusesAny 147 = .ok (.if_icmp .ne 171, 3) := by decide +kernel
theorem dL_refusesAny_150 : decode cL_refusesAny 150 = .ok (.aload_n 0, 1) := by decide +kernel
theorem dL_refusesAny_151 : decode cL_refusesAny 151 = .ok (.iconst 1, 1) := by decide +kernel
theorem dL_refusesAny_152 : decode cL_refusesAny 152 = .ok (.iconst 0, 1) := by decide +kernel
theorem dL_refusesAny_153 : decode cL_refusesAny 153 = .ok (.invokevirtual 59, 3) := by decide +kernel
theorem dL_refusesAny_156 : decode cL_refusesAny 156 = .ok (.bipush (-2), 2) := by decide +kernel
theorem dL_refusesAny_158 : decode cL_refusesAny 158 = .ok (.if_icmp .ne 160, 3) := by decide +kernel
theorem dL_refusesAny_161 : decode cL_refusesAny 161 = .ok (.aload_n 0, 1) := by decide +kernel
theorem dL_refusesAny_162 : decode cL_refusesAny 162 = .ok (.iconst 1, 1) := by decide +kernel
theorem dL_refusesAny_163 : decode cL_refusesAny 163 = .ok (.bipush 25, 2) := by decide +kernel
theorem dL_refusesAny_165 : decode cL_refusesAny 165 = .ok (.invokevirtual 59, 3) := by decide +kernel
theorem dL_refusesAny_168 : decode cL_refusesAny 168 = .ok (.bipush (-2), 2) := by decide +kernel
theorem dL_refusesAny_170 : decode cL_refusesAny 170 = .ok (.if_icmp .ne 148, 3) := by decide +kernel
theorem dL_refusesAny_173 : decode cL_refusesAny 173 = .ok (.aload_n 0, 1) := by decide +kernel
theorem dL_refusesAny_174 : decode cL_refusesAny 174 = .ok (.iload 7, 2) := by decide +kernel
theorem dL_refusesAny_176 : decode cL_refusesAny 176 = .ok (.invokevirtual 62, 3) := by decide +kernel
theorem dL_refusesAny_179 : decode cL_refusesAny 179 = .ok (.iconst (-1), 1) := by decide +kernel
theorem dL_refusesAny_180 : decode cL_refusesAny 180 = .ok (.if_icmp .ne 138, 3) := by decide +kernel
theorem dL_refusesAny_183 : decode cL_refusesAny 183 = .ok (.iload 4, 2) := by decide +kernel
theorem dL_refusesAny_185 : decode cL_refusesAny 185 = .ok (.bipush (-6), 2) := by decide +kernel
theorem dL_refusesAny_187 : decode cL_refusesAny 187 = .ok (.if_icmp .eq 13, 3) := by decide +kernel
theorem dL_refusesAny_190 : decode cL_refusesAny 190 = .ok (.aload_n 0, 1) := by decide +kernel
theorem dL_refusesAny_191 : decode cL_refusesAny 191 = .ok (.iload 4, 2) := by decide +kernel
theorem dL_refusesAny_193 : decode cL_refusesAny 193 = .ok (.invokevirtual 65, 3) := by decide +kernel
theorem dL_refusesAny_196 : decode cL_refusesAny 196 = .ok (.iconst (-1), 1) := by decide +kernel
theorem dL_refusesAny_197 : decode cL_refusesAny 197 = .ok (.if_icmp .ne 121, 3) := by decide +kernel
theorem dL_refusesAny_200 : decode cL_refusesAny 200 = .ok (.iload_n 3, 1) := by decide +kernel
theorem dL_refusesAny_201 : decode cL_refusesAny 201 = .ok (.iconst 4, 1) := by decide +kernel
theorem dL_refusesAny_202 : decode cL_refusesAny 202 = .ok (.if_icmp .lt 14, 3) := by decide +kernel
theorem dL_refusesAny_205 : decode cL_refusesAny 205 = .ok (.aload_n 0, 1) := by decide +kernel
theorem dL_refusesAny_206 : decode cL_refusesAny 206 = .ok (.bipush (-6), 2) := by decide +kernel
theorem dL_refusesAny_208 : decode cL_refusesAny 208 = .ok (.invokevirtual 65, 3) := by decide +kernel
theorem dL_refusesAny_211 : decode cL_refusesAny 211 = .ok (.bipush (-4), 2) := by decide +kernel
theorem dL_refusesAny_213 : decode cL_refusesAny 213 = .ok (.if_icmp .ne 105, 3) := by decide +kernel
theorem dL_refusesAny_216 : decode cL_refusesAny 216 = .ok (.aload_n 0, 1) := by decide +kernel
theorem dL_refusesAny_217 : decode cL_refusesAny 217 = .ok (.iload 4, 2) := by decide +kernel
theorem dL_refusesAny_219 : decode cL_refusesAny 219 = .ok (.iconst 0, 1) := by decide +kernel
theorem dL_refusesAny_220 : decode cL_refusesAny 220 = .ok (.iload 5, 2) := by decide +kernel
theorem dL_refusesAny_222 : decode cL_refusesAny 222 = .ok (.invokevirtual 68, 3) := by decide +kernel
theorem dL_refusesAny_225 : decode cL_refusesAny 225 = .ok (.iconst (-1), 1) := by decide +kernel
theorem dL_refusesAny_226 : decode cL_refusesAny 226 = .ok (.if_icmp .ne 92, 3) := by decide +kernel
theorem dL_refusesAny_229 : decode cL_refusesAny 229 = .ok (.aload_n 0, 1) := by decide +kernel
theorem dL_refusesAny_230 : decode cL_refusesAny 230 = .ok (.iconst 0, 1) := by decide +kernel
theorem dL_refusesAny_231 : decode cL_refusesAny 231 = .ok (.iload 6, 2) := by decide +kernel
theorem dL_refusesAny_233 : decode cL_refusesAny 233 = .ok (.iload 5, 2) := by decide +kernel
theorem dL_refusesAny_235 : decode cL_refusesAny 235 = .ok (.invokevirtual 68, 3) := by decide +kernel
theorem dL_refusesAny_238 : decode cL_refusesAny 238 = .ok (.iconst (-1), 1) := by decide +kernel
theorem dL_refusesAny_239 : decode cL_refusesAny 239 = .ok (.if_icmp .ne 79, 3) := by decide +kernel
theorem dL_refusesAny_242 : decode cL_refusesAny 242 = .ok (.aload_n 0, 1) := by decide +kernel
theorem dL_refusesAny_243 : decode cL_refusesAny 243 = .ok (.iconst 0, 1) := by decide +kernel
theorem dL_refusesAny_244 : decode cL_refusesAny 244 = .ok (.iconst 0, 1) := by decide +kernel
theorem dL_refusesAny_245 : decode cL_refusesAny 245 = .ok (.iload 5, 2) := by decide +kernel
theorem dL_refusesAny_247 : decode cL_refusesAny 247 = .ok (.invokevirtual 68, 3) := by decide +kernel
theorem dL_refusesAny_250 : decode cL_refusesAny 250 = .ok (.bipush (-2), 2) := by decide +kernel
theorem dL_refusesAny_252 : decode cL_refusesAny 252 = .ok (.if_icmp .ne 66, 3) := by decide +kernel
theorem dL_refusesAny_255 : decode cL_refusesAny 255 = .ok (.aload_n 0, 1) := by decide +kernel
theorem dL_refusesAny_256 : decode cL_refusesAny 256 = .ok (.iload 4, 2) := by decide +kernel
