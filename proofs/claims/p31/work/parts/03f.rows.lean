theorem dX7_name_0 : decode cX7_name 0 = .ok (.aload_n 0, 1) := by decide +kernel
theorem dX7_name_1 : decode cX7_name 1 = .ok (.getfield 10, 3) := by decide +kernel
theorem dX7_name_4 : decode cX7_name 4 = .ok (.iload_n 1, 1) := by decide +kernel
theorem dX7_name_5 : decode cX7_name 5 = .ok (.invokevirtual 97, 3) := by decide +kernel
theorem dX7_name_8 : decode cX7_name 8 = .ok (.ifCond .ne 5, 3) := by decide +kernel
theorem dX7_name_11 : decode cX7_name 11 = .ok (.iconst (-1), 1) := by decide +kernel
theorem dX7_name_12 : decode cX7_name 12 = .ok (.ireturn, 1) := by decide +kernel
theorem dX7_name_13 : decode cX7_name 13 = .ok (.aload_n 0, 1) := by decide +kernel
theorem dX7_name_14 : decode cX7_name 14 = .ok (.getfield 10, 3) := by decide +kernel
theorem dX7_name_17 : decode cX7_name 17 = .ok (.getfield 90, 3) := by decide +kernel
theorem dX7_name_20 : decode cX7_name 20 = .ok (.iload_n 1, 1) := by decide +kernel
theorem dX7_name_21 : decode cX7_name 21 = .ok (.laload, 1) := by decide +kernel
theorem dX7_name_22 : decode cX7_name 22 = .ok (.lstore_n 3, 1) := by decide +kernel
theorem dX7_name_23 : decode cX7_name 23 = .ok (.iload_n 2, 1) := by decide +kernel
theorem dX7_name_24 : decode cX7_name 24 = .ok (.ifCond .ne 8, 3) := by decide +kernel
theorem dX7_name_27 : decode cX7_name 27 = .ok (.lload_n 3, 1) := by decide +kernel
theorem dX7_name_28 : decode cX7_name 28 = .ok (.invokestatic 167, 3) := by decide +kernel
theorem dX7_name_31 : decode cX7_name 31 = .ok (.ireturn, 1) := by decide +kernel
theorem dX7_name_32 : decode cX7_name 32 = .ok (.iload_n 2, 1) := by decide +kernel
theorem dX7_name_33 : decode cX7_name 33 = .ok (.iconst 1, 1) := by decide +kernel
theorem dX7_name_34 : decode cX7_name 34 = .ok (.bipush 10, 2) := by decide +kernel
theorem dX7_name_36 : decode cX7_name 36 = .ok (.invokestatic 62, 3) := by decide +kernel
theorem dX7_name_39 : decode cX7_name 39 = .ok (.ifCond .eq 26, 3) := by decide +kernel
theorem dX7_name_42 : decode cX7_name 42 = .ok (.lload_n 3, 1) := by decide +kernel
theorem dX7_name_43 : decode cX7_name 43 = .ok (.iload_n 2, 1) := by decide +kernel
theorem dX7_name_44 : decode cX7_name 44 = .ok (.iconst 1, 1) := by decide +kernel
theorem dX7_name_45 : decode cX7_name 45 = .ok (.isub, 1) := by decide +kernel
theorem dX7_name_46 : decode cX7_name 46 = .ok (.invokestatic 170, 3) := by decide +kernel
theorem dX7_name_49 : decode cX7_name 49 = .ok (.istore 5, 2) := by decide +kernel
theorem dX7_name_51 : decode cX7_name 51 = .ok (.iload 5, 2) := by decide +kernel
theorem dX7_name_53 : decode cX7_name 53 = .ok (.iconst (-1), 1) := by decide +kernel
theorem dX7_name_54 : decode cX7_name 54 = .ok (.if_icmp .ne 8, 3) := by decide +kernel
theorem dX7_name_57 : decode cX7_name 57 = .ok (.bipush (-6), 2) := by decide +kernel
theorem dX7_name_59 : decode cX7_name 59 = .ok (.goto 5, 3) := by decide +kernel
theorem dX7_name_62 : decode cX7_name 62 = .ok (.iload 5, 2) := by decide +kernel
theorem dX7_name_64 : decode cX7_name 64 = .ok (.ireturn, 1) := by decide +kernel
theorem dX7_name_65 : decode cX7_name 65 = .ok (.iload_n 2, 1) := by decide +kernel
theorem dX7_name_66 : decode cX7_name 66 = .ok (.bipush 11, 2) := by decide +kernel
theorem dX7_name_68 : decode cX7_name 68 = .ok (.if_icmp .ne 8, 3) := by decide +kernel
theorem dX7_name_71 : decode cX7_name 71 = .ok (.lload_n 3, 1) := by decide +kernel
theorem dX7_name_72 : decode cX7_name 72 = .ok (.invokestatic 174, 3) := by decide +kernel
theorem dX7_name_75 : decode cX7_name 75 = .ok (.ireturn, 1) := by decide +kernel
theorem dX7_name_76 : decode cX7_name 76 = .ok (.bipush (-2), 2) := by decide +kernel
theorem dX7_name_78 : decode cX7_name 78 = .ok (.ireturn, 1) := by decide +kernel
set_option maxRecDepth 20000 in
theorem ggX7_of_X5_earAt : GoodIn wsX7_of wsX5_earAt := goodIn_r _ [8, 9, 10, 39, 40, 41, 42, 43, 44] (by decide +kernel) (by decide +kernel)
set_option maxRecDepth 20000 in
theorem gX7_of_X5_earAt : GoodIn wsX7_of (wsV RX7 105 RX5 yX5_earAt wsX5_earAt) := goodIn_app (goodIn_of _ (by decide +kernel)) ggX7_of_X5_earAt
set_option maxRecDepth 20000 in
theorem ggX7_of_X6_isLetter : GoodIn wsX7_of wsX6_isLetter := goodIn_r _ [14] (by decide +kernel) (by decide +kernel)
set_option maxRecDepth 20000 in
theorem gX7_of_X6_isLetter : GoodIn wsX7_of (va_wsS RX7 123 yX6_isLetter wsX6_isLetter) := goodIn_app (goodIn_of _ (by decide +kernel)) ggX7_of_X6_isLetter
set_option maxRecDepth 20000 in
theorem ggX7_of_X2_lettersOf : GoodIn wsX7_of wsX2_lettersOf := goodIn_r _ [19, 20, 31, 32, 33, 34, 35, 36, 37, 38] (by decide +kernel) (by decide +kernel)
set_option maxRecDepth 20000 in
theorem gX7_of_X2_lettersOf : GoodIn wsX7_of (wsV RX7 152 RX2 yX2_lettersOf wsX2_lettersOf) := goodIn_app (goodIn_of _ (by decide +kernel)) ggX7_of_X2_lettersOf
theorem dX7_of_0 : decode cX7_of 0 = .ok (.aload_n 0, 1) := by decide +kernel
theorem dX7_of_1 : decode cX7_of 1 = .ok (.getfield 10, 3) := by decide +kernel
theorem dX7_of_4 : decode cX7_of 4 = .ok (.iload_n 1, 1) := by decide +kernel
theorem dX7_of_5 : decode cX7_of 5 = .ok (.invokevirtual 105, 3) := by decide +kernel
theorem dX7_of_8 : decode cX7_of 8 = .ok (.astore 4, 2) := by decide +kernel
theorem dX7_of_10 : decode cX7_of 10 = .ok (.aload 4, 2) := by decide +kernel
theorem dX7_of_12 : decode cX7_of 12 = .ok (.ifnull 10, 3) := by decide +kernel
theorem dX7_of_15 : decode cX7_of 15 = .ok (.iload_n 2, 1) := by decide +kernel
theorem dX7_of_16 : decode cX7_of 16 = .ok (.invokestatic 123, 3) := by decide +kernel
theorem dX7_of_19 : decode cX7_of 19 = .ok (.ifCond .ne 5, 3) := by decide +kernel
theorem dX7_of_22 : decode cX7_of 22 = .ok (.iconst (-1), 1) := by decide +kernel
theorem dX7_of_23 : decode cX7_of 23 = .ok (.ireturn, 1) := by decide +kernel
theorem dX7_of_24 : decode cX7_of 24 = .ok (.iload_n 3, 1) := by decide +kernel
theorem dX7_of_25 : decode cX7_of 25 = .ok (.tableswitch 56 0 2 #[27, 35, 43], 27) := by decide +kernel
theorem dX7_of_52 : decode cX7_of 52 = .ok (.aload 4, 2) := by decide +kernel
theorem dX7_of_54 : decode cX7_of 54 = .ok (.getfield 131, 3) := by decide +kernel
theorem dX7_of_57 : decode cX7_of 57 = .ok (.iload_n 2, 1) := by decide +kernel
theorem dX7_of_58 : decode cX7_of 58 = .ok (.iaload, 1) := by decide +kernel
theorem dX7_of_59 : decode cX7_of 59 = .ok (.ireturn, 1) := by decide +kernel
theorem dX7_of_60 : decode cX7_of 60 = .ok (.aload 4, 2) := by decide +kernel
theorem dX7_of_62 : decode cX7_of 62 = .ok (.getfield 138, 3) := by decide +kernel
theorem dX7_of_65 : decode cX7_of 65 = .ok (.iload_n 2, 1) := by decide +kernel
theorem dX7_of_66 : decode cX7_of 66 = .ok (.iaload, 1) := by decide +kernel
theorem dX7_of_67 : decode cX7_of 67 = .ok (.ireturn, 1) := by decide +kernel
theorem dX7_of_68 : decode cX7_of 68 = .ok (.aload 4, 2) := by decide +kernel
theorem dX7_of_70 : decode cX7_of 70 = .ok (.aload 4, 2) := by decide +kernel
theorem dX7_of_72 : decode cX7_of 72 = .ok (.getfield 131, 3) := by decide +kernel
theorem dX7_of_75 : decode cX7_of 75 = .ok (.iload_n 2, 1) := by decide +kernel
theorem dX7_of_76 : decode cX7_of 76 = .ok (.iaload, 1) := by decide +kernel
theorem dX7_of_77 : decode cX7_of 77 = .ok (.invokevirtual 152, 3) := by decide +kernel
theorem dX7_of_80 : decode cX7_of 80 = .ok (.ireturn, 1) := by decide +kernel
theorem dX7_of_81 : decode cX7_of 81 = .ok (.bipush (-2), 2) := by decide +kernel
theorem dX7_of_83 : decode cX7_of 83 = .ok (.ireturn, 1) := by decide +kernel
set_option maxRecDepth 20000 in
theorem ggX7_ofEar_X5_earAt : GoodIn wsX7_ofEar wsX5_earAt := goodIn_r _ [10, 11, 12, 136, 137, 138, 139, 140, 141] (by decide +kernel) (by decide +kernel)
set_option maxRecDepth 20000 in
theorem gX7_ofEar_X5_earAt : GoodIn wsX7_ofEar (wsV RX7 105 RX5 yX5_earAt wsX5_earAt) := goodIn_app (goodIn_of _ (by decide +kernel)) ggX7_ofEar_X5_earAt
set_option maxRecDepth 20000 in
theorem ggX7_ofEar_X1_fill : GoodIn wsX7_ofEar wsX1_fill := goodIn_r _ [17, 18, 19, 20, 21, 22, 23, 24, 25, 26, 27, 28, 29, 30, 31, 32, 33, 34, 35, 36, 37, 38, 39, 40, 41, 42, 43, 44, 45, 46, 47, 48, 49, 50, 51, 52, 53, 54, 55, 56, 57, 58, 59, 60, 61, 16, 62, 63, 136, 137, 138, 139, 140, 141, 129, 130, 131, 132, 133, 134, 135, 121, 122, 123, 124, 125, 126, 127, 128] (by decide +kernel) (by decide +kernel)
set_option maxRecDepth 20000 in
theorem gX7_ofEar_X1_fill : GoodIn wsX7_ofEar (wsV RX7 177 RX1 yX1_fill wsX1_fill) := goodIn_app (goodIn_of _ (by decide +kernel)) ggX7_ofEar_X1_fill
set_option maxRecDepth 20000 in
theorem ggX7_ofEar_X1_namesInFullest : GoodIn wsX7_ofEar wsX1_namesInFullest := goodIn_r _ [67, 20, 25, 68, 69, 70, 71, 72, 73, 74, 75, 76, 77, 78, 129, 130, 131, 132, 133, 134, 135] (by decide +kernel) (by decide +kernel)
set_option maxRecDepth 20000 in
theorem gX7_ofEar_X1_namesInFullest : GoodIn wsX7_ofEar (wsV RX7 184 RX1 yX1_namesInFullest wsX1_namesInFullest) := goodIn_app (goodIn_of _ (by decide +kernel)) ggX7_ofEar_X1_namesInFullest
set_option maxRecDepth 20000 in
theorem ggX7_ofEar_X1_namesInSeveral : GoodIn wsX7_ofEar wsX1_namesInSeveral := goodIn_r _ [82, 19, 24, 129, 130, 131, 132, 133, 134, 135] (by decide +kernel) (by decide +kernel)
set_option maxRecDepth 20000 in
theorem gX7_ofEar_X1_namesInSeveral : GoodIn wsX7_ofEar (wsV RX7 187 RX1 yX1_namesInSeveral wsX1_namesInSeveral) := goodIn_app (goodIn_of _ (by decide +kernel)) ggX7_ofEar_X1_namesInSeveral
set_option maxRecDepth 20000 in
theorem ggX7_ofEar_X1_alikePairs : GoodIn wsX7_ofEar wsX1_alikePairs := goodIn_r _ [86, 19, 87, 88, 89, 16, 90, 91, 92, 93, 94, 24, 95, 96, 97, 98, 26, 99, 100, 101, 102, 20, 25, 72, 73, 74, 75, 76, 77, 78, 129, 130, 131, 132, 133, 134, 135] (by decide +kernel) (by decide +kernel)
set_option maxRecDepth 20000 in
theorem gX7_ofEar_X1_alikePairs : GoodIn wsX7_ofEar (wsV RX7 190 RX1 yX1_alikePairs wsX1_alikePairs) := goodIn_app (goodIn_of _ (by decide +kernel)) ggX7_ofEar_X1_alikePairs
set_option maxRecDepth 20000 in
theorem ggX7_ofEar_X2_lettersWithSecond : GoodIn wsX7_ofEar wsX2_lettersWithSecond := goodIn_r _ [106, 36, 121, 122, 123, 124, 125, 126, 127, 128] (by decide +kernel) (by decide +kernel)
set_option maxRecDepth 20000 in
theorem gX7_ofEar_X2_lettersWithSecond : GoodIn wsX7_ofEar (wsV RX7 193 RX2 yX2_lettersWithSecond wsX2_lettersWithSecond) := goodIn_app (goodIn_of _ (by decide +kernel)) ggX7_ofEar_X2_lettersWithSecond
set_option maxRecDepth 20000 in
theorem ggX7_ofEar_X2_lettersOf : GoodIn wsX7_ofEar wsX2_lettersOf := goodIn_r _ [110, 54, 121, 122, 123, 124, 125, 126, 127, 128] (by decide +kernel) (by decide +kernel)
set_option maxRecDepth 20000 in
theorem gX7_ofEar_X2_lettersOf : GoodIn wsX7_ofEar (wsV RX7 152 RX2 yX2_lettersOf wsX2_lettersOf) := goodIn_app (goodIn_of _ (by decide +kernel)) ggX7_ofEar_X2_lettersOf
theorem dX7_ofEar_0 : decode cX7_ofEar 0 = .ok (.aload_n 0, 1) := by decide +kernel
theorem dX7_ofEar_1 : decode cX7_ofEar 1 = .ok (.getfield 10, 3) := by decide +kernel
theorem dX7_ofEar_4 : decode cX7_ofEar 4 = .ok (.iload_n 1, 1) := by decide +kernel
theorem dX7_ofEar_5 : decode cX7_ofEar 5 = .ok (.invokevirtual 105, 3) := by decide +kernel
theorem dX7_ofEar_8 : decode cX7_ofEar 8 = .ok (.astore_n 3, 1) := by decide +kernel
theorem dX7_ofEar_9 : decode cX7_ofEar 9 = .ok (.aload_n 3, 1) := by decide +kernel
theorem dX7_ofEar_10 : decode cX7_ofEar 10 = .ok (.ifnonnull 5, 3) := by decide +kernel
theorem dX7_ofEar_13 : decode cX7_ofEar 13 = .ok (.iconst (-1), 1) := by decide +kernel
theorem dX7_ofEar_14 : decode cX7_ofEar 14 = .ok (.ireturn, 1) := by decide +kernel
theorem dX7_ofEar_15 : decode cX7_ofEar 15 = .ok (.aload_n 0, 1) := by decide +kernel
theorem dX7_ofEar_16 : decode cX7_ofEar 16 = .ok (.getfield 41, 3) := by decide +kernel
theorem dX7_ofEar_19 : decode cX7_ofEar 19 = .ok (.aload_n 0, 1) := by decide +kernel
theorem dX7_ofEar_20 : decode cX7_ofEar 20 = .ok (.getfield 10, 3) := by decide +kernel
theorem dX7_ofEar_23 : decode cX7_ofEar 23 = .ok (.aload_n 3, 1) := by decide +kernel
theorem dX7_ofEar_24 : decode cX7_ofEar 24 = .ok (.invokevirtual 177, 3) := by decide +kernel
theorem dX7_ofEar_27 : decode cX7_ofEar 27 = .ok (.iload_n 2, 1) := by decide +kernel
theorem dX7_ofEar_28 : decode cX7_ofEar 28 = .ok (.tableswitch 101 0 7 #[48, 53, 58, 66, 74, 82, 90, 95], 48) := by decide +kernel
theorem dX7_ofEar_76 : decode cX7_ofEar 76 = .ok (.aload_n 3, 1) := by decide +kernel
theorem dX7_ofEar_77 : decode cX7_ofEar 77 = .ok (.getfield 141, 3) := by decide +kernel
theorem dX7_ofEar_80 : decode cX7_ofEar 80 = .ok (.ireturn, 1) := by decide +kernel
theorem dX7_ofEar_81 : decode cX7_ofEar 81 = .ok (.aload_n 3, 1) := by decide +kernel
theorem dX7_ofEar_82 : decode cX7_ofEar 82 = .ok (.getfield 161, 3) := by decide +kernel
theorem dX7_ofEar_85 : decode cX7_ofEar 85 = .ok (.ireturn, 1) := by decide +kernel
theorem dX7_ofEar_86 : decode cX7_ofEar 86 = .ok (.aload_n 0, 1) := by decide +kernel
theorem dX7_ofEar_87 : decode cX7_ofEar 87 = .ok (.getfield 41, 3) := by decide +kernel
theorem dX7_ofEar_90 : decode cX7_ofEar 90 = .ok (.getfield 181, 3) := by decide +kernel
theorem dX7_ofEar_93 : decode cX7_ofEar 93 = .ok (.ireturn, 1) := by decide +kernel
theorem dX7_ofEar_94 : decode cX7_ofEar 94 = .ok (.aload_n 0, 1) := by decide +kernel
theorem dX7_ofEar_95 : decode cX7_ofEar 95 = .ok (.getfield 41, 3) := by decide +kernel
theorem dX7_ofEar_98 : decode cX7_ofEar 98 = .ok (.invokevirtual 184, 3) := by decide +kernel
theorem dX7_ofEar_101 : decode cX7_ofEar 101 = .ok (.ireturn, 1) := by decide +kernel
theorem dX7_ofEar_102 : decode cX7_ofEar 102 = .ok (.aload_n 0, 1) := by decide +kernel
theorem dX7_ofEar_103 : decode cX7_ofEar 103 = .ok (.getfield 41, 3) := by decide +kernel
theorem dX7_ofEar_106 : decode cX7_ofEar 106 = .ok (.invokevirtual 187, 3) := by decide +kernel
theorem dX7_ofEar_109 : decode cX7_ofEar 109 = .ok (.ireturn, 1) := by decide +kernel
theorem dX7_ofEar_110 : decode cX7_ofEar 110 = .ok (.aload_n 0, 1) := by decide +kernel
theorem dX7_ofEar_111 : decode cX7_ofEar 111 = .ok (.getfield 41, 3) := by decide +kernel
theorem dX7_ofEar_114 : decode cX7_ofEar 114 = .ok (.invokevirtual 190, 3) := by decide +kernel
theorem dX7_ofEar_117 : decode cX7_ofEar 117 = .ok (.ireturn, 1) := by decide +kernel
theorem dX7_ofEar_118 : decode cX7_ofEar 118 = .ok (.aload_n 3, 1) := by decide +kernel
theorem dX7_ofEar_119 : decode cX7_ofEar 119 = .ok (.invokevirtual 193, 3) := by decide +kernel
theorem dX7_ofEar_122 : decode cX7_ofEar 122 = .ok (.ireturn, 1) := by decide +kernel
theorem dX7_ofEar_123 : decode cX7_ofEar 123 = .ok (.aload_n 3, 1) := by decide +kernel
theorem dX7_ofEar_124 : decode cX7_ofEar 124 = .ok (.iconst 0, 1) := by decide +kernel
theorem dX7_ofEar_125 : decode cX7_ofEar 125 = .ok (.invokevirtual 152, 3) := by decide +kernel
theorem dX7_ofEar_128 : decode cX7_ofEar 128 = .ok (.ireturn, 1) := by decide +kernel
theorem dX7_ofEar_129 : decode cX7_ofEar 129 = .ok (.bipush (-2), 2) := by decide +kernel
theorem dX7_ofEar_131 : decode cX7_ofEar 131 = .ok (.ireturn, 1) := by decide +kernel
set_option maxRecDepth 20000 in
theorem ggX7_code_X5_earAt : GoodIn wsX7_code wsX5_earAt := goodIn_r _ [7, 8, 9, 100, 101, 102, 103, 104, 105] (by decide +kernel) (by decide +kernel)
set_option maxRecDepth 20000 in
theorem gX7_code_X5_earAt : GoodIn wsX7_code (wsV RX7 105 RX5 yX5_earAt wsX5_earAt) := goodIn_app (goodIn_of _ (by decide +kernel)) ggX7_code_X5_earAt
set_option maxRecDepth 20000 in
theorem ggX7_code_X5_hasName : GoodIn wsX7_code wsX5_hasName := goodIn_r _ [13, 14, 100, 101, 102, 103, 104, 105] (by decide +kernel) (by decide +kernel)
set_option maxRecDepth 20000 in
theorem gX7_code_X5_hasName : GoodIn wsX7_code (wsV RX7 97 RX5 yX5_hasName wsX5_hasName) := goodIn_app (goodIn_of _ (by decide +kernel)) ggX7_code_X5_hasName
set_option maxRecDepth 20000 in
theorem ggX7_code_X1_fill : GoodIn wsX7_code wsX1_fill := goodIn_r _ [19, 20, 21, 22, 23, 24, 25, 26, 27, 28, 29, 30, 31, 32, 33, 34, 35, 36, 37, 38, 39, 40, 41, 42, 43, 44, 45, 46, 47, 48, 49, 50, 51, 52, 53, 54, 55, 56, 57, 58, 59, 60, 61, 62, 63, 18, 64, 65, 100, 101, 102, 103, 104, 105, 106, 107, 108, 109, 110, 111, 112, 113, 114, 115, 116, 117, 118, 119, 120] (by decide +kernel) (by decide +kernel)
set_option maxRecDepth 20000 in
theorem gX7_code_X1_fill : GoodIn wsX7_code (wsV RX7 177 RX1 yX1_fill wsX1_fill) := goodIn_app (goodIn_of _ (by decide +kernel)) ggX7_code_X1_fill
set_option maxRecDepth 20000 in
theorem ggX7_code_X1_codesOf : GoodIn wsX7_code wsX1_codesOf := goodIn_r _ [69, 21, 26, 106, 107, 108, 109, 110, 111, 112] (by decide +kernel) (by decide +kernel)
set_option maxRecDepth 20000 in
theorem gX7_code_X1_codesOf : GoodIn wsX7_code (wsV RX7 196 RX1 yX1_codesOf wsX1_codesOf) := goodIn_app (goodIn_of _ (by decide +kernel)) ggX7_code_X1_codesOf
set_option maxRecDepth 20000 in
theorem ggX7_code_X7_isWithin : GoodIn wsX7_code wsX7_isWithin := goodIn_r _ [73] (by decide +kernel) (by decide +kernel)
set_option maxRecDepth 20000 in
theorem gX7_code_X7_isWithin : GoodIn wsX7_code (va_wsS RX7 62 yX7_isWithin wsX7_isWithin) := goodIn_app (goodIn_of _ (by decide +kernel)) ggX7_code_X7_isWithin
set_option maxRecDepth 20000 in
theorem ggX7_code_X1_drawerOf : GoodIn wsX7_code wsX1_drawerOf := goodIn_r _ [77, 28, 78, 67, 68, 18, 69, 21, 26, 106, 107, 108, 109, 110, 111, 112] (by decide +kernel) (by decide +kernel)
set_option maxRecDepth 20000 in
theorem gX7_code_X1_drawerOf : GoodIn wsX7_code (wsV RX7 199 RX1 yX1_drawerOf wsX1_drawerOf) := goodIn_app (goodIn_of _ (by decide +kernel)) ggX7_code_X1_drawerOf
set_option maxRecDepth 20000 in
theorem ggX7_code_X1_codeAt : GoodIn wsX7_code wsX1_codeAt := goodIn_r _ [82, 22, 65, 106, 107, 108, 109, 110, 111, 112] (by decide +kernel) (by decide +kernel)
set_option maxRecDepth 20000 in
theorem gX7_code_X1_codeAt : GoodIn wsX7_code (wsV RX7 203 RX1 yX1_codeAt wsX1_codeAt) := goodIn_app (goodIn_of _ (by decide +kernel)) ggX7_code_X1_codeAt
set_option maxRecDepth 20000 in
theorem ggX7_code_X0_size : GoodIn wsX7_code wsX0_size := goodIn_r _ [85] (by decide +kernel) (by decide +kernel)
set_option maxRecDepth 20000 in
theorem gX7_code_X0_size : GoodIn wsX7_code (va_wsS RX7 206 yX0_size wsX0_size) := goodIn_app (goodIn_of _ (by decide +kernel)) ggX7_code_X0_size
set_option maxRecDepth 20000 in
theorem ggX7_code_X0_numberAt : GoodIn wsX7_code wsX0_numberAt := goodIn_r _ [88, 89, 84, 59, 85] (by decide +kernel) (by decide +kernel)
set_option maxRecDepth 20000 in
theorem gX7_code_X0_numberAt : GoodIn wsX7_code (va_wsS RX7 210 yX0_numberAt wsX0_numberAt) := goodIn_app (goodIn_of _ (by decide +kernel)) ggX7_code_X0_numberAt
theorem dX7_code_0 : decode cX7_code 0 = .ok (.aload_n 0, 1) := by decide +kernel
theorem dX7_code_1 : decode cX7_code 1 = .ok (.getfield 10, 3) := by decide +kernel
theorem dX7_code_4 : decode cX7_code 4 = .ok (.iload_n 1, 1) := by decide +kernel
theorem dX7_code_5 : decode cX7_code 5 = .ok (.invokevirtual 105, 3) := by decide +kernel
theorem dX7_code_8 : decode cX7_code 8 = .ok (.astore 5, 2) := by decide +kernel
theorem dX7_code_10 : decode cX7_code 10 = .ok (.aload 5, 2) := by decide +kernel
theorem dX7_code_12 : decode cX7_code 12 = .ok (.ifnull 14, 3) := by decide +kernel
theorem dX7_code_15 : decode cX7_code 15 = .ok (.aload_n 0, 1) := by decide +kernel
theorem dX7_code_16 : decode cX7_code 16 = .ok (.getfield 10, 3) := by decide +kernel
theorem dX7_code_19 : decode cX7_code 19 = .ok (.iload_n 2, 1) := by decide +kernel
theorem dX7_code_20 : decode cX7_code 20 = .ok (.invokevirtual 97, 3) := by decide +kernel
theorem dX7_code_23 : decode cX7_code 23 = .ok (.ifCond .ne 5, 3) := by decide +kernel
theorem dX7_code_26 : decode cX7_code 26 = .ok (.iconst (-1), 1) := by decide +kernel
theorem dX7_code_27 : decode cX7_code 27 = .ok (.ireturn, 1) := by decide +kernel
theorem dX7_code_28 : decode cX7_code 28 = .ok (.aload_n 0, 1) := by decide +kernel
theorem dX7_code_29 : decode cX7_code 29 = .ok (.getfield 41, 3) := by decide +kernel
theorem dX7_code_32 : decode cX7_code 32 = .ok (.aload_n 0, 1) := by decide +kernel
theorem dX7_code_33 : decode cX7_code 33 = .ok (.getfield 10, 3) := by decide +kernel
theorem dX7_code_36 : decode cX7_code 36 = .ok (.aload 5, 2) := by decide +kernel
theorem dX7_code_38 : decode cX7_code 38 = .ok (.invokevirtual 177, 3) := by decide +kernel
theorem dX7_code_41 : decode cX7_code 41 = .ok (.iload_n 3, 1) := by decide +kernel
theorem dX7_code_42 : decode cX7_code 42 = .ok (.iconst 0, 1) := by decide +kernel
theorem dX7_code_43 : decode cX7_code 43 = .ok (.aload_n 0, 1) := by decide +kernel
theorem dX7_code_44 : decode cX7_code 44 = .ok (.getfield 41, 3) := by decide +kernel
theorem dX7_code_47 : decode cX7_code 47 = .ok (.iload_n 2, 1) := by decide +kernel
theorem dX7_code_48 : decode cX7_code 48 = .ok (.invokevirtual 196, 3) := by decide +kernel
theorem dX7_code_51 : decode cX7_code 51 = .ok (.iconst 1, 1) := by decide +kernel
theorem dX7_code_52 : decode cX7_code 52 = .ok (.isub, 1) := by decide +kernel
theorem dX7_code_53 : decode cX7_code 53 = .ok (.invokestatic 62, 3) := by decide +kernel
theorem dX7_code_56 : decode cX7_code 56 = .ok (.ifCond .ne 5, 3) := by decide +kernel
theorem dX7_code_59 : decode cX7_code 59 = .ok (.iconst (-1), 1) := by decide +kernel
theorem dX7_code_60 : decode cX7_code 60 = .ok (.ireturn, 1) := by decide +kernel
theorem dX7_code_61 : decode cX7_code 61 = .ok (.iload 4, 2) := by decide +kernel
theorem dX7_code_63 : decode cX7_code 63 = .ok (.iconst 0, 1) := by decide +kernel
theorem dX7_code_64 : decode cX7_code 64 = .ok (.bipush 6, 2) := by decide +kernel
theorem dX7_code_66 : decode cX7_code 66 = .ok (.invokestatic 62, 3) := by decide +kernel
theorem dX7_code_69 : decode cX7_code 69 = .ok (.ifCond .ne 6, 3) := by decide +kernel
theorem dX7_code_72 : decode cX7_code 72 = .ok (.bipush (-2), 2) := by decide +kernel
theorem dX7_code_74 : decode cX7_code 74 = .ok (.ireturn, 1) := by decide +kernel
theorem dX7_code_75 : decode cX7_code 75 = .ok (.aload_n 0, 1) := by decide +kernel
theorem dX7_code_76 : decode cX7_code 76 = .ok (.getfield 41, 3) := by decide +kernel
theorem dX7_code_79 : decode cX7_code 79 = .ok (.iload_n 2, 1) := by decide +kernel
theorem dX7_code_80 : decode cX7_code 80 = .ok (.iload_n 3, 1) := by decide +kernel
theorem dX7_code_81 : decode cX7_code 81 = .ok (.invokevirtual 199, 3) := by decide +kernel
theorem dX7_code_84 : decode cX7_code 84 = .ok (.istore 6, 2) := by decide +kernel
theorem dX7_code_86 : decode cX7_code 86 = .ok (.iload 4, 2) := by decide +kernel
theorem dX7_code_88 : decode cX7_code 88 = .ok (.bipush 6, 2) := by decide +kernel
theorem dX7_code_90 : decode cX7_code 90 = .ok (.if_icmp .ne 6, 3) := by decide +kernel
theorem dX7_code_93 : decode cX7_code 93 = .ok (.iload 6, 2) := by decide +kernel
theorem dX7_code_95 : decode cX7_code 95 = .ok (.ireturn, 1) := by decide +kernel
theorem dX7_code_96 : decode cX7_code 96 = .ok (.aload_n 0, 1) := by decide +kernel
theorem dX7_code_97 : decode cX7_code 97 = .ok (.getfield 41, 3) := by decide +kernel
theorem dX7_code_100 : decode cX7_code 100 = .ok (.iload 6, 2) := by decide +kernel
theorem dX7_code_102 : decode cX7_code 102 = .ok (.invokevirtual 203, 3) := by decide +kernel
theorem dX7_code_105 : decode cX7_code 105 = .ok (.istore 7, 2) := by decide +kernel
theorem dX7_code_107 : decode cX7_code 107 = .ok (.iload 7, 2) := by decide +kernel
theorem dX7_code_109 : decode cX7_code 109 = .ok (.invokestatic 206, 3) := by decide +kernel
theorem dX7_code_112 : decode cX7_code 112 = .ok (.istore 8, 2) := by decide +kernel
theorem dX7_code_114 : decode cX7_code 114 = .ok (.iload 4, 2) := by decide +kernel
theorem dX7_code_116 : decode cX7_code 116 = .ok (.iconst 5, 1) := by decide +kernel
theorem dX7_code_117 : decode cX7_code 117 = .ok (.if_icmp .ne 6, 3) := by decide +kernel
theorem dX7_code_120 : decode cX7_code 120 = .ok (.iload 8, 2) := by decide +kernel
theorem dX7_code_122 : decode cX7_code 122 = .ok (.ireturn, 1) := by decide +kernel
theorem dX7_code_123 : decode cX7_code 123 = .ok (.iload 4, 2) := by decide +kernel
theorem dX7_code_125 : decode cX7_code 125 = .ok (.iload 8, 2) := by decide +kernel
theorem dX7_code_127 : decode cX7_code 127 = .ok (.if_icmp .ge 13, 3) := by decide +kernel
theorem dX7_code_130 : decode cX7_code 130 = .ok (.iload 7, 2) := by decide +kernel
theorem dX7_code_132 : decode cX7_code 132 = .ok (.iload 4, 2) := by decide +kernel
theorem dX7_code_134 : decode cX7_code 134 = .ok (.invokestatic 210, 3) := by decide +kernel
theorem dX7_code_137 : decode cX7_code 137 = .ok (.goto 5, 3) := by decide +kernel
theorem dX7_code_140 : decode cX7_code 140 = .ok (.bipush (-6), 2) := by decide +kernel
theorem dX7_code_142 : decode cX7_code 142 = .ok (.ireturn, 1) := by decide +kernel
set_option maxRecDepth 20000 in
theorem ggX7_drawer_X5_earAt : GoodIn wsX7_drawer wsX5_earAt := goodIn_r _ [8, 9, 10, 91, 92, 93, 94, 95, 96] (by decide +kernel) (by decide +kernel)
set_option maxRecDepth 20000 in
theorem gX7_drawer_X5_earAt : GoodIn wsX7_drawer (wsV RX7 105 RX5 yX5_earAt wsX5_earAt) := goodIn_app (goodIn_of _ (by decide +kernel)) ggX7_drawer_X5_earAt
set_option maxRecDepth 20000 in
theorem ggX7_drawer_X1_fill : GoodIn wsX7_drawer wsX1_fill := goodIn_r _ [15, 16, 17, 18, 19, 20, 21, 22, 23, 24, 25, 26, 27, 28, 29, 30, 31, 32, 33, 34, 35, 36, 37, 38, 39, 40, 41, 42, 43, 44, 45, 46, 47, 48, 49, 50, 51, 52, 53, 54, 55, 56, 57, 58, 59, 14, 60, 61, 91, 92, 93, 94, 95, 96, 84, 85, 86, 87, 88, 89, 90, 97, 98, 99, 100, 101, 102, 103, 104] (by decide +kernel) (by decide +kernel)
set_option maxRecDepth 20000 in
theorem gX7_drawer_X1_fill : GoodIn wsX7_drawer (wsV RX7 177 RX1 yX1_fill wsX1_fill) := goodIn_app (goodIn_of _ (by decide +kernel)) ggX7_drawer_X1_fill
set_option maxRecDepth 20000 in
theorem ggX7_drawer_X7_isWithin : GoodIn wsX7_drawer wsX7_isWithin := goodIn_r _ [65] (by decide +kernel) (by decide +kernel)
set_option maxRecDepth 20000 in
theorem gX7_drawer_X7_isWithin : GoodIn wsX7_drawer (va_wsS RX7 62 yX7_isWithin wsX7_isWithin) := goodIn_app (goodIn_of _ (by decide +kernel)) ggX7_drawer_X7_isWithin
set_option maxRecDepth 20000 in
theorem ggX7_drawer_X1_namesAt : GoodIn wsX7_drawer wsX1_namesAt := goodIn_r _ [69, 18, 23, 84, 85, 86, 87, 88, 89, 90] (by decide +kernel) (by decide +kernel)
set_option maxRecDepth 20000 in
theorem gX7_drawer_X1_namesAt : GoodIn wsX7_drawer (wsV RX7 213 RX1 yX1_namesAt wsX1_namesAt) := goodIn_app (goodIn_of _ (by decide +kernel)) ggX7_drawer_X1_namesAt
set_option maxRecDepth 20000 in
theorem ggX7_drawer_X1_byCode : GoodIn wsX7_drawer wsX1_byCode := goodIn_r _ [73, 18, 61, 84, 85, 86, 87, 88, 89, 90] (by decide +kernel) (by decide +kernel)
set_option maxRecDepth 20000 in
theorem gX7_drawer_X1_byCode : GoodIn wsX7_drawer (wsV RX7 216 RX1 yX1_byCode wsX1_byCode) := goodIn_app (goodIn_of _ (by decide +kernel)) ggX7_drawer_X1_byCode
theorem dX7_drawer_0 : decode cX7_drawer 0 = .ok (.aload_n 0, 1) := by decide +kernel
theorem dX7_drawer_1 : decode cX7_drawer 1 = .ok (.getfield 10, 3) := by decide +kernel
theorem dX7_drawer_4 : decode cX7_drawer 4 = .ok (.iload_n 1, 1) := by decide +kernel
theorem dX7_drawer_5 : decode cX7_drawer 5 = .ok (.invokevirtual 105, 3) := by decide +kernel
theorem dX7_drawer_8 : decode cX7_drawer 8 = .ok (.astore 4, 2) := by decide +kernel
theorem dX7_drawer_10 : decode cX7_drawer 10 = .ok (.aload 4, 2) := by decide +kernel
theorem dX7_drawer_12 : decode cX7_drawer 12 = .ok (.ifnonnull 5, 3) := by decide +kernel
theorem dX7_drawer_15 : decode cX7_drawer 15 = .ok (.iconst (-1), 1) := by decide +kernel
theorem dX7_drawer_16 : decode cX7_drawer 16 = .ok (.ireturn, 1) := by decide +kernel
theorem dX7_drawer_17 : decode cX7_drawer 17 = .ok (.aload_n 0, 1) := by decide +kernel
theorem dX7_drawer_18 : decode cX7_drawer 18 = .ok (.getfield 41, 3) := by decide +kernel
theorem dX7_drawer_21 : decode cX7_drawer 21 = .ok (.aload_n 0, 1) := by decide +kernel
theorem dX7_drawer_22 : decode cX7_drawer 22 = .ok (.getfield 10, 3) := by decide +kernel
theorem dX7_drawer_25 : decode cX7_drawer 25 = .ok (.aload 4, 2) := by decide +kernel
theorem dX7_drawer_27 : decode cX7_drawer 27 = .ok (.invokevirtual 177, 3) := by decide +kernel
theorem dX7_drawer_30 : decode cX7_drawer 30 = .ok (.iload_n 2, 1) := by decide +kernel
theorem dX7_drawer_31 : decode cX7_drawer 31 = .ok (.iconst 0, 1) := by decide +kernel
theorem dX7_drawer_32 : decode cX7_drawer 32 = .ok (.aload_n 0, 1) := by decide +kernel
theorem dX7_drawer_33 : decode cX7_drawer 33 = .ok (.getfield 41, 3) := by decide +kernel
theorem dX7_drawer_36 : decode cX7_drawer 36 = .ok (.getfield 181, 3) := by decide +kernel
theorem dX7_drawer_39 : decode cX7_drawer 39 = .ok (.iconst 1, 1) := by decide +kernel
theorem dX7_drawer_40 : decode cX7_drawer 40 = .ok (.isub, 1) := by decide +kernel
theorem dX7_drawer_41 : decode cX7_drawer 41 = .ok (.invokestatic 62, 3) := by decide +kernel
theorem dX7_drawer_44 : decode cX7_drawer 44 = .ok (.ifCond .ne 5, 3) := by decide +kernel
theorem dX7_drawer_47 : decode cX7_drawer 47 = .ok (.iconst (-1), 1) := by decide +kernel
theorem dX7_drawer_48 : decode cX7_drawer 48 = .ok (.ireturn, 1) := by decide +kernel
theorem dX7_drawer_49 : decode cX7_drawer 49 = .ok (.iload_n 3, 1) := by decide +kernel
theorem dX7_drawer_50 : decode cX7_drawer 50 = .ok (.lookupswitch 51 #[(0, 26), (1, 35)], 26) := by decide +kernel
theorem dX7_drawer_76 : decode cX7_drawer 76 = .ok (.aload_n 0, 1) := by decide +kernel
theorem dX7_drawer_77 : decode cX7_drawer 77 = .ok (.getfield 41, 3) := by decide +kernel
theorem dX7_drawer_80 : decode cX7_drawer 80 = .ok (.iload_n 2, 1) := by decide +kernel
theorem dX7_drawer_81 : decode cX7_drawer 81 = .ok (.invokevirtual 213, 3) := by decide +kernel
theorem dX7_drawer_84 : decode cX7_drawer 84 = .ok (.ireturn, 1) := by decide +kernel
theorem dX7_drawer_85 : decode cX7_drawer 85 = .ok (.aload_n 0, 1) := by decide +kernel
theorem dX7_drawer_86 : decode cX7_drawer 86 = .ok (.getfield 41, 3) := by decide +kernel
theorem dX7_drawer_89 : decode cX7_drawer 89 = .ok (.aload_n 0, 1) := by decide +kernel
theorem dX7_drawer_90 : decode cX7_drawer 90 = .ok (.getfield 41, 3) := by decide +kernel
theorem dX7_drawer_93 : decode cX7_drawer 93 = .ok (.iload_n 2, 1) := by decide +kernel
theorem dX7_drawer_94 : decode cX7_drawer 94 = .ok (.invokevirtual 216, 3) := by decide +kernel
theorem dX7_drawer_97 : decode cX7_drawer 97 = .ok (.invokevirtual 213, 3) := by decide +kernel
theorem dX7_drawer_100 : decode cX7_drawer 100 = .ok (.ireturn, 1) := by decide +kernel
theorem dX7_drawer_101 : decode cX7_drawer 101 = .ok (.bipush (-2), 2) := by decide +kernel
theorem dX7_drawer_103 : decode cX7_drawer 103 = .ok (.ireturn, 1) := by decide +kernel
set_option maxRecDepth 20000 in
theorem ggX7_count_X5_lettersInNames : GoodIn wsX7_count wsX5_lettersInNames := goodIn_r _ [13, 14, 15, 16, 17, 18, 19, 20, 21, 22, 23, 24, 25, 26, 37, 38, 39, 40, 41, 42] (by decide +kernel) (by decide +kernel)
set_option maxRecDepth 20000 in
theorem gX7_count_X5_lettersInNames : GoodIn wsX7_count (wsV RX7 219 RX5 yX5_lettersInNames wsX5_lettersInNames) := goodIn_app (goodIn_of _ (by decide +kernel)) ggX7_count_X5_lettersInNames
theorem dX7_count_0 : decode cX7_count 0 = .ok (.iload_n 1, 1) := by decide +kernel
theorem dX7_count_1 : decode cX7_count 1 = .ok (.tableswitch 96 0 6 #[43, 51, 59, 67, 75, 83, 88], 43) := by decide +kernel
theorem dX7_count_44 : decode cX7_count 44 = .ok (.aload_n 0, 1) := by decide +kernel
theorem dX7_count_45 : decode cX7_count 45 = .ok (.getfield 10, 3) := by decide +kernel
theorem dX7_count_48 : decode cX7_count 48 = .ok (.getfield 87, 3) := by decide +kernel
theorem dX7_count_51 : decode cX7_count 51 = .ok (.ireturn, 1) := by decide +kernel
theorem dX7_count_52 : decode cX7_count 52 = .ok (.aload_n 0, 1) := by decide +kernel
theorem dX7_count_53 : decode cX7_count 53 = .ok (.getfield 10, 3) := by decide +kernel
theorem dX7_count_56 : decode cX7_count 56 = .ok (.getfield 109, 3) := by decide +kernel
theorem dX7_count_59 : decode cX7_count 59 = .ok (.ireturn, 1) := by decide +kernel
theorem dX7_count_60 : decode cX7_count 60 = .ok (.aload_n 0, 1) := by decide +kernel
theorem dX7_count_61 : decode cX7_count 61 = .ok (.getfield 10, 3) := by decide +kernel
theorem dX7_count_64 : decode cX7_count 64 = .ok (.getfield 66, 3) := by decide +kernel
theorem dX7_count_67 : decode cX7_count 67 = .ok (.ireturn, 1) := by decide +kernel
theorem dX7_count_68 : decode cX7_count 68 = .ok (.aload_n 0, 1) := by decide +kernel
theorem dX7_count_69 : decode cX7_count 69 = .ok (.getfield 10, 3) := by decide +kernel
theorem dX7_count_72 : decode cX7_count 72 = .ok (.getfield 72, 3) := by decide +kernel
theorem dX7_count_75 : decode cX7_count 75 = .ok (.ireturn, 1) := by decide +kernel
theorem dX7_count_76 : decode cX7_count 76 = .ok (.aload_n 0, 1) := by decide +kernel
theorem dX7_count_77 : decode cX7_count 77 = .ok (.getfield 34, 3) := by decide +kernel
theorem dX7_count_80 : decode cX7_count 80 = .ok (.getfield 94, 3) := by decide +kernel
theorem dX7_count_83 : decode cX7_count 83 = .ok (.ireturn, 1) := by decide +kernel
theorem dX7_count_84 : decode cX7_count 84 = .ok (.aload_n 0, 1) := by decide +kernel
theorem dX7_count_85 : decode cX7_count 85 = .ok (.getfield 20, 3) := by decide +kernel
theorem dX7_count_88 : decode cX7_count 88 = .ok (.ireturn, 1) := by decide +kernel
theorem dX7_count_89 : decode cX7_count 89 = .ok (.aload_n 0, 1) := by decide +kernel
theorem dX7_count_90 : decode cX7_count 90 = .ok (.getfield 10, 3) := by decide +kernel
theorem dX7_count_93 : decode cX7_count 93 = .ok (.invokevirtual 219, 3) := by decide +kernel
theorem dX7_count_96 : decode cX7_count 96 = .ok (.ireturn, 1) := by decide +kernel
theorem dX7_count_97 : decode cX7_count 97 = .ok (.bipush (-2), 2) := by decide +kernel
theorem dX7_count_99 : decode cX7_count 99 = .ok (.ireturn, 1) := by decide +kernel
set_option maxRecDepth 20000 in
theorem ggX7_alike_X5_earAt : GoodIn wsX7_alike wsX5_earAt := goodIn_r _ [7, 8, 9, 92, 93, 94, 95, 96, 97] (by decide +kernel) (by decide +kernel)
set_option maxRecDepth 20000 in
theorem gX7_alike_X5_earAt : GoodIn wsX7_alike (wsV RX7 105 RX5 yX5_earAt wsX5_earAt) := goodIn_app (goodIn_of _ (by decide +kernel)) ggX7_alike_X5_earAt
set_option maxRecDepth 20000 in
theorem ggX7_alike_X5_hasName : GoodIn wsX7_alike wsX5_hasName := goodIn_r _ [13, 14, 92, 93, 94, 95, 96, 97] (by decide +kernel) (by decide +kernel)
set_option maxRecDepth 20000 in
theorem gX7_alike_X5_hasName : GoodIn wsX7_alike (wsV RX7 97 RX5 yX5_hasName wsX5_hasName) := goodIn_app (goodIn_of _ (by decide +kernel)) ggX7_alike_X5_hasName
set_option maxRecDepth 20000 in
theorem ggX7_alike_X1_fill : GoodIn wsX7_alike wsX1_fill := goodIn_r _ [19, 20, 21, 22, 23, 24, 25, 26, 27, 28, 29, 30, 31, 32, 33, 34, 35, 36, 37, 38, 39, 40, 41, 42, 43, 44, 45, 46, 47, 48, 49, 50, 51, 52, 53, 54, 55, 56, 57, 58, 59, 60, 61, 62, 63, 18, 64, 65, 92, 93, 94, 95, 96, 97, 98, 99, 100, 101, 102, 103, 104, 105, 106, 107, 108, 109, 110, 111, 112] (by decide +kernel) (by decide +kernel)
set_option maxRecDepth 20000 in
theorem gX7_alike_X1_fill : GoodIn wsX7_alike (wsV RX7 177 RX1 yX1_fill wsX1_fill) := goodIn_app (goodIn_of _ (by decide +kernel)) ggX7_alike_X1_fill
set_option maxRecDepth 20000 in
theorem ggX7_alike_X1_namesLike : GoodIn wsX7_alike wsX1_namesLike := goodIn_r _ [69, 70, 71, 72, 18, 73, 21, 26, 74, 75, 76, 77, 28, 78, 79, 80, 81, 22, 27, 98, 99, 100, 101, 102, 103, 104] (by decide +kernel) (by decide +kernel)
set_option maxRecDepth 20000 in
theorem gX7_alike_X1_namesLike : GoodIn wsX7_alike (wsV RX7 222 RX1 yX1_namesLike wsX1_namesLike) := goodIn_app (goodIn_of _ (by decide +kernel)) ggX7_alike_X1_namesLike
theorem dX7_alike_0 : decode cX7_alike 0 = .ok (.aload_n 0, 1) := by decide +kernel
theorem dX7_alike_1 : decode cX7_alike 1 = .ok (.getfield 10, 3) := by decide +kernel
theorem dX7_alike_4 : decode cX7_alike 4 = .ok (.iload_n 1, 1) := by decide +kernel
theorem dX7_alike_5 : decode cX7_alike 5 = .ok (.invokevirtual 105, 3) := by decide +kernel
theorem dX7_alike_8 : decode cX7_alike 8 = .ok (.astore 4, 2) := by decide +kernel
theorem dX7_alike_10 : decode cX7_alike 10 = .ok (.aload 4, 2) := by decide +kernel
theorem dX7_alike_12 : decode cX7_alike 12 = .ok (.ifnull 25, 3) := by decide +kernel
theorem dX7_alike_15 : decode cX7_alike 15 = .ok (.aload_n 0, 1) := by decide +kernel
theorem dX7_alike_16 : decode cX7_alike 16 = .ok (.getfield 10, 3) := by decide +kernel
theorem dX7_alike_19 : decode cX7_alike 19 = .ok (.iload_n 2, 1) := by decide +kernel
theorem dX7_alike_20 : decode cX7_alike 20 = .ok (.invokevirtual 97, 3) := by decide +kernel
theorem dX7_alike_23 : decode cX7_alike 23 = .ok (.ifCond .eq 14, 3) := by decide +kernel
theorem dX7_alike_26 : decode cX7_alike 26 = .ok (.aload_n 0, 1) := by decide +kernel
theorem dX7_alike_27 : decode cX7_alike 27 = .ok (.getfield 10, 3) := by decide +kernel
theorem dX7_alike_30 : decode cX7_alike 30 = .ok (.iload_n 3, 1) := by decide +kernel
theorem dX7_alike_31 : decode cX7_alike 31 = .ok (.invokevirtual 97, 3) := by decide +kernel
theorem dX7_alike_34 : decode cX7_alike 34 = .ok (.ifCond .ne 5, 3) := by decide +kernel
theorem dX7_alike_37 : decode cX7_alike 37 = .ok (.iconst (-1), 1) := by decide +kernel
theorem dX7_alike_38 : decode cX7_alike 38 = .ok (.ireturn, 1) := by decide +kernel
theorem dX7_alike_39 : decode cX7_alike 39 = .ok (.aload_n 0, 1) := by decide +kernel
theorem dX7_alike_40 : decode cX7_alike 40 = .ok (.getfield 41, 3) := by decide +kernel
theorem dX7_alike_43 : decode cX7_alike 43 = .ok (.aload_n 0, 1) := by decide +kernel
theorem dX7_alike_44 : decode cX7_alike 44 = .ok (.getfield 10, 3) := by decide +kernel
theorem dX7_alike_47 : decode cX7_alike 47 = .ok (.aload 4, 2) := by decide +kernel
theorem dX7_alike_49 : decode cX7_alike 49 = .ok (.invokevirtual 177, 3) := by decide +kernel
theorem dX7_alike_52 : decode cX7_alike 52 = .ok (.aload_n 0, 1) := by decide +kernel
theorem dX7_alike_53 : decode cX7_alike 53 = .ok (.getfield 41, 3) := by decide +kernel
theorem dX7_alike_56 : decode cX7_alike 56 = .ok (.iload_n 2, 1) := by decide +kernel
theorem dX7_alike_57 : decode cX7_alike 57 = .ok (.invokevirtual 222, 3) := by decide +kernel
theorem dX7_alike_60 : decode cX7_alike 60 = .ok (.iconst 1, 1) := by decide +kernel
theorem dX7_alike_61 : decode cX7_alike 61 = .ok (.iload_n 3, 1) := by decide +kernel
theorem dX7_alike_62 : decode cX7_alike 62 = .ok (.ishl, 1) := by decide +kernel
theorem dX7_alike_63 : decode cX7_alike 63 = .ok (.iand, 1) := by decide +kernel
theorem dX7_alike_64 : decode cX7_alike 64 = .ok (.ifCond .eq 7, 3) := by decide +kernel
theorem dX7_alike_67 : decode cX7_alike 67 = .ok (.iconst 1, 1) := by decide +kernel
theorem dX7_alike_68 : decode cX7_alike 68 = .ok (.goto 4, 3) := by decide +kernel
theorem dX7_alike_71 : decode cX7_alike 71 = .ok (.iconst 0, 1) := by decide +kernel
theorem dX7_alike_72 : decode cX7_alike 72 = .ok (.ireturn, 1) := by decide +kernel
set_option maxRecDepth 20000 in
theorem ggX7_distance_X5_hasName : GoodIn wsX7_distance wsX5_hasName := goodIn_r _ [8, 9, 39, 40, 41, 42, 43, 44] (by decide +kernel) (by decide +kernel)
set_option maxRecDepth 20000 in
theorem gX7_distance_X5_hasName : GoodIn wsX7_distance (wsV RX7 97 RX5 yX5_hasName wsX5_hasName) := goodIn_app (goodIn_of _ (by decide +kernel)) ggX7_distance_X5_hasName
set_option maxRecDepth 20000 in
theorem ggX7_distance_X3_between : GoodIn wsX7_distance wsX3_between := goodIn_r _ [14, 15, 16, 17, 18, 19, 20, 21, 22, 23, 24, 25, 26, 27, 28, 45, 46] (by decide +kernel) (by decide +kernel)
set_option maxRecDepth 20000 in
theorem gX7_distance_X3_between : GoodIn wsX7_distance (wsV RX7 225 RX3 yX3_between wsX3_between) := goodIn_app (goodIn_of _ (by decide +kernel)) ggX7_distance_X3_between
theorem dX7_distance_0 : decode cX7_distance 0 = .ok (.aload_n 0, 1) := by decide +kernel
theorem dX7_distance_1 : decode cX7_distance 1 = .ok (.getfield 10, 3) := by decide +kernel
theorem dX7_distance_4 : decode cX7_distance 4 = .ok (.iload_n 1, 1) := by decide +kernel
theorem dX7_distance_5 : decode cX7_distance 5 = .ok (.invokevirtual 97, 3) := by decide +kernel
theorem dX7_distance_8 : decode cX7_distance 8 = .ok (.ifCond .eq 14, 3) := by decide +kernel
theorem dX7_distance_11 : decode cX7_distance 11 = .ok (.aload_n 0, 1) := by decide +kernel
theorem dX7_distance_12 : decode cX7_distance 12 = .ok (.getfield 10, 3) := by decide +kernel
theorem dX7_distance_15 : decode cX7_distance 15 = .ok (.iload_n 2, 1) := by decide +kernel
theorem dX7_distance_16 : decode cX7_distance 16 = .ok (.invokevirtual 97, 3) := by decide +kernel
theorem dX7_distance_19 : decode cX7_distance 19 = .ok (.ifCond .ne 5, 3) := by decide +kernel
theorem dX7_distance_22 : decode cX7_distance 22 = .ok (.iconst (-1), 1) := by decide +kernel
theorem dX7_distance_23 : decode cX7_distance 23 = .ok (.ireturn, 1) := by decide +kernel
theorem dX7_distance_24 : decode cX7_distance 24 = .ok (.aload_n 0, 1) := by decide +kernel
theorem dX7_distance_25 : decode cX7_distance 25 = .ok (.getfield 58, 3) := by decide +kernel
theorem dX7_distance_28 : decode cX7_distance 28 = .ok (.aload_n 0, 1) := by decide +kernel
theorem dX7_distance_29 : decode cX7_distance 29 = .ok (.getfield 10, 3) := by decide +kernel
theorem dX7_distance_32 : decode cX7_distance 32 = .ok (.getfield 90, 3) := by decide +kernel
theorem dX7_distance_35 : decode cX7_distance 35 = .ok (.iload_n 1, 1) := by decide +kernel
theorem dX7_distance_36 : decode cX7_distance 36 = .ok (.laload, 1) := by decide +kernel
theorem dX7_distance_37 : decode cX7_distance 37 = .ok (.aload_n 0, 1) := by decide +kernel
theorem dX7_distance_38 : decode cX7_distance 38 = .ok (.getfield 10, 3) := by decide +kernel
theorem dX7_distance_41 : decode cX7_distance 41 = .ok (.getfield 90, 3) := by decide +kernel
theorem dX7_distance_44 : decode cX7_distance 44 = .ok (.iload_n 2, 1) := by decide +kernel
theorem dX7_distance_45 : decode cX7_distance 45 = .ok (.laload, 1) := by decide +kernel
theorem dX7_distance_46 : decode cX7_distance 46 = .ok (.invokevirtual 225, 3) := by decide +kernel
theorem dX7_distance_49 : decode cX7_distance 49 = .ok (.ireturn, 1) := by decide +kernel
set_option maxRecDepth 20000 in
theorem ggX7_find_X4_firstFault : GoodIn wsX7_find wsX4_firstFault := goodIn_r _ [10, 11, 12, 130, 131] (by decide +kernel) (by decide +kernel)
set_option maxRecDepth 20000 in
theorem gX7_find_X4_firstFault : GoodIn wsX7_find (wsV RX7 75 RX4 yX4_firstFault wsX4_firstFault) := goodIn_app (goodIn_of _ (by decide +kernel)) ggX7_find_X4_firstFault
set_option maxRecDepth 20000 in
theorem ggX7_find_X5_earAt : GoodIn wsX7_find wsX5_earAt := goodIn_r _ [17, 18, 19, 124, 125, 126, 127, 128, 129] (by decide +kernel) (by decide +kernel)
set_option maxRecDepth 20000 in
theorem gX7_find_X5_earAt : GoodIn wsX7_find (wsV RX7 105 RX5 yX5_earAt wsX5_earAt) := goodIn_app (goodIn_of _ (by decide +kernel)) ggX7_find_X5_earAt
set_option maxRecDepth 20000 in
theorem ggX7_find_X4_asWord : GoodIn wsX7_find wsX4_asWord := goodIn_r _ [23, 11, 12, 24, 25, 26, 27, 130, 131] (by decide +kernel) (by decide +kernel)
set_option maxRecDepth 20000 in
theorem gX7_find_X4_asWord : GoodIn wsX7_find (wsV RX7 79 RX4 yX4_asWord wsX4_asWord) := goodIn_app (goodIn_of _ (by decide +kernel)) ggX7_find_X4_asWord
set_option maxRecDepth 20000 in
theorem ggX7_find_X1_fill : GoodIn wsX7_find wsX1_fill := goodIn_r _ [32, 33, 34, 35, 36, 37, 38, 39, 40, 41, 42, 43, 44, 45, 46, 47, 48, 49, 50, 51, 52, 53, 26, 54, 55, 56, 57, 58, 59, 60, 61, 62, 63, 64, 65, 66, 67, 68, 69, 70, 71, 72, 73, 74, 75, 31, 76, 77, 124, 125, 126, 127, 128, 129, 132, 133, 134, 135, 136, 137, 138, 139, 140, 141, 142, 143, 144, 145, 146] (by decide +kernel) (by decide +kernel)
set_option maxRecDepth 20000 in
theorem gX7_find_X1_fill : GoodIn wsX7_find (wsV RX7 177 RX1 yX1_fill wsX1_fill) := goodIn_app (goodIn_of _ (by decide +kernel)) ggX7_find_X1_fill
set_option maxRecDepth 20000 in
theorem ggX7_find_X1_namesHeardLike : GoodIn wsX7_find wsX1_namesHeardLike := goodIn_r _ [81, 37, 38, 35, 77, 40, 42, 43, 44, 45, 46, 47, 48, 49, 50, 51, 52, 53, 26, 54, 55, 56, 57, 58, 59, 60, 61, 62, 63, 64, 65, 66, 67, 68, 69, 70, 71, 72, 124, 125, 126, 127, 128, 129, 132, 133, 134, 135, 136, 137, 138, 139, 140, 141, 142, 143, 144, 145, 146] (by decide +kernel) (by decide +kernel)
set_option maxRecDepth 20000 in
theorem gX7_find_X1_namesHeardLike : GoodIn wsX7_find (wsV RX7 229 RX1 yX1_namesHeardLike wsX1_namesHeardLike) := goodIn_app (goodIn_of _ (by decide +kernel)) ggX7_find_X1_namesHeardLike
set_option maxRecDepth 20000 in
theorem ggX7_find_X3_ranked : GoodIn wsX7_find wsX3_ranked := goodIn_r _ [86, 87, 88, 89, 90, 91, 92, 85, 93, 94, 95, 96, 97, 98, 99, 100, 26, 101, 102, 53, 54, 55, 103, 104, 105, 106, 107, 124, 125, 126, 127, 128, 129, 147, 148] (by decide +kernel) (by decide +kernel)
set_option maxRecDepth 20000 in
theorem gX7_find_X3_ranked : GoodIn wsX7_find (wsV RX7 233 RX3 yX3_ranked wsX3_ranked) := goodIn_app (goodIn_of _ (by decide +kernel)) ggX7_find_X3_ranked
set_option maxRecDepth 20000 in
theorem ggX7_find_X5_hasName : GoodIn wsX7_find wsX5_hasName := goodIn_r _ [111, 112, 124, 125, 126, 127, 128, 129] (by decide +kernel) (by decide +kernel)
set_option maxRecDepth 20000 in
theorem gX7_find_X5_hasName : GoodIn wsX7_find (wsV RX7 97 RX5 yX5_hasName wsX5_hasName) := goodIn_app (goodIn_of _ (by decide +kernel)) ggX7_find_X5_hasName
set_option maxRecDepth 20000 in
theorem ggX7_find_X3_between : GoodIn wsX7_find wsX3_between := goodIn_r _ [93, 94, 95, 96, 97, 98, 99, 100, 26, 101, 102, 53, 54, 55, 103, 147, 148] (by decide +kernel) (by decide +kernel)
set_option maxRecDepth 20000 in
theorem gX7_find_X3_between : GoodIn wsX7_find (wsV RX7 225 RX3 yX3_between wsX3_between) := goodIn_app (goodIn_of _ (by decide +kernel)) ggX7_find_X3_between
theorem dX7_find_0 : decode cX7_find 0 = .ok (.aload_n 0, 1) := by decide +kernel
theorem dX7_find_1 : decode cX7_find 1 = .ok (.getfield 34, 3) := by decide +kernel
theorem dX7_find_4 : decode cX7_find 4 = .ok (.invokevirtual 75, 3) := by decide +kernel
theorem dX7_find_7 : decode cX7_find 7 = .ok (.bipush (-6), 2) := by decide +kernel
theorem dX7_find_9 : decode cX7_find 9 = .ok (.if_icmp .eq 6, 3) := by decide +kernel
theorem dX7_find_12 : decode cX7_find 12 = .ok (.bipush (-3), 2) := by decide +kernel
theorem dX7_find_14 : decode cX7_find 14 = .ok (.ireturn, 1) := by decide +kernel
theorem dX7_find_15 : decode cX7_find 15 = .ok (.aload_n 0, 1) := by decide +kernel
theorem dX7_find_16 : decode cX7_find 16 = .ok (.getfield 10, 3) := by decide +kernel
theorem dX7_find_19 : decode cX7_find 19 = .ok (.iload_n 1, 1) := by decide +kernel
theorem dX7_find_20 : decode cX7_find 20 = .ok (.invokevirtual 105, 3) := by decide +kernel
theorem dX7_find_23 : decode cX7_find 23 = .ok (.astore 4, 2) := by decide +kernel
theorem dX7_find_25 : decode cX7_find 25 = .ok (.aload 4, 2) := by decide +kernel
theorem dX7_find_27 : decode cX7_find 27 = .ok (.ifnonnull 5, 3) := by decide +kernel
theorem dX7_find_30 : decode cX7_find 30 = .ok (.iconst (-1), 1) := by decide +kernel
theorem dX7_find_31 : decode cX7_find 31 = .ok (.ireturn, 1) := by decide +kernel
theorem dX7_find_32 : decode cX7_find 32 = .ok (.aload_n 0, 1) := by decide +kernel
theorem dX7_find_33 : decode cX7_find 33 = .ok (.getfield 34, 3) := by decide +kernel
theorem dX7_find_36 : decode cX7_find 36 = .ok (.invokevirtual 79, 3) := by decide +kernel
theorem dX7_find_39 : decode cX7_find 39 = .ok (.lstore 5, 2) := by decide +kernel
theorem dX7_find_41 : decode cX7_find 41 = .ok (.aload_n 0, 1) := by decide +kernel
theorem dX7_find_42 : decode cX7_find 42 = .ok (.getfield 41, 3) := by decide +kernel
theorem dX7_find_45 : decode cX7_find 45 = .ok (.aload_n 0, 1) := by decide +kernel
theorem dX7_find_46 : decode cX7_find 46 = .ok (.getfield 10, 3) := by decide +kernel
theorem dX7_find_49 : decode cX7_find 49 = .ok (.aload 4, 2) := by decide +kernel
theorem dX7_find_51 : decode cX7_find 51 = .ok (.invokevirtual 177, 3) := by decide +kernel
theorem dX7_find_54 : decode cX7_find 54 = .ok (.aload_n 0, 1) := by decide +kernel
theorem dX7_find_55 : decode cX7_find 55 = .ok (.getfield 58, 3) := by decide +kernel
theorem dX7_find_58 : decode cX7_find 58 = .ok (.aload_n 0, 1) := by decide +kernel
theorem dX7_find_59 : decode cX7_find 59 = .ok (.getfield 10, 3) := by decide +kernel
theorem dX7_find_62 : decode cX7_find 62 = .ok (.lload 5, 2) := by decide +kernel
theorem dX7_find_64 : decode cX7_find 64 = .ok (.aload_n 0, 1) := by decide +kernel
theorem dX7_find_65 : decode cX7_find 65 = .ok (.getfield 41, 3) := by decide +kernel
theorem dX7_find_68 : decode cX7_find 68 = .ok (.lload 5, 2) := by decide +kernel
theorem dX7_find_70 : decode cX7_find 70 = .ok (.aload_n 0, 1) := by decide +kernel
theorem dX7_find_71 : decode cX7_find 71 = .ok (.getfield 10, 3) := by decide +kernel
theorem dX7_find_74 : decode cX7_find 74 = .ok (.aload 4, 2) := by decide +kernel
theorem dX7_find_76 : decode cX7_find 76 = .ok (.invokevirtual 229, 3) := by decide +kernel
theorem dX7_find_79 : decode cX7_find 79 = .ok (.iload_n 2, 1) := by decide +kernel
theorem dX7_find_80 : decode cX7_find 80 = .ok (.invokevirtual 233, 3) := by decide +kernel
theorem dX7_find_83 : decode cX7_find 83 = .ok (.istore 7, 2) := by decide +kernel
theorem dX7_find_85 : decode cX7_find 85 = .ok (.aload_n 0, 1) := by decide +kernel
theorem dX7_find_86 : decode cX7_find 86 = .ok (.getfield 10, 3) := by decide +kernel
theorem dX7_find_89 : decode cX7_find 89 = .ok (.iload 7, 2) := by decide +kernel
theorem dX7_find_91 : decode cX7_find 91 = .ok (.invokevirtual 97, 3) := by decide +kernel
theorem dX7_find_94 : decode cX7_find 94 = .ok (.ifCond .ne 5, 3) := by decide +kernel
theorem dX7_find_97 : decode cX7_find 97 = .ok (.iconst (-1), 1) := by decide +kernel
theorem dX7_find_98 : decode cX7_find 98 = .ok (.ireturn, 1) := by decide +kernel
theorem dX7_find_99 : decode cX7_find 99 = .ok (.iload_n 3, 1) := by decide +kernel
theorem dX7_find_100 : decode cX7_find 100 = .ok (.lookupswitch 51 #[(0, 28), (1, 31)], 28) := by decide +kernel
theorem dX7_find_128 : decode cX7_find 128 = .ok (.iload 7, 2) := by decide +kernel
theorem dX7_find_130 : decode cX7_find 130 = .ok (.ireturn, 1) := by decide +kernel
theorem dX7_find_131 : decode cX7_find 131 = .ok (.aload_n 0, 1) := by decide +kernel
theorem dX7_find_132 : decode cX7_find 132 = .ok (.getfield 58, 3) := by decide +kernel
theorem dX7_find_135 : decode cX7_find 135 = .ok (.lload 5, 2) := by decide +kernel
theorem dX7_find_137 : decode cX7_find 137 = .ok (.aload_n 0, 1) := by decide +kernel
theorem dX7_find_138 : decode cX7_find 138 = .ok (.getfield 10, 3) := by decide +kernel
theorem dX7_find_141 : decode cX7_find 141 = .ok (.getfield 90, 3) := by decide +kernel
theorem dX7_find_144 : decode cX7_find 144 = .ok (.iload 7, 2) := by decide +kernel
theorem dX7_find_146 : decode cX7_find 146 = .ok (.laload, 1) := by decide +kernel
theorem dX7_find_147 : decode cX7_find 147 = .ok (.invokevirtual 225, 3) := by decide +kernel
theorem dX7_find_150 : decode cX7_find 150 = .ok (.ireturn, 1) := by decide +kernel
theorem dX7_find_151 : decode cX7_find 151 = .ok (.bipush (-2), 2) := by decide +kernel
theorem dX7_find_153 : decode cX7_find 153 = .ok (.ireturn, 1) := by decide +kernel
set_option maxRecDepth 20000 in
theorem ggX7_ifMerged_X5_earAt : GoodIn wsX7_ifMerged wsX5_earAt := goodIn_r _ [8, 9, 10, 150, 151, 152, 153, 154, 155] (by decide +kernel) (by decide +kernel)
set_option maxRecDepth 20000 in
theorem gX7_ifMerged_X5_earAt : GoodIn wsX7_ifMerged (wsV RX7 105 RX5 yX5_earAt wsX5_earAt) := goodIn_app (goodIn_of _ (by decide +kernel)) ggX7_ifMerged_X5_earAt
set_option maxRecDepth 20000 in
theorem ggX7_ifMerged_X7_canMerge : GoodIn wsX7_ifMerged wsX7_canMerge := goodIn_r _ [14, 15, 16, 13, 17, 18, 19, 20] (by decide +kernel) (by decide +kernel)
set_option maxRecDepth 20000 in
theorem gX7_ifMerged_X7_canMerge : GoodIn wsX7_ifMerged (va_wsS RX7 144 yX7_canMerge wsX7_canMerge) := goodIn_app (goodIn_of _ (by decide +kernel)) ggX7_ifMerged_X7_canMerge
set_option maxRecDepth 20000 in
theorem ggX7_ifMerged_X7_isWithin : GoodIn wsX7_ifMerged wsX7_isWithin := goodIn_r _ [20] (by decide +kernel) (by decide +kernel)
set_option maxRecDepth 20000 in
theorem gX7_ifMerged_X7_isWithin : GoodIn wsX7_ifMerged (va_wsS RX7 62 yX7_isWithin wsX7_isWithin) := goodIn_app (goodIn_of _ (by decide +kernel)) ggX7_ifMerged_X7_isWithin
set_option maxRecDepth 20000 in
theorem ggX7_ifMerged_X7_fillAsIfMerged : GoodIn wsX7_ifMerged wsX7_fillAsIfMerged := goodIn_r _ [24, 25, 2, 1, 26, 27, 28, 29, 30, 31, 32, 33, 34, 35, 36, 37, 38, 39, 40, 41, 42, 43, 44, 45, 46, 47, 48, 49, 50, 51, 52, 53, 54, 55, 56, 57, 58, 59, 60, 61, 62, 63, 64, 65, 66, 67, 68, 69, 70, 71, 72, 73, 74, 75, 76, 77, 78, 79, 80, 81, 82, 83, 84, 85, 86, 87, 88, 89, 90, 91, 92, 93, 94, 95, 96, 97, 98, 99, 100, 101, 102, 103, 104, 105, 133, 134, 135, 136, 137, 138, 139, 140, 141, 142, 156, 157, 158, 159, 160, 161, 162, 163, 150, 151, 152, 153, 154, 155, 143, 144, 145, 146, 147, 148, 149] (by decide +kernel) (by decide +kernel)
set_option maxRecDepth 20000 in
theorem gX7_ifMerged_X7_fillAsIfMerged : GoodIn wsX7_ifMerged (wsV RX7 237 RX7 yX7_fillAsIfMerged wsX7_fillAsIfMerged) := goodIn_app (goodIn_of _ (by decide +kernel)) ggX7_ifMerged_X7_fillAsIfMerged
set_option maxRecDepth 20000 in
theorem ggX7_ifMerged_X1_alikePairs : GoodIn wsX7_ifMerged wsX1_alikePairs := goodIn_r _ [109, 65, 110, 111, 112, 62, 113, 114, 115, 116, 117, 70, 118, 119, 120, 121, 72, 122, 123, 124, 125, 66, 71, 126, 127, 128, 129, 130, 131, 132, 143, 144, 145, 146, 147, 148, 149] (by decide +kernel) (by decide +kernel)
set_option maxRecDepth 20000 in
theorem gX7_ifMerged_X1_alikePairs : GoodIn wsX7_ifMerged (wsV RX7 190 RX1 yX1_alikePairs wsX1_alikePairs) := goodIn_app (goodIn_of _ (by decide +kernel)) ggX7_ifMerged_X1_alikePairs
theorem dX7_ifMerged_0 : decode cX7_ifMerged 0 = .ok (.aload_n 0, 1) := by decide +kernel
theorem dX7_ifMerged_1 : decode cX7_ifMerged 1 = .ok (.getfield 10, 3) := by decide +kernel
theorem dX7_ifMerged_4 : decode cX7_ifMerged 4 = .ok (.iload_n 1, 1) := by decide +kernel
theorem dX7_ifMerged_5 : decode cX7_ifMerged 5 = .ok (.invokevirtual 105, 3) := by decide +kernel
theorem dX7_ifMerged_8 : decode cX7_ifMerged 8 = .ok (.astore 5, 2) := by decide +kernel
theorem dX7_ifMerged_10 : decode cX7_ifMerged 10 = .ok (.aload 5, 2) := by decide +kernel
theorem dX7_ifMerged_12 : decode cX7_ifMerged 12 = .ok (.ifnonnull 5, 3) := by decide +kernel
theorem dX7_ifMerged_15 : decode cX7_ifMerged 15 = .ok (.iconst (-1), 1) := by decide +kernel
theorem dX7_ifMerged_16 : decode cX7_ifMerged 16 = .ok (.ireturn, 1) := by decide +kernel
theorem dX7_ifMerged_17 : decode cX7_ifMerged 17 = .ok (.iload_n 2, 1) := by decide +kernel
theorem dX7_ifMerged_18 : decode cX7_ifMerged 18 = .ok (.iload_n 3, 1) := by decide +kernel
