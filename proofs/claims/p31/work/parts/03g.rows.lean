theorem dX7_ifMerged_19 : decode cX7_ifMerged 19 = .ok (.invokestatic 144, 3) := by decide +kernel
theorem dX7_ifMerged_22 : decode cX7_ifMerged 22 = .ok (.ifCond .eq 13, 3) := by decide +kernel
theorem dX7_ifMerged_25 : decode cX7_ifMerged 25 = .ok (.iload 4, 2) := by decide +kernel
theorem dX7_ifMerged_27 : decode cX7_ifMerged 27 = .ok (.iconst 0, 1) := by decide +kernel
theorem dX7_ifMerged_28 : decode cX7_ifMerged 28 = .ok (.iconst 1, 1) := by decide +kernel
theorem dX7_ifMerged_29 : decode cX7_ifMerged 29 = .ok (.invokestatic 62, 3) := by decide +kernel
theorem dX7_ifMerged_32 : decode cX7_ifMerged 32 = .ok (.ifCond .ne 6, 3) := by decide +kernel
theorem dX7_ifMerged_35 : decode cX7_ifMerged 35 = .ok (.bipush (-2), 2) := by decide +kernel
theorem dX7_ifMerged_37 : decode cX7_ifMerged 37 = .ok (.ireturn, 1) := by decide +kernel
theorem dX7_ifMerged_38 : decode cX7_ifMerged 38 = .ok (.aload_n 0, 1) := by decide +kernel
theorem dX7_ifMerged_39 : decode cX7_ifMerged 39 = .ok (.aload 5, 2) := by decide +kernel
theorem dX7_ifMerged_41 : decode cX7_ifMerged 41 = .ok (.iload_n 2, 1) := by decide +kernel
theorem dX7_ifMerged_42 : decode cX7_ifMerged 42 = .ok (.iload_n 3, 1) := by decide +kernel
theorem dX7_ifMerged_43 : decode cX7_ifMerged 43 = .ok (.invokevirtual 237, 3) := by decide +kernel
theorem dX7_ifMerged_46 : decode cX7_ifMerged 46 = .ok (.iload 4, 2) := by decide +kernel
theorem dX7_ifMerged_48 : decode cX7_ifMerged 48 = .ok (.ifCond .ne 13, 3) := by decide +kernel
theorem dX7_ifMerged_51 : decode cX7_ifMerged 51 = .ok (.aload_n 0, 1) := by decide +kernel
theorem dX7_ifMerged_52 : decode cX7_ifMerged 52 = .ok (.getfield 41, 3) := by decide +kernel
theorem dX7_ifMerged_55 : decode cX7_ifMerged 55 = .ok (.getfield 181, 3) := by decide +kernel
theorem dX7_ifMerged_58 : decode cX7_ifMerged 58 = .ok (.goto 10, 3) := by decide +kernel
theorem dX7_ifMerged_61 : decode cX7_ifMerged 61 = .ok (.aload_n 0, 1) := by decide +kernel
theorem dX7_ifMerged_62 : decode cX7_ifMerged 62 = .ok (.getfield 41, 3) := by decide +kernel
theorem dX7_ifMerged_65 : decode cX7_ifMerged 65 = .ok (.invokevirtual 190, 3) := by decide +kernel
theorem dX7_ifMerged_68 : decode cX7_ifMerged 68 = .ok (.ireturn, 1) := by decide +kernel
set_option maxRecDepth 20000 in
theorem ggX7_bestMerger_X5_earAt : GoodIn wsX7_bestMerger wsX5_earAt := goodIn_r _ [7, 8, 9, 140, 141, 142, 143, 144, 145] (by decide +kernel) (by decide +kernel)
set_option maxRecDepth 20000 in
theorem gX7_bestMerger_X5_earAt : GoodIn wsX7_bestMerger (wsV RX7 105 RX5 yX5_earAt wsX5_earAt) := goodIn_app (goodIn_of _ (by decide +kernel)) ggX7_bestMerger_X5_earAt
set_option maxRecDepth 20000 in
theorem ggX7_bestMerger_X7_isWithin : GoodIn wsX7_bestMerger wsX7_isWithin := goodIn_r _ [13] (by decide +kernel) (by decide +kernel)
set_option maxRecDepth 20000 in
theorem gX7_bestMerger_X7_isWithin : GoodIn wsX7_bestMerger (va_wsS RX7 62 yX7_isWithin wsX7_isWithin) := goodIn_app (goodIn_of _ (by decide +kernel)) ggX7_bestMerger_X7_isWithin
set_option maxRecDepth 20000 in
theorem ggX7_bestMerger_X2_lettersOf : GoodIn wsX7_bestMerger wsX2_lettersOf := goodIn_r _ [18, 19, 146, 147, 148, 149, 150, 151, 152, 153] (by decide +kernel) (by decide +kernel)
set_option maxRecDepth 20000 in
theorem gX7_bestMerger_X2_lettersOf : GoodIn wsX7_bestMerger (wsV RX7 152 RX2 yX2_lettersOf wsX2_lettersOf) := goodIn_app (goodIn_of _ (by decide +kernel)) ggX7_bestMerger_X2_lettersOf
set_option maxRecDepth 20000 in
theorem ggX7_bestMerger_X7_fillAsIfMerged : GoodIn wsX7_bestMerger wsX7_fillAsIfMerged := goodIn_r _ [23, 24, 2, 1, 25, 26, 27, 17, 28, 19, 29, 30, 31, 32, 33, 34, 35, 36, 37, 38, 39, 40, 41, 42, 43, 44, 45, 46, 47, 48, 49, 50, 51, 52, 53, 54, 55, 56, 57, 58, 59, 60, 61, 62, 63, 64, 65, 66, 67, 68, 69, 70, 71, 72, 73, 74, 75, 76, 77, 78, 79, 80, 81, 82, 83, 84, 85, 86, 87, 88, 89, 90, 91, 92, 93, 94, 95, 96, 97, 98, 99, 100, 101, 102, 130, 131, 132, 133, 134, 135, 136, 137, 138, 139, 146, 147, 148, 149, 150, 151, 152, 153, 140, 141, 142, 143, 144, 145, 154, 155, 156, 157, 158, 159, 160] (by decide +kernel) (by decide +kernel)
set_option maxRecDepth 20000 in
theorem gX7_bestMerger_X7_fillAsIfMerged : GoodIn wsX7_bestMerger (wsV RX7 237 RX7 yX7_fillAsIfMerged wsX7_fillAsIfMerged) := goodIn_app (goodIn_of _ (by decide +kernel)) ggX7_bestMerger_X7_fillAsIfMerged
set_option maxRecDepth 20000 in
theorem ggX7_bestMerger_X1_alikePairs : GoodIn wsX7_bestMerger wsX1_alikePairs := goodIn_r _ [106, 62, 107, 108, 109, 59, 110, 111, 112, 113, 114, 67, 115, 116, 117, 118, 69, 119, 120, 121, 122, 63, 68, 123, 124, 125, 126, 127, 128, 129, 154, 155, 156, 157, 158, 159, 160] (by decide +kernel) (by decide +kernel)
set_option maxRecDepth 20000 in
theorem gX7_bestMerger_X1_alikePairs : GoodIn wsX7_bestMerger (wsV RX7 190 RX1 yX1_alikePairs wsX1_alikePairs) := goodIn_app (goodIn_of _ (by decide +kernel)) ggX7_bestMerger_X1_alikePairs
theorem dX7_bestMerger_0 : decode cX7_bestMerger 0 = .ok (.aload_n 0, 1) := by decide +kernel
theorem dX7_bestMerger_1 : decode cX7_bestMerger 1 = .ok (.getfield 10, 3) := by decide +kernel
theorem dX7_bestMerger_4 : decode cX7_bestMerger 4 = .ok (.iload_n 1, 1) := by decide +kernel
theorem dX7_bestMerger_5 : decode cX7_bestMerger 5 = .ok (.invokevirtual 105, 3) := by decide +kernel
theorem dX7_bestMerger_8 : decode cX7_bestMerger 8 = .ok (.astore_n 3, 1) := by decide +kernel
theorem dX7_bestMerger_9 : decode cX7_bestMerger 9 = .ok (.aload_n 3, 1) := by decide +kernel
theorem dX7_bestMerger_10 : decode cX7_bestMerger 10 = .ok (.ifnonnull 5, 3) := by decide +kernel
theorem dX7_bestMerger_13 : decode cX7_bestMerger 13 = .ok (.iconst (-1), 1) := by decide +kernel
theorem dX7_bestMerger_14 : decode cX7_bestMerger 14 = .ok (.ireturn, 1) := by decide +kernel
theorem dX7_bestMerger_15 : decode cX7_bestMerger 15 = .ok (.iload_n 2, 1) := by decide +kernel
theorem dX7_bestMerger_16 : decode cX7_bestMerger 16 = .ok (.iconst 0, 1) := by decide +kernel
theorem dX7_bestMerger_17 : decode cX7_bestMerger 17 = .ok (.iconst 2, 1) := by decide +kernel
theorem dX7_bestMerger_18 : decode cX7_bestMerger 18 = .ok (.invokestatic 62, 3) := by decide +kernel
theorem dX7_bestMerger_21 : decode cX7_bestMerger 21 = .ok (.ifCond .ne 6, 3) := by decide +kernel
theorem dX7_bestMerger_24 : decode cX7_bestMerger 24 = .ok (.bipush (-2), 2) := by decide +kernel
theorem dX7_bestMerger_26 : decode cX7_bestMerger 26 = .ok (.ireturn, 1) := by decide +kernel
theorem dX7_bestMerger_27 : decode cX7_bestMerger 27 = .ok (.bipush (-6), 2) := by decide +kernel
theorem dX7_bestMerger_29 : decode cX7_bestMerger 29 = .ok (.istore 4, 2) := by decide +kernel
theorem dX7_bestMerger_31 : decode cX7_bestMerger 31 = .ok (.bipush (-6), 2) := by decide +kernel
theorem dX7_bestMerger_33 : decode cX7_bestMerger 33 = .ok (.istore 5, 2) := by decide +kernel
theorem dX7_bestMerger_35 : decode cX7_bestMerger 35 = .ok (.bipush (-6), 2) := by decide +kernel
theorem dX7_bestMerger_37 : decode cX7_bestMerger 37 = .ok (.istore 6, 2) := by decide +kernel
theorem dX7_bestMerger_39 : decode cX7_bestMerger 39 = .ok (.iconst 1, 1) := by decide +kernel
theorem dX7_bestMerger_40 : decode cX7_bestMerger 40 = .ok (.istore 7, 2) := by decide +kernel
theorem dX7_bestMerger_42 : decode cX7_bestMerger 42 = .ok (.iload 7, 2) := by decide +kernel
theorem dX7_bestMerger_44 : decode cX7_bestMerger 44 = .ok (.bipush 10, 2) := by decide +kernel
theorem dX7_bestMerger_46 : decode cX7_bestMerger 46 = .ok (.if_icmp .ge 99, 3) := by decide +kernel
theorem dX7_bestMerger_49 : decode cX7_bestMerger 49 = .ok (.aload_n 3, 1) := by decide +kernel
theorem dX7_bestMerger_50 : decode cX7_bestMerger 50 = .ok (.iload 7, 2) := by decide +kernel
theorem dX7_bestMerger_52 : decode cX7_bestMerger 52 = .ok (.invokevirtual 152, 3) := by decide +kernel
theorem dX7_bestMerger_55 : decode cX7_bestMerger 55 = .ok (.ifCond .ne 6, 3) := by decide +kernel
theorem dX7_bestMerger_58 : decode cX7_bestMerger 58 = .ok (.goto 81, 3) := by decide +kernel
theorem dX7_bestMerger_61 : decode cX7_bestMerger 61 = .ok (.iload 7, 2) := by decide +kernel
theorem dX7_bestMerger_63 : decode cX7_bestMerger 63 = .ok (.iconst 1, 1) := by decide +kernel
theorem dX7_bestMerger_64 : decode cX7_bestMerger 64 = .ok (.iadd, 1) := by decide +kernel
theorem dX7_bestMerger_65 : decode cX7_bestMerger 65 = .ok (.istore 8, 2) := by decide +kernel
theorem dX7_bestMerger_67 : decode cX7_bestMerger 67 = .ok (.iload 8, 2) := by decide +kernel
theorem dX7_bestMerger_69 : decode cX7_bestMerger 69 = .ok (.bipush 10, 2) := by decide +kernel
theorem dX7_bestMerger_71 : decode cX7_bestMerger 71 = .ok (.if_icmp .ge 68, 3) := by decide +kernel
theorem dX7_bestMerger_74 : decode cX7_bestMerger 74 = .ok (.aload_n 3, 1) := by decide +kernel
theorem dX7_bestMerger_75 : decode cX7_bestMerger 75 = .ok (.iload 8, 2) := by decide +kernel
theorem dX7_bestMerger_77 : decode cX7_bestMerger 77 = .ok (.invokevirtual 152, 3) := by decide +kernel
theorem dX7_bestMerger_80 : decode cX7_bestMerger 80 = .ok (.ifCond .ne 6, 3) := by decide +kernel
theorem dX7_bestMerger_83 : decode cX7_bestMerger 83 = .ok (.goto 50, 3) := by decide +kernel
theorem dX7_bestMerger_86 : decode cX7_bestMerger 86 = .ok (.aload_n 0, 1) := by decide +kernel
theorem dX7_bestMerger_87 : decode cX7_bestMerger 87 = .ok (.aload_n 3, 1) := by decide +kernel
theorem dX7_bestMerger_88 : decode cX7_bestMerger 88 = .ok (.iload 7, 2) := by decide +kernel
theorem dX7_bestMerger_90 : decode cX7_bestMerger 90 = .ok (.iload 8, 2) := by decide +kernel
theorem dX7_bestMerger_92 : decode cX7_bestMerger 92 = .ok (.invokevirtual 237, 3) := by decide +kernel
theorem dX7_bestMerger_95 : decode cX7_bestMerger 95 = .ok (.aload_n 0, 1) := by decide +kernel
theorem dX7_bestMerger_96 : decode cX7_bestMerger 96 = .ok (.getfield 41, 3) := by decide +kernel
theorem dX7_bestMerger_99 : decode cX7_bestMerger 99 = .ok (.invokevirtual 190, 3) := by decide +kernel
theorem dX7_bestMerger_102 : decode cX7_bestMerger 102 = .ok (.istore 9, 2) := by decide +kernel
theorem dX7_bestMerger_104 : decode cX7_bestMerger 104 = .ok (.iload 6, 2) := by decide +kernel
theorem dX7_bestMerger_106 : decode cX7_bestMerger 106 = .ok (.bipush (-6), 2) := by decide +kernel
theorem dX7_bestMerger_108 : decode cX7_bestMerger 108 = .ok (.if_icmp .eq 13, 3) := by decide +kernel
theorem dX7_bestMerger_111 : decode cX7_bestMerger 111 = .ok (.iload 9, 2) := by decide +kernel
theorem dX7_bestMerger_113 : decode cX7_bestMerger 113 = .ok (.iload 6, 2) := by decide +kernel
theorem dX7_bestMerger_115 : decode cX7_bestMerger 115 = .ok (.if_icmp .lt 6, 3) := by decide +kernel
theorem dX7_bestMerger_118 : decode cX7_bestMerger 118 = .ok (.goto 15, 3) := by decide +kernel
theorem dX7_bestMerger_121 : decode cX7_bestMerger 121 = .ok (.iload 7, 2) := by decide +kernel
theorem dX7_bestMerger_123 : decode cX7_bestMerger 123 = .ok (.istore 4, 2) := by decide +kernel
theorem dX7_bestMerger_125 : decode cX7_bestMerger 125 = .ok (.iload 8, 2) := by decide +kernel
theorem dX7_bestMerger_127 : decode cX7_bestMerger 127 = .ok (.istore 5, 2) := by decide +kernel
theorem dX7_bestMerger_129 : decode cX7_bestMerger 129 = .ok (.iload 9, 2) := by decide +kernel
theorem dX7_bestMerger_131 : decode cX7_bestMerger 131 = .ok (.istore 6, 2) := by decide +kernel
theorem dX7_bestMerger_133 : decode cX7_bestMerger 133 = .ok (.iinc 8 1, 3) := by decide +kernel
theorem dX7_bestMerger_136 : decode cX7_bestMerger 136 = .ok (.goto (-69), 3) := by decide +kernel
theorem dX7_bestMerger_139 : decode cX7_bestMerger 139 = .ok (.iinc 7 1, 3) := by decide +kernel
theorem dX7_bestMerger_142 : decode cX7_bestMerger 142 = .ok (.goto (-100), 3) := by decide +kernel
theorem dX7_bestMerger_145 : decode cX7_bestMerger 145 = .ok (.iload_n 2, 1) := by decide +kernel
theorem dX7_bestMerger_146 : decode cX7_bestMerger 146 = .ok (.lookupswitch 32 #[(0, 26), (1, 29)], 26) := by decide +kernel
theorem dX7_bestMerger_172 : decode cX7_bestMerger 172 = .ok (.iload 4, 2) := by decide +kernel
theorem dX7_bestMerger_174 : decode cX7_bestMerger 174 = .ok (.ireturn, 1) := by decide +kernel
theorem dX7_bestMerger_175 : decode cX7_bestMerger 175 = .ok (.iload 5, 2) := by decide +kernel
theorem dX7_bestMerger_177 : decode cX7_bestMerger 177 = .ok (.ireturn, 1) := by decide +kernel
theorem dX7_bestMerger_178 : decode cX7_bestMerger 178 = .ok (.iload 6, 2) := by decide +kernel
theorem dX7_bestMerger_180 : decode cX7_bestMerger 180 = .ok (.ireturn, 1) := by decide +kernel
set_option maxRecDepth 20000 in
theorem ggX7_quarrel_X5_earAt : GoodIn wsX7_quarrel wsX5_earAt := goodIn_r _ [9, 10, 11, 96, 97, 98, 99, 100, 101] (by decide +kernel) (by decide +kernel)
set_option maxRecDepth 20000 in
theorem gX7_quarrel_X5_earAt : GoodIn wsX7_quarrel (wsV RX7 105 RX5 yX5_earAt wsX5_earAt) := goodIn_app (goodIn_of _ (by decide +kernel)) ggX7_quarrel_X5_earAt
set_option maxRecDepth 20000 in
theorem ggX7_quarrel_X1_fill : GoodIn wsX7_quarrel wsX1_fill := goodIn_r _ [16, 17, 18, 19, 20, 21, 22, 23, 24, 25, 26, 27, 28, 29, 30, 31, 32, 33, 34, 35, 36, 37, 38, 39, 40, 41, 42, 43, 44, 45, 46, 47, 48, 49, 50, 51, 52, 53, 54, 55, 56, 57, 58, 59, 60, 15, 61, 62, 96, 97, 98, 99, 100, 101, 102, 103, 104, 105, 106, 107, 108, 109, 110, 111, 112, 113, 114, 115, 116] (by decide +kernel) (by decide +kernel)
set_option maxRecDepth 20000 in
theorem gX7_quarrel_X1_fill : GoodIn wsX7_quarrel (wsV RX7 177 RX1 yX1_fill wsX1_fill) := goodIn_app (goodIn_of _ (by decide +kernel)) ggX7_quarrel_X1_fill
set_option maxRecDepth 20000 in
theorem ggX7_quarrel_X1_namesLike : GoodIn wsX7_quarrel wsX1_namesLike := goodIn_r _ [66, 67, 68, 69, 15, 70, 18, 23, 71, 72, 73, 74, 25, 75, 76, 77, 78, 19, 24, 102, 103, 104, 105, 106, 107, 108] (by decide +kernel) (by decide +kernel)
set_option maxRecDepth 20000 in
theorem gX7_quarrel_X1_namesLike : GoodIn wsX7_quarrel (wsV RX7 222 RX1 yX1_namesLike wsX1_namesLike) := goodIn_app (goodIn_of _ (by decide +kernel)) ggX7_quarrel_X1_namesLike
set_option maxRecDepth 20000 in
theorem ggX7_quarrel_J6_bitCount_0f7a4 : GoodIn wsX7_quarrel wsJ6_bitCount_0f7a4 := goodIn_r _ [82, 83, 84, 85] (by decide +kernel) (by decide +kernel)
set_option maxRecDepth 20000 in
theorem gX7_quarrel_J6_bitCount_0f7a4 : GoodIn wsX7_quarrel (va_wsS RX7 156 yJ6_bitCount_0f7a4 wsJ6_bitCount_0f7a4) := goodIn_app (goodIn_of _ (by decide +kernel)) ggX7_quarrel_J6_bitCount_0f7a4
theorem dX7_quarrel_0 : decode cX7_quarrel 0 = .ok (.aload_n 0, 1) := by decide +kernel
theorem dX7_quarrel_1 : decode cX7_quarrel 1 = .ok (.getfield 10, 3) := by decide +kernel
theorem dX7_quarrel_4 : decode cX7_quarrel 4 = .ok (.iload_n 1, 1) := by decide +kernel
theorem dX7_quarrel_5 : decode cX7_quarrel 5 = .ok (.invokevirtual 105, 3) := by decide +kernel
theorem dX7_quarrel_8 : decode cX7_quarrel 8 = .ok (.astore_n 3, 1) := by decide +kernel
theorem dX7_quarrel_9 : decode cX7_quarrel 9 = .ok (.aload_n 0, 1) := by decide +kernel
theorem dX7_quarrel_10 : decode cX7_quarrel 10 = .ok (.getfield 10, 3) := by decide +kernel
theorem dX7_quarrel_13 : decode cX7_quarrel 13 = .ok (.iload_n 2, 1) := by decide +kernel
theorem dX7_quarrel_14 : decode cX7_quarrel 14 = .ok (.invokevirtual 105, 3) := by decide +kernel
theorem dX7_quarrel_17 : decode cX7_quarrel 17 = .ok (.astore 4, 2) := by decide +kernel
theorem dX7_quarrel_19 : decode cX7_quarrel 19 = .ok (.aload_n 3, 1) := by decide +kernel
theorem dX7_quarrel_20 : decode cX7_quarrel 20 = .ok (.ifnull 8, 3) := by decide +kernel
theorem dX7_quarrel_23 : decode cX7_quarrel 23 = .ok (.aload 4, 2) := by decide +kernel
theorem dX7_quarrel_25 : decode cX7_quarrel 25 = .ok (.ifnonnull 5, 3) := by decide +kernel
theorem dX7_quarrel_28 : decode cX7_quarrel 28 = .ok (.iconst (-1), 1) := by decide +kernel
theorem dX7_quarrel_29 : decode cX7_quarrel 29 = .ok (.ireturn, 1) := by decide +kernel
theorem dX7_quarrel_30 : decode cX7_quarrel 30 = .ok (.aload_n 0, 1) := by decide +kernel
theorem dX7_quarrel_31 : decode cX7_quarrel 31 = .ok (.getfield 41, 3) := by decide +kernel
theorem dX7_quarrel_34 : decode cX7_quarrel 34 = .ok (.aload_n 0, 1) := by decide +kernel
theorem dX7_quarrel_35 : decode cX7_quarrel 35 = .ok (.getfield 10, 3) := by decide +kernel
theorem dX7_quarrel_38 : decode cX7_quarrel 38 = .ok (.aload_n 3, 1) := by decide +kernel
theorem dX7_quarrel_39 : decode cX7_quarrel 39 = .ok (.invokevirtual 177, 3) := by decide +kernel
theorem dX7_quarrel_42 : decode cX7_quarrel 42 = .ok (.aload_n 0, 1) := by decide +kernel
theorem dX7_quarrel_43 : decode cX7_quarrel 43 = .ok (.getfield 45, 3) := by decide +kernel
theorem dX7_quarrel_46 : decode cX7_quarrel 46 = .ok (.aload_n 0, 1) := by decide +kernel
theorem dX7_quarrel_47 : decode cX7_quarrel 47 = .ok (.getfield 10, 3) := by decide +kernel
theorem dX7_quarrel_50 : decode cX7_quarrel 50 = .ok (.aload 4, 2) := by decide +kernel
theorem dX7_quarrel_52 : decode cX7_quarrel 52 = .ok (.invokevirtual 177, 3) := by decide +kernel
theorem dX7_quarrel_55 : decode cX7_quarrel 55 = .ok (.iconst 0, 1) := by decide +kernel
theorem dX7_quarrel_56 : decode cX7_quarrel 56 = .ok (.istore 5, 2) := by decide +kernel
theorem dX7_quarrel_58 : decode cX7_quarrel 58 = .ok (.iconst 0, 1) := by decide +kernel
theorem dX7_quarrel_59 : decode cX7_quarrel 59 = .ok (.istore 6, 2) := by decide +kernel
theorem dX7_quarrel_61 : decode cX7_quarrel 61 = .ok (.iload 6, 2) := by decide +kernel
theorem dX7_quarrel_63 : decode cX7_quarrel 63 = .ok (.aload_n 0, 1) := by decide +kernel
theorem dX7_quarrel_64 : decode cX7_quarrel 64 = .ok (.getfield 10, 3) := by decide +kernel
theorem dX7_quarrel_67 : decode cX7_quarrel 67 = .ok (.getfield 87, 3) := by decide +kernel
theorem dX7_quarrel_70 : decode cX7_quarrel 70 = .ok (.if_icmp .ge 38, 3) := by decide +kernel
theorem dX7_quarrel_73 : decode cX7_quarrel 73 = .ok (.iload 5, 2) := by decide +kernel
theorem dX7_quarrel_75 : decode cX7_quarrel 75 = .ok (.aload_n 0, 1) := by decide +kernel
theorem dX7_quarrel_76 : decode cX7_quarrel 76 = .ok (.getfield 41, 3) := by decide +kernel
theorem dX7_quarrel_79 : decode cX7_quarrel 79 = .ok (.iload 6, 2) := by decide +kernel
theorem dX7_quarrel_81 : decode cX7_quarrel 81 = .ok (.invokevirtual 222, 3) := by decide +kernel
theorem dX7_quarrel_84 : decode cX7_quarrel 84 = .ok (.aload_n 0, 1) := by decide +kernel
theorem dX7_quarrel_85 : decode cX7_quarrel 85 = .ok (.getfield 45, 3) := by decide +kernel
theorem dX7_quarrel_88 : decode cX7_quarrel 88 = .ok (.iload 6, 2) := by decide +kernel
theorem dX7_quarrel_90 : decode cX7_quarrel 90 = .ok (.invokevirtual 222, 3) := by decide +kernel
theorem dX7_quarrel_93 : decode cX7_quarrel 93 = .ok (.iconst (-1), 1) := by decide +kernel
theorem dX7_quarrel_94 : decode cX7_quarrel 94 = .ok (.ixor, 1) := by decide +kernel
theorem dX7_quarrel_95 : decode cX7_quarrel 95 = .ok (.iand, 1) := by decide +kernel
theorem dX7_quarrel_96 : decode cX7_quarrel 96 = .ok (.invokestatic 156, 3) := by decide +kernel
theorem dX7_quarrel_99 : decode cX7_quarrel 99 = .ok (.iadd, 1) := by decide +kernel
theorem dX7_quarrel_100 : decode cX7_quarrel 100 = .ok (.istore 5, 2) := by decide +kernel
theorem dX7_quarrel_102 : decode cX7_quarrel 102 = .ok (.iinc 6 1, 3) := by decide +kernel
theorem dX7_quarrel_105 : decode cX7_quarrel 105 = .ok (.goto (-44), 3) := by decide +kernel
theorem dX7_quarrel_108 : decode cX7_quarrel 108 = .ok (.iload 5, 2) := by decide +kernel
theorem dX7_quarrel_110 : decode cX7_quarrel 110 = .ok (.iconst 2, 1) := by decide +kernel
theorem dX7_quarrel_111 : decode cX7_quarrel 111 = .ok (.idiv, 1) := by decide +kernel
theorem dX7_quarrel_112 : decode cX7_quarrel 112 = .ok (.ireturn, 1) := by decide +kernel
set_option maxRecDepth 20000 in
theorem ggX7_deafest_X5_earAt : GoodIn wsX7_deafest wsX5_earAt := goodIn_r _ [8, 9, 10, 99, 100, 101, 102, 103, 104] (by decide +kernel) (by decide +kernel)
set_option maxRecDepth 20000 in
theorem gX7_deafest_X5_earAt : GoodIn wsX7_deafest (wsV RX7 105 RX5 yX5_earAt wsX5_earAt) := goodIn_app (goodIn_of _ (by decide +kernel)) ggX7_deafest_X5_earAt
set_option maxRecDepth 20000 in
theorem ggX7_deafest_X1_fill : GoodIn wsX7_deafest wsX1_fill := goodIn_r _ [15, 16, 17, 18, 19, 20, 21, 22, 23, 24, 25, 26, 27, 28, 29, 30, 31, 32, 33, 34, 35, 36, 37, 38, 39, 40, 41, 42, 43, 44, 45, 46, 47, 48, 49, 50, 51, 52, 53, 54, 55, 56, 57, 58, 59, 14, 60, 61, 99, 100, 101, 102, 103, 104, 105, 106, 107, 108, 109, 110, 111, 112, 113, 114, 115, 116, 117, 118, 119] (by decide +kernel) (by decide +kernel)
set_option maxRecDepth 20000 in
theorem gX7_deafest_X1_fill : GoodIn wsX7_deafest (wsV RX7 177 RX1 yX1_fill wsX1_fill) := goodIn_app (goodIn_of _ (by decide +kernel)) ggX7_deafest_X1_fill
set_option maxRecDepth 20000 in
theorem ggX7_deafest_X1_alikePairs : GoodIn wsX7_deafest wsX1_alikePairs := goodIn_r _ [65, 17, 66, 67, 68, 14, 69, 70, 71, 72, 73, 22, 74, 75, 76, 77, 24, 78, 79, 80, 81, 18, 23, 82, 83, 84, 85, 86, 87, 88, 105, 106, 107, 108, 109, 110, 111] (by decide +kernel) (by decide +kernel)
set_option maxRecDepth 20000 in
theorem gX7_deafest_X1_alikePairs : GoodIn wsX7_deafest (wsV RX7 190 RX1 yX1_alikePairs wsX1_alikePairs) := goodIn_app (goodIn_of _ (by decide +kernel)) ggX7_deafest_X1_alikePairs
theorem dX7_deafest_0 : decode cX7_deafest 0 = .ok (.bipush (-6), 2) := by decide +kernel
theorem dX7_deafest_2 : decode cX7_deafest 2 = .ok (.istore_n 1, 1) := by decide +kernel
theorem dX7_deafest_3 : decode cX7_deafest 3 = .ok (.bipush (-6), 2) := by decide +kernel
theorem dX7_deafest_5 : decode cX7_deafest 5 = .ok (.istore_n 2, 1) := by decide +kernel
theorem dX7_deafest_6 : decode cX7_deafest 6 = .ok (.iconst 0, 1) := by decide +kernel
theorem dX7_deafest_7 : decode cX7_deafest 7 = .ok (.istore_n 3, 1) := by decide +kernel
theorem dX7_deafest_8 : decode cX7_deafest 8 = .ok (.iload_n 3, 1) := by decide +kernel
theorem dX7_deafest_9 : decode cX7_deafest 9 = .ok (.aload_n 0, 1) := by decide +kernel
theorem dX7_deafest_10 : decode cX7_deafest 10 = .ok (.getfield 10, 3) := by decide +kernel
theorem dX7_deafest_13 : decode cX7_deafest 13 = .ok (.getfield 109, 3) := by decide +kernel
theorem dX7_deafest_16 : decode cX7_deafest 16 = .ok (.if_icmp .ge 60, 3) := by decide +kernel
theorem dX7_deafest_19 : decode cX7_deafest 19 = .ok (.aload_n 0, 1) := by decide +kernel
theorem dX7_deafest_20 : decode cX7_deafest 20 = .ok (.getfield 10, 3) := by decide +kernel
theorem dX7_deafest_23 : decode cX7_deafest 23 = .ok (.iload_n 3, 1) := by decide +kernel
theorem dX7_deafest_24 : decode cX7_deafest 24 = .ok (.invokevirtual 105, 3) := by decide +kernel
theorem dX7_deafest_27 : decode cX7_deafest 27 = .ok (.astore 4, 2) := by decide +kernel
theorem dX7_deafest_29 : decode cX7_deafest 29 = .ok (.aload 4, 2) := by decide +kernel
theorem dX7_deafest_31 : decode cX7_deafest 31 = .ok (.ifnonnull 6, 3) := by decide +kernel
theorem dX7_deafest_34 : decode cX7_deafest 34 = .ok (.goto 36, 3) := by decide +kernel
theorem dX7_deafest_37 : decode cX7_deafest 37 = .ok (.aload_n 0, 1) := by decide +kernel
theorem dX7_deafest_38 : decode cX7_deafest 38 = .ok (.getfield 41, 3) := by decide +kernel
theorem dX7_deafest_41 : decode cX7_deafest 41 = .ok (.aload_n 0, 1) := by decide +kernel
theorem dX7_deafest_42 : decode cX7_deafest 42 = .ok (.getfield 10, 3) := by decide +kernel
theorem dX7_deafest_45 : decode cX7_deafest 45 = .ok (.aload 4, 2) := by decide +kernel
theorem dX7_deafest_47 : decode cX7_deafest 47 = .ok (.invokevirtual 177, 3) := by decide +kernel
theorem dX7_deafest_50 : decode cX7_deafest 50 = .ok (.aload_n 0, 1) := by decide +kernel
theorem dX7_deafest_51 : decode cX7_deafest 51 = .ok (.getfield 41, 3) := by decide +kernel
theorem dX7_deafest_54 : decode cX7_deafest 54 = .ok (.invokevirtual 190, 3) := by decide +kernel
theorem dX7_deafest_57 : decode cX7_deafest 57 = .ok (.istore 5, 2) := by decide +kernel
theorem dX7_deafest_59 : decode cX7_deafest 59 = .ok (.iload 5, 2) := by decide +kernel
theorem dX7_deafest_61 : decode cX7_deafest 61 = .ok (.iload_n 2, 1) := by decide +kernel
theorem dX7_deafest_62 : decode cX7_deafest 62 = .ok (.if_icmp .le 8, 3) := by decide +kernel
theorem dX7_deafest_65 : decode cX7_deafest 65 = .ok (.iload_n 3, 1) := by decide +kernel
theorem dX7_deafest_66 : decode cX7_deafest 66 = .ok (.istore_n 1, 1) := by decide +kernel
theorem dX7_deafest_67 : decode cX7_deafest 67 = .ok (.iload 5, 2) := by decide +kernel
theorem dX7_deafest_69 : decode cX7_deafest 69 = .ok (.istore_n 2, 1) := by decide +kernel
theorem dX7_deafest_70 : decode cX7_deafest 70 = .ok (.iinc 3 1, 3) := by decide +kernel
theorem dX7_deafest_73 : decode cX7_deafest 73 = .ok (.goto (-65), 3) := by decide +kernel
theorem dX7_deafest_76 : decode cX7_deafest 76 = .ok (.iload_n 1, 1) := by decide +kernel
theorem dX7_deafest_77 : decode cX7_deafest 77 = .ok (.ireturn, 1) := by decide +kernel
set_option maxRecDepth 20000 in
theorem ggX7_put_X4_charactersIn : GoodIn wsX7_put wsX4_charactersIn := goodIn_r _ [6, 7, 8, 9] (by decide +kernel) (by decide +kernel)
set_option maxRecDepth 20000 in
theorem gX7_put_X4_charactersIn : GoodIn wsX7_put (va_wsS RX7 241 yX4_charactersIn wsX4_charactersIn) := goodIn_app (goodIn_of _ (by decide +kernel)) ggX7_put_X4_charactersIn
set_option maxRecDepth 20000 in
theorem ggX7_put_X4_append : GoodIn wsX7_put wsX4_append := goodIn_r _ [13, 14, 15, 7, 26, 27] (by decide +kernel) (by decide +kernel)
set_option maxRecDepth 20000 in
theorem gX7_put_X4_append : GoodIn wsX7_put (wsV RX7 244 RX4 yX4_append wsX4_append) := goodIn_app (goodIn_of _ (by decide +kernel)) ggX7_put_X4_append
theorem dX7_put_0 : decode cX7_put 0 = .ok (.lload_n 1, 1) := by decide +kernel
theorem dX7_put_1 : decode cX7_put 1 = .ok (.invokestatic 241, 3) := by decide +kernel
theorem dX7_put_4 : decode cX7_put 4 = .ok (.istore_n 3, 1) := by decide +kernel
theorem dX7_put_5 : decode cX7_put 5 = .ok (.iload_n 3, 1) := by decide +kernel
theorem dX7_put_6 : decode cX7_put 6 = .ok (.ifCond .ne 6, 3) := by decide +kernel
theorem dX7_put_9 : decode cX7_put 9 = .ok (.bipush (-2), 2) := by decide +kernel
theorem dX7_put_11 : decode cX7_put 11 = .ok (.ireturn, 1) := by decide +kernel
theorem dX7_put_12 : decode cX7_put 12 = .ok (.aload_n 0, 1) := by decide +kernel
theorem dX7_put_13 : decode cX7_put 13 = .ok (.getfield 34, 3) := by decide +kernel
theorem dX7_put_16 : decode cX7_put 16 = .ok (.getfield 94, 3) := by decide +kernel
theorem dX7_put_19 : decode cX7_put 19 = .ok (.iload_n 3, 1) := by decide +kernel
theorem dX7_put_20 : decode cX7_put 20 = .ok (.iadd, 1) := by decide +kernel
theorem dX7_put_21 : decode cX7_put 21 = .ok (.bipush 80, 2) := by decide +kernel
theorem dX7_put_23 : decode cX7_put 23 = .ok (.if_icmp .le 6, 3) := by decide +kernel
theorem dX7_put_26 : decode cX7_put 26 = .ok (.bipush (-4), 2) := by decide +kernel
theorem dX7_put_28 : decode cX7_put 28 = .ok (.ireturn, 1) := by decide +kernel
theorem dX7_put_29 : decode cX7_put 29 = .ok (.aload_n 0, 1) := by decide +kernel
theorem dX7_put_30 : decode cX7_put 30 = .ok (.getfield 34, 3) := by decide +kernel
theorem dX7_put_33 : decode cX7_put 33 = .ok (.lload_n 1, 1) := by decide +kernel
theorem dX7_put_34 : decode cX7_put 34 = .ok (.iload_n 3, 1) := by decide +kernel
theorem dX7_put_35 : decode cX7_put 35 = .ok (.invokevirtual 244, 3) := by decide +kernel
theorem dX7_put_38 : decode cX7_put 38 = .ok (.aload_n 0, 1) := by decide +kernel
theorem dX7_put_39 : decode cX7_put 39 = .ok (.getfield 34, 3) := by decide +kernel
theorem dX7_put_42 : decode cX7_put 42 = .ok (.getfield 94, 3) := by decide +kernel
theorem dX7_put_45 : decode cX7_put 45 = .ok (.ireturn, 1) := by decide +kernel
theorem dX7_wipe_0 : decode cX7_wipe 0 = .ok (.aload_n 0, 1) := by decide +kernel
theorem dX7_wipe_1 : decode cX7_wipe 1 = .ok (.getfield 34, 3) := by decide +kernel
theorem dX7_wipe_4 : decode cX7_wipe 4 = .ok (.getfield 94, 3) := by decide +kernel
theorem dX7_wipe_7 : decode cX7_wipe 7 = .ok (.istore_n 1, 1) := by decide +kernel
theorem dX7_wipe_8 : decode cX7_wipe 8 = .ok (.aload_n 0, 1) := by decide +kernel
theorem dX7_wipe_9 : decode cX7_wipe 9 = .ok (.getfield 34, 3) := by decide +kernel
theorem dX7_wipe_12 : decode cX7_wipe 12 = .ok (.iconst 0, 1) := by decide +kernel
theorem dX7_wipe_13 : decode cX7_wipe 13 = .ok (.putfield 94, 3) := by decide +kernel
theorem dX7_wipe_16 : decode cX7_wipe 16 = .ok (.iload_n 1, 1) := by decide +kernel
theorem dX7_wipe_17 : decode cX7_wipe 17 = .ok (.ireturn, 1) := by decide +kernel
set_option maxRecDepth 20000 in
theorem ggX7_fault_X4_firstFault : GoodIn wsX7_fault wsX4_firstFault := goodIn_r _ [6, 7, 8, 19, 20] (by decide +kernel) (by decide +kernel)
set_option maxRecDepth 20000 in
theorem gX7_fault_X4_firstFault : GoodIn wsX7_fault (wsV RX7 75 RX4 yX4_firstFault wsX4_firstFault) := goodIn_app (goodIn_of _ (by decide +kernel)) ggX7_fault_X4_firstFault
theorem dX7_fault_0 : decode cX7_fault 0 = .ok (.aload_n 0, 1) := by decide +kernel
theorem dX7_fault_1 : decode cX7_fault 1 = .ok (.getfield 34, 3) := by decide +kernel
theorem dX7_fault_4 : decode cX7_fault 4 = .ok (.invokevirtual 75, 3) := by decide +kernel
theorem dX7_fault_7 : decode cX7_fault 7 = .ok (.ireturn, 1) := by decide +kernel
set_option maxRecDepth 20000 in
theorem ggX7_undo_X5_beAs : GoodIn wsX7_undo wsX5_beAs := goodIn_r _ [8, 9, 10, 11, 12, 13, 14, 15, 16, 17, 18, 19, 20, 21, 22, 23, 24, 25, 26, 27, 28, 29, 30, 31, 32, 43, 44, 45, 46, 47, 48, 49, 50, 51, 52, 53, 54, 55, 56] (by decide +kernel) (by decide +kernel)
set_option maxRecDepth 20000 in
theorem gX7_undo_X5_beAs : GoodIn wsX7_undo (wsV RX7 248 RX5 yX5_beAs wsX5_beAs) := goodIn_app (goodIn_of _ (by decide +kernel)) ggX7_undo_X5_beAs
theorem dX7_undo_0 : decode cX7_undo 0 = .ok (.aload_n 0, 1) := by decide +kernel
theorem dX7_undo_1 : decode cX7_undo 1 = .ok (.getfield 20, 3) := by decide +kernel
theorem dX7_undo_4 : decode cX7_undo 4 = .ok (.ifCond .le 15, 3) := by decide +kernel
theorem dX7_undo_7 : decode cX7_undo 7 = .ok (.aload_n 0, 1) := by decide +kernel
theorem dX7_undo_8 : decode cX7_undo 8 = .ok (.getfield 20, 3) := by decide +kernel
theorem dX7_undo_11 : decode cX7_undo 11 = .ok (.aload_n 0, 1) := by decide +kernel
theorem dX7_undo_12 : decode cX7_undo 12 = .ok (.getfield 16, 3) := by decide +kernel
theorem dX7_undo_15 : decode cX7_undo 15 = .ok (.arraylength, 1) := by decide +kernel
theorem dX7_undo_16 : decode cX7_undo 16 = .ok (.if_icmp .le 6, 3) := by decide +kernel
theorem dX7_undo_19 : decode cX7_undo 19 = .ok (.bipush (-5), 2) := by decide +kernel
theorem dX7_undo_21 : decode cX7_undo 21 = .ok (.ireturn, 1) := by decide +kernel
theorem dX7_undo_22 : decode cX7_undo 22 = .ok (.aload_n 0, 1) := by decide +kernel
theorem dX7_undo_23 : decode cX7_undo 23 = .ok (.dup, 1) := by decide +kernel
theorem dX7_undo_24 : decode cX7_undo 24 = .ok (.getfield 20, 3) := by decide +kernel
theorem dX7_undo_27 : decode cX7_undo 27 = .ok (.iconst 1, 1) := by decide +kernel
theorem dX7_undo_28 : decode cX7_undo 28 = .ok (.isub, 1) := by decide +kernel
theorem dX7_undo_29 : decode cX7_undo 29 = .ok (.putfield 20, 3) := by decide +kernel
theorem dX7_undo_32 : decode cX7_undo 32 = .ok (.aload_n 0, 1) := by decide +kernel
theorem dX7_undo_33 : decode cX7_undo 33 = .ok (.getfield 10, 3) := by decide +kernel
theorem dX7_undo_36 : decode cX7_undo 36 = .ok (.aload_n 0, 1) := by decide +kernel
theorem dX7_undo_37 : decode cX7_undo 37 = .ok (.getfield 16, 3) := by decide +kernel
theorem dX7_undo_40 : decode cX7_undo 40 = .ok (.aload_n 0, 1) := by decide +kernel
theorem dX7_undo_41 : decode cX7_undo 41 = .ok (.getfield 20, 3) := by decide +kernel
theorem dX7_undo_44 : decode cX7_undo 44 = .ok (.aaload, 1) := by decide +kernel
theorem dX7_undo_45 : decode cX7_undo 45 = .ok (.invokevirtual 248, 3) := by decide +kernel
theorem dX7_undo_48 : decode cX7_undo 48 = .ok (.aload_n 0, 1) := by decide +kernel
theorem dX7_undo_49 : decode cX7_undo 49 = .ok (.getfield 20, 3) := by decide +kernel
theorem dX7_undo_52 : decode cX7_undo 52 = .ok (.ireturn, 1) := by decide +kernel
set_option maxRecDepth 20000 in
theorem ggX7_save_X7_isWithin : GoodIn wsX7_save wsX7_isWithin := goodIn_r _ [8] (by decide +kernel) (by decide +kernel)
set_option maxRecDepth 20000 in
theorem gX7_save_X7_isWithin : GoodIn wsX7_save (va_wsS RX7 62 yX7_isWithin wsX7_isWithin) := goodIn_app (goodIn_of _ (by decide +kernel)) ggX7_save_X7_isWithin
set_option maxRecDepth 20000 in
theorem ggX7_save_X5_beAs : GoodIn wsX7_save wsX5_beAs := goodIn_r _ [13, 14, 15, 16, 17, 18, 19, 20, 21, 22, 23, 24, 25, 26, 27, 28, 29, 30, 31, 32, 33, 34, 35, 36, 37, 48, 49, 50, 51, 52, 53, 54, 55, 56, 57, 58, 59, 60, 61] (by decide +kernel) (by decide +kernel)
set_option maxRecDepth 20000 in
theorem gX7_save_X5_beAs : GoodIn wsX7_save (wsV RX7 248 RX5 yX5_beAs wsX5_beAs) := goodIn_app (goodIn_of _ (by decide +kernel)) ggX7_save_X5_beAs
theorem dX7_save_0 : decode cX7_save 0 = .ok (.iload_n 1, 1) := by decide +kernel
theorem dX7_save_1 : decode cX7_save 1 = .ok (.iconst 0, 1) := by decide +kernel
theorem dX7_save_2 : decode cX7_save 2 = .ok (.iconst 1, 1) := by decide +kernel
theorem dX7_save_3 : decode cX7_save 3 = .ok (.invokestatic 62, 3) := by decide +kernel
theorem dX7_save_6 : decode cX7_save 6 = .ok (.ifCond .ne 6, 3) := by decide +kernel
theorem dX7_save_9 : decode cX7_save 9 = .ok (.bipush (-2), 2) := by decide +kernel
theorem dX7_save_11 : decode cX7_save 11 = .ok (.ireturn, 1) := by decide +kernel
theorem dX7_save_12 : decode cX7_save 12 = .ok (.aload_n 0, 1) := by decide +kernel
theorem dX7_save_13 : decode cX7_save 13 = .ok (.getfield 24, 3) := by decide +kernel
theorem dX7_save_16 : decode cX7_save 16 = .ok (.iload_n 1, 1) := by decide +kernel
theorem dX7_save_17 : decode cX7_save 17 = .ok (.aaload, 1) := by decide +kernel
theorem dX7_save_18 : decode cX7_save 18 = .ok (.aload_n 0, 1) := by decide +kernel
theorem dX7_save_19 : decode cX7_save 19 = .ok (.getfield 10, 3) := by decide +kernel
theorem dX7_save_22 : decode cX7_save 22 = .ok (.invokevirtual 248, 3) := by decide +kernel
theorem dX7_save_25 : decode cX7_save 25 = .ok (.aload_n 0, 1) := by decide +kernel
theorem dX7_save_26 : decode cX7_save 26 = .ok (.getfield 27, 3) := by decide +kernel
theorem dX7_save_29 : decode cX7_save 29 = .ok (.iload_n 1, 1) := by decide +kernel
theorem dX7_save_30 : decode cX7_save 30 = .ok (.iconst 1, 1) := by decide +kernel
theorem dX7_save_31 : decode cX7_save 31 = .ok (.bastore, 1) := by decide +kernel
theorem dX7_save_32 : decode cX7_save 32 = .ok (.aload_n 0, 1) := by decide +kernel
theorem dX7_save_33 : decode cX7_save 33 = .ok (.getfield 10, 3) := by decide +kernel
theorem dX7_save_36 : decode cX7_save 36 = .ok (.getfield 87, 3) := by decide +kernel
theorem dX7_save_39 : decode cX7_save 39 = .ok (.ireturn, 1) := by decide +kernel
set_option maxRecDepth 20000 in
theorem ggX7_restore_X7_isWithin : GoodIn wsX7_restore wsX7_isWithin := goodIn_r _ [8] (by decide +kernel) (by decide +kernel)
set_option maxRecDepth 20000 in
theorem gX7_restore_X7_isWithin : GoodIn wsX7_restore (va_wsS RX7 62 yX7_isWithin wsX7_isWithin) := goodIn_app (goodIn_of _ (by decide +kernel)) ggX7_restore_X7_isWithin
set_option maxRecDepth 20000 in
theorem ggX7_restore_X7_recordChange : GoodIn wsX7_restore wsX7_recordChange := goodIn_r _ [12, 13, 14, 2, 15, 16, 17, 18, 19, 20, 21, 22, 23, 24, 25, 26, 27, 28, 29, 30, 31, 32, 33, 34, 35, 36, 37, 38, 39, 40, 41, 42, 43, 44, 45, 46, 47, 48, 49, 50, 51, 52, 53, 54, 55, 56, 57, 58, 59, 60, 61, 62, 63, 64, 65, 66, 67] (by decide +kernel) (by decide +kernel)
set_option maxRecDepth 20000 in
theorem gX7_restore_X7_recordChange : GoodIn wsX7_restore (wsV RX7 69 RX7 yX7_recordChange wsX7_recordChange) := goodIn_app (goodIn_of _ (by decide +kernel)) ggX7_restore_X7_recordChange
set_option maxRecDepth 20000 in
theorem ggX7_restore_X5_beAs : GoodIn wsX7_restore wsX5_beAs := goodIn_r _ [19, 20, 21, 22, 23, 24, 25, 26, 27, 28, 29, 30, 31, 32, 33, 34, 35, 36, 37, 38, 39, 40, 41, 42, 43, 54, 55, 56, 57, 58, 59, 60, 61, 62, 63, 64, 65, 66, 67] (by decide +kernel) (by decide +kernel)
set_option maxRecDepth 20000 in
theorem gX7_restore_X5_beAs : GoodIn wsX7_restore (wsV RX7 248 RX5 yX5_beAs wsX5_beAs) := goodIn_app (goodIn_of _ (by decide +kernel)) ggX7_restore_X5_beAs
theorem dX7_restore_0 : decode cX7_restore 0 = .ok (.iload_n 1, 1) := by decide +kernel
theorem dX7_restore_1 : decode cX7_restore 1 = .ok (.iconst 0, 1) := by decide +kernel
theorem dX7_restore_2 : decode cX7_restore 2 = .ok (.iconst 1, 1) := by decide +kernel
theorem dX7_restore_3 : decode cX7_restore 3 = .ok (.invokestatic 62, 3) := by decide +kernel
theorem dX7_restore_6 : decode cX7_restore 6 = .ok (.ifCond .ne 6, 3) := by decide +kernel
theorem dX7_restore_9 : decode cX7_restore 9 = .ok (.bipush (-2), 2) := by decide +kernel
theorem dX7_restore_11 : decode cX7_restore 11 = .ok (.ireturn, 1) := by decide +kernel
theorem dX7_restore_12 : decode cX7_restore 12 = .ok (.aload_n 0, 1) := by decide +kernel
theorem dX7_restore_13 : decode cX7_restore 13 = .ok (.getfield 27, 3) := by decide +kernel
theorem dX7_restore_16 : decode cX7_restore 16 = .ok (.iload_n 1, 1) := by decide +kernel
theorem dX7_restore_17 : decode cX7_restore 17 = .ok (.baload, 1) := by decide +kernel
theorem dX7_restore_18 : decode cX7_restore 18 = .ok (.ifCond .ne 6, 3) := by decide +kernel
theorem dX7_restore_21 : decode cX7_restore 21 = .ok (.bipush (-5), 2) := by decide +kernel
theorem dX7_restore_23 : decode cX7_restore 23 = .ok (.ireturn, 1) := by decide +kernel
theorem dX7_restore_24 : decode cX7_restore 24 = .ok (.aload_n 0, 1) := by decide +kernel
theorem dX7_restore_25 : decode cX7_restore 25 = .ok (.invokevirtual 69, 3) := by decide +kernel
theorem dX7_restore_28 : decode cX7_restore 28 = .ok (.aload_n 0, 1) := by decide +kernel
theorem dX7_restore_29 : decode cX7_restore 29 = .ok (.getfield 10, 3) := by decide +kernel
theorem dX7_restore_32 : decode cX7_restore 32 = .ok (.aload_n 0, 1) := by decide +kernel
theorem dX7_restore_33 : decode cX7_restore 33 = .ok (.getfield 24, 3) := by decide +kernel
theorem dX7_restore_36 : decode cX7_restore 36 = .ok (.iload_n 1, 1) := by decide +kernel
theorem dX7_restore_37 : decode cX7_restore 37 = .ok (.aaload, 1) := by decide +kernel
theorem dX7_restore_38 : decode cX7_restore 38 = .ok (.invokevirtual 248, 3) := by decide +kernel
theorem dX7_restore_41 : decode cX7_restore 41 = .ok (.aload_n 0, 1) := by decide +kernel
theorem dX7_restore_42 : decode cX7_restore 42 = .ok (.getfield 10, 3) := by decide +kernel
theorem dX7_restore_45 : decode cX7_restore 45 = .ok (.getfield 87, 3) := by decide +kernel
theorem dX7_restore_48 : decode cX7_restore 48 = .ok (.ireturn, 1) := by decide +kernel
theorem dX7_isWithin_0 : decode cX7_isWithin 0 = .ok (.iload_n 0, 1) := by decide +kernel
theorem dX7_isWithin_1 : decode cX7_isWithin 1 = .ok (.iload_n 1, 1) := by decide +kernel
theorem dX7_isWithin_2 : decode cX7_isWithin 2 = .ok (.if_icmp .lt 12, 3) := by decide +kernel
theorem dX7_isWithin_5 : decode cX7_isWithin 5 = .ok (.iload_n 0, 1) := by decide +kernel
theorem dX7_isWithin_6 : decode cX7_isWithin 6 = .ok (.iload_n 2, 1) := by decide +kernel
theorem dX7_isWithin_7 : decode cX7_isWithin 7 = .ok (.if_icmp .gt 7, 3) := by decide +kernel
theorem dX7_isWithin_10 : decode cX7_isWithin 10 = .ok (.iconst 1, 1) := by decide +kernel
theorem dX7_isWithin_11 : decode cX7_isWithin 11 = .ok (.goto 4, 3) := by decide +kernel
theorem dX7_isWithin_14 : decode cX7_isWithin 14 = .ok (.iconst 0, 1) := by decide +kernel
theorem dX7_isWithin_15 : decode cX7_isWithin 15 = .ok (.ireturn, 1) := by decide +kernel
set_option maxRecDepth 20000 in
theorem ggX7_isClass_X7_isWithin : GoodIn wsX7_isClass wsX7_isWithin := goodIn_r _ [4] (by decide +kernel) (by decide +kernel)
set_option maxRecDepth 20000 in
theorem gX7_isClass_X7_isWithin : GoodIn wsX7_isClass (va_wsS RX7 62 yX7_isWithin wsX7_isWithin) := goodIn_app (goodIn_of _ (by decide +kernel)) ggX7_isClass_X7_isWithin
theorem dX7_isClass_0 : decode cX7_isClass 0 = .ok (.iload_n 0, 1) := by decide +kernel
theorem dX7_isClass_1 : decode cX7_isClass 1 = .ok (.iconst 0, 1) := by decide +kernel
theorem dX7_isClass_2 : decode cX7_isClass 2 = .ok (.bipush 9, 2) := by decide +kernel
theorem dX7_isClass_4 : decode cX7_isClass 4 = .ok (.invokestatic 62, 3) := by decide +kernel
theorem dX7_isClass_7 : decode cX7_isClass 7 = .ok (.ireturn, 1) := by decide +kernel
set_option maxRecDepth 20000 in
theorem ggX7_canMerge_X7_isClass : GoodIn wsX7_canMerge wsX7_isClass := goodIn_r _ [4, 5, 6, 3, 7] (by decide +kernel) (by decide +kernel)
set_option maxRecDepth 20000 in
theorem gX7_canMerge_X7_isClass : GoodIn wsX7_canMerge (va_wsS RX7 128 yX7_isClass wsX7_isClass) := goodIn_app (goodIn_of _ (by decide +kernel)) ggX7_canMerge_X7_isClass
theorem dX7_canMerge_0 : decode cX7_canMerge 0 = .ok (.iload_n 0, 1) := by decide +kernel
theorem dX7_canMerge_1 : decode cX7_canMerge 1 = .ok (.invokestatic 128, 3) := by decide +kernel
theorem dX7_canMerge_4 : decode cX7_canMerge 4 = .ok (.ifCond .eq 19, 3) := by decide +kernel
theorem dX7_canMerge_7 : decode cX7_canMerge 7 = .ok (.iload_n 1, 1) := by decide +kernel
theorem dX7_canMerge_8 : decode cX7_canMerge 8 = .ok (.invokestatic 128, 3) := by decide +kernel
theorem dX7_canMerge_11 : decode cX7_canMerge 11 = .ok (.ifCond .eq 12, 3) := by decide +kernel
theorem dX7_canMerge_14 : decode cX7_canMerge 14 = .ok (.iload_n 0, 1) := by decide +kernel
theorem dX7_canMerge_15 : decode cX7_canMerge 15 = .ok (.iload_n 1, 1) := by decide +kernel
theorem dX7_canMerge_16 : decode cX7_canMerge 16 = .ok (.if_icmp .eq 7, 3) := by decide +kernel
theorem dX7_canMerge_19 : decode cX7_canMerge 19 = .ok (.iconst 1, 1) := by decide +kernel
theorem dX7_canMerge_20 : decode cX7_canMerge 20 = .ok (.goto 4, 3) := by decide +kernel
theorem dX7_canMerge_23 : decode cX7_canMerge 23 = .ok (.iconst 0, 1) := by decide +kernel
theorem dX7_canMerge_24 : decode cX7_canMerge 24 = .ok (.ireturn, 1) := by decide +kernel
set_option maxRecDepth 20000 in
theorem ggX7_recordChange_X5_beAs : GoodIn wsX7_recordChange wsX5_beAs := goodIn_r _ [8, 9, 10, 11, 12, 13, 14, 15, 16, 17, 18, 19, 20, 21, 22, 23, 24, 25, 26, 27, 28, 29, 30, 31, 32, 43, 44, 45, 46, 47, 48, 49, 50, 51, 52, 53, 54, 55, 56] (by decide +kernel) (by decide +kernel)
set_option maxRecDepth 20000 in
theorem gX7_recordChange_X5_beAs : GoodIn wsX7_recordChange (wsV RX7 248 RX5 yX5_beAs wsX5_beAs) := goodIn_app (goodIn_of _ (by decide +kernel)) ggX7_recordChange_X5_beAs
theorem dX7_recordChange_0 : decode cX7_recordChange 0 = .ok (.aload_n 0, 1) := by decide +kernel
theorem dX7_recordChange_1 : decode cX7_recordChange 1 = .ok (.getfield 20, 3) := by decide +kernel
theorem dX7_recordChange_4 : decode cX7_recordChange 4 = .ok (.aload_n 0, 1) := by decide +kernel
theorem dX7_recordChange_5 : decode cX7_recordChange 5 = .ok (.getfield 16, 3) := by decide +kernel
theorem dX7_recordChange_8 : decode cX7_recordChange 8 = .ok (.arraylength, 1) := by decide +kernel
theorem dX7_recordChange_9 : decode cX7_recordChange 9 = .ok (.if_icmp .lt 65, 3) := by decide +kernel
theorem dX7_recordChange_12 : decode cX7_recordChange 12 = .ok (.aload_n 0, 1) := by decide +kernel
theorem dX7_recordChange_13 : decode cX7_recordChange 13 = .ok (.getfield 16, 3) := by decide +kernel
theorem dX7_recordChange_16 : decode cX7_recordChange 16 = .ok (.iconst 0, 1) := by decide +kernel
theorem dX7_recordChange_17 : decode cX7_recordChange 17 = .ok (.aaload, 1) := by decide +kernel
theorem dX7_recordChange_18 : decode cX7_recordChange 18 = .ok (.astore_n 1, 1) := by decide +kernel
theorem dX7_recordChange_19 : decode cX7_recordChange 19 = .ok (.iconst 1, 1) := by decide +kernel
theorem dX7_recordChange_20 : decode cX7_recordChange 20 = .ok (.istore_n 2, 1) := by decide +kernel
theorem dX7_recordChange_21 : decode cX7_recordChange 21 = .ok (.iload_n 2, 1) := by decide +kernel
theorem dX7_recordChange_22 : decode cX7_recordChange 22 = .ok (.aload_n 0, 1) := by decide +kernel
theorem dX7_recordChange_23 : decode cX7_recordChange 23 = .ok (.getfield 16, 3) := by decide +kernel
theorem dX7_recordChange_26 : decode cX7_recordChange 26 = .ok (.arraylength, 1) := by decide +kernel
theorem dX7_recordChange_27 : decode cX7_recordChange 27 = .ok (.if_icmp .ge 23, 3) := by decide +kernel
theorem dX7_recordChange_30 : decode cX7_recordChange 30 = .ok (.aload_n 0, 1) := by decide +kernel
theorem dX7_recordChange_31 : decode cX7_recordChange 31 = .ok (.getfield 16, 3) := by decide +kernel
theorem dX7_recordChange_34 : decode cX7_recordChange 34 = .ok (.iload_n 2, 1) := by decide +kernel
theorem dX7_recordChange_35 : decode cX7_recordChange 35 = .ok (.iconst 1, 1) := by decide +kernel
theorem dX7_recordChange_36 : decode cX7_recordChange 36 = .ok (.isub, 1) := by decide +kernel
theorem dX7_recordChange_37 : decode cX7_recordChange 37 = .ok (.aload_n 0, 1) := by decide +kernel
theorem dX7_recordChange_38 : decode cX7_recordChange 38 = .ok (.getfield 16, 3) := by decide +kernel
theorem dX7_recordChange_41 : decode cX7_recordChange 41 = .ok (.iload_n 2, 1) := by decide +kernel
theorem dX7_recordChange_42 : decode cX7_recordChange 42 = .ok (.aaload, 1) := by decide +kernel
theorem dX7_recordChange_43 : decode cX7_recordChange 43 = .ok (.aastore, 1) := by decide +kernel
theorem dX7_recordChange_44 : decode cX7_recordChange 44 = .ok (.iinc 2 1, 3) := by decide +kernel
theorem dX7_recordChange_47 : decode cX7_recordChange 47 = .ok (.goto (-26), 3) := by decide +kernel
theorem dX7_recordChange_50 : decode cX7_recordChange 50 = .ok (.aload_n 0, 1) := by decide +kernel
theorem dX7_recordChange_51 : decode cX7_recordChange 51 = .ok (.getfield 16, 3) := by decide +kernel
theorem dX7_recordChange_54 : decode cX7_recordChange 54 = .ok (.aload_n 0, 1) := by decide +kernel
theorem dX7_recordChange_55 : decode cX7_recordChange 55 = .ok (.getfield 16, 3) := by decide +kernel
theorem dX7_recordChange_58 : decode cX7_recordChange 58 = .ok (.arraylength, 1) := by decide +kernel
theorem dX7_recordChange_59 : decode cX7_recordChange 59 = .ok (.iconst 1, 1) := by decide +kernel
theorem dX7_recordChange_60 : decode cX7_recordChange 60 = .ok (.isub, 1) := by decide +kernel
theorem dX7_recordChange_61 : decode cX7_recordChange 61 = .ok (.aload_n 1, 1) := by decide +kernel
theorem dX7_recordChange_62 : decode cX7_recordChange 62 = .ok (.aastore, 1) := by decide +kernel
theorem dX7_recordChange_63 : decode cX7_recordChange 63 = .ok (.aload_n 0, 1) := by decide +kernel
theorem dX7_recordChange_64 : decode cX7_recordChange 64 = .ok (.aload_n 0, 1) := by decide +kernel
theorem dX7_recordChange_65 : decode cX7_recordChange 65 = .ok (.getfield 16, 3) := by decide +kernel
theorem dX7_recordChange_68 : decode cX7_recordChange 68 = .ok (.arraylength, 1) := by decide +kernel
theorem dX7_recordChange_69 : decode cX7_recordChange 69 = .ok (.iconst 1, 1) := by decide +kernel
theorem dX7_recordChange_70 : decode cX7_recordChange 70 = .ok (.isub, 1) := by decide +kernel
theorem dX7_recordChange_71 : decode cX7_recordChange 71 = .ok (.putfield 20, 3) := by decide +kernel
theorem dX7_recordChange_74 : decode cX7_recordChange 74 = .ok (.aload_n 0, 1) := by decide +kernel
theorem dX7_recordChange_75 : decode cX7_recordChange 75 = .ok (.getfield 16, 3) := by decide +kernel
theorem dX7_recordChange_78 : decode cX7_recordChange 78 = .ok (.aload_n 0, 1) := by decide +kernel
theorem dX7_recordChange_79 : decode cX7_recordChange 79 = .ok (.getfield 20, 3) := by decide +kernel
theorem dX7_recordChange_82 : decode cX7_recordChange 82 = .ok (.aaload, 1) := by decide +kernel
theorem dX7_recordChange_83 : decode cX7_recordChange 83 = .ok (.aload_n 0, 1) := by decide +kernel
theorem dX7_recordChange_84 : decode cX7_recordChange 84 = .ok (.getfield 10, 3) := by decide +kernel
theorem dX7_recordChange_87 : decode cX7_recordChange 87 = .ok (.invokevirtual 248, 3) := by decide +kernel
theorem dX7_recordChange_90 : decode cX7_recordChange 90 = .ok (.aload_n 0, 1) := by decide +kernel
theorem dX7_recordChange_91 : decode cX7_recordChange 91 = .ok (.dup, 1) := by decide +kernel
theorem dX7_recordChange_92 : decode cX7_recordChange 92 = .ok (.getfield 20, 3) := by decide +kernel
theorem dX7_recordChange_95 : decode cX7_recordChange 95 = .ok (.iconst 1, 1) := by decide +kernel
theorem dX7_recordChange_96 : decode cX7_recordChange 96 = .ok (.iadd, 1) := by decide +kernel
theorem dX7_recordChange_97 : decode cX7_recordChange 97 = .ok (.putfield 20, 3) := by decide +kernel
theorem dX7_recordChange_100 : decode cX7_recordChange 100 = .ok (.return_, 1) := by decide +kernel
set_option maxRecDepth 20000 in
theorem ggX7_fillAsIfMerged_X2_beAs : GoodIn wsX7_fillAsIfMerged wsX2_beAs := goodIn_r _ [8, 9, 10, 11, 12, 13, 14, 15, 16, 17, 18, 19, 20, 94, 95, 96, 97, 98, 99, 100, 101] (by decide +kernel) (by decide +kernel)
set_option maxRecDepth 20000 in
theorem gX7_fillAsIfMerged_X2_beAs : GoodIn wsX7_fillAsIfMerged (wsV RX7 119 RX2 yX2_beAs wsX2_beAs) := goodIn_app (goodIn_of _ (by decide +kernel)) ggX7_fillAsIfMerged_X2_beAs
set_option maxRecDepth 20000 in
theorem ggX7_fillAsIfMerged_X2_mergeClasses : GoodIn wsX7_fillAsIfMerged wsX2_mergeClasses := goodIn_r _ [24, 9, 14, 25, 26, 27, 7, 28, 29, 30, 31, 32, 16, 17, 18, 19, 20, 33, 34, 35, 36, 10, 11, 12, 13, 94, 95, 96, 97, 98, 99, 100, 101] (by decide +kernel) (by decide +kernel)
set_option maxRecDepth 20000 in
theorem gX7_fillAsIfMerged_X2_mergeClasses : GoodIn wsX7_fillAsIfMerged (wsV RX7 148 RX2 yX2_mergeClasses wsX2_mergeClasses) := goodIn_app (goodIn_of _ (by decide +kernel)) ggX7_fillAsIfMerged_X2_mergeClasses
set_option maxRecDepth 20000 in
theorem ggX7_fillAsIfMerged_X1_fill : GoodIn wsX7_fillAsIfMerged wsX1_fill := goodIn_r _ [41, 42, 43, 44, 45, 46, 47, 48, 49, 50, 51, 52, 53, 7, 54, 55, 56, 57, 58, 14, 59, 60, 61, 62, 63, 64, 65, 66, 67, 68, 69, 70, 15, 71, 72, 73, 74, 9, 75, 76, 77, 78, 79, 80, 81, 40, 82, 83, 102, 103, 104, 105, 106, 107, 108, 109, 110, 111, 112, 113, 114, 94, 95, 96, 97, 98, 99, 100, 101] (by decide +kernel) (by decide +kernel)
set_option maxRecDepth 20000 in
theorem gX7_fillAsIfMerged_X1_fill : GoodIn wsX7_fillAsIfMerged (wsV RX7 177 RX1 yX1_fill wsX1_fill) := goodIn_app (goodIn_of _ (by decide +kernel)) ggX7_fillAsIfMerged_X1_fill
theorem dX7_fillAsIfMerged_0 : decode cX7_fillAsIfMerged 0 = .ok (.aload_n 0, 1) := by decide +kernel
theorem dX7_fillAsIfMerged_1 : decode cX7_fillAsIfMerged 1 = .ok (.getfield 51, 3) := by decide +kernel
theorem dX7_fillAsIfMerged_4 : decode cX7_fillAsIfMerged 4 = .ok (.aload_n 1, 1) := by decide +kernel
theorem dX7_fillAsIfMerged_5 : decode cX7_fillAsIfMerged 5 = .ok (.invokevirtual 119, 3) := by decide +kernel
theorem dX7_fillAsIfMerged_8 : decode cX7_fillAsIfMerged 8 = .ok (.aload_n 0, 1) := by decide +kernel
theorem dX7_fillAsIfMerged_9 : decode cX7_fillAsIfMerged 9 = .ok (.getfield 51, 3) := by decide +kernel
theorem dX7_fillAsIfMerged_12 : decode cX7_fillAsIfMerged 12 = .ok (.iload_n 2, 1) := by decide +kernel
theorem dX7_fillAsIfMerged_13 : decode cX7_fillAsIfMerged 13 = .ok (.iload_n 3, 1) := by decide +kernel
theorem dX7_fillAsIfMerged_14 : decode cX7_fillAsIfMerged 14 = .ok (.invokevirtual 148, 3) := by decide +kernel
theorem dX7_fillAsIfMerged_17 : decode cX7_fillAsIfMerged 17 = .ok (.aload_n 0, 1) := by decide +kernel
theorem dX7_fillAsIfMerged_18 : decode cX7_fillAsIfMerged 18 = .ok (.getfield 41, 3) := by decide +kernel
theorem dX7_fillAsIfMerged_21 : decode cX7_fillAsIfMerged 21 = .ok (.aload_n 0, 1) := by decide +kernel
theorem dX7_fillAsIfMerged_22 : decode cX7_fillAsIfMerged 22 = .ok (.getfield 10, 3) := by decide +kernel
theorem dX7_fillAsIfMerged_25 : decode cX7_fillAsIfMerged 25 = .ok (.aload_n 0, 1) := by decide +kernel
theorem dX7_fillAsIfMerged_26 : decode cX7_fillAsIfMerged 26 = .ok (.getfield 51, 3) := by decide +kernel
theorem dX7_fillAsIfMerged_29 : decode cX7_fillAsIfMerged 29 = .ok (.invokevirtual 177, 3) := by decide +kernel
theorem dX7_fillAsIfMerged_32 : decode cX7_fillAsIfMerged 32 = .ok (.return_, 1) := by decide +kernel
theorem dJ6_bitCount_0f7a4_0 : decode cJ6_bitCount_0f7a4 0 = .ok (.iload_n 0, 1) := by decide +kernel
theorem dJ6_bitCount_0f7a4_1 : decode cJ6_bitCount_0f7a4 1 = .ok (.iload_n 0, 1) := by decide +kernel
theorem dJ6_bitCount_0f7a4_2 : decode cJ6_bitCount_0f7a4 2 = .ok (.iconst 1, 1) := by decide +kernel
theorem dJ6_bitCount_0f7a4_3 : decode cJ6_bitCount_0f7a4 3 = .ok (.iushr, 1) := by decide +kernel
theorem dJ6_bitCount_0f7a4_4 : decode cJ6_bitCount_0f7a4 4 = .ok (.ldc_w 265, 3) := by decide +kernel
theorem dJ6_bitCount_0f7a4_7 : decode cJ6_bitCount_0f7a4 7 = .ok (.iand, 1) := by decide +kernel
theorem dJ6_bitCount_0f7a4_8 : decode cJ6_bitCount_0f7a4 8 = .ok (.isub, 1) := by decide +kernel
theorem dJ6_bitCount_0f7a4_9 : decode cJ6_bitCount_0f7a4 9 = .ok (.istore_n 0, 1) := by decide +kernel
theorem dJ6_bitCount_0f7a4_10 : decode cJ6_bitCount_0f7a4 10 = .ok (.iload_n 0, 1) := by decide +kernel
theorem dJ6_bitCount_0f7a4_11 : decode cJ6_bitCount_0f7a4 11 = .ok (.ldc_w 266, 3) := by decide +kernel
theorem dJ6_bitCount_0f7a4_14 : decode cJ6_bitCount_0f7a4 14 = .ok (.iand, 1) := by decide +kernel
theorem dJ6_bitCount_0f7a4_15 : decode cJ6_bitCount_0f7a4 15 = .ok (.iload_n 0, 1) := by decide +kernel
theorem dJ6_bitCount_0f7a4_16 : decode cJ6_bitCount_0f7a4 16 = .ok (.iconst 2, 1) := by decide +kernel
theorem dJ6_bitCount_0f7a4_17 : decode cJ6_bitCount_0f7a4 17 = .ok (.iushr, 1) := by decide +kernel
theorem dJ6_bitCount_0f7a4_18 : decode cJ6_bitCount_0f7a4 18 = .ok (.ldc_w 266, 3) := by decide +kernel
theorem dJ6_bitCount_0f7a4_21 : decode cJ6_bitCount_0f7a4 21 = .ok (.iand, 1) := by decide +kernel
theorem dJ6_bitCount_0f7a4_22 : decode cJ6_bitCount_0f7a4 22 = .ok (.iadd, 1) := by decide +kernel
theorem dJ6_bitCount_0f7a4_23 : decode cJ6_bitCount_0f7a4 23 = .ok (.istore_n 0, 1) := by decide +kernel
theorem dJ6_bitCount_0f7a4_24 : decode cJ6_bitCount_0f7a4 24 = .ok (.iload_n 0, 1) := by decide +kernel
theorem dJ6_bitCount_0f7a4_25 : decode cJ6_bitCount_0f7a4 25 = .ok (.iload_n 0, 1) := by decide +kernel
theorem dJ6_bitCount_0f7a4_26 : decode cJ6_bitCount_0f7a4 26 = .ok (.iconst 4, 1) := by decide +kernel
theorem dJ6_bitCount_0f7a4_27 : decode cJ6_bitCount_0f7a4 27 = .ok (.iushr, 1) := by decide +kernel
theorem dJ6_bitCount_0f7a4_28 : decode cJ6_bitCount_0f7a4 28 = .ok (.iadd, 1) := by decide +kernel
theorem dJ6_bitCount_0f7a4_29 : decode cJ6_bitCount_0f7a4 29 = .ok (.ldc_w 267, 3) := by decide +kernel
theorem dJ6_bitCount_0f7a4_32 : decode cJ6_bitCount_0f7a4 32 = .ok (.iand, 1) := by decide +kernel
theorem dJ6_bitCount_0f7a4_33 : decode cJ6_bitCount_0f7a4 33 = .ok (.istore_n 0, 1) := by decide +kernel
theorem dJ6_bitCount_0f7a4_34 : decode cJ6_bitCount_0f7a4 34 = .ok (.iload_n 0, 1) := by decide +kernel
theorem dJ6_bitCount_0f7a4_35 : decode cJ6_bitCount_0f7a4 35 = .ok (.iload_n 0, 1) := by decide +kernel
theorem dJ6_bitCount_0f7a4_36 : decode cJ6_bitCount_0f7a4 36 = .ok (.bipush 8, 2) := by decide +kernel
theorem dJ6_bitCount_0f7a4_38 : decode cJ6_bitCount_0f7a4 38 = .ok (.iushr, 1) := by decide +kernel
theorem dJ6_bitCount_0f7a4_39 : decode cJ6_bitCount_0f7a4 39 = .ok (.iadd, 1) := by decide +kernel
theorem dJ6_bitCount_0f7a4_40 : decode cJ6_bitCount_0f7a4 40 = .ok (.istore_n 0, 1) := by decide +kernel
theorem dJ6_bitCount_0f7a4_41 : decode cJ6_bitCount_0f7a4 41 = .ok (.iload_n 0, 1) := by decide +kernel
theorem dJ6_bitCount_0f7a4_42 : decode cJ6_bitCount_0f7a4 42 = .ok (.iload_n 0, 1) := by decide +kernel
theorem dJ6_bitCount_0f7a4_43 : decode cJ6_bitCount_0f7a4 43 = .ok (.bipush 16, 2) := by decide +kernel
theorem dJ6_bitCount_0f7a4_45 : decode cJ6_bitCount_0f7a4 45 = .ok (.iushr, 1) := by decide +kernel
theorem dJ6_bitCount_0f7a4_46 : decode cJ6_bitCount_0f7a4 46 = .ok (.iadd, 1) := by decide +kernel
theorem dJ6_bitCount_0f7a4_47 : decode cJ6_bitCount_0f7a4 47 = .ok (.istore_n 0, 1) := by decide +kernel
theorem dJ6_bitCount_0f7a4_48 : decode cJ6_bitCount_0f7a4 48 = .ok (.iload_n 0, 1) := by decide +kernel
theorem dJ6_bitCount_0f7a4_49 : decode cJ6_bitCount_0f7a4 49 = .ok (.bipush 63, 2) := by decide +kernel
theorem dJ6_bitCount_0f7a4_51 : decode cJ6_bitCount_0f7a4 51 = .ok (.iand, 1) := by decide +kernel
theorem dJ6_bitCount_0f7a4_52 : decode cJ6_bitCount_0f7a4 52 = .ok (.ireturn, 1) := by decide +kernel
theorem dJ9_max_7cf53_0 : decode cJ9_max_7cf53 0 = .ok (.iload_n 0, 1) := by decide +kernel
theorem dJ9_max_7cf53_1 : decode cJ9_max_7cf53 1 = .ok (.iload_n 1, 1) := by decide +kernel
theorem dJ9_max_7cf53_2 : decode cJ9_max_7cf53 2 = .ok (.if_icmp .lt 7, 3) := by decide +kernel
theorem dJ9_max_7cf53_5 : decode cJ9_max_7cf53 5 = .ok (.iload_n 0, 1) := by decide +kernel
theorem dJ9_max_7cf53_6 : decode cJ9_max_7cf53 6 = .ok (.goto 4, 3) := by decide +kernel
theorem dJ9_max_7cf53_9 : decode cJ9_max_7cf53 9 = .ok (.iload_n 1, 1) := by decide +kernel
theorem dJ9_max_7cf53_10 : decode cJ9_max_7cf53 10 = .ok (.ireturn, 1) := by decide +kernel
theorem dJ9_min_7cf53_0 : decode cJ9_min_7cf53 0 = .ok (.iload_n 0, 1) := by decide +kernel
theorem dJ9_min_7cf53_1 : decode cJ9_min_7cf53 1 = .ok (.iload_n 1, 1) := by decide +kernel
theorem dJ9_min_7cf53_2 : decode cJ9_min_7cf53 2 = .ok (.if_icmp .gt 7, 3) := by decide +kernel
theorem dJ9_min_7cf53_5 : decode cJ9_min_7cf53 5 = .ok (.iload_n 0, 1) := by decide +kernel
theorem dJ9_min_7cf53_6 : decode cJ9_min_7cf53 6 = .ok (.goto 4, 3) := by decide +kernel
theorem dJ9_min_7cf53_9 : decode cJ9_min_7cf53 9 = .ok (.iload_n 1, 1) := by decide +kernel
theorem dJ9_min_7cf53_10 : decode cJ9_min_7cf53 10 = .ok (.ireturn, 1) := by decide +kernel
