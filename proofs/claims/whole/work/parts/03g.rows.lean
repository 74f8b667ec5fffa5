theorem dX8_behindMerger_47 : decode cX8_behindMerger 47 = .ok (.goto 7, 3) := by decide +kernel
theorem dX8_behindMerger_50 : decode cX8_behindMerger 50 = .ok (.aload_n 0, 1) := by decide +kernel
theorem dX8_behindMerger_51 : decode cX8_behindMerger 51 = .ok (.getfield 130, 3) := by decide +kernel
theorem dX8_behindMerger_54 : decode cX8_behindMerger 54 = .ok (.ireturn, 1) := by decide +kernel
set_option maxRecDepth 20000 in
theorem ggX8_ifMerged_X8_isEar : GoodIn wsX8_ifMerged wsX8_isEar := goodIn_r _ [5, 6, 7, 8, 4, 9, 117, 118, 119, 120, 121, 122, 123, 124, 125, 126, 127, 128, 129, 130, 131, 132, 133, 134] (by decide +kernel) (by decide +kernel)
set_option maxRecDepth 20000 in
theorem gX8_ifMerged_X8_isEar : GoodIn wsX8_ifMerged (wsV RX8 156 RX8 yX8_isEar wsX8_isEar) := goodIn_app (goodIn_of _ (by decide +kernel)) ggX8_ifMerged_X8_isEar
set_option maxRecDepth 20000 in
theorem ggX8_ifMerged_X8_areKinds : GoodIn wsX8_ifMerged wsX8_areKinds := goodIn_r _ [12, 13, 14, 4, 15, 7, 8, 9] (by decide +kernel) (by decide +kernel)
set_option maxRecDepth 20000 in
theorem gX8_ifMerged_X8_areKinds : GoodIn wsX8_ifMerged (va_wsS RX8 184 yX8_areKinds wsX8_areKinds) := goodIn_app (goodIn_of _ (by decide +kernel)) ggX8_ifMerged_X8_areKinds
set_option maxRecDepth 20000 in
theorem ggX8_ifMerged_X8_in : GoodIn wsX8_ifMerged wsX8_in := goodIn_r _ [9] (by decide +kernel) (by decide +kernel)
set_option maxRecDepth 20000 in
theorem gX8_ifMerged_X8_in : GoodIn wsX8_ifMerged (va_wsS RX8 51 yX8_in wsX8_in) := goodIn_app (goodIn_of _ (by decide +kernel)) ggX8_ifMerged_X8_in
set_option maxRecDepth 20000 in
theorem ggX8_ifMerged_X8_behindMerger : GoodIn wsX8_ifMerged wsX8_behindMerger := goodIn_r _ [19, 6, 20, 21, 22, 23, 4, 24, 25, 26, 27, 28, 29, 30, 31, 32, 33, 34, 35, 36, 37, 38, 39, 40, 41, 42, 43, 44, 45, 46, 47, 48, 49, 50, 51, 52, 53, 54, 55, 56, 57, 58, 59, 60, 61, 62, 63, 64, 65, 66, 67, 68, 69, 70, 71, 72, 73, 74, 75, 76, 77, 78, 79, 80, 81, 82, 83, 84, 85, 86, 87, 88, 89, 90, 91, 92, 93, 94, 95, 96, 97, 98, 99, 100, 101, 102, 103, 104, 105, 106, 107, 108, 109, 110, 111, 112, 113, 114, 115, 116, 117, 118, 119, 120, 121, 122, 123, 124, 125, 126, 127, 128, 129, 130, 131, 132, 133, 134] (by decide +kernel) (by decide +kernel)
set_option maxRecDepth 20000 in
theorem gX8_ifMerged_X8_behindMerger : GoodIn wsX8_ifMerged (wsV RX8 227 RX8 yX8_behindMerger wsX8_behindMerger) := goodIn_app (goodIn_of _ (by decide +kernel)) ggX8_ifMerged_X8_behindMerger
theorem dX8_ifMerged_0 : decode cX8_ifMerged 0 = .ok (.aload_n 0, 1) := by decide +kernel
theorem dX8_ifMerged_1 : decode cX8_ifMerged 1 = .ok (.iload_n 1, 1) := by decide +kernel
theorem dX8_ifMerged_2 : decode cX8_ifMerged 2 = .ok (.invokevirtual 156, 3) := by decide +kernel
theorem dX8_ifMerged_5 : decode cX8_ifMerged 5 = .ok (.ifCond .ne 5, 3) := by decide +kernel
theorem dX8_ifMerged_8 : decode cX8_ifMerged 8 = .ok (.iconst (-1), 1) := by decide +kernel
theorem dX8_ifMerged_9 : decode cX8_ifMerged 9 = .ok (.ireturn, 1) := by decide +kernel
theorem dX8_ifMerged_10 : decode cX8_ifMerged 10 = .ok (.iload_n 2, 1) := by decide +kernel
theorem dX8_ifMerged_11 : decode cX8_ifMerged 11 = .ok (.iload_n 3, 1) := by decide +kernel
theorem dX8_ifMerged_12 : decode cX8_ifMerged 12 = .ok (.invokestatic 184, 3) := by decide +kernel
theorem dX8_ifMerged_15 : decode cX8_ifMerged 15 = .ok (.ifCond .eq 34, 3) := by decide +kernel
theorem dX8_ifMerged_18 : decode cX8_ifMerged 18 = .ok (.iload 4, 2) := by decide +kernel
theorem dX8_ifMerged_20 : decode cX8_ifMerged 20 = .ok (.iconst 0, 1) := by decide +kernel
theorem dX8_ifMerged_21 : decode cX8_ifMerged 21 = .ok (.iconst 1, 1) := by decide +kernel
theorem dX8_ifMerged_22 : decode cX8_ifMerged 22 = .ok (.invokestatic 51, 3) := by decide +kernel
theorem dX8_ifMerged_25 : decode cX8_ifMerged 25 = .ok (.ifCond .eq 24, 3) := by decide +kernel
theorem dX8_ifMerged_28 : decode cX8_ifMerged 28 = .ok (.aload_n 0, 1) := by decide +kernel
theorem dX8_ifMerged_29 : decode cX8_ifMerged 29 = .ok (.iload_n 1, 1) := by decide +kernel
theorem dX8_ifMerged_30 : decode cX8_ifMerged 30 = .ok (.iload_n 2, 1) := by decide +kernel
theorem dX8_ifMerged_31 : decode cX8_ifMerged 31 = .ok (.iload_n 3, 1) := by decide +kernel
theorem dX8_ifMerged_32 : decode cX8_ifMerged 32 = .ok (.iload 4, 2) := by decide +kernel
theorem dX8_ifMerged_34 : decode cX8_ifMerged 34 = .ok (.iconst 1, 1) := by decide +kernel
theorem dX8_ifMerged_35 : decode cX8_ifMerged 35 = .ok (.if_icmp .ne 7, 3) := by decide +kernel
theorem dX8_ifMerged_38 : decode cX8_ifMerged 38 = .ok (.iconst 1, 1) := by decide +kernel
theorem dX8_ifMerged_39 : decode cX8_ifMerged 39 = .ok (.goto 4, 3) := by decide +kernel
theorem dX8_ifMerged_42 : decode cX8_ifMerged 42 = .ok (.iconst 0, 1) := by decide +kernel
theorem dX8_ifMerged_43 : decode cX8_ifMerged 43 = .ok (.invokevirtual 227, 3) := by decide +kernel
theorem dX8_ifMerged_46 : decode cX8_ifMerged 46 = .ok (.goto 5, 3) := by decide +kernel
theorem dX8_ifMerged_49 : decode cX8_ifMerged 49 = .ok (.bipush (-2), 2) := by decide +kernel
theorem dX8_ifMerged_51 : decode cX8_ifMerged 51 = .ok (.ireturn, 1) := by decide +kernel
set_option maxRecDepth 20000 in
theorem ggX8_bestMerger_X8_isEar : GoodIn wsX8_bestMerger wsX8_isEar := goodIn_r _ [5, 6, 7, 8, 4, 9, 111, 112, 113, 114, 115, 116, 117, 118, 119, 120, 121, 122, 123, 124, 125, 126, 127, 128] (by decide +kernel) (by decide +kernel)
set_option maxRecDepth 20000 in
theorem gX8_bestMerger_X8_isEar : GoodIn wsX8_bestMerger (wsV RX8 156 RX8 yX8_isEar wsX8_isEar) := goodIn_app (goodIn_of _ (by decide +kernel)) ggX8_bestMerger_X8_isEar
set_option maxRecDepth 20000 in
theorem ggX8_bestMerger_X8_in : GoodIn wsX8_bestMerger wsX8_in := goodIn_r _ [9] (by decide +kernel) (by decide +kernel)
set_option maxRecDepth 20000 in
theorem gX8_bestMerger_X8_in : GoodIn wsX8_bestMerger (va_wsS RX8 51 yX8_in wsX8_in) := goodIn_app (goodIn_of _ (by decide +kernel)) ggX8_bestMerger_X8_in
set_option maxRecDepth 20000 in
theorem ggX8_bestMerger_X8_lettersOf : GoodIn wsX8_bestMerger wsX8_lettersOf := goodIn_r _ [13, 14, 15, 16, 4, 17, 6, 111, 112, 113, 114, 115, 116, 117, 118, 119, 120, 121, 122, 123, 124, 125, 126, 127, 128] (by decide +kernel) (by decide +kernel)
set_option maxRecDepth 20000 in
theorem gX8_bestMerger_X8_lettersOf : GoodIn wsX8_bestMerger (wsV RX8 178 RX8 yX8_lettersOf wsX8_lettersOf) := goodIn_app (goodIn_of _ (by decide +kernel)) ggX8_bestMerger_X8_lettersOf
set_option maxRecDepth 20000 in
theorem ggX8_bestMerger_X8_behindMerger : GoodIn wsX8_bestMerger wsX8_behindMerger := goodIn_r _ [21, 6, 22, 23, 24, 25, 4, 26, 27, 28, 29, 30, 10, 11, 12, 13, 14, 15, 16, 17, 31, 32, 33, 34, 35, 36, 37, 38, 39, 40, 41, 42, 43, 44, 45, 46, 47, 48, 49, 50, 51, 52, 53, 54, 55, 56, 57, 58, 59, 60, 61, 62, 63, 64, 65, 66, 67, 68, 69, 70, 71, 72, 73, 74, 75, 76, 77, 78, 79, 80, 81, 82, 83, 84, 85, 86, 87, 88, 89, 90, 91, 92, 93, 94, 95, 96, 97, 98, 99, 100, 101, 102, 103, 104, 105, 106, 107, 108, 109, 110, 111, 112, 113, 114, 115, 116, 117, 118, 119, 120, 121, 122, 123, 124, 125, 126, 127, 128] (by decide +kernel) (by decide +kernel)
set_option maxRecDepth 20000 in
theorem gX8_bestMerger_X8_behindMerger : GoodIn wsX8_bestMerger (wsV RX8 227 RX8 yX8_behindMerger wsX8_behindMerger) := goodIn_app (goodIn_of _ (by decide +kernel)) ggX8_bestMerger_X8_behindMerger
theorem dX8_bestMerger_0 : decode cX8_bestMerger 0 = .ok (.aload_n 0, 1) := by decide +kernel
theorem dX8_bestMerger_1 : decode cX8_bestMerger 1 = .ok (.iload_n 1, 1) := by decide +kernel
theorem dX8_bestMerger_2 : decode cX8_bestMerger 2 = .ok (.invokevirtual 156, 3) := by decide +kernel
theorem dX8_bestMerger_5 : decode cX8_bestMerger 5 = .ok (.ifCond .ne 5, 3) := by decide +kernel
theorem dX8_bestMerger_8 : decode cX8_bestMerger 8 = .ok (.iconst (-1), 1) := by decide +kernel
theorem dX8_bestMerger_9 : decode cX8_bestMerger 9 = .ok (.ireturn, 1) := by decide +kernel
theorem dX8_bestMerger_10 : decode cX8_bestMerger 10 = .ok (.iload_n 2, 1) := by decide +kernel
theorem dX8_bestMerger_11 : decode cX8_bestMerger 11 = .ok (.iconst 0, 1) := by decide +kernel
theorem dX8_bestMerger_12 : decode cX8_bestMerger 12 = .ok (.iconst 2, 1) := by decide +kernel
theorem dX8_bestMerger_13 : decode cX8_bestMerger 13 = .ok (.invokestatic 51, 3) := by decide +kernel
theorem dX8_bestMerger_16 : decode cX8_bestMerger 16 = .ok (.ifCond .ne 6, 3) := by decide +kernel
theorem dX8_bestMerger_19 : decode cX8_bestMerger 19 = .ok (.bipush (-2), 2) := by decide +kernel
theorem dX8_bestMerger_21 : decode cX8_bestMerger 21 = .ok (.ireturn, 1) := by decide +kernel
theorem dX8_bestMerger_22 : decode cX8_bestMerger 22 = .ok (.bipush (-6), 2) := by decide +kernel
theorem dX8_bestMerger_24 : decode cX8_bestMerger 24 = .ok (.istore_n 3, 1) := by decide +kernel
theorem dX8_bestMerger_25 : decode cX8_bestMerger 25 = .ok (.bipush (-6), 2) := by decide +kernel
theorem dX8_bestMerger_27 : decode cX8_bestMerger 27 = .ok (.istore 4, 2) := by decide +kernel
theorem dX8_bestMerger_29 : decode cX8_bestMerger 29 = .ok (.bipush (-6), 2) := by decide +kernel
theorem dX8_bestMerger_31 : decode cX8_bestMerger 31 = .ok (.istore 5, 2) := by decide +kernel
theorem dX8_bestMerger_33 : decode cX8_bestMerger 33 = .ok (.iconst 1, 1) := by decide +kernel
theorem dX8_bestMerger_34 : decode cX8_bestMerger 34 = .ok (.istore 6, 2) := by decide +kernel
theorem dX8_bestMerger_36 : decode cX8_bestMerger 36 = .ok (.iload 6, 2) := by decide +kernel
theorem dX8_bestMerger_38 : decode cX8_bestMerger 38 = .ok (.bipush 10, 2) := by decide +kernel
theorem dX8_bestMerger_40 : decode cX8_bestMerger 40 = .ok (.if_icmp .ge 141, 3) := by decide +kernel
theorem dX8_bestMerger_43 : decode cX8_bestMerger 43 = .ok (.iload 6, 2) := by decide +kernel
theorem dX8_bestMerger_45 : decode cX8_bestMerger 45 = .ok (.iconst 1, 1) := by decide +kernel
theorem dX8_bestMerger_46 : decode cX8_bestMerger 46 = .ok (.iadd, 1) := by decide +kernel
theorem dX8_bestMerger_47 : decode cX8_bestMerger 47 = .ok (.istore 7, 2) := by decide +kernel
theorem dX8_bestMerger_49 : decode cX8_bestMerger 49 = .ok (.iload 7, 2) := by decide +kernel
theorem dX8_bestMerger_51 : decode cX8_bestMerger 51 = .ok (.bipush 10, 2) := by decide +kernel
theorem dX8_bestMerger_53 : decode cX8_bestMerger 53 = .ok (.if_icmp .ge 122, 3) := by decide +kernel
theorem dX8_bestMerger_56 : decode cX8_bestMerger 56 = .ok (.aload_n 0, 1) := by decide +kernel
theorem dX8_bestMerger_57 : decode cX8_bestMerger 57 = .ok (.iload_n 1, 1) := by decide +kernel
theorem dX8_bestMerger_58 : decode cX8_bestMerger 58 = .ok (.iload 6, 2) := by decide +kernel
theorem dX8_bestMerger_60 : decode cX8_bestMerger 60 = .ok (.invokevirtual 178, 3) := by decide +kernel
theorem dX8_bestMerger_63 : decode cX8_bestMerger 63 = .ok (.ifCond .eq 17, 3) := by decide +kernel
theorem dX8_bestMerger_66 : decode cX8_bestMerger 66 = .ok (.aload_n 0, 1) := by decide +kernel
theorem dX8_bestMerger_67 : decode cX8_bestMerger 67 = .ok (.iload_n 1, 1) := by decide +kernel
theorem dX8_bestMerger_68 : decode cX8_bestMerger 68 = .ok (.iload 7, 2) := by decide +kernel
theorem dX8_bestMerger_70 : decode cX8_bestMerger 70 = .ok (.invokevirtual 178, 3) := by decide +kernel
theorem dX8_bestMerger_73 : decode cX8_bestMerger 73 = .ok (.ifCond .eq 7, 3) := by decide +kernel
theorem dX8_bestMerger_76 : decode cX8_bestMerger 76 = .ok (.iconst 1, 1) := by decide +kernel
theorem dX8_bestMerger_77 : decode cX8_bestMerger 77 = .ok (.goto 4, 3) := by decide +kernel
theorem dX8_bestMerger_80 : decode cX8_bestMerger 80 = .ok (.iconst 0, 1) := by decide +kernel
theorem dX8_bestMerger_81 : decode cX8_bestMerger 81 = .ok (.istore 8, 2) := by decide +kernel
theorem dX8_bestMerger_83 : decode cX8_bestMerger 83 = .ok (.iload 8, 2) := by decide +kernel
theorem dX8_bestMerger_85 : decode cX8_bestMerger 85 = .ok (.ifCond .eq 16, 3) := by decide +kernel
theorem dX8_bestMerger_88 : decode cX8_bestMerger 88 = .ok (.aload_n 0, 1) := by decide +kernel
theorem dX8_bestMerger_89 : decode cX8_bestMerger 89 = .ok (.iload_n 1, 1) := by decide +kernel
theorem dX8_bestMerger_90 : decode cX8_bestMerger 90 = .ok (.iload 6, 2) := by decide +kernel
theorem dX8_bestMerger_92 : decode cX8_bestMerger 92 = .ok (.iload 7, 2) := by decide +kernel
theorem dX8_bestMerger_94 : decode cX8_bestMerger 94 = .ok (.iconst 1, 1) := by decide +kernel
theorem dX8_bestMerger_95 : decode cX8_bestMerger 95 = .ok (.invokevirtual 227, 3) := by decide +kernel
theorem dX8_bestMerger_98 : decode cX8_bestMerger 98 = .ok (.goto 4, 3) := by decide +kernel
theorem dX8_bestMerger_101 : decode cX8_bestMerger 101 = .ok (.iconst 0, 1) := by decide +kernel
theorem dX8_bestMerger_102 : decode cX8_bestMerger 102 = .ok (.istore 9, 2) := by decide +kernel
theorem dX8_bestMerger_104 : decode cX8_bestMerger 104 = .ok (.iload 8, 2) := by decide +kernel
theorem dX8_bestMerger_106 : decode cX8_bestMerger 106 = .ok (.ifCond .eq 20, 3) := by decide +kernel
theorem dX8_bestMerger_109 : decode cX8_bestMerger 109 = .ok (.iload_n 3, 1) := by decide +kernel
theorem dX8_bestMerger_110 : decode cX8_bestMerger 110 = .ok (.bipush (-6), 2) := by decide +kernel
theorem dX8_bestMerger_112 : decode cX8_bestMerger 112 = .ok (.if_icmp .eq 10, 3) := by decide +kernel
theorem dX8_bestMerger_115 : decode cX8_bestMerger 115 = .ok (.iload 9, 2) := by decide +kernel
theorem dX8_bestMerger_117 : decode cX8_bestMerger 117 = .ok (.iload 5, 2) := by decide +kernel
theorem dX8_bestMerger_119 : decode cX8_bestMerger 119 = .ok (.if_icmp .ge 7, 3) := by decide +kernel
theorem dX8_bestMerger_122 : decode cX8_bestMerger 122 = .ok (.iconst 1, 1) := by decide +kernel
theorem dX8_bestMerger_123 : decode cX8_bestMerger 123 = .ok (.goto 4, 3) := by decide +kernel
theorem dX8_bestMerger_126 : decode cX8_bestMerger 126 = .ok (.iconst 0, 1) := by decide +kernel
theorem dX8_bestMerger_127 : decode cX8_bestMerger 127 = .ok (.istore 10, 2) := by decide +kernel
theorem dX8_bestMerger_129 : decode cX8_bestMerger 129 = .ok (.iload 10, 2) := by decide +kernel
theorem dX8_bestMerger_131 : decode cX8_bestMerger 131 = .ok (.ifCond .eq 8, 3) := by decide +kernel
theorem dX8_bestMerger_134 : decode cX8_bestMerger 134 = .ok (.iload 6, 2) := by decide +kernel
theorem dX8_bestMerger_136 : decode cX8_bestMerger 136 = .ok (.goto 4, 3) := by decide +kernel
theorem dX8_bestMerger_139 : decode cX8_bestMerger 139 = .ok (.iload_n 3, 1) := by decide +kernel
theorem dX8_bestMerger_140 : decode cX8_bestMerger 140 = .ok (.istore_n 3, 1) := by decide +kernel
theorem dX8_bestMerger_141 : decode cX8_bestMerger 141 = .ok (.iload 10, 2) := by decide +kernel
theorem dX8_bestMerger_143 : decode cX8_bestMerger 143 = .ok (.ifCond .eq 8, 3) := by decide +kernel
theorem dX8_bestMerger_146 : decode cX8_bestMerger 146 = .ok (.iload 7, 2) := by decide +kernel
theorem dX8_bestMerger_148 : decode cX8_bestMerger 148 = .ok (.goto 5, 3) := by decide +kernel
theorem dX8_bestMerger_151 : decode cX8_bestMerger 151 = .ok (.iload 4, 2) := by decide +kernel
theorem dX8_bestMerger_153 : decode cX8_bestMerger 153 = .ok (.istore 4, 2) := by decide +kernel
theorem dX8_bestMerger_155 : decode cX8_bestMerger 155 = .ok (.iload 10, 2) := by decide +kernel
theorem dX8_bestMerger_157 : decode cX8_bestMerger 157 = .ok (.ifCond .eq 8, 3) := by decide +kernel
theorem dX8_bestMerger_160 : decode cX8_bestMerger 160 = .ok (.iload 9, 2) := by decide +kernel
theorem dX8_bestMerger_162 : decode cX8_bestMerger 162 = .ok (.goto 5, 3) := by decide +kernel
theorem dX8_bestMerger_165 : decode cX8_bestMerger 165 = .ok (.iload 5, 2) := by decide +kernel
theorem dX8_bestMerger_167 : decode cX8_bestMerger 167 = .ok (.istore 5, 2) := by decide +kernel
theorem dX8_bestMerger_169 : decode cX8_bestMerger 169 = .ok (.iinc 7 1, 3) := by decide +kernel
theorem dX8_bestMerger_172 : decode cX8_bestMerger 172 = .ok (.goto (-123), 3) := by decide +kernel
theorem dX8_bestMerger_175 : decode cX8_bestMerger 175 = .ok (.iinc 6 1, 3) := by decide +kernel
theorem dX8_bestMerger_178 : decode cX8_bestMerger 178 = .ok (.goto (-142), 3) := by decide +kernel
theorem dX8_bestMerger_181 : decode cX8_bestMerger 181 = .ok (.iload_n 2, 1) := by decide +kernel
theorem dX8_bestMerger_182 : decode cX8_bestMerger 182 = .ok (.ifCond .ne 7, 3) := by decide +kernel
theorem dX8_bestMerger_185 : decode cX8_bestMerger 185 = .ok (.iload_n 3, 1) := by decide +kernel
theorem dX8_bestMerger_186 : decode cX8_bestMerger 186 = .ok (.goto 15, 3) := by decide +kernel
theorem dX8_bestMerger_189 : decode cX8_bestMerger 189 = .ok (.iload_n 2, 1) := by decide +kernel
theorem dX8_bestMerger_190 : decode cX8_bestMerger 190 = .ok (.iconst 1, 1) := by decide +kernel
theorem dX8_bestMerger_191 : decode cX8_bestMerger 191 = .ok (.if_icmp .ne 8, 3) := by decide +kernel
theorem dX8_bestMerger_194 : decode cX8_bestMerger 194 = .ok (.iload 4, 2) := by decide +kernel
theorem dX8_bestMerger_196 : decode cX8_bestMerger 196 = .ok (.goto 5, 3) := by decide +kernel
theorem dX8_bestMerger_199 : decode cX8_bestMerger 199 = .ok (.iload 5, 2) := by decide +kernel
theorem dX8_bestMerger_201 : decode cX8_bestMerger 201 = .ok (.ireturn, 1) := by decide +kernel
set_option maxRecDepth 20000 in
theorem ggX8_quarrel_X8_isEar : GoodIn wsX8_quarrel wsX8_isEar := goodIn_r _ [7, 1, 8, 9, 6, 10, 80, 81, 82, 83, 84, 85, 86, 87, 88, 89, 90, 91, 92, 93, 94, 95, 96, 97] (by decide +kernel) (by decide +kernel)
set_option maxRecDepth 20000 in
theorem gX8_quarrel_X8_isEar : GoodIn wsX8_quarrel (wsV RX8 156 RX8 yX8_isEar wsX8_isEar) := goodIn_app (goodIn_of _ (by decide +kernel)) ggX8_quarrel_X8_isEar
set_option maxRecDepth 20000 in
theorem ggX8_quarrel_X8_hearAll : GoodIn wsX8_quarrel wsX8_hearAll := goodIn_r _ [14, 15, 1, 16, 17, 18, 19, 20, 21, 22, 23, 6, 24, 25, 26, 27, 28, 29, 30, 31, 32, 33, 34, 35, 36, 37, 38, 39, 40, 41, 42, 43, 44, 45, 46, 47, 48, 49, 50, 51, 52, 53, 54, 55, 56, 57, 58, 59, 60, 61, 62, 63, 64, 80, 81, 82, 83, 84, 85, 86, 87, 88, 89, 90, 91, 92, 93, 94, 95, 96, 97] (by decide +kernel) (by decide +kernel)
set_option maxRecDepth 20000 in
theorem gX8_quarrel_X8_hearAll : GoodIn wsX8_quarrel (wsV RX8 147 RX8 yX8_hearAll wsX8_hearAll) := goodIn_app (goodIn_of _ (by decide +kernel)) ggX8_quarrel_X8_hearAll
set_option maxRecDepth 20000 in
theorem ggX8_quarrel_X8_likeOnes : GoodIn wsX8_quarrel wsX8_likeOnes := goodIn_r _ [68, 1, 69, 70, 71, 6, 72, 16, 18, 73, 74, 75, 76, 80, 81, 82, 83, 84, 85, 86, 87, 88, 89, 90, 91, 92, 93, 94, 95, 96, 97] (by decide +kernel) (by decide +kernel)
set_option maxRecDepth 20000 in
theorem gX8_quarrel_X8_likeOnes : GoodIn wsX8_quarrel (wsV RX8 150 RX8 yX8_likeOnes wsX8_likeOnes) := goodIn_app (goodIn_of _ (by decide +kernel)) ggX8_quarrel_X8_likeOnes
set_option maxRecDepth 20000 in
theorem ggX8_quarrel_X8_bits : GoodIn wsX8_quarrel wsX8_bits := goodIn_r _ [79] (by decide +kernel) (by decide +kernel)
set_option maxRecDepth 20000 in
theorem gX8_quarrel_X8_bits : GoodIn wsX8_quarrel (va_wsS RX8 153 yX8_bits wsX8_bits) := goodIn_app (goodIn_of _ (by decide +kernel)) ggX8_quarrel_X8_bits
theorem dX8_quarrel_0 : decode cX8_quarrel 0 = .ok (.aload_n 0, 1) := by decide +kernel
theorem dX8_quarrel_1 : decode cX8_quarrel 1 = .ok (.iload_n 1, 1) := by decide +kernel
theorem dX8_quarrel_2 : decode cX8_quarrel 2 = .ok (.invokevirtual 156, 3) := by decide +kernel
theorem dX8_quarrel_5 : decode cX8_quarrel 5 = .ok (.ifCond .eq 11, 3) := by decide +kernel
theorem dX8_quarrel_8 : decode cX8_quarrel 8 = .ok (.aload_n 0, 1) := by decide +kernel
theorem dX8_quarrel_9 : decode cX8_quarrel 9 = .ok (.iload_n 2, 1) := by decide +kernel
theorem dX8_quarrel_10 : decode cX8_quarrel 10 = .ok (.invokevirtual 156, 3) := by decide +kernel
theorem dX8_quarrel_13 : decode cX8_quarrel 13 = .ok (.ifCond .ne 5, 3) := by decide +kernel
theorem dX8_quarrel_16 : decode cX8_quarrel 16 = .ok (.iconst (-1), 1) := by decide +kernel
theorem dX8_quarrel_17 : decode cX8_quarrel 17 = .ok (.ireturn, 1) := by decide +kernel
theorem dX8_quarrel_18 : decode cX8_quarrel 18 = .ok (.aload_n 0, 1) := by decide +kernel
theorem dX8_quarrel_19 : decode cX8_quarrel 19 = .ok (.iload_n 1, 1) := by decide +kernel
theorem dX8_quarrel_20 : decode cX8_quarrel 20 = .ok (.invokevirtual 147, 3) := by decide +kernel
theorem dX8_quarrel_23 : decode cX8_quarrel 23 = .ok (.iconst 0, 1) := by decide +kernel
theorem dX8_quarrel_24 : decode cX8_quarrel 24 = .ok (.istore_n 3, 1) := by decide +kernel
theorem dX8_quarrel_25 : decode cX8_quarrel 25 = .ok (.iload_n 3, 1) := by decide +kernel
theorem dX8_quarrel_26 : decode cX8_quarrel 26 = .ok (.aload_n 0, 1) := by decide +kernel
theorem dX8_quarrel_27 : decode cX8_quarrel 27 = .ok (.getfield 7, 3) := by decide +kernel
theorem dX8_quarrel_30 : decode cX8_quarrel 30 = .ok (.iconst 2, 1) := by decide +kernel
theorem dX8_quarrel_31 : decode cX8_quarrel 31 = .ok (.iaload, 1) := by decide +kernel
theorem dX8_quarrel_32 : decode cX8_quarrel 32 = .ok (.if_icmp .ge 20, 3) := by decide +kernel
theorem dX8_quarrel_35 : decode cX8_quarrel 35 = .ok (.aload_n 0, 1) := by decide +kernel
theorem dX8_quarrel_36 : decode cX8_quarrel 36 = .ok (.getfield 48, 3) := by decide +kernel
theorem dX8_quarrel_39 : decode cX8_quarrel 39 = .ok (.iload_n 3, 1) := by decide +kernel
theorem dX8_quarrel_40 : decode cX8_quarrel 40 = .ok (.aload_n 0, 1) := by decide +kernel
theorem dX8_quarrel_41 : decode cX8_quarrel 41 = .ok (.iload_n 3, 1) := by decide +kernel
theorem dX8_quarrel_42 : decode cX8_quarrel 42 = .ok (.invokevirtual 150, 3) := by decide +kernel
theorem dX8_quarrel_45 : decode cX8_quarrel 45 = .ok (.iastore, 1) := by decide +kernel
theorem dX8_quarrel_46 : decode cX8_quarrel 46 = .ok (.iinc 3 1, 3) := by decide +kernel
theorem dX8_quarrel_49 : decode cX8_quarrel 49 = .ok (.goto (-24), 3) := by decide +kernel
theorem dX8_quarrel_52 : decode cX8_quarrel 52 = .ok (.aload_n 0, 1) := by decide +kernel
theorem dX8_quarrel_53 : decode cX8_quarrel 53 = .ok (.iload_n 2, 1) := by decide +kernel
theorem dX8_quarrel_54 : decode cX8_quarrel 54 = .ok (.invokevirtual 147, 3) := by decide +kernel
theorem dX8_quarrel_57 : decode cX8_quarrel 57 = .ok (.iconst 0, 1) := by decide +kernel
theorem dX8_quarrel_58 : decode cX8_quarrel 58 = .ok (.istore_n 3, 1) := by decide +kernel
theorem dX8_quarrel_59 : decode cX8_quarrel 59 = .ok (.iconst 0, 1) := by decide +kernel
theorem dX8_quarrel_60 : decode cX8_quarrel 60 = .ok (.istore 4, 2) := by decide +kernel
theorem dX8_quarrel_62 : decode cX8_quarrel 62 = .ok (.iload 4, 2) := by decide +kernel
theorem dX8_quarrel_64 : decode cX8_quarrel 64 = .ok (.aload_n 0, 1) := by decide +kernel
theorem dX8_quarrel_65 : decode cX8_quarrel 65 = .ok (.getfield 7, 3) := by decide +kernel
theorem dX8_quarrel_68 : decode cX8_quarrel 68 = .ok (.iconst 2, 1) := by decide +kernel
theorem dX8_quarrel_69 : decode cX8_quarrel 69 = .ok (.iaload, 1) := by decide +kernel
theorem dX8_quarrel_70 : decode cX8_quarrel 70 = .ok (.if_icmp .ge 31, 3) := by decide +kernel
theorem dX8_quarrel_73 : decode cX8_quarrel 73 = .ok (.iload_n 3, 1) := by decide +kernel
theorem dX8_quarrel_74 : decode cX8_quarrel 74 = .ok (.aload_n 0, 1) := by decide +kernel
theorem dX8_quarrel_75 : decode cX8_quarrel 75 = .ok (.getfield 48, 3) := by decide +kernel
theorem dX8_quarrel_78 : decode cX8_quarrel 78 = .ok (.iload 4, 2) := by decide +kernel
theorem dX8_quarrel_80 : decode cX8_quarrel 80 = .ok (.iaload, 1) := by decide +kernel
theorem dX8_quarrel_81 : decode cX8_quarrel 81 = .ok (.aload_n 0, 1) := by decide +kernel
theorem dX8_quarrel_82 : decode cX8_quarrel 82 = .ok (.iload 4, 2) := by decide +kernel
theorem dX8_quarrel_84 : decode cX8_quarrel 84 = .ok (.invokevirtual 150, 3) := by decide +kernel
theorem dX8_quarrel_87 : decode cX8_quarrel 87 = .ok (.iconst (-1), 1) := by decide +kernel
theorem dX8_quarrel_88 : decode cX8_quarrel 88 = .ok (.ixor, 1) := by decide +kernel
theorem dX8_quarrel_89 : decode cX8_quarrel 89 = .ok (.iand, 1) := by decide +kernel
theorem dX8_quarrel_90 : decode cX8_quarrel 90 = .ok (.invokestatic 153, 3) := by decide +kernel
theorem dX8_quarrel_93 : decode cX8_quarrel 93 = .ok (.iadd, 1) := by decide +kernel
theorem dX8_quarrel_94 : decode cX8_quarrel 94 = .ok (.istore_n 3, 1) := by decide +kernel
theorem dX8_quarrel_95 : decode cX8_quarrel 95 = .ok (.iinc 4 1, 3) := by decide +kernel
theorem dX8_quarrel_98 : decode cX8_quarrel 98 = .ok (.goto (-36), 3) := by decide +kernel
theorem dX8_quarrel_101 : decode cX8_quarrel 101 = .ok (.iload_n 3, 1) := by decide +kernel
theorem dX8_quarrel_102 : decode cX8_quarrel 102 = .ok (.iconst 2, 1) := by decide +kernel
theorem dX8_quarrel_103 : decode cX8_quarrel 103 = .ok (.idiv, 1) := by decide +kernel
theorem dX8_quarrel_104 : decode cX8_quarrel 104 = .ok (.ireturn, 1) := by decide +kernel
set_option maxRecDepth 20000 in
theorem ggX8_deafest_X8_pairs : GoodIn wsX8_deafest wsX8_pairs := goodIn_r _ [6, 1, 7, 8, 9, 5, 10, 11, 12, 13, 14, 15, 16, 17, 18, 19, 20, 21, 22, 23, 24, 25, 26, 27, 28, 29, 30, 31, 32, 33, 34, 35, 36, 37, 38, 39, 40, 41, 42, 43, 44, 45, 46, 47, 48, 49, 50, 51, 52, 53, 54, 55, 56, 57, 58, 59, 60, 61, 62, 63, 64, 65, 66, 67, 68, 69, 70, 71, 72, 73, 74, 75, 76, 77, 78, 79, 80, 81, 82, 83, 84, 85, 86, 87, 88, 89, 90, 91, 92, 93] (by decide +kernel) (by decide +kernel)
set_option maxRecDepth 20000 in
theorem gX8_deafest_X8_pairs : GoodIn wsX8_deafest (wsV RX8 202 RX8 yX8_pairs wsX8_pairs) := goodIn_app (goodIn_of _ (by decide +kernel)) ggX8_deafest_X8_pairs
theorem dX8_deafest_0 : decode cX8_deafest 0 = .ok (.bipush (-6), 2) := by decide +kernel
theorem dX8_deafest_2 : decode cX8_deafest 2 = .ok (.istore_n 1, 1) := by decide +kernel
theorem dX8_deafest_3 : decode cX8_deafest 3 = .ok (.iconst (-1), 1) := by decide +kernel
theorem dX8_deafest_4 : decode cX8_deafest 4 = .ok (.istore_n 2, 1) := by decide +kernel
theorem dX8_deafest_5 : decode cX8_deafest 5 = .ok (.iconst 0, 1) := by decide +kernel
theorem dX8_deafest_6 : decode cX8_deafest 6 = .ok (.istore_n 3, 1) := by decide +kernel
theorem dX8_deafest_7 : decode cX8_deafest 7 = .ok (.iload_n 3, 1) := by decide +kernel
theorem dX8_deafest_8 : decode cX8_deafest 8 = .ok (.aload_n 0, 1) := by decide +kernel
theorem dX8_deafest_9 : decode cX8_deafest 9 = .ok (.getfield 7, 3) := by decide +kernel
theorem dX8_deafest_12 : decode cX8_deafest 12 = .ok (.iconst 3, 1) := by decide +kernel
theorem dX8_deafest_13 : decode cX8_deafest 13 = .ok (.iaload, 1) := by decide +kernel
theorem dX8_deafest_14 : decode cX8_deafest 14 = .ok (.if_icmp .ge 41, 3) := by decide +kernel
theorem dX8_deafest_17 : decode cX8_deafest 17 = .ok (.aload_n 0, 1) := by decide +kernel
theorem dX8_deafest_18 : decode cX8_deafest 18 = .ok (.iload_n 3, 1) := by decide +kernel
theorem dX8_deafest_19 : decode cX8_deafest 19 = .ok (.invokevirtual 202, 3) := by decide +kernel
theorem dX8_deafest_22 : decode cX8_deafest 22 = .ok (.istore 4, 2) := by decide +kernel
theorem dX8_deafest_24 : decode cX8_deafest 24 = .ok (.iload 4, 2) := by decide +kernel
theorem dX8_deafest_26 : decode cX8_deafest 26 = .ok (.iload_n 2, 1) := by decide +kernel
theorem dX8_deafest_27 : decode cX8_deafest 27 = .ok (.if_icmp .le 7, 3) := by decide +kernel
theorem dX8_deafest_30 : decode cX8_deafest 30 = .ok (.iload_n 3, 1) := by decide +kernel
theorem dX8_deafest_31 : decode cX8_deafest 31 = .ok (.goto 4, 3) := by decide +kernel
theorem dX8_deafest_34 : decode cX8_deafest 34 = .ok (.iload_n 1, 1) := by decide +kernel
theorem dX8_deafest_35 : decode cX8_deafest 35 = .ok (.istore_n 1, 1) := by decide +kernel
theorem dX8_deafest_36 : decode cX8_deafest 36 = .ok (.iload 4, 2) := by decide +kernel
theorem dX8_deafest_38 : decode cX8_deafest 38 = .ok (.iload_n 2, 1) := by decide +kernel
theorem dX8_deafest_39 : decode cX8_deafest 39 = .ok (.if_icmp .le 8, 3) := by decide +kernel
theorem dX8_deafest_42 : decode cX8_deafest 42 = .ok (.iload 4, 2) := by decide +kernel
theorem dX8_deafest_44 : decode cX8_deafest 44 = .ok (.goto 4, 3) := by decide +kernel
theorem dX8_deafest_47 : decode cX8_deafest 47 = .ok (.iload_n 2, 1) := by decide +kernel
theorem dX8_deafest_48 : decode cX8_deafest 48 = .ok (.istore_n 2, 1) := by decide +kernel
theorem dX8_deafest_49 : decode cX8_deafest 49 = .ok (.iinc 3 1, 3) := by decide +kernel
theorem dX8_deafest_52 : decode cX8_deafest 52 = .ok (.goto (-45), 3) := by decide +kernel
theorem dX8_deafest_55 : decode cX8_deafest 55 = .ok (.iload_n 1, 1) := by decide +kernel
theorem dX8_deafest_56 : decode cX8_deafest 56 = .ok (.ireturn, 1) := by decide +kernel
theorem dJ6_bitCount_0f7a4_0 : decode cJ6_bitCount_0f7a4 0 = .ok (.iload_n 0, 1) := by decide +kernel
theorem dJ6_bitCount_0f7a4_1 : decode cJ6_bitCount_0f7a4 1 = .ok (.iload_n 0, 1) := by decide +kernel
theorem dJ6_bitCount_0f7a4_2 : decode cJ6_bitCount_0f7a4 2 = .ok (.iconst 1, 1) := by decide +kernel
theorem dJ6_bitCount_0f7a4_3 : decode cJ6_bitCount_0f7a4 3 = .ok (.iushr, 1) := by decide +kernel
theorem dJ6_bitCount_0f7a4_4 : decode cJ6_bitCount_0f7a4 4 = .ok (.ldc_w 265, 3) := by decide +kernel
theorem dJ6_bitCount_0f7a4_7 : decode cJ6_bitCount_0f7a4 7 = .ok (.iand, 1) := by decide +kernel
theorem dJ6_bitCount_0f7a4_8 : decode cJ6_bitCount_0f7a4 8 = .ok (.isub, 1) := by decide +kernel
theorem dJ6_bitCount_0f7a4_9 : decode cJ6_bitCount_0f7a4 9 = .ok (.istore_n 0, 1) := by decide +kernel
theorem dJ6_bitCount_0f7a4_10 : decode cJ6_bitCount_0f7a4 10 = .ok (.iload_n 0, 1) := by decide +kernel
theorem dJ6_bitCount_0f7a4_11 : decode cJ6_bitCount_0f7a4 11 = .ok (.ldc_w 266, 3) := by decide +kernel
theorem dJ6_bitCount_0f7a4_14 : decode cJ6_bitCount_0f7a4 14 = .ok (.iand, 1) := by decide +kernel
theorem dJ6_bitCount_0f7a4_15 : decode cJ6_bitCount_0f7a4 15 = .ok (.iload_n 0, 1) := by decide +kernel
theorem dJ6_bitCount_0f7a4_16 : decode cJ6_bitCount_0f7a4 16 = .ok (.iconst 2, 1) := by decide +kernel
theorem dJ6_bitCount_0f7a4_17 : decode cJ6_bitCount_0f7a4 17 = .ok (.iushr, 1) := by decide +kernel
theorem dJ6_bitCount_0f7a4_18 : decode cJ6_bitCount_0f7a4 18 = .ok (.ldc_w 266, 3) := by decide +kernel
theorem dJ6_bitCount_0f7a4_21 : decode cJ6_bitCount_0f7a4 21 = .ok (.iand, 1) := by decide +kernel
theorem dJ6_bitCount_0f7a4_22 : decode cJ6_bitCount_0f7a4 22 = .ok (.iadd, 1) := by decide +kernel
theorem dJ6_bitCount_0f7a4_23 : decode cJ6_bitCount_0f7a4 23 = .ok (.istore_n 0, 1) := by decide +kernel
theorem dJ6_bitCount_0f7a4_24 : decode cJ6_bitCount_0f7a4 24 = .ok (.iload_n 0, 1) := by decide +kernel
theorem dJ6_bitCount_0f7a4_25 : decode cJ6_bitCount_0f7a4 25 = .ok (.iload_n 0, 1) := by decide +kernel
theorem dJ6_bitCount_0f7a4_26 : decode cJ6_bitCount_0f7a4 26 = .ok (.iconst 4, 1) := by decide +kernel
theorem dJ6_bitCount_0f7a4_27 : decode cJ6_bitCount_0f7a4 27 = .ok (.iushr, 1) := by decide +kernel
theorem dJ6_bitCount_0f7a4_28 : decode cJ6_bitCount_0f7a4 28 = .ok (.iadd, 1) := by decide +kernel
theorem dJ6_bitCount_0f7a4_29 : decode cJ6_bitCount_0f7a4 29 = .ok (.ldc_w 267, 3) := by decide +kernel
theorem dJ6_bitCount_0f7a4_32 : decode cJ6_bitCount_0f7a4 32 = .ok (.iand, 1) := by decide +kernel
theorem dJ6_bitCount_0f7a4_33 : decode cJ6_bitCount_0f7a4 33 = .ok (.istore_n 0, 1) := by decide +kernel
theorem dJ6_bitCount_0f7a4_34 : decode cJ6_bitCount_0f7a4 34 = .ok (.iload_n 0, 1) := by decide +kernel
theorem dJ6_bitCount_0f7a4_35 : decode cJ6_bitCount_0f7a4 35 = .ok (.iload_n 0, 1) := by decide +kernel
theorem dJ6_bitCount_0f7a4_36 : decode cJ6_bitCount_0f7a4 36 = .ok (.bipush 8, 2) := by decide +kernel
theorem dJ6_bitCount_0f7a4_38 : decode cJ6_bitCount_0f7a4 38 = .ok (.iushr, 1) := by decide +kernel
theorem dJ6_bitCount_0f7a4_39 : decode cJ6_bitCount_0f7a4 39 = .ok (.iadd, 1) := by decide +kernel
theorem dJ6_bitCount_0f7a4_40 : decode cJ6_bitCount_0f7a4 40 = .ok (.istore_n 0, 1) := by decide +kernel
theorem dJ6_bitCount_0f7a4_41 : decode cJ6_bitCount_0f7a4 41 = .ok (.iload_n 0, 1) := by decide +kernel
theorem dJ6_bitCount_0f7a4_42 : decode cJ6_bitCount_0f7a4 42 = .ok (.iload_n 0, 1) := by decide +kernel
theorem dJ6_bitCount_0f7a4_43 : decode cJ6_bitCount_0f7a4 43 = .ok (.bipush 16, 2) := by decide +kernel
theorem dJ6_bitCount_0f7a4_45 : decode cJ6_bitCount_0f7a4 45 = .ok (.iushr, 1) := by decide +kernel
theorem dJ6_bitCount_0f7a4_46 : decode cJ6_bitCount_0f7a4 46 = .ok (.iadd, 1) := by decide +kernel
theorem dJ6_bitCount_0f7a4_47 : decode cJ6_bitCount_0f7a4 47 = .ok (.istore_n 0, 1) := by decide +kernel
theorem dJ6_bitCount_0f7a4_48 : decode cJ6_bitCount_0f7a4 48 = .ok (.iload_n 0, 1) := by decide +kernel
theorem dJ6_bitCount_0f7a4_49 : decode cJ6_bitCount_0f7a4 49 = .ok (.bipush 63, 2) := by decide +kernel
theorem dJ6_bitCount_0f7a4_51 : decode cJ6_bitCount_0f7a4 51 = .ok (.iand, 1) := by decide +kernel
theorem dJ6_bitCount_0f7a4_52 : decode cJ6_bitCount_0f7a4 52 = .ok (.ireturn, 1) := by decide +kernel
theorem dJ9_max_7cf53_0 : decode cJ9_max_7cf53 0 = .ok (.iload_n 0, 1) := by decide +kernel
theorem dJ9_max_7cf53_1 : decode cJ9_max_7cf53 1 = .ok (.iload_n 1, 1) := by decide +kernel
theorem dJ9_max_7cf53_2 : decode cJ9_max_7cf53 2 = .ok (.if_icmp .lt 7, 3) := by decide +kernel
theorem dJ9_max_7cf53_5 : decode cJ9_max_7cf53 5 = .ok (.iload_n 0, 1) := by decide +kernel
theorem dJ9_max_7cf53_6 : decode cJ9_max_7cf53 6 = .ok (.goto 4, 3) := by decide +kernel
theorem dJ9_max_7cf53_9 : decode cJ9_max_7cf53 9 = .ok (.iload_n 1, 1) := by decide +kernel
theorem dJ9_max_7cf53_10 : decode cJ9_max_7cf53 10 = .ok (.ireturn, 1) := by decide +kernel
theorem dJ9_min_7cf53_0 : decode cJ9_min_7cf53 0 = .ok (.iload_n 0, 1) := by decide +kernel
theorem dJ9_min_7cf53_1 : decode cJ9_min_7cf53 1 = .ok (.iload_n 1, 1) := by decide +kernel
theorem dJ9_min_7cf53_2 : decode cJ9_min_7cf53 2 = .ok (.if_icmp .gt 7, 3) := by decide +kernel
theorem dJ9_min_7cf53_5 : decode cJ9_min_7cf53 5 = .ok (.iload_n 0, 1) := by decide +kernel
theorem dJ9_min_7cf53_6 : decode cJ9_min_7cf53 6 = .ok (.goto 4, 3) := by decide +kernel
theorem dJ9_min_7cf53_9 : decode cJ9_min_7cf53 9 = .ok (.iload_n 1, 1) := by decide +kernel
theorem dJ9_min_7cf53_10 : decode cJ9_min_7cf53 10 = .ok (.ireturn, 1) := by decide +kernel


