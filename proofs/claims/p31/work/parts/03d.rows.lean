theorem dX3_between_12 : decode cX3_between 12 = .ok (.iconst 0, 1) := by decide +kernel
theorem dX3_between_13 : decode cX3_between 13 = .ok (.istore 7, 2) := by decide +kernel
theorem dX3_between_15 : decode cX3_between 15 = .ok (.iload 7, 2) := by decide +kernel
theorem dX3_between_17 : decode cX3_between 17 = .ok (.iload 6, 2) := by decide +kernel
theorem dX3_between_19 : decode cX3_between 19 = .ok (.if_icmp .gt 18, 3) := by decide +kernel
theorem dX3_between_22 : decode cX3_between 22 = .ok (.aload_n 0, 1) := by decide +kernel
theorem dX3_between_23 : decode cX3_between 23 = .ok (.getfield 9, 3) := by decide +kernel
theorem dX3_between_26 : decode cX3_between 26 = .ok (.iload 7, 2) := by decide +kernel
theorem dX3_between_28 : decode cX3_between 28 = .ok (.iload 7, 2) := by decide +kernel
theorem dX3_between_30 : decode cX3_between 30 = .ok (.iastore, 1) := by decide +kernel
theorem dX3_between_31 : decode cX3_between 31 = .ok (.iinc 7 1, 3) := by decide +kernel
theorem dX3_between_34 : decode cX3_between 34 = .ok (.goto (-19), 3) := by decide +kernel
theorem dX3_between_37 : decode cX3_between 37 = .ok (.iconst 1, 1) := by decide +kernel
theorem dX3_between_38 : decode cX3_between 38 = .ok (.istore 7, 2) := by decide +kernel
theorem dX3_between_40 : decode cX3_between 40 = .ok (.iload 7, 2) := by decide +kernel
theorem dX3_between_42 : decode cX3_between 42 = .ok (.iload 5, 2) := by decide +kernel
theorem dX3_between_44 : decode cX3_between 44 = .ok (.if_icmp .gt 120, 3) := by decide +kernel
theorem dX3_between_47 : decode cX3_between 47 = .ok (.aload_n 0, 1) := by decide +kernel
theorem dX3_between_48 : decode cX3_between 48 = .ok (.getfield 9, 3) := by decide +kernel
theorem dX3_between_51 : decode cX3_between 51 = .ok (.iconst 0, 1) := by decide +kernel
theorem dX3_between_52 : decode cX3_between 52 = .ok (.iaload, 1) := by decide +kernel
theorem dX3_between_53 : decode cX3_between 53 = .ok (.istore 8, 2) := by decide +kernel
theorem dX3_between_55 : decode cX3_between 55 = .ok (.aload_n 0, 1) := by decide +kernel
theorem dX3_between_56 : decode cX3_between 56 = .ok (.getfield 9, 3) := by decide +kernel
theorem dX3_between_59 : decode cX3_between 59 = .ok (.iconst 0, 1) := by decide +kernel
theorem dX3_between_60 : decode cX3_between 60 = .ok (.iload 7, 2) := by decide +kernel
theorem dX3_between_62 : decode cX3_between 62 = .ok (.iastore, 1) := by decide +kernel
theorem dX3_between_63 : decode cX3_between 63 = .ok (.iconst 1, 1) := by decide +kernel
theorem dX3_between_64 : decode cX3_between 64 = .ok (.istore 9, 2) := by decide +kernel
theorem dX3_between_66 : decode cX3_between 66 = .ok (.iload 9, 2) := by decide +kernel
theorem dX3_between_68 : decode cX3_between 68 = .ok (.iload 6, 2) := by decide +kernel
theorem dX3_between_70 : decode cX3_between 70 = .ok (.if_icmp .gt 88, 3) := by decide +kernel
theorem dX3_between_73 : decode cX3_between 73 = .ok (.aload_n 0, 1) := by decide +kernel
theorem dX3_between_74 : decode cX3_between 74 = .ok (.getfield 9, 3) := by decide +kernel
theorem dX3_between_77 : decode cX3_between 77 = .ok (.iload 9, 2) := by decide +kernel
theorem dX3_between_79 : decode cX3_between 79 = .ok (.iaload, 1) := by decide +kernel
theorem dX3_between_80 : decode cX3_between 80 = .ok (.istore 10, 2) := by decide +kernel
theorem dX3_between_82 : decode cX3_between 82 = .ok (.lload_n 1, 1) := by decide +kernel
theorem dX3_between_83 : decode cX3_between 83 = .ok (.iload 7, 2) := by decide +kernel
theorem dX3_between_85 : decode cX3_between 85 = .ok (.iconst 1, 1) := by decide +kernel
theorem dX3_between_86 : decode cX3_between 86 = .ok (.isub, 1) := by decide +kernel
theorem dX3_between_87 : decode cX3_between 87 = .ok (.invokestatic 24, 3) := by decide +kernel
theorem dX3_between_90 : decode cX3_between 90 = .ok (.lload_n 3, 1) := by decide +kernel
theorem dX3_between_91 : decode cX3_between 91 = .ok (.iload 9, 2) := by decide +kernel
theorem dX3_between_93 : decode cX3_between 93 = .ok (.iconst 1, 1) := by decide +kernel
theorem dX3_between_94 : decode cX3_between 94 = .ok (.isub, 1) := by decide +kernel
theorem dX3_between_95 : decode cX3_between 95 = .ok (.invokestatic 24, 3) := by decide +kernel
theorem dX3_between_98 : decode cX3_between 98 = .ok (.if_icmp .ne 7, 3) := by decide +kernel
theorem dX3_between_101 : decode cX3_between 101 = .ok (.iconst 1, 1) := by decide +kernel
theorem dX3_between_102 : decode cX3_between 102 = .ok (.goto 4, 3) := by decide +kernel
theorem dX3_between_105 : decode cX3_between 105 = .ok (.iconst 0, 1) := by decide +kernel
theorem dX3_between_106 : decode cX3_between 106 = .ok (.istore 11, 2) := by decide +kernel
theorem dX3_between_108 : decode cX3_between 108 = .ok (.aload_n 0, 1) := by decide +kernel
theorem dX3_between_109 : decode cX3_between 109 = .ok (.getfield 9, 3) := by decide +kernel
theorem dX3_between_112 : decode cX3_between 112 = .ok (.iload 9, 2) := by decide +kernel
theorem dX3_between_114 : decode cX3_between 114 = .ok (.iload 11, 2) := by decide +kernel
theorem dX3_between_116 : decode cX3_between 116 = .ok (.ifCond .eq 8, 3) := by decide +kernel
theorem dX3_between_119 : decode cX3_between 119 = .ok (.iload 8, 2) := by decide +kernel
theorem dX3_between_121 : decode cX3_between 121 = .ok (.goto 7, 3) := by decide +kernel
theorem dX3_between_124 : decode cX3_between 124 = .ok (.iload 8, 2) := by decide +kernel
theorem dX3_between_126 : decode cX3_between 126 = .ok (.iconst 1, 1) := by decide +kernel
theorem dX3_between_127 : decode cX3_between 127 = .ok (.iadd, 1) := by decide +kernel
theorem dX3_between_128 : decode cX3_between 128 = .ok (.iload 10, 2) := by decide +kernel
theorem dX3_between_130 : decode cX3_between 130 = .ok (.aload_n 0, 1) := by decide +kernel
theorem dX3_between_131 : decode cX3_between 131 = .ok (.getfield 9, 3) := by decide +kernel
theorem dX3_between_134 : decode cX3_between 134 = .ok (.iload 9, 2) := by decide +kernel
theorem dX3_between_136 : decode cX3_between 136 = .ok (.iconst 1, 1) := by decide +kernel
theorem dX3_between_137 : decode cX3_between 137 = .ok (.isub, 1) := by decide +kernel
theorem dX3_between_138 : decode cX3_between 138 = .ok (.iaload, 1) := by decide +kernel
theorem dX3_between_139 : decode cX3_between 139 = .ok (.invokestatic 28, 3) := by decide +kernel
theorem dX3_between_142 : decode cX3_between 142 = .ok (.iconst 1, 1) := by decide +kernel
theorem dX3_between_143 : decode cX3_between 143 = .ok (.iadd, 1) := by decide +kernel
theorem dX3_between_144 : decode cX3_between 144 = .ok (.invokestatic 28, 3) := by decide +kernel
theorem dX3_between_147 : decode cX3_between 147 = .ok (.iastore, 1) := by decide +kernel
theorem dX3_between_148 : decode cX3_between 148 = .ok (.iload 10, 2) := by decide +kernel
theorem dX3_between_150 : decode cX3_between 150 = .ok (.istore 8, 2) := by decide +kernel
theorem dX3_between_152 : decode cX3_between 152 = .ok (.iinc 9 1, 3) := by decide +kernel
theorem dX3_between_155 : decode cX3_between 155 = .ok (.goto (-89), 3) := by decide +kernel
theorem dX3_between_158 : decode cX3_between 158 = .ok (.iinc 7 1, 3) := by decide +kernel
theorem dX3_between_161 : decode cX3_between 161 = .ok (.goto (-121), 3) := by decide +kernel
theorem dX3_between_164 : decode cX3_between 164 = .ok (.aload_n 0, 1) := by decide +kernel
theorem dX3_between_165 : decode cX3_between 165 = .ok (.getfield 9, 3) := by decide +kernel
theorem dX3_between_168 : decode cX3_between 168 = .ok (.iload 6, 2) := by decide +kernel
theorem dX3_between_170 : decode cX3_between 170 = .ok (.iaload, 1) := by decide +kernel
theorem dX3_between_171 : decode cX3_between 171 = .ok (.ireturn, 1) := by decide +kernel
set_option maxRecDepth 20000 in
theorem ggX3_ranked_X3_between : GoodIn wsX3_ranked wsX3_between := goodIn_r _ [8, 9, 10, 11, 12, 13, 14, 15, 16, 17, 18, 19, 20, 21, 22, 33, 34] (by decide +kernel) (by decide +kernel)
set_option maxRecDepth 20000 in
theorem gX3_ranked_X3_between : GoodIn wsX3_ranked (wsV RX3 44 RX3 yX3_between wsX3_between) := goodIn_app (goodIn_of _ (by decide +kernel)) ggX3_ranked_X3_between
set_option maxRecDepth 20000 in
theorem ggX3_ranked_X3_namesAhead : GoodIn wsX3_ranked wsX3_namesAhead := goodIn_r _ [26, 2, 33, 34] (by decide +kernel) (by decide +kernel)
set_option maxRecDepth 20000 in
theorem gX3_ranked_X3_namesAhead : GoodIn wsX3_ranked (wsV RX3 48 RX3 yX3_namesAhead wsX3_namesAhead) := goodIn_app (goodIn_of _ (by decide +kernel)) ggX3_ranked_X3_namesAhead
theorem dX3_ranked_0 : decode cX3_ranked 0 = .ok (.iconst 0, 1) := by decide +kernel
theorem dX3_ranked_1 : decode cX3_ranked 1 = .ok (.istore 6, 2) := by decide +kernel
theorem dX3_ranked_3 : decode cX3_ranked 3 = .ok (.iload 6, 2) := by decide +kernel
theorem dX3_ranked_5 : decode cX3_ranked 5 = .ok (.aload_n 1, 1) := by decide +kernel
theorem dX3_ranked_6 : decode cX3_ranked 6 = .ok (.getfield 34, 3) := by decide +kernel
theorem dX3_ranked_9 : decode cX3_ranked 9 = .ok (.if_icmp .ge 28, 3) := by decide +kernel
theorem dX3_ranked_12 : decode cX3_ranked 12 = .ok (.aload_n 0, 1) := by decide +kernel
theorem dX3_ranked_13 : decode cX3_ranked 13 = .ok (.getfield 15, 3) := by decide +kernel
theorem dX3_ranked_16 : decode cX3_ranked 16 = .ok (.iload 6, 2) := by decide +kernel
theorem dX3_ranked_18 : decode cX3_ranked 18 = .ok (.aload_n 0, 1) := by decide +kernel
theorem dX3_ranked_19 : decode cX3_ranked 19 = .ok (.lload_n 2, 1) := by decide +kernel
theorem dX3_ranked_20 : decode cX3_ranked 20 = .ok (.aload_n 1, 1) := by decide +kernel
theorem dX3_ranked_21 : decode cX3_ranked 21 = .ok (.getfield 40, 3) := by decide +kernel
theorem dX3_ranked_24 : decode cX3_ranked 24 = .ok (.iload 6, 2) := by decide +kernel
theorem dX3_ranked_26 : decode cX3_ranked 26 = .ok (.laload, 1) := by decide +kernel
theorem dX3_ranked_27 : decode cX3_ranked 27 = .ok (.invokevirtual 44, 3) := by decide +kernel
theorem dX3_ranked_30 : decode cX3_ranked 30 = .ok (.iastore, 1) := by decide +kernel
theorem dX3_ranked_31 : decode cX3_ranked 31 = .ok (.iinc 6 1, 3) := by decide +kernel
theorem dX3_ranked_34 : decode cX3_ranked 34 = .ok (.goto (-31), 3) := by decide +kernel
theorem dX3_ranked_37 : decode cX3_ranked 37 = .ok (.iconst 0, 1) := by decide +kernel
theorem dX3_ranked_38 : decode cX3_ranked 38 = .ok (.istore 6, 2) := by decide +kernel
theorem dX3_ranked_40 : decode cX3_ranked 40 = .ok (.iload 6, 2) := by decide +kernel
theorem dX3_ranked_42 : decode cX3_ranked 42 = .ok (.aload_n 1, 1) := by decide +kernel
theorem dX3_ranked_43 : decode cX3_ranked 43 = .ok (.getfield 34, 3) := by decide +kernel
theorem dX3_ranked_46 : decode cX3_ranked 46 = .ok (.if_icmp .ge 39, 3) := by decide +kernel
theorem dX3_ranked_49 : decode cX3_ranked 49 = .ok (.iload 4, 2) := by decide +kernel
theorem dX3_ranked_51 : decode cX3_ranked 51 = .ok (.iconst 1, 1) := by decide +kernel
theorem dX3_ranked_52 : decode cX3_ranked 52 = .ok (.iload 6, 2) := by decide +kernel
theorem dX3_ranked_54 : decode cX3_ranked 54 = .ok (.ishl, 1) := by decide +kernel
theorem dX3_ranked_55 : decode cX3_ranked 55 = .ok (.iand, 1) := by decide +kernel
theorem dX3_ranked_56 : decode cX3_ranked 56 = .ok (.ifCond .eq 23, 3) := by decide +kernel
theorem dX3_ranked_59 : decode cX3_ranked 59 = .ok (.aload_n 0, 1) := by decide +kernel
theorem dX3_ranked_60 : decode cX3_ranked 60 = .ok (.iload 6, 2) := by decide +kernel
theorem dX3_ranked_62 : decode cX3_ranked 62 = .ok (.aload_n 1, 1) := by decide +kernel
theorem dX3_ranked_63 : decode cX3_ranked 63 = .ok (.getfield 34, 3) := by decide +kernel
theorem dX3_ranked_66 : decode cX3_ranked 66 = .ok (.iload 4, 2) := by decide +kernel
theorem dX3_ranked_68 : decode cX3_ranked 68 = .ok (.invokevirtual 48, 3) := by decide +kernel
theorem dX3_ranked_71 : decode cX3_ranked 71 = .ok (.iload 5, 2) := by decide +kernel
theorem dX3_ranked_73 : decode cX3_ranked 73 = .ok (.if_icmp .ne 6, 3) := by decide +kernel
theorem dX3_ranked_76 : decode cX3_ranked 76 = .ok (.iload 6, 2) := by decide +kernel
theorem dX3_ranked_78 : decode cX3_ranked 78 = .ok (.ireturn, 1) := by decide +kernel
theorem dX3_ranked_79 : decode cX3_ranked 79 = .ok (.iinc 6 1, 3) := by decide +kernel
theorem dX3_ranked_82 : decode cX3_ranked 82 = .ok (.goto (-42), 3) := by decide +kernel
theorem dX3_ranked_85 : decode cX3_ranked 85 = .ok (.bipush (-6), 2) := by decide +kernel
theorem dX3_ranked_87 : decode cX3_ranked 87 = .ok (.ireturn, 1) := by decide +kernel
theorem dX3_namesAhead_0 : decode cX3_namesAhead 0 = .ok (.iconst 0, 1) := by decide +kernel
theorem dX3_namesAhead_1 : decode cX3_namesAhead 1 = .ok (.istore 4, 2) := by decide +kernel
theorem dX3_namesAhead_3 : decode cX3_namesAhead 3 = .ok (.iconst 0, 1) := by decide +kernel
theorem dX3_namesAhead_4 : decode cX3_namesAhead 4 = .ok (.istore 5, 2) := by decide +kernel
theorem dX3_namesAhead_6 : decode cX3_namesAhead 6 = .ok (.iload 5, 2) := by decide +kernel
theorem dX3_namesAhead_8 : decode cX3_namesAhead 8 = .ok (.iload_n 2, 1) := by decide +kernel
theorem dX3_namesAhead_9 : decode cX3_namesAhead 9 = .ok (.if_icmp .ge 65, 3) := by decide +kernel
theorem dX3_namesAhead_12 : decode cX3_namesAhead 12 = .ok (.iload_n 3, 1) := by decide +kernel
theorem dX3_namesAhead_13 : decode cX3_namesAhead 13 = .ok (.iconst 1, 1) := by decide +kernel
theorem dX3_namesAhead_14 : decode cX3_namesAhead 14 = .ok (.iload 5, 2) := by decide +kernel
theorem dX3_namesAhead_16 : decode cX3_namesAhead 16 = .ok (.ishl, 1) := by decide +kernel
theorem dX3_namesAhead_17 : decode cX3_namesAhead 17 = .ok (.iand, 1) := by decide +kernel
theorem dX3_namesAhead_18 : decode cX3_namesAhead 18 = .ok (.ifCond .ne 6, 3) := by decide +kernel
theorem dX3_namesAhead_21 : decode cX3_namesAhead 21 = .ok (.goto 47, 3) := by decide +kernel
theorem dX3_namesAhead_24 : decode cX3_namesAhead 24 = .ok (.aload_n 0, 1) := by decide +kernel
theorem dX3_namesAhead_25 : decode cX3_namesAhead 25 = .ok (.getfield 15, 3) := by decide +kernel
theorem dX3_namesAhead_28 : decode cX3_namesAhead 28 = .ok (.iload 5, 2) := by decide +kernel
theorem dX3_namesAhead_30 : decode cX3_namesAhead 30 = .ok (.iaload, 1) := by decide +kernel
theorem dX3_namesAhead_31 : decode cX3_namesAhead 31 = .ok (.aload_n 0, 1) := by decide +kernel
theorem dX3_namesAhead_32 : decode cX3_namesAhead 32 = .ok (.getfield 15, 3) := by decide +kernel
theorem dX3_namesAhead_35 : decode cX3_namesAhead 35 = .ok (.iload_n 1, 1) := by decide +kernel
theorem dX3_namesAhead_36 : decode cX3_namesAhead 36 = .ok (.iaload, 1) := by decide +kernel
theorem dX3_namesAhead_37 : decode cX3_namesAhead 37 = .ok (.if_icmp .ge 6, 3) := by decide +kernel
theorem dX3_namesAhead_40 : decode cX3_namesAhead 40 = .ok (.iinc 4 1, 3) := by decide +kernel
theorem dX3_namesAhead_43 : decode cX3_namesAhead 43 = .ok (.aload_n 0, 1) := by decide +kernel
theorem dX3_namesAhead_44 : decode cX3_namesAhead 44 = .ok (.getfield 15, 3) := by decide +kernel
theorem dX3_namesAhead_47 : decode cX3_namesAhead 47 = .ok (.iload 5, 2) := by decide +kernel
theorem dX3_namesAhead_49 : decode cX3_namesAhead 49 = .ok (.iaload, 1) := by decide +kernel
theorem dX3_namesAhead_50 : decode cX3_namesAhead 50 = .ok (.aload_n 0, 1) := by decide +kernel
theorem dX3_namesAhead_51 : decode cX3_namesAhead 51 = .ok (.getfield 15, 3) := by decide +kernel
theorem dX3_namesAhead_54 : decode cX3_namesAhead 54 = .ok (.iload_n 1, 1) := by decide +kernel
theorem dX3_namesAhead_55 : decode cX3_namesAhead 55 = .ok (.iaload, 1) := by decide +kernel
theorem dX3_namesAhead_56 : decode cX3_namesAhead 56 = .ok (.if_icmp .ne 12, 3) := by decide +kernel
theorem dX3_namesAhead_59 : decode cX3_namesAhead 59 = .ok (.iload 5, 2) := by decide +kernel
theorem dX3_namesAhead_61 : decode cX3_namesAhead 61 = .ok (.iload_n 1, 1) := by decide +kernel
theorem dX3_namesAhead_62 : decode cX3_namesAhead 62 = .ok (.if_icmp .ge 6, 3) := by decide +kernel
theorem dX3_namesAhead_65 : decode cX3_namesAhead 65 = .ok (.iinc 4 1, 3) := by decide +kernel
theorem dX3_namesAhead_68 : decode cX3_namesAhead 68 = .ok (.iinc 5 1, 3) := by decide +kernel
theorem dX3_namesAhead_71 : decode cX3_namesAhead 71 = .ok (.goto (-65), 3) := by decide +kernel
theorem dX3_namesAhead_74 : decode cX3_namesAhead 74 = .ok (.iload 4, 2) := by decide +kernel
theorem dX3_namesAhead_76 : decode cX3_namesAhead 76 = .ok (.ireturn, 1) := by decide +kernel
theorem dX4_init_0 : decode cX4_init 0 = .ok (.aload_n 0, 1) := by decide +kernel
theorem dX4_init_1 : decode cX4_init 1 = .ok (.invokespecial 3, 3) := by decide +kernel
theorem dX4_init_4 : decode cX4_init 4 = .ok (.aload_n 0, 1) := by decide +kernel
theorem dX4_init_5 : decode cX4_init 5 = .ok (.bipush 80, 2) := by decide +kernel
theorem dX4_init_7 : decode cX4_init 7 = .ok (.newarray .char, 2) := by decide +kernel
theorem dX4_init_9 : decode cX4_init 9 = .ok (.putfield 9, 3) := by decide +kernel
theorem dX4_init_12 : decode cX4_init 12 = .ok (.aload_n 0, 1) := by decide +kernel
theorem dX4_init_13 : decode cX4_init 13 = .ok (.iconst 0, 1) := by decide +kernel
theorem dX4_init_14 : decode cX4_init 14 = .ok (.putfield 15, 3) := by decide +kernel
theorem dX4_init_17 : decode cX4_init 17 = .ok (.return_, 1) := by decide +kernel
theorem dX4_charactersIn_0 : decode cX4_charactersIn 0 = .ok (.lload_n 0, 1) := by decide +kernel
theorem dX4_charactersIn_1 : decode cX4_charactersIn 1 = .ok (.lstore_n 2, 1) := by decide +kernel
theorem dX4_charactersIn_2 : decode cX4_charactersIn 2 = .ok (.iconst 0, 1) := by decide +kernel
theorem dX4_charactersIn_3 : decode cX4_charactersIn 3 = .ok (.istore 4, 2) := by decide +kernel
theorem dX4_charactersIn_5 : decode cX4_charactersIn 5 = .ok (.iload 4, 2) := by decide +kernel
theorem dX4_charactersIn_7 : decode cX4_charactersIn 7 = .ok (.bipush 8, 2) := by decide +kernel
theorem dX4_charactersIn_9 : decode cX4_charactersIn 9 = .ok (.if_icmp .ge 51, 3) := by decide +kernel
theorem dX4_charactersIn_12 : decode cX4_charactersIn 12 = .ok (.lload_n 2, 1) := by decide +kernel
theorem dX4_charactersIn_13 : decode cX4_charactersIn 13 = .ok (.ldc2_w 19, 3) := by decide +kernel
theorem dX4_charactersIn_16 : decode cX4_charactersIn 16 = .ok (.land, 1) := by decide +kernel
theorem dX4_charactersIn_17 : decode cX4_charactersIn 17 = .ok (.lconst 0, 1) := by decide +kernel
theorem dX4_charactersIn_18 : decode cX4_charactersIn 18 = .ok (.lcmp, 1) := by decide +kernel
theorem dX4_charactersIn_19 : decode cX4_charactersIn 19 = .ok (.ifCond .eq 41, 3) := by decide +kernel
theorem dX4_charactersIn_22 : decode cX4_charactersIn 22 = .ok (.lload_n 2, 1) := by decide +kernel
theorem dX4_charactersIn_23 : decode cX4_charactersIn 23 = .ok (.ldc2_w 19, 3) := by decide +kernel
theorem dX4_charactersIn_26 : decode cX4_charactersIn 26 = .ok (.land, 1) := by decide +kernel
theorem dX4_charactersIn_27 : decode cX4_charactersIn 27 = .ok (.lstore 5, 2) := by decide +kernel
theorem dX4_charactersIn_29 : decode cX4_charactersIn 29 = .ok (.lload 5, 2) := by decide +kernel
theorem dX4_charactersIn_31 : decode cX4_charactersIn 31 = .ok (.ldc2_w 21, 3) := by decide +kernel
theorem dX4_charactersIn_34 : decode cX4_charactersIn 34 = .ok (.lcmp, 1) := by decide +kernel
theorem dX4_charactersIn_35 : decode cX4_charactersIn 35 = .ok (.ifCond .lt 12, 3) := by decide +kernel
theorem dX4_charactersIn_38 : decode cX4_charactersIn 38 = .ok (.lload 5, 2) := by decide +kernel
theorem dX4_charactersIn_40 : decode cX4_charactersIn 40 = .ok (.ldc2_w 23, 3) := by decide +kernel
theorem dX4_charactersIn_43 : decode cX4_charactersIn 43 = .ok (.lcmp, 1) := by decide +kernel
theorem dX4_charactersIn_44 : decode cX4_charactersIn 44 = .ok (.ifCond .le 5, 3) := by decide +kernel
theorem dX4_charactersIn_47 : decode cX4_charactersIn 47 = .ok (.iconst 0, 1) := by decide +kernel
theorem dX4_charactersIn_48 : decode cX4_charactersIn 48 = .ok (.ireturn, 1) := by decide +kernel
theorem dX4_charactersIn_49 : decode cX4_charactersIn 49 = .ok (.lload_n 2, 1) := by decide +kernel
theorem dX4_charactersIn_50 : decode cX4_charactersIn 50 = .ok (.bipush 8, 2) := by decide +kernel
theorem dX4_charactersIn_52 : decode cX4_charactersIn 52 = .ok (.lushr, 1) := by decide +kernel
theorem dX4_charactersIn_53 : decode cX4_charactersIn 53 = .ok (.lstore_n 2, 1) := by decide +kernel
theorem dX4_charactersIn_54 : decode cX4_charactersIn 54 = .ok (.iinc 4 1, 3) := by decide +kernel
theorem dX4_charactersIn_57 : decode cX4_charactersIn 57 = .ok (.goto (-52), 3) := by decide +kernel
theorem dX4_charactersIn_60 : decode cX4_charactersIn 60 = .ok (.lload_n 2, 1) := by decide +kernel
theorem dX4_charactersIn_61 : decode cX4_charactersIn 61 = .ok (.lconst 0, 1) := by decide +kernel
theorem dX4_charactersIn_62 : decode cX4_charactersIn 62 = .ok (.lcmp, 1) := by decide +kernel
theorem dX4_charactersIn_63 : decode cX4_charactersIn 63 = .ok (.ifCond .ne 8, 3) := by decide +kernel
theorem dX4_charactersIn_66 : decode cX4_charactersIn 66 = .ok (.iload 4, 2) := by decide +kernel
theorem dX4_charactersIn_68 : decode cX4_charactersIn 68 = .ok (.goto 4, 3) := by decide +kernel
theorem dX4_charactersIn_71 : decode cX4_charactersIn 71 = .ok (.iconst 0, 1) := by decide +kernel
theorem dX4_charactersIn_72 : decode cX4_charactersIn 72 = .ok (.ireturn, 1) := by decide +kernel
theorem dX4_append_0 : decode cX4_append 0 = .ok (.iload_n 3, 1) := by decide +kernel
theorem dX4_append_1 : decode cX4_append 1 = .ok (.iconst 1, 1) := by decide +kernel
theorem dX4_append_2 : decode cX4_append 2 = .ok (.isub, 1) := by decide +kernel
theorem dX4_append_3 : decode cX4_append 3 = .ok (.istore 4, 2) := by decide +kernel
theorem dX4_append_5 : decode cX4_append 5 = .ok (.iload 4, 2) := by decide +kernel
theorem dX4_append_7 : decode cX4_append 7 = .ok (.ifCond .lt 50, 3) := by decide +kernel
theorem dX4_append_10 : decode cX4_append 10 = .ok (.aload_n 0, 1) := by decide +kernel
theorem dX4_append_11 : decode cX4_append 11 = .ok (.getfield 15, 3) := by decide +kernel
theorem dX4_append_14 : decode cX4_append 14 = .ok (.bipush 80, 2) := by decide +kernel
theorem dX4_append_16 : decode cX4_append 16 = .ok (.if_icmp .ge 41, 3) := by decide +kernel
theorem dX4_append_19 : decode cX4_append 19 = .ok (.aload_n 0, 1) := by decide +kernel
theorem dX4_append_20 : decode cX4_append 20 = .ok (.getfield 9, 3) := by decide +kernel
theorem dX4_append_23 : decode cX4_append 23 = .ok (.aload_n 0, 1) := by decide +kernel
theorem dX4_append_24 : decode cX4_append 24 = .ok (.getfield 15, 3) := by decide +kernel
theorem dX4_append_27 : decode cX4_append 27 = .ok (.lload_n 1, 1) := by decide +kernel
theorem dX4_append_28 : decode cX4_append 28 = .ok (.bipush 8, 2) := by decide +kernel
theorem dX4_append_30 : decode cX4_append 30 = .ok (.iload 4, 2) := by decide +kernel
theorem dX4_append_32 : decode cX4_append 32 = .ok (.imul, 1) := by decide +kernel
theorem dX4_append_33 : decode cX4_append 33 = .ok (.lushr, 1) := by decide +kernel
theorem dX4_append_34 : decode cX4_append 34 = .ok (.ldc2_w 19, 3) := by decide +kernel
theorem dX4_append_37 : decode cX4_append 37 = .ok (.land, 1) := by decide +kernel
theorem dX4_append_38 : decode cX4_append 38 = .ok (.l2i, 1) := by decide +kernel
theorem dX4_append_39 : decode cX4_append 39 = .ok (.i2c, 1) := by decide +kernel
theorem dX4_append_40 : decode cX4_append 40 = .ok (.castore, 1) := by decide +kernel
theorem dX4_append_41 : decode cX4_append 41 = .ok (.aload_n 0, 1) := by decide +kernel
theorem dX4_append_42 : decode cX4_append 42 = .ok (.dup, 1) := by decide +kernel
theorem dX4_append_43 : decode cX4_append 43 = .ok (.getfield 15, 3) := by decide +kernel
theorem dX4_append_46 : decode cX4_append 46 = .ok (.iconst 1, 1) := by decide +kernel
theorem dX4_append_47 : decode cX4_append 47 = .ok (.iadd, 1) := by decide +kernel
theorem dX4_append_48 : decode cX4_append 48 = .ok (.putfield 15, 3) := by decide +kernel
theorem dX4_append_51 : decode cX4_append 51 = .ok (.iinc 4 (-1), 3) := by decide +kernel
theorem dX4_append_54 : decode cX4_append 54 = .ok (.goto (-49), 3) := by decide +kernel
theorem dX4_append_57 : decode cX4_append 57 = .ok (.return_, 1) := by decide +kernel
theorem dX4_firstFault_0 : decode cX4_firstFault 0 = .ok (.aload_n 0, 1) := by decide +kernel
theorem dX4_firstFault_1 : decode cX4_firstFault 1 = .ok (.getfield 15, 3) := by decide +kernel
theorem dX4_firstFault_4 : decode cX4_firstFault 4 = .ok (.ifCond .ne 5, 3) := by decide +kernel
theorem dX4_firstFault_7 : decode cX4_firstFault 7 = .ok (.iconst 0, 1) := by decide +kernel
theorem dX4_firstFault_8 : decode cX4_firstFault 8 = .ok (.ireturn, 1) := by decide +kernel
theorem dX4_firstFault_9 : decode cX4_firstFault 9 = .ok (.iconst 0, 1) := by decide +kernel
theorem dX4_firstFault_10 : decode cX4_firstFault 10 = .ok (.istore_n 1, 1) := by decide +kernel
theorem dX4_firstFault_11 : decode cX4_firstFault 11 = .ok (.iload_n 1, 1) := by decide +kernel
theorem dX4_firstFault_12 : decode cX4_firstFault 12 = .ok (.aload_n 0, 1) := by decide +kernel
theorem dX4_firstFault_13 : decode cX4_firstFault 13 = .ok (.getfield 15, 3) := by decide +kernel
theorem dX4_firstFault_16 : decode cX4_firstFault 16 = .ok (.if_icmp .ge 39, 3) := by decide +kernel
theorem dX4_firstFault_19 : decode cX4_firstFault 19 = .ok (.iload_n 1, 1) := by decide +kernel
theorem dX4_firstFault_20 : decode cX4_firstFault 20 = .ok (.bipush 10, 2) := by decide +kernel
theorem dX4_firstFault_22 : decode cX4_firstFault 22 = .ok (.if_icmp .eq 25, 3) := by decide +kernel
theorem dX4_firstFault_25 : decode cX4_firstFault 25 = .ok (.aload_n 0, 1) := by decide +kernel
theorem dX4_firstFault_26 : decode cX4_firstFault 26 = .ok (.getfield 9, 3) := by decide +kernel
theorem dX4_firstFault_29 : decode cX4_firstFault 29 = .ok (.iload_n 1, 1) := by decide +kernel
theorem dX4_firstFault_30 : decode cX4_firstFault 30 = .ok (.caload, 1) := by decide +kernel
theorem dX4_firstFault_31 : decode cX4_firstFault 31 = .ok (.bipush 97, 2) := by decide +kernel
theorem dX4_firstFault_33 : decode cX4_firstFault 33 = .ok (.if_icmp .lt 14, 3) := by decide +kernel
theorem dX4_firstFault_36 : decode cX4_firstFault 36 = .ok (.aload_n 0, 1) := by decide +kernel
theorem dX4_firstFault_37 : decode cX4_firstFault 37 = .ok (.getfield 9, 3) := by decide +kernel
theorem dX4_firstFault_40 : decode cX4_firstFault 40 = .ok (.iload_n 1, 1) := by decide +kernel
theorem dX4_firstFault_41 : decode cX4_firstFault 41 = .ok (.caload, 1) := by decide +kernel
theorem dX4_firstFault_42 : decode cX4_firstFault 42 = .ok (.bipush 122, 2) := by decide +kernel
theorem dX4_firstFault_44 : decode cX4_firstFault 44 = .ok (.if_icmp .le 5, 3) := by decide +kernel
theorem dX4_firstFault_47 : decode cX4_firstFault 47 = .ok (.iload_n 1, 1) := by decide +kernel
theorem dX4_firstFault_48 : decode cX4_firstFault 48 = .ok (.ireturn, 1) := by decide +kernel
theorem dX4_firstFault_49 : decode cX4_firstFault 49 = .ok (.iinc 1 1, 3) := by decide +kernel
theorem dX4_firstFault_52 : decode cX4_firstFault 52 = .ok (.goto (-41), 3) := by decide +kernel
theorem dX4_firstFault_55 : decode cX4_firstFault 55 = .ok (.bipush (-6), 2) := by decide +kernel
theorem dX4_firstFault_57 : decode cX4_firstFault 57 = .ok (.ireturn, 1) := by decide +kernel
set_option maxRecDepth 20000 in
theorem ggX4_asWord_X6_with : GoodIn wsX4_asWord wsX6_with := goodIn_r _ [6] (by decide +kernel) (by decide +kernel)
set_option maxRecDepth 20000 in
theorem gX4_asWord_X6_with : GoodIn wsX4_asWord (va_wsS RX4 25 yX6_with wsX6_with) := goodIn_app (goodIn_of _ (by decide +kernel)) ggX4_asWord_X6_with
theorem dX4_asWord_0 : decode cX4_asWord 0 = .ok (.lconst 0, 1) := by decide +kernel
theorem dX4_asWord_1 : decode cX4_asWord 1 = .ok (.lstore_n 1, 1) := by decide +kernel
theorem dX4_asWord_2 : decode cX4_asWord 2 = .ok (.iconst 0, 1) := by decide +kernel
theorem dX4_asWord_3 : decode cX4_asWord 3 = .ok (.istore_n 3, 1) := by decide +kernel
theorem dX4_asWord_4 : decode cX4_asWord 4 = .ok (.iload_n 3, 1) := by decide +kernel
theorem dX4_asWord_5 : decode cX4_asWord 5 = .ok (.aload_n 0, 1) := by decide +kernel
theorem dX4_asWord_6 : decode cX4_asWord 6 = .ok (.getfield 15, 3) := by decide +kernel
theorem dX4_asWord_9 : decode cX4_asWord 9 = .ok (.if_icmp .ge 30, 3) := by decide +kernel
theorem dX4_asWord_12 : decode cX4_asWord 12 = .ok (.iload_n 3, 1) := by decide +kernel
theorem dX4_asWord_13 : decode cX4_asWord 13 = .ok (.bipush 10, 2) := by decide +kernel
theorem dX4_asWord_15 : decode cX4_asWord 15 = .ok (.if_icmp .ge 24, 3) := by decide +kernel
theorem dX4_asWord_18 : decode cX4_asWord 18 = .ok (.lload_n 1, 1) := by decide +kernel
theorem dX4_asWord_19 : decode cX4_asWord 19 = .ok (.iload_n 3, 1) := by decide +kernel
theorem dX4_asWord_20 : decode cX4_asWord 20 = .ok (.aload_n 0, 1) := by decide +kernel
theorem dX4_asWord_21 : decode cX4_asWord 21 = .ok (.getfield 9, 3) := by decide +kernel
theorem dX4_asWord_24 : decode cX4_asWord 24 = .ok (.iload_n 3, 1) := by decide +kernel
theorem dX4_asWord_25 : decode cX4_asWord 25 = .ok (.caload, 1) := by decide +kernel
theorem dX4_asWord_26 : decode cX4_asWord 26 = .ok (.bipush 97, 2) := by decide +kernel
theorem dX4_asWord_28 : decode cX4_asWord 28 = .ok (.isub, 1) := by decide +kernel
theorem dX4_asWord_29 : decode cX4_asWord 29 = .ok (.invokestatic 25, 3) := by decide +kernel
theorem dX4_asWord_32 : decode cX4_asWord 32 = .ok (.lstore_n 1, 1) := by decide +kernel
theorem dX4_asWord_33 : decode cX4_asWord 33 = .ok (.iinc 3 1, 3) := by decide +kernel
theorem dX4_asWord_36 : decode cX4_asWord 36 = .ok (.goto (-32), 3) := by decide +kernel
theorem dX4_asWord_39 : decode cX4_asWord 39 = .ok (.lload_n 1, 1) := by decide +kernel
theorem dX4_asWord_40 : decode cX4_asWord 40 = .ok (.lreturn, 1) := by decide +kernel
set_option maxRecDepth 20000 in
theorem ggX5_init_X2_init : GoodIn wsX5_init wsX2_init := goodIn_r _ [16, 17, 2, 3, 18, 19, 20, 21, 22, 23, 24, 25, 26, 27, 13, 28, 29, 30, 31, 38, 39, 40, 41, 42, 43, 44, 45] (by decide +kernel) (by decide +kernel)
set_option maxRecDepth 20000 in
theorem gX5_init_X2_init : GoodIn wsX5_init (wsX2_init) := ggX5_init_X2_init
theorem dX5_init_0 : decode cX5_init 0 = .ok (.aload_n 0, 1) := by decide +kernel
theorem dX5_init_1 : decode cX5_init 1 = .ok (.invokespecial 3, 3) := by decide +kernel
theorem dX5_init_4 : decode cX5_init 4 = .ok (.aload_n 0, 1) := by decide +kernel
theorem dX5_init_5 : decode cX5_init 5 = .ok (.iconst 4, 1) := by decide +kernel
theorem dX5_init_6 : decode cX5_init 6 = .ok (.putfield 9, 3) := by decide +kernel
theorem dX5_init_9 : decode cX5_init 9 = .ok (.aload_n 0, 1) := by decide +kernel
theorem dX5_init_10 : decode cX5_init 10 = .ok (.bipush 24, 2) := by decide +kernel
theorem dX5_init_12 : decode cX5_init 12 = .ok (.putfield 15, 3) := by decide +kernel
theorem dX5_init_15 : decode cX5_init 15 = .ok (.aload_n 0, 1) := by decide +kernel
theorem dX5_init_16 : decode cX5_init 16 = .ok (.iconst 0, 1) := by decide +kernel
theorem dX5_init_17 : decode cX5_init 17 = .ok (.putfield 18, 3) := by decide +kernel
theorem dX5_init_20 : decode cX5_init 20 = .ok (.aload_n 0, 1) := by decide +kernel
theorem dX5_init_21 : decode cX5_init 21 = .ok (.bipush 24, 2) := by decide +kernel
theorem dX5_init_23 : decode cX5_init 23 = .ok (.newarray .long, 2) := by decide +kernel
theorem dX5_init_25 : decode cX5_init 25 = .ok (.putfield 21, 3) := by decide +kernel
theorem dX5_init_28 : decode cX5_init 28 = .ok (.aload_n 0, 1) := by decide +kernel
theorem dX5_init_29 : decode cX5_init 29 = .ok (.iconst 0, 1) := by decide +kernel
theorem dX5_init_30 : decode cX5_init 30 = .ok (.putfield 25, 3) := by decide +kernel
theorem dX5_init_33 : decode cX5_init 33 = .ok (.aload_n 0, 1) := by decide +kernel
theorem dX5_init_34 : decode cX5_init 34 = .ok (.iconst 4, 1) := by decide +kernel
theorem dX5_init_35 : decode cX5_init 35 = .ok (.anewarray 28, 3) := by decide +kernel
theorem dX5_init_38 : decode cX5_init 38 = .ok (.putfield 30, 3) := by decide +kernel
theorem dX5_init_41 : decode cX5_init 41 = .ok (.iconst 0, 1) := by decide +kernel
theorem dX5_init_42 : decode cX5_init 42 = .ok (.istore_n 1, 1) := by decide +kernel
theorem dX5_init_43 : decode cX5_init 43 = .ok (.iload_n 1, 1) := by decide +kernel
theorem dX5_init_44 : decode cX5_init 44 = .ok (.aload_n 0, 1) := by decide +kernel
theorem dX5_init_45 : decode cX5_init 45 = .ok (.getfield 30, 3) := by decide +kernel
theorem dX5_init_48 : decode cX5_init 48 = .ok (.arraylength, 1) := by decide +kernel
theorem dX5_init_49 : decode cX5_init 49 = .ok (.if_icmp .ge 22, 3) := by decide +kernel
theorem dX5_init_52 : decode cX5_init 52 = .ok (.aload_n 0, 1) := by decide +kernel
theorem dX5_init_53 : decode cX5_init 53 = .ok (.getfield 30, 3) := by decide +kernel
theorem dX5_init_56 : decode cX5_init 56 = .ok (.iload_n 1, 1) := by decide +kernel
theorem dX5_init_57 : decode cX5_init 57 = .ok (.new 28, 3) := by decide +kernel
theorem dX5_init_60 : decode cX5_init 60 = .ok (.dup, 1) := by decide +kernel
theorem dX5_init_61 : decode cX5_init 61 = .ok (.invokespecial 34, 3) := by decide +kernel
theorem dX5_init_64 : decode cX5_init 64 = .ok (.aastore, 1) := by decide +kernel
theorem dX5_init_65 : decode cX5_init 65 = .ok (.iinc 1 1, 3) := by decide +kernel
theorem dX5_init_68 : decode cX5_init 68 = .ok (.goto (-25), 3) := by decide +kernel
theorem dX5_init_71 : decode cX5_init 71 = .ok (.return_, 1) := by decide +kernel
set_option maxRecDepth 20000 in
theorem ggX5_beAs_X2_beAs : GoodIn wsX5_beAs wsX2_beAs := goodIn_r _ [15, 16, 17, 6, 7, 8, 18, 19, 20, 21, 22, 23, 24, 31, 32, 33, 34, 35, 36, 37, 38] (by decide +kernel) (by decide +kernel)
set_option maxRecDepth 20000 in
theorem gX5_beAs_X2_beAs : GoodIn wsX5_beAs (wsV RX5 41 RX2 yX2_beAs wsX2_beAs) := goodIn_app (goodIn_of _ (by decide +kernel)) ggX5_beAs_X2_beAs
theorem dX5_beAs_0 : decode cX5_beAs 0 = .ok (.aload_n 0, 1) := by decide +kernel
theorem dX5_beAs_1 : decode cX5_beAs 1 = .ok (.aload_n 1, 1) := by decide +kernel
theorem dX5_beAs_2 : decode cX5_beAs 2 = .ok (.getfield 9, 3) := by decide +kernel
theorem dX5_beAs_5 : decode cX5_beAs 5 = .ok (.putfield 9, 3) := by decide +kernel
theorem dX5_beAs_8 : decode cX5_beAs 8 = .ok (.aload_n 0, 1) := by decide +kernel
theorem dX5_beAs_9 : decode cX5_beAs 9 = .ok (.aload_n 1, 1) := by decide +kernel
theorem dX5_beAs_10 : decode cX5_beAs 10 = .ok (.getfield 15, 3) := by decide +kernel
theorem dX5_beAs_13 : decode cX5_beAs 13 = .ok (.putfield 15, 3) := by decide +kernel
theorem dX5_beAs_16 : decode cX5_beAs 16 = .ok (.aload_n 0, 1) := by decide +kernel
theorem dX5_beAs_17 : decode cX5_beAs 17 = .ok (.aload_n 1, 1) := by decide +kernel
theorem dX5_beAs_18 : decode cX5_beAs 18 = .ok (.getfield 18, 3) := by decide +kernel
theorem dX5_beAs_21 : decode cX5_beAs 21 = .ok (.putfield 18, 3) := by decide +kernel
theorem dX5_beAs_24 : decode cX5_beAs 24 = .ok (.aload_n 1, 1) := by decide +kernel
theorem dX5_beAs_25 : decode cX5_beAs 25 = .ok (.getfield 21, 3) := by decide +kernel
theorem dX5_beAs_28 : decode cX5_beAs 28 = .ok (.iconst 0, 1) := by decide +kernel
theorem dX5_beAs_29 : decode cX5_beAs 29 = .ok (.aload_n 0, 1) := by decide +kernel
theorem dX5_beAs_30 : decode cX5_beAs 30 = .ok (.getfield 21, 3) := by decide +kernel
theorem dX5_beAs_33 : decode cX5_beAs 33 = .ok (.iconst 0, 1) := by decide +kernel
theorem dX5_beAs_34 : decode cX5_beAs 34 = .ok (.bipush 24, 2) := by decide +kernel
theorem dX5_beAs_36 : decode cX5_beAs 36 = .ok (.invokestatic 35, 3) := by decide +kernel
theorem dX5_beAs_39 : decode cX5_beAs 39 = .ok (.aload_n 0, 1) := by decide +kernel
theorem dX5_beAs_40 : decode cX5_beAs 40 = .ok (.aload_n 1, 1) := by decide +kernel
theorem dX5_beAs_41 : decode cX5_beAs 41 = .ok (.getfield 25, 3) := by decide +kernel
theorem dX5_beAs_44 : decode cX5_beAs 44 = .ok (.putfield 25, 3) := by decide +kernel
theorem dX5_beAs_47 : decode cX5_beAs 47 = .ok (.iconst 0, 1) := by decide +kernel
theorem dX5_beAs_48 : decode cX5_beAs 48 = .ok (.istore_n 2, 1) := by decide +kernel
theorem dX5_beAs_49 : decode cX5_beAs 49 = .ok (.iload_n 2, 1) := by decide +kernel
theorem dX5_beAs_50 : decode cX5_beAs 50 = .ok (.aload_n 0, 1) := by decide +kernel
theorem dX5_beAs_51 : decode cX5_beAs 51 = .ok (.getfield 25, 3) := by decide +kernel
theorem dX5_beAs_54 : decode cX5_beAs 54 = .ok (.if_icmp .ge 33, 3) := by decide +kernel
theorem dX5_beAs_57 : decode cX5_beAs 57 = .ok (.iload_n 2, 1) := by decide +kernel
theorem dX5_beAs_58 : decode cX5_beAs 58 = .ok (.aload_n 0, 1) := by decide +kernel
theorem dX5_beAs_59 : decode cX5_beAs 59 = .ok (.getfield 30, 3) := by decide +kernel
theorem dX5_beAs_62 : decode cX5_beAs 62 = .ok (.arraylength, 1) := by decide +kernel
theorem dX5_beAs_63 : decode cX5_beAs 63 = .ok (.if_icmp .ge 24, 3) := by decide +kernel
theorem dX5_beAs_66 : decode cX5_beAs 66 = .ok (.aload_n 0, 1) := by decide +kernel
theorem dX5_beAs_67 : decode cX5_beAs 67 = .ok (.getfield 30, 3) := by decide +kernel
theorem dX5_beAs_70 : decode cX5_beAs 70 = .ok (.iload_n 2, 1) := by decide +kernel
theorem dX5_beAs_71 : decode cX5_beAs 71 = .ok (.aaload, 1) := by decide +kernel
theorem dX5_beAs_72 : decode cX5_beAs 72 = .ok (.aload_n 1, 1) := by decide +kernel
theorem dX5_beAs_73 : decode cX5_beAs 73 = .ok (.getfield 30, 3) := by decide +kernel
theorem dX5_beAs_76 : decode cX5_beAs 76 = .ok (.iload_n 2, 1) := by decide +kernel
theorem dX5_beAs_77 : decode cX5_beAs 77 = .ok (.aaload, 1) := by decide +kernel
theorem dX5_beAs_78 : decode cX5_beAs 78 = .ok (.invokevirtual 41, 3) := by decide +kernel
theorem dX5_beAs_81 : decode cX5_beAs 81 = .ok (.iinc 2 1, 3) := by decide +kernel
theorem dX5_beAs_84 : decode cX5_beAs 84 = .ok (.goto (-35), 3) := by decide +kernel
theorem dX5_beAs_87 : decode cX5_beAs 87 = .ok (.return_, 1) := by decide +kernel
theorem dX5_hasName_0 : decode cX5_hasName 0 = .ok (.iload_n 1, 1) := by decide +kernel
theorem dX5_hasName_1 : decode cX5_hasName 1 = .ok (.ifCond .lt 21, 3) := by decide +kernel
theorem dX5_hasName_4 : decode cX5_hasName 4 = .ok (.iload_n 1, 1) := by decide +kernel
theorem dX5_hasName_5 : decode cX5_hasName 5 = .ok (.aload_n 0, 1) := by decide +kernel
theorem dX5_hasName_6 : decode cX5_hasName 6 = .ok (.getfield 18, 3) := by decide +kernel
theorem dX5_hasName_9 : decode cX5_hasName 9 = .ok (.if_icmp .ge 13, 3) := by decide +kernel
theorem dX5_hasName_12 : decode cX5_hasName 12 = .ok (.iload_n 1, 1) := by decide +kernel
theorem dX5_hasName_13 : decode cX5_hasName 13 = .ok (.bipush 24, 2) := by decide +kernel
theorem dX5_hasName_15 : decode cX5_hasName 15 = .ok (.if_icmp .ge 7, 3) := by decide +kernel
theorem dX5_hasName_18 : decode cX5_hasName 18 = .ok (.iconst 1, 1) := by decide +kernel
theorem dX5_hasName_19 : decode cX5_hasName 19 = .ok (.goto 4, 3) := by decide +kernel
theorem dX5_hasName_22 : decode cX5_hasName 22 = .ok (.iconst 0, 1) := by decide +kernel
theorem dX5_hasName_23 : decode cX5_hasName 23 = .ok (.ireturn, 1) := by decide +kernel
theorem dX5_holds_0 : decode cX5_holds 0 = .ok (.iconst 0, 1) := by decide +kernel
theorem dX5_holds_1 : decode cX5_holds 1 = .ok (.istore_n 3, 1) := by decide +kernel
theorem dX5_holds_2 : decode cX5_holds 2 = .ok (.iload_n 3, 1) := by decide +kernel
theorem dX5_holds_3 : decode cX5_holds 3 = .ok (.aload_n 0, 1) := by decide +kernel
theorem dX5_holds_4 : decode cX5_holds 4 = .ok (.getfield 18, 3) := by decide +kernel
theorem dX5_holds_7 : decode cX5_holds 7 = .ok (.if_icmp .ge 22, 3) := by decide +kernel
theorem dX5_holds_10 : decode cX5_holds 10 = .ok (.aload_n 0, 1) := by decide +kernel
theorem dX5_holds_11 : decode cX5_holds 11 = .ok (.getfield 21, 3) := by decide +kernel
theorem dX5_holds_14 : decode cX5_holds 14 = .ok (.iload_n 3, 1) := by decide +kernel
theorem dX5_holds_15 : decode cX5_holds 15 = .ok (.laload, 1) := by decide +kernel
theorem dX5_holds_16 : decode cX5_holds 16 = .ok (.lload_n 1, 1) := by decide +kernel
theorem dX5_holds_17 : decode cX5_holds 17 = .ok (.lcmp, 1) := by decide +kernel
theorem dX5_holds_18 : decode cX5_holds 18 = .ok (.ifCond .ne 5, 3) := by decide +kernel
theorem dX5_holds_21 : decode cX5_holds 21 = .ok (.iconst 1, 1) := by decide +kernel
theorem dX5_holds_22 : decode cX5_holds 22 = .ok (.ireturn, 1) := by decide +kernel
theorem dX5_holds_23 : decode cX5_holds 23 = .ok (.iinc 3 1, 3) := by decide +kernel
theorem dX5_holds_26 : decode cX5_holds 26 = .ok (.goto (-24), 3) := by decide +kernel
theorem dX5_holds_29 : decode cX5_holds 29 = .ok (.iconst 0, 1) := by decide +kernel
theorem dX5_holds_30 : decode cX5_holds 30 = .ok (.ireturn, 1) := by decide +kernel
theorem dX5_removeName_0 : decode cX5_removeName 0 = .ok (.iload_n 1, 1) := by decide +kernel
theorem dX5_removeName_1 : decode cX5_removeName 1 = .ok (.iconst 1, 1) := by decide +kernel
theorem dX5_removeName_2 : decode cX5_removeName 2 = .ok (.iadd, 1) := by decide +kernel
theorem dX5_removeName_3 : decode cX5_removeName 3 = .ok (.istore_n 2, 1) := by decide +kernel
theorem dX5_removeName_4 : decode cX5_removeName 4 = .ok (.iload_n 2, 1) := by decide +kernel
theorem dX5_removeName_5 : decode cX5_removeName 5 = .ok (.aload_n 0, 1) := by decide +kernel
theorem dX5_removeName_6 : decode cX5_removeName 6 = .ok (.getfield 18, 3) := by decide +kernel
theorem dX5_removeName_9 : decode cX5_removeName 9 = .ok (.if_icmp .ge 23, 3) := by decide +kernel
theorem dX5_removeName_12 : decode cX5_removeName 12 = .ok (.aload_n 0, 1) := by decide +kernel
theorem dX5_removeName_13 : decode cX5_removeName 13 = .ok (.getfield 21, 3) := by decide +kernel
theorem dX5_removeName_16 : decode cX5_removeName 16 = .ok (.iload_n 2, 1) := by decide +kernel
theorem dX5_removeName_17 : decode cX5_removeName 17 = .ok (.iconst 1, 1) := by decide +kernel
theorem dX5_removeName_18 : decode cX5_removeName 18 = .ok (.isub, 1) := by decide +kernel
theorem dX5_removeName_19 : decode cX5_removeName 19 = .ok (.aload_n 0, 1) := by decide +kernel
theorem dX5_removeName_20 : decode cX5_removeName 20 = .ok (.getfield 21, 3) := by decide +kernel
theorem dX5_removeName_23 : decode cX5_removeName 23 = .ok (.iload_n 2, 1) := by decide +kernel
theorem dX5_removeName_24 : decode cX5_removeName 24 = .ok (.laload, 1) := by decide +kernel
theorem dX5_removeName_25 : decode cX5_removeName 25 = .ok (.lastore, 1) := by decide +kernel
theorem dX5_removeName_26 : decode cX5_removeName 26 = .ok (.iinc 2 1, 3) := by decide +kernel
theorem dX5_removeName_29 : decode cX5_removeName 29 = .ok (.goto (-25), 3) := by decide +kernel
theorem dX5_removeName_32 : decode cX5_removeName 32 = .ok (.aload_n 0, 1) := by decide +kernel
theorem dX5_removeName_33 : decode cX5_removeName 33 = .ok (.dup, 1) := by decide +kernel
theorem dX5_removeName_34 : decode cX5_removeName 34 = .ok (.getfield 18, 3) := by decide +kernel
theorem dX5_removeName_37 : decode cX5_removeName 37 = .ok (.iconst 1, 1) := by decide +kernel
theorem dX5_removeName_38 : decode cX5_removeName 38 = .ok (.isub, 1) := by decide +kernel
theorem dX5_removeName_39 : decode cX5_removeName 39 = .ok (.putfield 18, 3) := by decide +kernel
theorem dX5_removeName_42 : decode cX5_removeName 42 = .ok (.return_, 1) := by decide +kernel
set_option maxRecDepth 20000 in
theorem ggX5_lettersInNames_X6_letterSet : GoodIn wsX5_lettersInNames wsX6_letterSet := goodIn_r _ [6, 7, 8, 5, 9, 10, 11, 12, 13] (by decide +kernel) (by decide +kernel)
set_option maxRecDepth 20000 in
theorem gX5_lettersInNames_X6_letterSet : GoodIn wsX5_lettersInNames (va_wsS RX5 45 yX6_letterSet wsX6_letterSet) := goodIn_app (goodIn_of _ (by decide +kernel)) ggX5_lettersInNames_X6_letterSet
theorem dX5_lettersInNames_0 : decode cX5_lettersInNames 0 = .ok (.iconst 0, 1) := by decide +kernel
theorem dX5_lettersInNames_1 : decode cX5_lettersInNames 1 = .ok (.istore_n 1, 1) := by decide +kernel
theorem dX5_lettersInNames_2 : decode cX5_lettersInNames 2 = .ok (.iconst 0, 1) := by decide +kernel
theorem dX5_lettersInNames_3 : decode cX5_lettersInNames 3 = .ok (.istore_n 2, 1) := by decide +kernel
theorem dX5_lettersInNames_4 : decode cX5_lettersInNames 4 = .ok (.iload_n 2, 1) := by decide +kernel
theorem dX5_lettersInNames_5 : decode cX5_lettersInNames 5 = .ok (.aload_n 0, 1) := by decide +kernel
theorem dX5_lettersInNames_6 : decode cX5_lettersInNames 6 = .ok (.getfield 18, 3) := by decide +kernel
theorem dX5_lettersInNames_9 : decode cX5_lettersInNames 9 = .ok (.if_icmp .ge 21, 3) := by decide +kernel
theorem dX5_lettersInNames_12 : decode cX5_lettersInNames 12 = .ok (.iload_n 1, 1) := by decide +kernel
theorem dX5_lettersInNames_13 : decode cX5_lettersInNames 13 = .ok (.aload_n 0, 1) := by decide +kernel
theorem dX5_lettersInNames_14 : decode cX5_lettersInNames 14 = .ok (.getfield 21, 3) := by decide +kernel
theorem dX5_lettersInNames_17 : decode cX5_lettersInNames 17 = .ok (.iload_n 2, 1) := by decide +kernel
theorem dX5_lettersInNames_18 : decode cX5_lettersInNames 18 = .ok (.laload, 1) := by decide +kernel
theorem dX5_lettersInNames_19 : decode cX5_lettersInNames 19 = .ok (.invokestatic 45, 3) := by decide +kernel
theorem dX5_lettersInNames_22 : decode cX5_lettersInNames 22 = .ok (.ior, 1) := by decide +kernel
theorem dX5_lettersInNames_23 : decode cX5_lettersInNames 23 = .ok (.istore_n 1, 1) := by decide +kernel
theorem dX5_lettersInNames_24 : decode cX5_lettersInNames 24 = .ok (.iinc 2 1, 3) := by decide +kernel
theorem dX5_lettersInNames_27 : decode cX5_lettersInNames 27 = .ok (.goto (-23), 3) := by decide +kernel
theorem dX5_lettersInNames_30 : decode cX5_lettersInNames 30 = .ok (.iload_n 1, 1) := by decide +kernel
theorem dX5_lettersInNames_31 : decode cX5_lettersInNames 31 = .ok (.ireturn, 1) := by decide +kernel
theorem dX5_earAt_0 : decode cX5_earAt 0 = .ok (.iload_n 1, 1) := by decide +kernel
theorem dX5_earAt_1 : decode cX5_earAt 1 = .ok (.ifCond .lt 20, 3) := by decide +kernel
theorem dX5_earAt_4 : decode cX5_earAt 4 = .ok (.iload_n 1, 1) := by decide +kernel
theorem dX5_earAt_5 : decode cX5_earAt 5 = .ok (.aload_n 0, 1) := by decide +kernel
theorem dX5_earAt_6 : decode cX5_earAt 6 = .ok (.getfield 25, 3) := by decide +kernel
theorem dX5_earAt_9 : decode cX5_earAt 9 = .ok (.if_icmp .ge 12, 3) := by decide +kernel
theorem dX5_earAt_12 : decode cX5_earAt 12 = .ok (.iload_n 1, 1) := by decide +kernel
theorem dX5_earAt_13 : decode cX5_earAt 13 = .ok (.aload_n 0, 1) := by decide +kernel
theorem dX5_earAt_14 : decode cX5_earAt 14 = .ok (.getfield 30, 3) := by decide +kernel
theorem dX5_earAt_17 : decode cX5_earAt 17 = .ok (.arraylength, 1) := by decide +kernel
theorem dX5_earAt_18 : decode cX5_earAt 18 = .ok (.if_icmp .lt 5, 3) := by decide +kernel
theorem dX5_earAt_21 : decode cX5_earAt 21 = .ok (.aconst_null, 1) := by decide +kernel
theorem dX5_earAt_22 : decode cX5_earAt 22 = .ok (.areturn, 1) := by decide +kernel
theorem dX5_earAt_23 : decode cX5_earAt 23 = .ok (.aload_n 0, 1) := by decide +kernel
theorem dX5_earAt_24 : decode cX5_earAt 24 = .ok (.getfield 30, 3) := by decide +kernel
theorem dX5_earAt_27 : decode cX5_earAt 27 = .ok (.iload_n 1, 1) := by decide +kernel
theorem dX5_earAt_28 : decode cX5_earAt 28 = .ok (.aaload, 1) := by decide +kernel
theorem dX5_earAt_29 : decode cX5_earAt 29 = .ok (.areturn, 1) := by decide +kernel
theorem dX6_isLetter_0 : decode cX6_isLetter 0 = .ok (.iload_n 0, 1) := by decide +kernel
theorem dX6_isLetter_1 : decode cX6_isLetter 1 = .ok (.ifCond .lt 13, 3) := by decide +kernel
theorem dX6_isLetter_4 : decode cX6_isLetter 4 = .ok (.iload_n 0, 1) := by decide +kernel
theorem dX6_isLetter_5 : decode cX6_isLetter 5 = .ok (.bipush 26, 2) := by decide +kernel
theorem dX6_isLetter_7 : decode cX6_isLetter 7 = .ok (.if_icmp .ge 7, 3) := by decide +kernel
theorem dX6_isLetter_10 : decode cX6_isLetter 10 = .ok (.iconst 1, 1) := by decide +kernel
theorem dX6_isLetter_11 : decode cX6_isLetter 11 = .ok (.goto 4, 3) := by decide +kernel
theorem dX6_isLetter_14 : decode cX6_isLetter 14 = .ok (.iconst 0, 1) := by decide +kernel
theorem dX6_isLetter_15 : decode cX6_isLetter 15 = .ok (.ireturn, 1) := by decide +kernel
theorem dX6_with_0 : decode cX6_with 0 = .ok (.lload_n 0, 1) := by decide +kernel
theorem dX6_with_1 : decode cX6_with 1 = .ok (.iload_n 3, 1) := by decide +kernel
theorem dX6_with_2 : decode cX6_with 2 = .ok (.iconst 1, 1) := by decide +kernel
theorem dX6_with_3 : decode cX6_with 3 = .ok (.iadd, 1) := by decide +kernel
theorem dX6_with_4 : decode cX6_with 4 = .ok (.i2l, 1) := by decide +kernel
theorem dX6_with_5 : decode cX6_with 5 = .ok (.iconst 5, 1) := by decide +kernel
theorem dX6_with_6 : decode cX6_with 6 = .ok (.iload_n 2, 1) := by decide +kernel
theorem dX6_with_7 : decode cX6_with 7 = .ok (.imul, 1) := by decide +kernel
theorem dX6_with_8 : decode cX6_with 8 = .ok (.lshl, 1) := by decide +kernel
theorem dX6_with_9 : decode cX6_with 9 = .ok (.lor, 1) := by decide +kernel
theorem dX6_with_10 : decode cX6_with 10 = .ok (.lreturn, 1) := by decide +kernel
theorem dX6_letterAt_0 : decode cX6_letterAt 0 = .ok (.iload_n 2, 1) := by decide +kernel
theorem dX6_letterAt_1 : decode cX6_letterAt 1 = .ok (.ifCond .lt 9, 3) := by decide +kernel
theorem dX6_letterAt_4 : decode cX6_letterAt 4 = .ok (.iload_n 2, 1) := by decide +kernel
theorem dX6_letterAt_5 : decode cX6_letterAt 5 = .ok (.bipush 10, 2) := by decide +kernel
theorem dX6_letterAt_7 : decode cX6_letterAt 7 = .ok (.if_icmp .lt 5, 3) := by decide +kernel
theorem dX6_letterAt_10 : decode cX6_letterAt 10 = .ok (.iconst (-1), 1) := by decide +kernel
theorem dX6_letterAt_11 : decode cX6_letterAt 11 = .ok (.ireturn, 1) := by decide +kernel
theorem dX6_letterAt_12 : decode cX6_letterAt 12 = .ok (.lload_n 0, 1) := by decide +kernel
theorem dX6_letterAt_13 : decode cX6_letterAt 13 = .ok (.iconst 5, 1) := by decide +kernel
theorem dX6_letterAt_14 : decode cX6_letterAt 14 = .ok (.iload_n 2, 1) := by decide +kernel
theorem dX6_letterAt_15 : decode cX6_letterAt 15 = .ok (.imul, 1) := by decide +kernel
theorem dX6_letterAt_16 : decode cX6_letterAt 16 = .ok (.lushr, 1) := by decide +kernel
theorem dX6_letterAt_17 : decode cX6_letterAt 17 = .ok (.ldc2_w 11, 3) := by decide +kernel
theorem dX6_letterAt_20 : decode cX6_letterAt 20 = .ok (.land, 1) := by decide +kernel
theorem dX6_letterAt_21 : decode cX6_letterAt 21 = .ok (.l2i, 1) := by decide +kernel
theorem dX6_letterAt_22 : decode cX6_letterAt 22 = .ok (.iconst 1, 1) := by decide +kernel
theorem dX6_letterAt_23 : decode cX6_letterAt 23 = .ok (.isub, 1) := by decide +kernel
theorem dX6_letterAt_24 : decode cX6_letterAt 24 = .ok (.ireturn, 1) := by decide +kernel
set_option maxRecDepth 20000 in
theorem ggX6_size_X6_letterAt : GoodIn wsX6_size wsX6_letterAt := goodIn_r _ [4, 5] (by decide +kernel) (by decide +kernel)
set_option maxRecDepth 20000 in
theorem gX6_size_X6_letterAt : GoodIn wsX6_size (va_wsS RX6 13 yX6_letterAt wsX6_letterAt) := goodIn_app (goodIn_of _ (by decide +kernel)) ggX6_size_X6_letterAt
theorem dX6_size_0 : decode cX6_size 0 = .ok (.iconst 0, 1) := by decide +kernel
theorem dX6_size_1 : decode cX6_size 1 = .ok (.istore_n 2, 1) := by decide +kernel
theorem dX6_size_2 : decode cX6_size 2 = .ok (.iload_n 2, 1) := by decide +kernel
theorem dX6_size_3 : decode cX6_size 3 = .ok (.bipush 10, 2) := by decide +kernel
theorem dX6_size_5 : decode cX6_size 5 = .ok (.if_icmp .ge 18, 3) := by decide +kernel
theorem dX6_size_8 : decode cX6_size 8 = .ok (.lload_n 0, 1) := by decide +kernel
theorem dX6_size_9 : decode cX6_size 9 = .ok (.iload_n 2, 1) := by decide +kernel
theorem dX6_size_10 : decode cX6_size 10 = .ok (.invokestatic 13, 3) := by decide +kernel
theorem dX6_size_13 : decode cX6_size 13 = .ok (.iconst (-1), 1) := by decide +kernel
theorem dX6_size_14 : decode cX6_size 14 = .ok (.if_icmp .eq 9, 3) := by decide +kernel
theorem dX6_size_17 : decode cX6_size 17 = .ok (.iinc 2 1, 3) := by decide +kernel
theorem dX6_size_20 : decode cX6_size 20 = .ok (.goto (-18), 3) := by decide +kernel
theorem dX6_size_23 : decode cX6_size 23 = .ok (.iload_n 2, 1) := by decide +kernel
theorem dX6_size_24 : decode cX6_size 24 = .ok (.ireturn, 1) := by decide +kernel
set_option maxRecDepth 20000 in
theorem ggX6_letterSet_X6_size : GoodIn wsX6_letterSet wsX6_size := goodIn_r _ [4, 5, 6, 3, 7, 8] (by decide +kernel) (by decide +kernel)
set_option maxRecDepth 20000 in
theorem gX6_letterSet_X6_size : GoodIn wsX6_letterSet (va_wsS RX6 17 yX6_size wsX6_size) := goodIn_app (goodIn_of _ (by decide +kernel)) ggX6_letterSet_X6_size
set_option maxRecDepth 20000 in
theorem ggX6_letterSet_X6_letterAt : GoodIn wsX6_letterSet wsX6_letterAt := goodIn_r _ [7, 8] (by decide +kernel) (by decide +kernel)
set_option maxRecDepth 20000 in
theorem gX6_letterSet_X6_letterAt : GoodIn wsX6_letterSet (va_wsS RX6 13 yX6_letterAt wsX6_letterAt) := goodIn_app (goodIn_of _ (by decide +kernel)) ggX6_letterSet_X6_letterAt
theorem dX6_letterSet_0 : decode cX6_letterSet 0 = .ok (.iconst 0, 1) := by decide +kernel
theorem dX6_letterSet_1 : decode cX6_letterSet 1 = .ok (.istore_n 2, 1) := by decide +kernel
theorem dX6_letterSet_2 : decode cX6_letterSet 2 = .ok (.lload_n 0, 1) := by decide +kernel
theorem dX6_letterSet_3 : decode cX6_letterSet 3 = .ok (.invokestatic 17, 3) := by decide +kernel
