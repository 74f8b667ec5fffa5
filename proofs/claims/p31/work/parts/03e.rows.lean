theorem dX6_letterSet_6 : decode cX6_letterSet 6 = .ok (.istore_n 3, 1) := by decide +kernel
theorem dX6_letterSet_7 : decode cX6_letterSet 7 = .ok (.iconst 0, 1) := by decide +kernel
theorem dX6_letterSet_8 : decode cX6_letterSet 8 = .ok (.istore 4, 2) := by decide +kernel
theorem dX6_letterSet_10 : decode cX6_letterSet 10 = .ok (.iload 4, 2) := by decide +kernel
theorem dX6_letterSet_12 : decode cX6_letterSet 12 = .ok (.iload_n 3, 1) := by decide +kernel
theorem dX6_letterSet_13 : decode cX6_letterSet 13 = .ok (.if_icmp .ge 20, 3) := by decide +kernel
theorem dX6_letterSet_16 : decode cX6_letterSet 16 = .ok (.iload_n 2, 1) := by decide +kernel
theorem dX6_letterSet_17 : decode cX6_letterSet 17 = .ok (.iconst 1, 1) := by decide +kernel
theorem dX6_letterSet_18 : decode cX6_letterSet 18 = .ok (.lload_n 0, 1) := by decide +kernel
theorem dX6_letterSet_19 : decode cX6_letterSet 19 = .ok (.iload 4, 2) := by decide +kernel
theorem dX6_letterSet_21 : decode cX6_letterSet 21 = .ok (.invokestatic 13, 3) := by decide +kernel
theorem dX6_letterSet_24 : decode cX6_letterSet 24 = .ok (.ishl, 1) := by decide +kernel
theorem dX6_letterSet_25 : decode cX6_letterSet 25 = .ok (.ior, 1) := by decide +kernel
theorem dX6_letterSet_26 : decode cX6_letterSet 26 = .ok (.istore_n 2, 1) := by decide +kernel
theorem dX6_letterSet_27 : decode cX6_letterSet 27 = .ok (.iinc 4 1, 3) := by decide +kernel
theorem dX6_letterSet_30 : decode cX6_letterSet 30 = .ok (.goto (-20), 3) := by decide +kernel
theorem dX6_letterSet_33 : decode cX6_letterSet 33 = .ok (.iload_n 2, 1) := by decide +kernel
theorem dX6_letterSet_34 : decode cX6_letterSet 34 = .ok (.ireturn, 1) := by decide +kernel
set_option maxRecDepth 20000 in
theorem ggX7_init_X5_init : GoodIn wsX7_init wsX5_init := goodIn_r _ [32, 33, 2, 3, 34, 35, 36, 37, 38, 39, 40, 41, 23, 24, 42, 43, 44, 45, 46, 47, 48, 49, 50, 51, 52, 53, 54, 55, 56, 57, 58, 59, 80, 81, 82, 83, 84, 85, 105, 106, 107, 108, 109, 110, 111, 112] (by decide +kernel) (by decide +kernel)
set_option maxRecDepth 20000 in
theorem gX7_init_X5_init : GoodIn wsX7_init (wsX5_init) := ggX7_init_X5_init
set_option maxRecDepth 20000 in
theorem ggX7_init_X4_init : GoodIn wsX7_init wsX4_init := goodIn_r _ [61, 62, 2, 3, 63, 64, 65, 96, 97] (by decide +kernel) (by decide +kernel)
set_option maxRecDepth 20000 in
theorem gX7_init_X4_init_n33 : GoodIn wsX7_init (wsX4_init) := ggX7_init_X4_init
set_option maxRecDepth 20000 in
theorem ggX7_init_X1_init : GoodIn wsX7_init wsX1_init := goodIn_r _ [67, 68, 2, 3, 46, 69, 70, 71, 72, 73, 98, 99, 100, 101, 102, 103, 104] (by decide +kernel) (by decide +kernel)
set_option maxRecDepth 20000 in
theorem gX7_init_X1_init_n40 : GoodIn wsX7_init (wsX1_init) := ggX7_init_X1_init
set_option maxRecDepth 20000 in
theorem ggX7_init_X2_init : GoodIn wsX7_init wsX2_init := goodIn_r _ [44, 45, 2, 3, 46, 47, 48, 49, 50, 51, 52, 53, 54, 55, 24, 56, 57, 58, 59, 105, 106, 107, 108, 109, 110, 111, 112] (by decide +kernel) (by decide +kernel)
set_option maxRecDepth 20000 in
theorem gX7_init_X2_init : GoodIn wsX7_init (wsX2_init) := ggX7_init_X2_init
set_option maxRecDepth 20000 in
theorem ggX7_init_X3_init : GoodIn wsX7_init wsX3_init := goodIn_r _ [76, 77, 2, 3, 46, 78, 79, 113, 114] (by decide +kernel) (by decide +kernel)
set_option maxRecDepth 20000 in
theorem gX7_init_X3_init_n57 : GoodIn wsX7_init (wsX3_init) := ggX7_init_X3_init
theorem dX7_init_0 : decode cX7_init 0 = .ok (.aload_n 0, 1) := by decide +kernel
theorem dX7_init_1 : decode cX7_init 1 = .ok (.invokespecial 1, 3) := by decide +kernel
theorem dX7_init_4 : decode cX7_init 4 = .ok (.aload_n 0, 1) := by decide +kernel
theorem dX7_init_5 : decode cX7_init 5 = .ok (.new 7, 3) := by decide +kernel
theorem dX7_init_8 : decode cX7_init 8 = .ok (.dup, 1) := by decide +kernel
theorem dX7_init_9 : decode cX7_init 9 = .ok (.invokespecial 9, 3) := by decide +kernel
theorem dX7_init_12 : decode cX7_init 12 = .ok (.putfield 10, 3) := by decide +kernel
theorem dX7_init_15 : decode cX7_init 15 = .ok (.aload_n 0, 1) := by decide +kernel
theorem dX7_init_16 : decode cX7_init 16 = .ok (.bipush 6, 2) := by decide +kernel
theorem dX7_init_18 : decode cX7_init 18 = .ok (.anewarray 7, 3) := by decide +kernel
theorem dX7_init_21 : decode cX7_init 21 = .ok (.putfield 16, 3) := by decide +kernel
theorem dX7_init_24 : decode cX7_init 24 = .ok (.aload_n 0, 1) := by decide +kernel
theorem dX7_init_25 : decode cX7_init 25 = .ok (.iconst 0, 1) := by decide +kernel
theorem dX7_init_26 : decode cX7_init 26 = .ok (.putfield 20, 3) := by decide +kernel
theorem dX7_init_29 : decode cX7_init 29 = .ok (.aload_n 0, 1) := by decide +kernel
theorem dX7_init_30 : decode cX7_init 30 = .ok (.iconst 2, 1) := by decide +kernel
theorem dX7_init_31 : decode cX7_init 31 = .ok (.anewarray 7, 3) := by decide +kernel
theorem dX7_init_34 : decode cX7_init 34 = .ok (.putfield 24, 3) := by decide +kernel
theorem dX7_init_37 : decode cX7_init 37 = .ok (.aload_n 0, 1) := by decide +kernel
theorem dX7_init_38 : decode cX7_init 38 = .ok (.iconst 2, 1) := by decide +kernel
theorem dX7_init_39 : decode cX7_init 39 = .ok (.newarray .boolean, 2) := by decide +kernel
theorem dX7_init_41 : decode cX7_init 41 = .ok (.putfield 27, 3) := by decide +kernel
theorem dX7_init_44 : decode cX7_init 44 = .ok (.aload_n 0, 1) := by decide +kernel
theorem dX7_init_45 : decode cX7_init 45 = .ok (.new 31, 3) := by decide +kernel
theorem dX7_init_48 : decode cX7_init 48 = .ok (.dup, 1) := by decide +kernel
theorem dX7_init_49 : decode cX7_init 49 = .ok (.invokespecial 33, 3) := by decide +kernel
theorem dX7_init_52 : decode cX7_init 52 = .ok (.putfield 34, 3) := by decide +kernel
theorem dX7_init_55 : decode cX7_init 55 = .ok (.aload_n 0, 1) := by decide +kernel
theorem dX7_init_56 : decode cX7_init 56 = .ok (.new 38, 3) := by decide +kernel
theorem dX7_init_59 : decode cX7_init 59 = .ok (.dup, 1) := by decide +kernel
theorem dX7_init_60 : decode cX7_init 60 = .ok (.invokespecial 40, 3) := by decide +kernel
theorem dX7_init_63 : decode cX7_init 63 = .ok (.putfield 41, 3) := by decide +kernel
theorem dX7_init_66 : decode cX7_init 66 = .ok (.aload_n 0, 1) := by decide +kernel
theorem dX7_init_67 : decode cX7_init 67 = .ok (.new 38, 3) := by decide +kernel
theorem dX7_init_70 : decode cX7_init 70 = .ok (.dup, 1) := by decide +kernel
theorem dX7_init_71 : decode cX7_init 71 = .ok (.invokespecial 40, 3) := by decide +kernel
theorem dX7_init_74 : decode cX7_init 74 = .ok (.putfield 45, 3) := by decide +kernel
theorem dX7_init_77 : decode cX7_init 77 = .ok (.aload_n 0, 1) := by decide +kernel
theorem dX7_init_78 : decode cX7_init 78 = .ok (.new 48, 3) := by decide +kernel
theorem dX7_init_81 : decode cX7_init 81 = .ok (.dup, 1) := by decide +kernel
theorem dX7_init_82 : decode cX7_init 82 = .ok (.invokespecial 50, 3) := by decide +kernel
theorem dX7_init_85 : decode cX7_init 85 = .ok (.putfield 51, 3) := by decide +kernel
theorem dX7_init_88 : decode cX7_init 88 = .ok (.aload_n 0, 1) := by decide +kernel
theorem dX7_init_89 : decode cX7_init 89 = .ok (.new 55, 3) := by decide +kernel
theorem dX7_init_92 : decode cX7_init 92 = .ok (.dup, 1) := by decide +kernel
theorem dX7_init_93 : decode cX7_init 93 = .ok (.invokespecial 57, 3) := by decide +kernel
theorem dX7_init_96 : decode cX7_init 96 = .ok (.putfield 58, 3) := by decide +kernel
theorem dX7_init_99 : decode cX7_init 99 = .ok (.iconst 0, 1) := by decide +kernel
theorem dX7_init_100 : decode cX7_init 100 = .ok (.istore_n 1, 1) := by decide +kernel
theorem dX7_init_101 : decode cX7_init 101 = .ok (.iload_n 1, 1) := by decide +kernel
theorem dX7_init_102 : decode cX7_init 102 = .ok (.aload_n 0, 1) := by decide +kernel
theorem dX7_init_103 : decode cX7_init 103 = .ok (.getfield 16, 3) := by decide +kernel
theorem dX7_init_106 : decode cX7_init 106 = .ok (.arraylength, 1) := by decide +kernel
theorem dX7_init_107 : decode cX7_init 107 = .ok (.if_icmp .ge 22, 3) := by decide +kernel
theorem dX7_init_110 : decode cX7_init 110 = .ok (.aload_n 0, 1) := by decide +kernel
theorem dX7_init_111 : decode cX7_init 111 = .ok (.getfield 16, 3) := by decide +kernel
theorem dX7_init_114 : decode cX7_init 114 = .ok (.iload_n 1, 1) := by decide +kernel
theorem dX7_init_115 : decode cX7_init 115 = .ok (.new 7, 3) := by decide +kernel
theorem dX7_init_118 : decode cX7_init 118 = .ok (.dup, 1) := by decide +kernel
theorem dX7_init_119 : decode cX7_init 119 = .ok (.invokespecial 9, 3) := by decide +kernel
theorem dX7_init_122 : decode cX7_init 122 = .ok (.aastore, 1) := by decide +kernel
theorem dX7_init_123 : decode cX7_init 123 = .ok (.iinc 1 1, 3) := by decide +kernel
theorem dX7_init_126 : decode cX7_init 126 = .ok (.goto (-25), 3) := by decide +kernel
theorem dX7_init_129 : decode cX7_init 129 = .ok (.iconst 0, 1) := by decide +kernel
theorem dX7_init_130 : decode cX7_init 130 = .ok (.istore_n 1, 1) := by decide +kernel
theorem dX7_init_131 : decode cX7_init 131 = .ok (.iload_n 1, 1) := by decide +kernel
theorem dX7_init_132 : decode cX7_init 132 = .ok (.aload_n 0, 1) := by decide +kernel
theorem dX7_init_133 : decode cX7_init 133 = .ok (.getfield 24, 3) := by decide +kernel
theorem dX7_init_136 : decode cX7_init 136 = .ok (.arraylength, 1) := by decide +kernel
theorem dX7_init_137 : decode cX7_init 137 = .ok (.if_icmp .ge 22, 3) := by decide +kernel
theorem dX7_init_140 : decode cX7_init 140 = .ok (.aload_n 0, 1) := by decide +kernel
theorem dX7_init_141 : decode cX7_init 141 = .ok (.getfield 24, 3) := by decide +kernel
theorem dX7_init_144 : decode cX7_init 144 = .ok (.iload_n 1, 1) := by decide +kernel
theorem dX7_init_145 : decode cX7_init 145 = .ok (.new 7, 3) := by decide +kernel
theorem dX7_init_148 : decode cX7_init 148 = .ok (.dup, 1) := by decide +kernel
theorem dX7_init_149 : decode cX7_init 149 = .ok (.invokespecial 9, 3) := by decide +kernel
theorem dX7_init_152 : decode cX7_init 152 = .ok (.aastore, 1) := by decide +kernel
theorem dX7_init_153 : decode cX7_init 153 = .ok (.iinc 1 1, 3) := by decide +kernel
theorem dX7_init_156 : decode cX7_init 156 = .ok (.goto (-25), 3) := by decide +kernel
theorem dX7_init_159 : decode cX7_init 159 = .ok (.return_, 1) := by decide +kernel
set_option maxRecDepth 20000 in
theorem ggX7_set_X7_isWithin : GoodIn wsX7_set wsX7_isWithin := goodIn_r _ [7] (by decide +kernel) (by decide +kernel)
set_option maxRecDepth 20000 in
theorem gX7_set_X7_isWithin : GoodIn wsX7_set (va_wsS RX7 62 yX7_isWithin wsX7_isWithin) := goodIn_app (goodIn_of _ (by decide +kernel)) ggX7_set_X7_isWithin
set_option maxRecDepth 20000 in
theorem ggX7_set_X7_recordChange : GoodIn wsX7_set wsX7_recordChange := goodIn_r _ [11, 12, 13, 1, 14, 15, 16, 17, 18, 19, 20, 21, 22, 23, 24, 25, 26, 27, 28, 29, 30, 31, 32, 33, 34, 35, 36, 37, 38, 39, 40, 41, 42, 43, 44, 45, 46, 47, 48, 49, 50, 51, 52, 53, 54, 55, 56, 57, 58, 59, 60, 61, 62, 63, 64, 65, 66] (by decide +kernel) (by decide +kernel)
set_option maxRecDepth 20000 in
theorem gX7_set_X7_recordChange : GoodIn wsX7_set (wsV RX7 69 RX7 yX7_recordChange wsX7_recordChange) := goodIn_app (goodIn_of _ (by decide +kernel)) ggX7_set_X7_recordChange
theorem dX7_set_0 : decode cX7_set 0 = .ok (.iload_n 1, 1) := by decide +kernel
theorem dX7_set_1 : decode cX7_set 1 = .ok (.ifCond .ne 34, 3) := by decide +kernel
theorem dX7_set_4 : decode cX7_set 4 = .ok (.iload_n 2, 1) := by decide +kernel
theorem dX7_set_5 : decode cX7_set 5 = .ok (.iconst 1, 1) := by decide +kernel
theorem dX7_set_6 : decode cX7_set 6 = .ok (.iconst 5, 1) := by decide +kernel
theorem dX7_set_7 : decode cX7_set 7 = .ok (.invokestatic 62, 3) := by decide +kernel
theorem dX7_set_10 : decode cX7_set 10 = .ok (.ifCond .eq 25, 3) := by decide +kernel
theorem dX7_set_13 : decode cX7_set 13 = .ok (.aload_n 0, 1) := by decide +kernel
theorem dX7_set_14 : decode cX7_set 14 = .ok (.getfield 10, 3) := by decide +kernel
theorem dX7_set_17 : decode cX7_set 17 = .ok (.getfield 66, 3) := by decide +kernel
theorem dX7_set_20 : decode cX7_set 20 = .ok (.istore_n 3, 1) := by decide +kernel
theorem dX7_set_21 : decode cX7_set 21 = .ok (.aload_n 0, 1) := by decide +kernel
theorem dX7_set_22 : decode cX7_set 22 = .ok (.invokevirtual 69, 3) := by decide +kernel
theorem dX7_set_25 : decode cX7_set 25 = .ok (.aload_n 0, 1) := by decide +kernel
theorem dX7_set_26 : decode cX7_set 26 = .ok (.getfield 10, 3) := by decide +kernel
theorem dX7_set_29 : decode cX7_set 29 = .ok (.iload_n 2, 1) := by decide +kernel
theorem dX7_set_30 : decode cX7_set 30 = .ok (.putfield 66, 3) := by decide +kernel
theorem dX7_set_33 : decode cX7_set 33 = .ok (.iload_n 3, 1) := by decide +kernel
theorem dX7_set_34 : decode cX7_set 34 = .ok (.ireturn, 1) := by decide +kernel
theorem dX7_set_35 : decode cX7_set 35 = .ok (.iload_n 1, 1) := by decide +kernel
theorem dX7_set_36 : decode cX7_set 36 = .ok (.iconst 1, 1) := by decide +kernel
theorem dX7_set_37 : decode cX7_set 37 = .ok (.if_icmp .ne 35, 3) := by decide +kernel
theorem dX7_set_40 : decode cX7_set 40 = .ok (.iload_n 2, 1) := by decide +kernel
theorem dX7_set_41 : decode cX7_set 41 = .ok (.iconst 1, 1) := by decide +kernel
theorem dX7_set_42 : decode cX7_set 42 = .ok (.bipush 24, 2) := by decide +kernel
theorem dX7_set_44 : decode cX7_set 44 = .ok (.invokestatic 62, 3) := by decide +kernel
theorem dX7_set_47 : decode cX7_set 47 = .ok (.ifCond .eq 25, 3) := by decide +kernel
theorem dX7_set_50 : decode cX7_set 50 = .ok (.aload_n 0, 1) := by decide +kernel
theorem dX7_set_51 : decode cX7_set 51 = .ok (.getfield 10, 3) := by decide +kernel
theorem dX7_set_54 : decode cX7_set 54 = .ok (.getfield 72, 3) := by decide +kernel
theorem dX7_set_57 : decode cX7_set 57 = .ok (.istore_n 3, 1) := by decide +kernel
theorem dX7_set_58 : decode cX7_set 58 = .ok (.aload_n 0, 1) := by decide +kernel
theorem dX7_set_59 : decode cX7_set 59 = .ok (.invokevirtual 69, 3) := by decide +kernel
theorem dX7_set_62 : decode cX7_set 62 = .ok (.aload_n 0, 1) := by decide +kernel
theorem dX7_set_63 : decode cX7_set 63 = .ok (.getfield 10, 3) := by decide +kernel
theorem dX7_set_66 : decode cX7_set 66 = .ok (.iload_n 2, 1) := by decide +kernel
theorem dX7_set_67 : decode cX7_set 67 = .ok (.putfield 72, 3) := by decide +kernel
theorem dX7_set_70 : decode cX7_set 70 = .ok (.iload_n 3, 1) := by decide +kernel
theorem dX7_set_71 : decode cX7_set 71 = .ok (.ireturn, 1) := by decide +kernel
theorem dX7_set_72 : decode cX7_set 72 = .ok (.bipush (-2), 2) := by decide +kernel
theorem dX7_set_74 : decode cX7_set 74 = .ok (.ireturn, 1) := by decide +kernel
set_option maxRecDepth 20000 in
theorem ggX7_add_X4_firstFault : GoodIn wsX7_add wsX4_firstFault := goodIn_r _ [11, 12, 13, 78, 79] (by decide +kernel) (by decide +kernel)
set_option maxRecDepth 20000 in
theorem gX7_add_X4_firstFault : GoodIn wsX7_add (wsV RX7 75 RX4 yX4_firstFault wsX4_firstFault) := goodIn_app (goodIn_of _ (by decide +kernel)) ggX7_add_X4_firstFault
set_option maxRecDepth 20000 in
theorem ggX7_add_X4_asWord : GoodIn wsX7_add wsX4_asWord := goodIn_r _ [17, 12, 13, 18, 19, 20, 21, 78, 79] (by decide +kernel) (by decide +kernel)
set_option maxRecDepth 20000 in
theorem gX7_add_X4_asWord : GoodIn wsX7_add (wsV RX7 79 RX4 yX4_asWord wsX4_asWord) := goodIn_app (goodIn_of _ (by decide +kernel)) ggX7_add_X4_asWord
set_option maxRecDepth 20000 in
theorem ggX7_add_X5_holds : GoodIn wsX7_add wsX5_holds := goodIn_r _ [26, 27, 28, 72, 73, 74, 75, 76, 77] (by decide +kernel) (by decide +kernel)
set_option maxRecDepth 20000 in
theorem gX7_add_X5_holds : GoodIn wsX7_add (wsV RX7 83 RX5 yX5_holds wsX5_holds) := goodIn_app (goodIn_of _ (by decide +kernel)) ggX7_add_X5_holds
set_option maxRecDepth 20000 in
theorem ggX7_add_X7_recordChange : GoodIn wsX7_add wsX7_recordChange := goodIn_r _ [33, 34, 35, 2, 36, 37, 38, 25, 39, 40, 41, 27, 28, 42, 43, 44, 45, 46, 47, 48, 49, 50, 51, 52, 53, 54, 55, 56, 57, 58, 59, 60, 61, 62, 63, 64, 65, 66, 67, 68, 69, 70, 71, 72, 73, 74, 75, 76, 77, 80, 81, 82, 83, 84, 85, 86, 87] (by decide +kernel) (by decide +kernel)
set_option maxRecDepth 20000 in
theorem gX7_add_X7_recordChange : GoodIn wsX7_add (wsV RX7 69 RX7 yX7_recordChange wsX7_recordChange) := goodIn_app (goodIn_of _ (by decide +kernel)) ggX7_add_X7_recordChange
theorem dX7_add_0 : decode cX7_add 0 = .ok (.aload_n 0, 1) := by decide +kernel
theorem dX7_add_1 : decode cX7_add 1 = .ok (.getfield 34, 3) := by decide +kernel
theorem dX7_add_4 : decode cX7_add 4 = .ok (.invokevirtual 75, 3) := by decide +kernel
theorem dX7_add_7 : decode cX7_add 7 = .ok (.bipush (-6), 2) := by decide +kernel
theorem dX7_add_9 : decode cX7_add 9 = .ok (.if_icmp .eq 6, 3) := by decide +kernel
theorem dX7_add_12 : decode cX7_add 12 = .ok (.bipush (-3), 2) := by decide +kernel
theorem dX7_add_14 : decode cX7_add 14 = .ok (.ireturn, 1) := by decide +kernel
theorem dX7_add_15 : decode cX7_add 15 = .ok (.aload_n 0, 1) := by decide +kernel
theorem dX7_add_16 : decode cX7_add 16 = .ok (.getfield 34, 3) := by decide +kernel
theorem dX7_add_19 : decode cX7_add 19 = .ok (.invokevirtual 79, 3) := by decide +kernel
theorem dX7_add_22 : decode cX7_add 22 = .ok (.lstore_n 1, 1) := by decide +kernel
theorem dX7_add_23 : decode cX7_add 23 = .ok (.aload_n 0, 1) := by decide +kernel
theorem dX7_add_24 : decode cX7_add 24 = .ok (.getfield 10, 3) := by decide +kernel
theorem dX7_add_27 : decode cX7_add 27 = .ok (.lload_n 1, 1) := by decide +kernel
theorem dX7_add_28 : decode cX7_add 28 = .ok (.invokevirtual 83, 3) := by decide +kernel
theorem dX7_add_31 : decode cX7_add 31 = .ok (.ifCond .eq 6, 3) := by decide +kernel
theorem dX7_add_34 : decode cX7_add 34 = .ok (.bipush (-5), 2) := by decide +kernel
theorem dX7_add_36 : decode cX7_add 36 = .ok (.ireturn, 1) := by decide +kernel
theorem dX7_add_37 : decode cX7_add 37 = .ok (.aload_n 0, 1) := by decide +kernel
theorem dX7_add_38 : decode cX7_add 38 = .ok (.getfield 10, 3) := by decide +kernel
theorem dX7_add_41 : decode cX7_add 41 = .ok (.getfield 87, 3) := by decide +kernel
theorem dX7_add_44 : decode cX7_add 44 = .ok (.aload_n 0, 1) := by decide +kernel
theorem dX7_add_45 : decode cX7_add 45 = .ok (.getfield 10, 3) := by decide +kernel
theorem dX7_add_48 : decode cX7_add 48 = .ok (.getfield 72, 3) := by decide +kernel
theorem dX7_add_51 : decode cX7_add 51 = .ok (.if_icmp .ge 15, 3) := by decide +kernel
theorem dX7_add_54 : decode cX7_add 54 = .ok (.aload_n 0, 1) := by decide +kernel
theorem dX7_add_55 : decode cX7_add 55 = .ok (.getfield 10, 3) := by decide +kernel
theorem dX7_add_58 : decode cX7_add 58 = .ok (.getfield 87, 3) := by decide +kernel
theorem dX7_add_61 : decode cX7_add 61 = .ok (.bipush 24, 2) := by decide +kernel
theorem dX7_add_63 : decode cX7_add 63 = .ok (.if_icmp .lt 6, 3) := by decide +kernel
theorem dX7_add_66 : decode cX7_add 66 = .ok (.bipush (-4), 2) := by decide +kernel
theorem dX7_add_68 : decode cX7_add 68 = .ok (.ireturn, 1) := by decide +kernel
theorem dX7_add_69 : decode cX7_add 69 = .ok (.aload_n 0, 1) := by decide +kernel
theorem dX7_add_70 : decode cX7_add 70 = .ok (.invokevirtual 69, 3) := by decide +kernel
theorem dX7_add_73 : decode cX7_add 73 = .ok (.aload_n 0, 1) := by decide +kernel
theorem dX7_add_74 : decode cX7_add 74 = .ok (.getfield 10, 3) := by decide +kernel
theorem dX7_add_77 : decode cX7_add 77 = .ok (.getfield 90, 3) := by decide +kernel
theorem dX7_add_80 : decode cX7_add 80 = .ok (.aload_n 0, 1) := by decide +kernel
theorem dX7_add_81 : decode cX7_add 81 = .ok (.getfield 10, 3) := by decide +kernel
theorem dX7_add_84 : decode cX7_add 84 = .ok (.getfield 87, 3) := by decide +kernel
theorem dX7_add_87 : decode cX7_add 87 = .ok (.lload_n 1, 1) := by decide +kernel
theorem dX7_add_88 : decode cX7_add 88 = .ok (.lastore, 1) := by decide +kernel
theorem dX7_add_89 : decode cX7_add 89 = .ok (.aload_n 0, 1) := by decide +kernel
theorem dX7_add_90 : decode cX7_add 90 = .ok (.getfield 10, 3) := by decide +kernel
theorem dX7_add_93 : decode cX7_add 93 = .ok (.dup, 1) := by decide +kernel
theorem dX7_add_94 : decode cX7_add 94 = .ok (.getfield 87, 3) := by decide +kernel
theorem dX7_add_97 : decode cX7_add 97 = .ok (.iconst 1, 1) := by decide +kernel
theorem dX7_add_98 : decode cX7_add 98 = .ok (.iadd, 1) := by decide +kernel
theorem dX7_add_99 : decode cX7_add 99 = .ok (.putfield 87, 3) := by decide +kernel
theorem dX7_add_102 : decode cX7_add 102 = .ok (.aload_n 0, 1) := by decide +kernel
theorem dX7_add_103 : decode cX7_add 103 = .ok (.getfield 34, 3) := by decide +kernel
theorem dX7_add_106 : decode cX7_add 106 = .ok (.iconst 0, 1) := by decide +kernel
theorem dX7_add_107 : decode cX7_add 107 = .ok (.putfield 94, 3) := by decide +kernel
theorem dX7_add_110 : decode cX7_add 110 = .ok (.aload_n 0, 1) := by decide +kernel
theorem dX7_add_111 : decode cX7_add 111 = .ok (.getfield 10, 3) := by decide +kernel
theorem dX7_add_114 : decode cX7_add 114 = .ok (.getfield 87, 3) := by decide +kernel
theorem dX7_add_117 : decode cX7_add 117 = .ok (.iconst 1, 1) := by decide +kernel
theorem dX7_add_118 : decode cX7_add 118 = .ok (.isub, 1) := by decide +kernel
theorem dX7_add_119 : decode cX7_add 119 = .ok (.ireturn, 1) := by decide +kernel
set_option maxRecDepth 20000 in
theorem ggX7_drop_X5_hasName : GoodIn wsX7_drop wsX5_hasName := goodIn_r _ [7, 8, 57, 58, 59, 60, 61, 62] (by decide +kernel) (by decide +kernel)
set_option maxRecDepth 20000 in
theorem gX7_drop_X5_hasName : GoodIn wsX7_drop (wsV RX7 97 RX5 yX5_hasName wsX5_hasName) := goodIn_app (goodIn_of _ (by decide +kernel)) ggX7_drop_X5_hasName
set_option maxRecDepth 20000 in
theorem ggX7_drop_X7_recordChange : GoodIn wsX7_drop wsX7_recordChange := goodIn_r _ [13, 14, 15, 1, 16, 17, 18, 6, 19, 20, 21, 8, 22, 23, 24, 25, 26, 27, 28, 29, 30, 31, 32, 33, 34, 35, 36, 37, 38, 39, 40, 41, 42, 47, 48, 49, 50, 51, 52, 53, 54, 55, 56, 57, 58, 59, 60, 61, 62, 63, 64, 65, 66, 67, 68, 69, 70] (by decide +kernel) (by decide +kernel)
set_option maxRecDepth 20000 in
theorem gX7_drop_X7_recordChange : GoodIn wsX7_drop (wsV RX7 69 RX7 yX7_recordChange wsX7_recordChange) := goodIn_app (goodIn_of _ (by decide +kernel)) ggX7_drop_X7_recordChange
set_option maxRecDepth 20000 in
theorem ggX7_drop_X5_removeName : GoodIn wsX7_drop wsX5_removeName := goodIn_r _ [46, 8, 22, 57, 58, 59, 60, 61, 62] (by decide +kernel) (by decide +kernel)
set_option maxRecDepth 20000 in
theorem gX7_drop_X5_removeName : GoodIn wsX7_drop (wsV RX7 101 RX5 yX5_removeName wsX5_removeName) := goodIn_app (goodIn_of _ (by decide +kernel)) ggX7_drop_X5_removeName
theorem dX7_drop_0 : decode cX7_drop 0 = .ok (.aload_n 0, 1) := by decide +kernel
theorem dX7_drop_1 : decode cX7_drop 1 = .ok (.getfield 10, 3) := by decide +kernel
theorem dX7_drop_4 : decode cX7_drop 4 = .ok (.iload_n 1, 1) := by decide +kernel
theorem dX7_drop_5 : decode cX7_drop 5 = .ok (.invokevirtual 97, 3) := by decide +kernel
theorem dX7_drop_8 : decode cX7_drop 8 = .ok (.ifCond .ne 5, 3) := by decide +kernel
theorem dX7_drop_11 : decode cX7_drop 11 = .ok (.iconst (-1), 1) := by decide +kernel
theorem dX7_drop_12 : decode cX7_drop 12 = .ok (.ireturn, 1) := by decide +kernel
theorem dX7_drop_13 : decode cX7_drop 13 = .ok (.aload_n 0, 1) := by decide +kernel
theorem dX7_drop_14 : decode cX7_drop 14 = .ok (.invokevirtual 69, 3) := by decide +kernel
theorem dX7_drop_17 : decode cX7_drop 17 = .ok (.aload_n 0, 1) := by decide +kernel
theorem dX7_drop_18 : decode cX7_drop 18 = .ok (.getfield 10, 3) := by decide +kernel
theorem dX7_drop_21 : decode cX7_drop 21 = .ok (.iload_n 1, 1) := by decide +kernel
theorem dX7_drop_22 : decode cX7_drop 22 = .ok (.invokevirtual 101, 3) := by decide +kernel
theorem dX7_drop_25 : decode cX7_drop 25 = .ok (.aload_n 0, 1) := by decide +kernel
theorem dX7_drop_26 : decode cX7_drop 26 = .ok (.getfield 10, 3) := by decide +kernel
theorem dX7_drop_29 : decode cX7_drop 29 = .ok (.getfield 87, 3) := by decide +kernel
theorem dX7_drop_32 : decode cX7_drop 32 = .ok (.ireturn, 1) := by decide +kernel
set_option maxRecDepth 20000 in
theorem ggX7_ear_X5_earAt : GoodIn wsX7_ear wsX5_earAt := goodIn_r _ [8, 9, 10, 60, 61, 62, 63, 64, 65] (by decide +kernel) (by decide +kernel)
set_option maxRecDepth 20000 in
theorem gX7_ear_X5_earAt : GoodIn wsX7_ear (wsV RX7 105 RX5 yX5_earAt wsX5_earAt) := goodIn_app (goodIn_of _ (by decide +kernel)) ggX7_ear_X5_earAt
set_option maxRecDepth 20000 in
theorem ggX7_ear_X7_recordChange : GoodIn wsX7_ear wsX7_recordChange := goodIn_r _ [15, 16, 17, 1, 18, 19, 20, 7, 21, 22, 23, 24, 25, 26, 27, 28, 29, 9, 10, 30, 31, 32, 33, 34, 35, 36, 37, 38, 39, 40, 41, 42, 43, 50, 51, 52, 53, 54, 55, 56, 57, 58, 59, 60, 61, 62, 63, 64, 65, 66, 67, 68, 69, 70, 71, 72, 73] (by decide +kernel) (by decide +kernel)
set_option maxRecDepth 20000 in
theorem gX7_ear_X7_recordChange : GoodIn wsX7_ear (wsV RX7 69 RX7 yX7_recordChange wsX7_recordChange) := goodIn_app (goodIn_of _ (by decide +kernel)) ggX7_ear_X7_recordChange
set_option maxRecDepth 20000 in
theorem ggX7_ear_X2_beAsAtFirst : GoodIn wsX7_ear wsX2_beAsAtFirst := goodIn_r _ [47, 35, 48, 37, 38, 39, 66, 67, 68, 69, 70, 71, 72, 73] (by decide +kernel) (by decide +kernel)
set_option maxRecDepth 20000 in
theorem gX7_ear_X2_beAsAtFirst : GoodIn wsX7_ear (wsV RX7 116 RX2 yX2_beAsAtFirst wsX2_beAsAtFirst) := goodIn_app (goodIn_of _ (by decide +kernel)) ggX7_ear_X2_beAsAtFirst
set_option maxRecDepth 20000 in
theorem ggX7_ear_X2_beAs : GoodIn wsX7_ear wsX2_beAs := goodIn_r _ [34, 35, 36, 27, 28, 29, 37, 38, 39, 40, 41, 42, 43, 66, 67, 68, 69, 70, 71, 72, 73] (by decide +kernel) (by decide +kernel)
set_option maxRecDepth 20000 in
theorem gX7_ear_X2_beAs : GoodIn wsX7_ear (wsV RX7 119 RX2 yX2_beAs wsX2_beAs) := goodIn_app (goodIn_of _ (by decide +kernel)) ggX7_ear_X2_beAs
theorem dX7_ear_0 : decode cX7_ear 0 = .ok (.aload_n 0, 1) := by decide +kernel
theorem dX7_ear_1 : decode cX7_ear 1 = .ok (.getfield 10, 3) := by decide +kernel
theorem dX7_ear_4 : decode cX7_ear 4 = .ok (.iload_n 1, 1) := by decide +kernel
theorem dX7_ear_5 : decode cX7_ear 5 = .ok (.invokevirtual 105, 3) := by decide +kernel
theorem dX7_ear_8 : decode cX7_ear 8 = .ok (.astore_n 2, 1) := by decide +kernel
theorem dX7_ear_9 : decode cX7_ear 9 = .ok (.aload_n 2, 1) := by decide +kernel
theorem dX7_ear_10 : decode cX7_ear 10 = .ok (.ifnonnull 11, 3) := by decide +kernel
theorem dX7_ear_13 : decode cX7_ear 13 = .ok (.iload_n 1, 1) := by decide +kernel
theorem dX7_ear_14 : decode cX7_ear 14 = .ok (.bipush (-6), 2) := by decide +kernel
theorem dX7_ear_16 : decode cX7_ear 16 = .ok (.if_icmp .eq 5, 3) := by decide +kernel
theorem dX7_ear_19 : decode cX7_ear 19 = .ok (.iconst (-1), 1) := by decide +kernel
theorem dX7_ear_20 : decode cX7_ear 20 = .ok (.ireturn, 1) := by decide +kernel
theorem dX7_ear_21 : decode cX7_ear 21 = .ok (.aload_n 0, 1) := by decide +kernel
theorem dX7_ear_22 : decode cX7_ear 22 = .ok (.getfield 10, 3) := by decide +kernel
theorem dX7_ear_25 : decode cX7_ear 25 = .ok (.getfield 109, 3) := by decide +kernel
theorem dX7_ear_28 : decode cX7_ear 28 = .ok (.iconst 4, 1) := by decide +kernel
theorem dX7_ear_29 : decode cX7_ear 29 = .ok (.if_icmp .lt 6, 3) := by decide +kernel
theorem dX7_ear_32 : decode cX7_ear 32 = .ok (.bipush (-4), 2) := by decide +kernel
theorem dX7_ear_34 : decode cX7_ear 34 = .ok (.ireturn, 1) := by decide +kernel
theorem dX7_ear_35 : decode cX7_ear 35 = .ok (.aload_n 0, 1) := by decide +kernel
theorem dX7_ear_36 : decode cX7_ear 36 = .ok (.invokevirtual 69, 3) := by decide +kernel
theorem dX7_ear_39 : decode cX7_ear 39 = .ok (.aload_n 0, 1) := by decide +kernel
theorem dX7_ear_40 : decode cX7_ear 40 = .ok (.getfield 10, 3) := by decide +kernel
theorem dX7_ear_43 : decode cX7_ear 43 = .ok (.getfield 112, 3) := by decide +kernel
theorem dX7_ear_46 : decode cX7_ear 46 = .ok (.aload_n 0, 1) := by decide +kernel
theorem dX7_ear_47 : decode cX7_ear 47 = .ok (.getfield 10, 3) := by decide +kernel
theorem dX7_ear_50 : decode cX7_ear 50 = .ok (.getfield 109, 3) := by decide +kernel
theorem dX7_ear_53 : decode cX7_ear 53 = .ok (.aaload, 1) := by decide +kernel
theorem dX7_ear_54 : decode cX7_ear 54 = .ok (.astore_n 3, 1) := by decide +kernel
theorem dX7_ear_55 : decode cX7_ear 55 = .ok (.aload_n 2, 1) := by decide +kernel
theorem dX7_ear_56 : decode cX7_ear 56 = .ok (.ifnonnull 10, 3) := by decide +kernel
theorem dX7_ear_59 : decode cX7_ear 59 = .ok (.aload_n 3, 1) := by decide +kernel
theorem dX7_ear_60 : decode cX7_ear 60 = .ok (.invokevirtual 116, 3) := by decide +kernel
theorem dX7_ear_63 : decode cX7_ear 63 = .ok (.goto 8, 3) := by decide +kernel
theorem dX7_ear_66 : decode cX7_ear 66 = .ok (.aload_n 3, 1) := by decide +kernel
theorem dX7_ear_67 : decode cX7_ear 67 = .ok (.aload_n 2, 1) := by decide +kernel
theorem dX7_ear_68 : decode cX7_ear 68 = .ok (.invokevirtual 119, 3) := by decide +kernel
theorem dX7_ear_71 : decode cX7_ear 71 = .ok (.aload_n 0, 1) := by decide +kernel
theorem dX7_ear_72 : decode cX7_ear 72 = .ok (.getfield 10, 3) := by decide +kernel
theorem dX7_ear_75 : decode cX7_ear 75 = .ok (.dup, 1) := by decide +kernel
theorem dX7_ear_76 : decode cX7_ear 76 = .ok (.getfield 109, 3) := by decide +kernel
theorem dX7_ear_79 : decode cX7_ear 79 = .ok (.iconst 1, 1) := by decide +kernel
theorem dX7_ear_80 : decode cX7_ear 80 = .ok (.iadd, 1) := by decide +kernel
theorem dX7_ear_81 : decode cX7_ear 81 = .ok (.putfield 109, 3) := by decide +kernel
theorem dX7_ear_84 : decode cX7_ear 84 = .ok (.aload_n 0, 1) := by decide +kernel
theorem dX7_ear_85 : decode cX7_ear 85 = .ok (.getfield 10, 3) := by decide +kernel
theorem dX7_ear_88 : decode cX7_ear 88 = .ok (.getfield 109, 3) := by decide +kernel
theorem dX7_ear_91 : decode cX7_ear 91 = .ok (.iconst 1, 1) := by decide +kernel
theorem dX7_ear_92 : decode cX7_ear 92 = .ok (.isub, 1) := by decide +kernel
theorem dX7_ear_93 : decode cX7_ear 93 = .ok (.ireturn, 1) := by decide +kernel
set_option maxRecDepth 20000 in
theorem ggX7_hear_X5_earAt : GoodIn wsX7_hear wsX5_earAt := goodIn_r _ [7, 8, 9, 75, 76, 77, 78, 79, 80] (by decide +kernel) (by decide +kernel)
set_option maxRecDepth 20000 in
theorem gX7_hear_X5_earAt : GoodIn wsX7_hear (wsV RX7 105 RX5 yX5_earAt wsX5_earAt) := goodIn_app (goodIn_of _ (by decide +kernel)) ggX7_hear_X5_earAt
set_option maxRecDepth 20000 in
theorem ggX7_hear_X6_isLetter : GoodIn wsX7_hear wsX6_isLetter := goodIn_r _ [13] (by decide +kernel) (by decide +kernel)
set_option maxRecDepth 20000 in
theorem gX7_hear_X6_isLetter : GoodIn wsX7_hear (va_wsS RX7 123 yX6_isLetter wsX6_isLetter) := goodIn_app (goodIn_of _ (by decide +kernel)) ggX7_hear_X6_isLetter
set_option maxRecDepth 20000 in
theorem ggX7_hear_X7_isClass : GoodIn wsX7_hear wsX7_isClass := goodIn_r _ [17, 18, 19, 16, 20] (by decide +kernel) (by decide +kernel)
set_option maxRecDepth 20000 in
theorem gX7_hear_X7_isClass : GoodIn wsX7_hear (va_wsS RX7 128 yX7_isClass wsX7_isClass) := goodIn_app (goodIn_of _ (by decide +kernel)) ggX7_hear_X7_isClass
set_option maxRecDepth 20000 in
theorem ggX7_hear_X7_recordChange : GoodIn wsX7_hear wsX7_recordChange := goodIn_r _ [24, 25, 26, 1, 27, 28, 29, 6, 30, 31, 32, 33, 34, 35, 36, 37, 38, 8, 9, 39, 40, 41, 42, 43, 44, 45, 46, 47, 48, 49, 50, 51, 52, 57, 58, 59, 60, 61, 62, 63, 64, 65, 66, 75, 76, 77, 78, 79, 80, 67, 68, 69, 70, 71, 72, 73, 74] (by decide +kernel) (by decide +kernel)
set_option maxRecDepth 20000 in
theorem gX7_hear_X7_recordChange : GoodIn wsX7_hear (wsV RX7 69 RX7 yX7_recordChange wsX7_recordChange) := goodIn_app (goodIn_of _ (by decide +kernel)) ggX7_hear_X7_recordChange
set_option maxRecDepth 20000 in
theorem ggX7_hear_X2_loseSameSecond : GoodIn wsX7_hear wsX2_loseSameSecond := goodIn_r _ [56, 46, 44, 67, 68, 69, 70, 71, 72, 73, 74] (by decide +kernel) (by decide +kernel)
set_option maxRecDepth 20000 in
theorem gX7_hear_X2_loseSameSecond : GoodIn wsX7_hear (wsV RX7 135 RX2 yX2_loseSameSecond wsX2_loseSameSecond) := goodIn_app (goodIn_of _ (by decide +kernel)) ggX7_hear_X2_loseSameSecond
theorem dX7_hear_0 : decode cX7_hear 0 = .ok (.aload_n 0, 1) := by decide +kernel
theorem dX7_hear_1 : decode cX7_hear 1 = .ok (.getfield 10, 3) := by decide +kernel
theorem dX7_hear_4 : decode cX7_hear 4 = .ok (.iload_n 1, 1) := by decide +kernel
theorem dX7_hear_5 : decode cX7_hear 5 = .ok (.invokevirtual 105, 3) := by decide +kernel
theorem dX7_hear_8 : decode cX7_hear 8 = .ok (.astore 4, 2) := by decide +kernel
theorem dX7_hear_10 : decode cX7_hear 10 = .ok (.aload 4, 2) := by decide +kernel
theorem dX7_hear_12 : decode cX7_hear 12 = .ok (.ifnull 10, 3) := by decide +kernel
theorem dX7_hear_15 : decode cX7_hear 15 = .ok (.iload_n 2, 1) := by decide +kernel
theorem dX7_hear_16 : decode cX7_hear 16 = .ok (.invokestatic 123, 3) := by decide +kernel
theorem dX7_hear_19 : decode cX7_hear 19 = .ok (.ifCond .ne 5, 3) := by decide +kernel
theorem dX7_hear_22 : decode cX7_hear 22 = .ok (.iconst (-1), 1) := by decide +kernel
theorem dX7_hear_23 : decode cX7_hear 23 = .ok (.ireturn, 1) := by decide +kernel
theorem dX7_hear_24 : decode cX7_hear 24 = .ok (.iload_n 3, 1) := by decide +kernel
theorem dX7_hear_25 : decode cX7_hear 25 = .ok (.invokestatic 128, 3) := by decide +kernel
theorem dX7_hear_28 : decode cX7_hear 28 = .ok (.ifCond .ne 6, 3) := by decide +kernel
theorem dX7_hear_31 : decode cX7_hear 31 = .ok (.bipush (-2), 2) := by decide +kernel
theorem dX7_hear_33 : decode cX7_hear 33 = .ok (.ireturn, 1) := by decide +kernel
theorem dX7_hear_34 : decode cX7_hear 34 = .ok (.aload_n 0, 1) := by decide +kernel
theorem dX7_hear_35 : decode cX7_hear 35 = .ok (.invokevirtual 69, 3) := by decide +kernel
theorem dX7_hear_38 : decode cX7_hear 38 = .ok (.aload 4, 2) := by decide +kernel
theorem dX7_hear_40 : decode cX7_hear 40 = .ok (.getfield 131, 3) := by decide +kernel
theorem dX7_hear_43 : decode cX7_hear 43 = .ok (.iload_n 2, 1) := by decide +kernel
theorem dX7_hear_44 : decode cX7_hear 44 = .ok (.iaload, 1) := by decide +kernel
theorem dX7_hear_45 : decode cX7_hear 45 = .ok (.istore 5, 2) := by decide +kernel
theorem dX7_hear_47 : decode cX7_hear 47 = .ok (.aload 4, 2) := by decide +kernel
theorem dX7_hear_49 : decode cX7_hear 49 = .ok (.getfield 131, 3) := by decide +kernel
theorem dX7_hear_52 : decode cX7_hear 52 = .ok (.iload_n 2, 1) := by decide +kernel
theorem dX7_hear_53 : decode cX7_hear 53 = .ok (.iload_n 3, 1) := by decide +kernel
theorem dX7_hear_54 : decode cX7_hear 54 = .ok (.iastore, 1) := by decide +kernel
theorem dX7_hear_55 : decode cX7_hear 55 = .ok (.aload 4, 2) := by decide +kernel
theorem dX7_hear_57 : decode cX7_hear 57 = .ok (.iload_n 2, 1) := by decide +kernel
theorem dX7_hear_58 : decode cX7_hear 58 = .ok (.invokevirtual 135, 3) := by decide +kernel
theorem dX7_hear_61 : decode cX7_hear 61 = .ok (.iload 5, 2) := by decide +kernel
theorem dX7_hear_63 : decode cX7_hear 63 = .ok (.ireturn, 1) := by decide +kernel
set_option maxRecDepth 20000 in
theorem ggX7_second_X5_earAt : GoodIn wsX7_second wsX5_earAt := goodIn_r _ [8, 9, 10, 72, 73, 74, 75, 76, 77] (by decide +kernel) (by decide +kernel)
set_option maxRecDepth 20000 in
theorem gX7_second_X5_earAt : GoodIn wsX7_second (wsV RX7 105 RX5 yX5_earAt wsX5_earAt) := goodIn_app (goodIn_of _ (by decide +kernel)) ggX7_second_X5_earAt
set_option maxRecDepth 20000 in
theorem ggX7_second_X6_isLetter : GoodIn wsX7_second wsX6_isLetter := goodIn_r _ [14] (by decide +kernel) (by decide +kernel)
set_option maxRecDepth 20000 in
theorem gX7_second_X6_isLetter : GoodIn wsX7_second (va_wsS RX7 123 yX6_isLetter wsX6_isLetter) := goodIn_app (goodIn_of _ (by decide +kernel)) ggX7_second_X6_isLetter
set_option maxRecDepth 20000 in
theorem ggX7_second_X7_isClass : GoodIn wsX7_second wsX7_isClass := goodIn_r _ [18, 19, 20, 17, 21] (by decide +kernel) (by decide +kernel)
set_option maxRecDepth 20000 in
theorem gX7_second_X7_isClass : GoodIn wsX7_second (va_wsS RX7 128 yX7_isClass wsX7_isClass) := goodIn_app (goodIn_of _ (by decide +kernel)) ggX7_second_X7_isClass
set_option maxRecDepth 20000 in
theorem ggX7_second_X7_recordChange : GoodIn wsX7_second wsX7_recordChange := goodIn_r _ [25, 26, 27, 1, 28, 29, 30, 7, 31, 32, 33, 34, 35, 36, 37, 38, 39, 9, 10, 40, 41, 42, 43, 44, 45, 46, 47, 48, 49, 50, 51, 52, 53, 54, 55, 56, 57, 58, 59, 60, 61, 62, 63, 72, 73, 74, 75, 76, 77, 64, 65, 66, 67, 68, 69, 70, 71] (by decide +kernel) (by decide +kernel)
set_option maxRecDepth 20000 in
theorem gX7_second_X7_recordChange : GoodIn wsX7_second (wsV RX7 69 RX7 yX7_recordChange wsX7_recordChange) := goodIn_app (goodIn_of _ (by decide +kernel)) ggX7_second_X7_recordChange
theorem dX7_second_0 : decode cX7_second 0 = .ok (.aload_n 0, 1) := by decide +kernel
theorem dX7_second_1 : decode cX7_second 1 = .ok (.getfield 10, 3) := by decide +kernel
theorem dX7_second_4 : decode cX7_second 4 = .ok (.iload_n 1, 1) := by decide +kernel
theorem dX7_second_5 : decode cX7_second 5 = .ok (.invokevirtual 105, 3) := by decide +kernel
theorem dX7_second_8 : decode cX7_second 8 = .ok (.astore 4, 2) := by decide +kernel
theorem dX7_second_10 : decode cX7_second 10 = .ok (.aload 4, 2) := by decide +kernel
theorem dX7_second_12 : decode cX7_second 12 = .ok (.ifnull 10, 3) := by decide +kernel
theorem dX7_second_15 : decode cX7_second 15 = .ok (.iload_n 2, 1) := by decide +kernel
theorem dX7_second_16 : decode cX7_second 16 = .ok (.invokestatic 123, 3) := by decide +kernel
theorem dX7_second_19 : decode cX7_second 19 = .ok (.ifCond .ne 5, 3) := by decide +kernel
theorem dX7_second_22 : decode cX7_second 22 = .ok (.iconst (-1), 1) := by decide +kernel
theorem dX7_second_23 : decode cX7_second 23 = .ok (.ireturn, 1) := by decide +kernel
theorem dX7_second_24 : decode cX7_second 24 = .ok (.iload_n 3, 1) := by decide +kernel
theorem dX7_second_25 : decode cX7_second 25 = .ok (.invokestatic 128, 3) := by decide +kernel
theorem dX7_second_28 : decode cX7_second 28 = .ok (.ifCond .ne 12, 3) := by decide +kernel
theorem dX7_second_31 : decode cX7_second 31 = .ok (.iload_n 3, 1) := by decide +kernel
theorem dX7_second_32 : decode cX7_second 32 = .ok (.bipush (-6), 2) := by decide +kernel
theorem dX7_second_34 : decode cX7_second 34 = .ok (.if_icmp .eq 6, 3) := by decide +kernel
theorem dX7_second_37 : decode cX7_second 37 = .ok (.bipush (-2), 2) := by decide +kernel
theorem dX7_second_39 : decode cX7_second 39 = .ok (.ireturn, 1) := by decide +kernel
theorem dX7_second_40 : decode cX7_second 40 = .ok (.iload_n 3, 1) := by decide +kernel
theorem dX7_second_41 : decode cX7_second 41 = .ok (.aload 4, 2) := by decide +kernel
theorem dX7_second_43 : decode cX7_second 43 = .ok (.getfield 131, 3) := by decide +kernel
theorem dX7_second_46 : decode cX7_second 46 = .ok (.iload_n 2, 1) := by decide +kernel
theorem dX7_second_47 : decode cX7_second 47 = .ok (.iaload, 1) := by decide +kernel
theorem dX7_second_48 : decode cX7_second 48 = .ok (.if_icmp .ne 6, 3) := by decide +kernel
theorem dX7_second_51 : decode cX7_second 51 = .ok (.bipush (-5), 2) := by decide +kernel
theorem dX7_second_53 : decode cX7_second 53 = .ok (.ireturn, 1) := by decide +kernel
theorem dX7_second_54 : decode cX7_second 54 = .ok (.aload_n 0, 1) := by decide +kernel
theorem dX7_second_55 : decode cX7_second 55 = .ok (.invokevirtual 69, 3) := by decide +kernel
theorem dX7_second_58 : decode cX7_second 58 = .ok (.aload 4, 2) := by decide +kernel
theorem dX7_second_60 : decode cX7_second 60 = .ok (.getfield 138, 3) := by decide +kernel
theorem dX7_second_63 : decode cX7_second 63 = .ok (.iload_n 2, 1) := by decide +kernel
theorem dX7_second_64 : decode cX7_second 64 = .ok (.iaload, 1) := by decide +kernel
theorem dX7_second_65 : decode cX7_second 65 = .ok (.istore 5, 2) := by decide +kernel
theorem dX7_second_67 : decode cX7_second 67 = .ok (.aload 4, 2) := by decide +kernel
theorem dX7_second_69 : decode cX7_second 69 = .ok (.getfield 138, 3) := by decide +kernel
theorem dX7_second_72 : decode cX7_second 72 = .ok (.iload_n 2, 1) := by decide +kernel
theorem dX7_second_73 : decode cX7_second 73 = .ok (.iload_n 3, 1) := by decide +kernel
theorem dX7_second_74 : decode cX7_second 74 = .ok (.iastore, 1) := by decide +kernel
theorem dX7_second_75 : decode cX7_second 75 = .ok (.iload 5, 2) := by decide +kernel
theorem dX7_second_77 : decode cX7_second 77 = .ok (.ireturn, 1) := by decide +kernel
set_option maxRecDepth 20000 in
theorem ggX7_habits_X5_earAt : GoodIn wsX7_habits wsX5_earAt := goodIn_r _ [7, 8, 9, 64, 65, 66, 67, 68, 69] (by decide +kernel) (by decide +kernel)
set_option maxRecDepth 20000 in
theorem gX7_habits_X5_earAt : GoodIn wsX7_habits (wsV RX7 105 RX5 yX5_earAt wsX5_earAt) := goodIn_app (goodIn_of _ (by decide +kernel)) ggX7_habits_X5_earAt
set_option maxRecDepth 20000 in
theorem ggX7_habits_X7_isWithin : GoodIn wsX7_habits wsX7_isWithin := goodIn_r _ [13] (by decide +kernel) (by decide +kernel)
set_option maxRecDepth 20000 in
theorem gX7_habits_X7_isWithin : GoodIn wsX7_habits (va_wsS RX7 62 yX7_isWithin wsX7_isWithin) := goodIn_app (goodIn_of _ (by decide +kernel)) ggX7_habits_X7_isWithin
set_option maxRecDepth 20000 in
theorem ggX7_habits_X7_recordChange : GoodIn wsX7_habits wsX7_recordChange := goodIn_r _ [17, 18, 19, 1, 20, 21, 22, 6, 23, 24, 25, 26, 27, 28, 29, 30, 31, 8, 9, 32, 33, 34, 35, 36, 37, 38, 39, 40, 41, 42, 43, 44, 45, 46, 47, 48, 49, 50, 51, 52, 53, 54, 55, 64, 65, 66, 67, 68, 69, 56, 57, 58, 59, 60, 61, 62, 63] (by decide +kernel) (by decide +kernel)
set_option maxRecDepth 20000 in
theorem gX7_habits_X7_recordChange : GoodIn wsX7_habits (wsV RX7 69 RX7 yX7_recordChange wsX7_recordChange) := goodIn_app (goodIn_of _ (by decide +kernel)) ggX7_habits_X7_recordChange
theorem dX7_habits_0 : decode cX7_habits 0 = .ok (.aload_n 0, 1) := by decide +kernel
theorem dX7_habits_1 : decode cX7_habits 1 = .ok (.getfield 10, 3) := by decide +kernel
theorem dX7_habits_4 : decode cX7_habits 4 = .ok (.iload_n 1, 1) := by decide +kernel
theorem dX7_habits_5 : decode cX7_habits 5 = .ok (.invokevirtual 105, 3) := by decide +kernel
theorem dX7_habits_8 : decode cX7_habits 8 = .ok (.astore_n 3, 1) := by decide +kernel
theorem dX7_habits_9 : decode cX7_habits 9 = .ok (.aload_n 3, 1) := by decide +kernel
theorem dX7_habits_10 : decode cX7_habits 10 = .ok (.ifnonnull 5, 3) := by decide +kernel
theorem dX7_habits_13 : decode cX7_habits 13 = .ok (.iconst (-1), 1) := by decide +kernel
theorem dX7_habits_14 : decode cX7_habits 14 = .ok (.ireturn, 1) := by decide +kernel
theorem dX7_habits_15 : decode cX7_habits 15 = .ok (.iload_n 2, 1) := by decide +kernel
theorem dX7_habits_16 : decode cX7_habits 16 = .ok (.iconst 0, 1) := by decide +kernel
theorem dX7_habits_17 : decode cX7_habits 17 = .ok (.bipush 7, 2) := by decide +kernel
theorem dX7_habits_19 : decode cX7_habits 19 = .ok (.invokestatic 62, 3) := by decide +kernel
theorem dX7_habits_22 : decode cX7_habits 22 = .ok (.ifCond .ne 6, 3) := by decide +kernel
theorem dX7_habits_25 : decode cX7_habits 25 = .ok (.bipush (-2), 2) := by decide +kernel
theorem dX7_habits_27 : decode cX7_habits 27 = .ok (.ireturn, 1) := by decide +kernel
theorem dX7_habits_28 : decode cX7_habits 28 = .ok (.aload_n 0, 1) := by decide +kernel
theorem dX7_habits_29 : decode cX7_habits 29 = .ok (.invokevirtual 69, 3) := by decide +kernel
theorem dX7_habits_32 : decode cX7_habits 32 = .ok (.aload_n 3, 1) := by decide +kernel
theorem dX7_habits_33 : decode cX7_habits 33 = .ok (.getfield 141, 3) := by decide +kernel
theorem dX7_habits_36 : decode cX7_habits 36 = .ok (.istore 4, 2) := by decide +kernel
theorem dX7_habits_38 : decode cX7_habits 38 = .ok (.aload_n 3, 1) := by decide +kernel
theorem dX7_habits_39 : decode cX7_habits 39 = .ok (.iload_n 2, 1) := by decide +kernel
theorem dX7_habits_40 : decode cX7_habits 40 = .ok (.putfield 141, 3) := by decide +kernel
theorem dX7_habits_43 : decode cX7_habits 43 = .ok (.iload 4, 2) := by decide +kernel
theorem dX7_habits_45 : decode cX7_habits 45 = .ok (.ireturn, 1) := by decide +kernel
set_option maxRecDepth 20000 in
theorem ggX7_merge_X5_earAt : GoodIn wsX7_merge wsX5_earAt := goodIn_r _ [6, 7, 8, 88, 89, 90, 91, 92, 93] (by decide +kernel) (by decide +kernel)
set_option maxRecDepth 20000 in
theorem gX7_merge_X5_earAt : GoodIn wsX7_merge (wsV RX7 105 RX5 yX5_earAt wsX5_earAt) := goodIn_app (goodIn_of _ (by decide +kernel)) ggX7_merge_X5_earAt
set_option maxRecDepth 20000 in
theorem ggX7_merge_X7_canMerge : GoodIn wsX7_merge wsX7_canMerge := goodIn_r _ [12, 13, 14, 11, 15, 16, 17, 18] (by decide +kernel) (by decide +kernel)
set_option maxRecDepth 20000 in
theorem gX7_merge_X7_canMerge : GoodIn wsX7_merge (va_wsS RX7 144 yX7_canMerge wsX7_canMerge) := goodIn_app (goodIn_of _ (by decide +kernel)) ggX7_merge_X7_canMerge
set_option maxRecDepth 20000 in
theorem ggX7_merge_X7_recordChange : GoodIn wsX7_merge wsX7_recordChange := goodIn_r _ [22, 23, 24, 1, 25, 26, 27, 5, 28, 29, 30, 31, 32, 33, 34, 35, 36, 7, 8, 37, 38, 39, 40, 41, 42, 43, 44, 45, 46, 47, 48, 49, 50, 78, 79, 80, 81, 82, 83, 84, 85, 86, 87, 88, 89, 90, 91, 92, 93, 94, 95, 96, 97, 98, 99, 100, 101] (by decide +kernel) (by decide +kernel)
set_option maxRecDepth 20000 in
theorem gX7_merge_X7_recordChange : GoodIn wsX7_merge (wsV RX7 69 RX7 yX7_recordChange wsX7_recordChange) := goodIn_app (goodIn_of _ (by decide +kernel)) ggX7_merge_X7_recordChange
set_option maxRecDepth 20000 in
theorem ggX7_merge_X2_mergeClasses : GoodIn wsX7_merge wsX2_mergeClasses := goodIn_r _ [54, 42, 44, 55, 56, 57, 40, 58, 59, 60, 61, 62, 46, 47, 48, 49, 50, 63, 64, 65, 66, 43, 34, 35, 36, 94, 95, 96, 97, 98, 99, 100, 101] (by decide +kernel) (by decide +kernel)
set_option maxRecDepth 20000 in
theorem gX7_merge_X2_mergeClasses : GoodIn wsX7_merge (wsV RX7 148 RX2 yX2_mergeClasses wsX2_mergeClasses) := goodIn_app (goodIn_of _ (by decide +kernel)) ggX7_merge_X2_mergeClasses
set_option maxRecDepth 20000 in
theorem ggX7_merge_X2_lettersOf : GoodIn wsX7_merge wsX2_lettersOf := goodIn_r _ [70, 42, 94, 95, 96, 97, 98, 99, 100, 101] (by decide +kernel) (by decide +kernel)
set_option maxRecDepth 20000 in
theorem gX7_merge_X2_lettersOf : GoodIn wsX7_merge (wsV RX7 152 RX2 yX2_lettersOf wsX2_lettersOf) := goodIn_app (goodIn_of _ (by decide +kernel)) ggX7_merge_X2_lettersOf
set_option maxRecDepth 20000 in
theorem ggX7_merge_J6_bitCount_0f7a4 : GoodIn wsX7_merge wsJ6_bitCount_0f7a4 := goodIn_r _ [74, 75, 76, 77] (by decide +kernel) (by decide +kernel)
set_option maxRecDepth 20000 in
theorem gX7_merge_J6_bitCount_0f7a4 : GoodIn wsX7_merge (va_wsS RX7 156 yJ6_bitCount_0f7a4 wsJ6_bitCount_0f7a4) := goodIn_app (goodIn_of _ (by decide +kernel)) ggX7_merge_J6_bitCount_0f7a4
theorem dX7_merge_0 : decode cX7_merge 0 = .ok (.aload_n 0, 1) := by decide +kernel
theorem dX7_merge_1 : decode cX7_merge 1 = .ok (.getfield 10, 3) := by decide +kernel
theorem dX7_merge_4 : decode cX7_merge 4 = .ok (.iload_n 1, 1) := by decide +kernel
theorem dX7_merge_5 : decode cX7_merge 5 = .ok (.invokevirtual 105, 3) := by decide +kernel
theorem dX7_merge_8 : decode cX7_merge 8 = .ok (.astore 4, 2) := by decide +kernel
theorem dX7_merge_10 : decode cX7_merge 10 = .ok (.aload 4, 2) := by decide +kernel
theorem dX7_merge_12 : decode cX7_merge 12 = .ok (.ifnonnull 5, 3) := by decide +kernel
theorem dX7_merge_15 : decode cX7_merge 15 = .ok (.iconst (-1), 1) := by decide +kernel
theorem dX7_merge_16 : decode cX7_merge 16 = .ok (.ireturn, 1) := by decide +kernel
theorem dX7_merge_17 : decode cX7_merge 17 = .ok (.iload_n 2, 1) := by decide +kernel
theorem dX7_merge_18 : decode cX7_merge 18 = .ok (.iload_n 3, 1) := by decide +kernel
theorem dX7_merge_19 : decode cX7_merge 19 = .ok (.invokestatic 144, 3) := by decide +kernel
theorem dX7_merge_22 : decode cX7_merge 22 = .ok (.ifCond .ne 6, 3) := by decide +kernel
theorem dX7_merge_25 : decode cX7_merge 25 = .ok (.bipush (-2), 2) := by decide +kernel
theorem dX7_merge_27 : decode cX7_merge 27 = .ok (.ireturn, 1) := by decide +kernel
theorem dX7_merge_28 : decode cX7_merge 28 = .ok (.aload_n 0, 1) := by decide +kernel
theorem dX7_merge_29 : decode cX7_merge 29 = .ok (.invokevirtual 69, 3) := by decide +kernel
theorem dX7_merge_32 : decode cX7_merge 32 = .ok (.aload 4, 2) := by decide +kernel
theorem dX7_merge_34 : decode cX7_merge 34 = .ok (.iload_n 2, 1) := by decide +kernel
theorem dX7_merge_35 : decode cX7_merge 35 = .ok (.iload_n 3, 1) := by decide +kernel
theorem dX7_merge_36 : decode cX7_merge 36 = .ok (.invokevirtual 148, 3) := by decide +kernel
theorem dX7_merge_39 : decode cX7_merge 39 = .ok (.aload 4, 2) := by decide +kernel
theorem dX7_merge_41 : decode cX7_merge 41 = .ok (.iload_n 2, 1) := by decide +kernel
theorem dX7_merge_42 : decode cX7_merge 42 = .ok (.invokevirtual 152, 3) := by decide +kernel
theorem dX7_merge_45 : decode cX7_merge 45 = .ok (.invokestatic 156, 3) := by decide +kernel
theorem dX7_merge_48 : decode cX7_merge 48 = .ok (.ireturn, 1) := by decide +kernel
set_option maxRecDepth 20000 in
theorem ggX7_split_X5_earAt : GoodIn wsX7_split wsX5_earAt := goodIn_r _ [7, 8, 9, 69, 70, 71, 72, 73, 74] (by decide +kernel) (by decide +kernel)
set_option maxRecDepth 20000 in
theorem gX7_split_X5_earAt : GoodIn wsX7_split (wsV RX7 105 RX5 yX5_earAt wsX5_earAt) := goodIn_app (goodIn_of _ (by decide +kernel)) ggX7_split_X5_earAt
set_option maxRecDepth 20000 in
theorem ggX7_split_X7_recordChange : GoodIn wsX7_split wsX7_recordChange := goodIn_r _ [14, 15, 16, 1, 17, 18, 19, 6, 20, 21, 22, 23, 24, 25, 26, 27, 28, 8, 9, 29, 30, 31, 32, 33, 34, 35, 36, 37, 38, 39, 40, 41, 42, 51, 52, 53, 54, 55, 56, 57, 58, 59, 60, 69, 70, 71, 72, 73, 74, 61, 62, 63, 64, 65, 66, 67, 68] (by decide +kernel) (by decide +kernel)
set_option maxRecDepth 20000 in
theorem gX7_split_X7_recordChange : GoodIn wsX7_split (wsV RX7 69 RX7 yX7_recordChange wsX7_recordChange) := goodIn_app (goodIn_of _ (by decide +kernel)) ggX7_split_X7_recordChange
set_option maxRecDepth 20000 in
theorem ggX7_split_X2_splitLatest : GoodIn wsX7_split wsX2_splitLatest := goodIn_r _ [46, 38, 39, 40, 41, 34, 42, 36, 47, 48, 49, 32, 50, 61, 62, 63, 64, 65, 66, 67, 68] (by decide +kernel) (by decide +kernel)
set_option maxRecDepth 20000 in
theorem gX7_split_X2_splitLatest : GoodIn wsX7_split (wsV RX7 164 RX2 yX2_splitLatest wsX2_splitLatest) := goodIn_app (goodIn_of _ (by decide +kernel)) ggX7_split_X2_splitLatest
theorem dX7_split_0 : decode cX7_split 0 = .ok (.aload_n 0, 1) := by decide +kernel
theorem dX7_split_1 : decode cX7_split 1 = .ok (.getfield 10, 3) := by decide +kernel
theorem dX7_split_4 : decode cX7_split 4 = .ok (.iload_n 1, 1) := by decide +kernel
theorem dX7_split_5 : decode cX7_split 5 = .ok (.invokevirtual 105, 3) := by decide +kernel
theorem dX7_split_8 : decode cX7_split 8 = .ok (.astore_n 2, 1) := by decide +kernel
theorem dX7_split_9 : decode cX7_split 9 = .ok (.aload_n 2, 1) := by decide +kernel
theorem dX7_split_10 : decode cX7_split 10 = .ok (.ifnonnull 5, 3) := by decide +kernel
theorem dX7_split_13 : decode cX7_split 13 = .ok (.iconst (-1), 1) := by decide +kernel
theorem dX7_split_14 : decode cX7_split 14 = .ok (.ireturn, 1) := by decide +kernel
theorem dX7_split_15 : decode cX7_split 15 = .ok (.aload_n 2, 1) := by decide +kernel
theorem dX7_split_16 : decode cX7_split 16 = .ok (.getfield 161, 3) := by decide +kernel
theorem dX7_split_19 : decode cX7_split 19 = .ok (.ifCond .gt 6, 3) := by decide +kernel
theorem dX7_split_22 : decode cX7_split 22 = .ok (.bipush (-5), 2) := by decide +kernel
theorem dX7_split_24 : decode cX7_split 24 = .ok (.ireturn, 1) := by decide +kernel
theorem dX7_split_25 : decode cX7_split 25 = .ok (.aload_n 0, 1) := by decide +kernel
theorem dX7_split_26 : decode cX7_split 26 = .ok (.invokevirtual 69, 3) := by decide +kernel
theorem dX7_split_29 : decode cX7_split 29 = .ok (.aload_n 2, 1) := by decide +kernel
theorem dX7_split_30 : decode cX7_split 30 = .ok (.invokevirtual 164, 3) := by decide +kernel
theorem dX7_split_33 : decode cX7_split 33 = .ok (.ireturn, 1) := by decide +kernel
set_option maxRecDepth 20000 in
theorem ggX7_name_X5_hasName : GoodIn wsX7_name wsX5_hasName := goodIn_r _ [7, 8, 36, 37, 38, 39, 40, 41] (by decide +kernel) (by decide +kernel)
set_option maxRecDepth 20000 in
theorem gX7_name_X5_hasName : GoodIn wsX7_name (wsV RX7 97 RX5 yX5_hasName wsX5_hasName) := goodIn_app (goodIn_of _ (by decide +kernel)) ggX7_name_X5_hasName
set_option maxRecDepth 20000 in
theorem ggX7_name_X6_size : GoodIn wsX7_name wsX6_size := goodIn_r _ [12, 13, 14, 11, 15, 16] (by decide +kernel) (by decide +kernel)
set_option maxRecDepth 20000 in
theorem gX7_name_X6_size : GoodIn wsX7_name (va_wsS RX7 167 yX6_size wsX6_size) := goodIn_app (goodIn_of _ (by decide +kernel)) ggX7_name_X6_size
set_option maxRecDepth 20000 in
theorem ggX7_name_X7_isWithin : GoodIn wsX7_name wsX7_isWithin := goodIn_r _ [20] (by decide +kernel) (by decide +kernel)
set_option maxRecDepth 20000 in
theorem gX7_name_X7_isWithin : GoodIn wsX7_name (va_wsS RX7 62 yX7_isWithin wsX7_isWithin) := goodIn_app (goodIn_of _ (by decide +kernel)) ggX7_name_X7_isWithin
set_option maxRecDepth 20000 in
theorem ggX7_name_X6_letterAt : GoodIn wsX7_name wsX6_letterAt := goodIn_r _ [15, 16] (by decide +kernel) (by decide +kernel)
set_option maxRecDepth 20000 in
theorem gX7_name_X6_letterAt : GoodIn wsX7_name (va_wsS RX7 170 yX6_letterAt wsX6_letterAt) := goodIn_app (goodIn_of _ (by decide +kernel)) ggX7_name_X6_letterAt
set_option maxRecDepth 20000 in
theorem ggX7_name_X6_letterSet : GoodIn wsX7_name wsX6_letterSet := goodIn_r _ [24, 25, 10, 11, 12, 13, 14, 15, 16] (by decide +kernel) (by decide +kernel)
set_option maxRecDepth 20000 in
theorem gX7_name_X6_letterSet : GoodIn wsX7_name (va_wsS RX7 174 yX6_letterSet wsX6_letterSet) := goodIn_app (goodIn_of _ (by decide +kernel)) ggX7_name_X6_letterSet
