theorem dX0_with_0 : decode cX0_with 0 = .ok (.iload_n 0, 1) := by decide +kernel
theorem dX0_with_1 : decode cX0_with 1 = .ok (.bipush 6, 2) := by decide +kernel
theorem dX0_with_3 : decode cX0_with 3 = .ok (.ishl, 1) := by decide +kernel
theorem dX0_with_4 : decode cX0_with 4 = .ok (.iload_n 1, 1) := by decide +kernel
theorem dX0_with_5 : decode cX0_with 5 = .ok (.ior, 1) := by decide +kernel
theorem dX0_with_6 : decode cX0_with 6 = .ok (.ireturn, 1) := by decide +kernel
theorem dX0_size_0 : decode cX0_size 0 = .ok (.iconst 0, 1) := by decide +kernel
theorem dX0_size_1 : decode cX0_size 1 = .ok (.istore_n 1, 1) := by decide +kernel
theorem dX0_size_2 : decode cX0_size 2 = .ok (.iload_n 1, 1) := by decide +kernel
theorem dX0_size_3 : decode cX0_size 3 = .ok (.iconst 5, 1) := by decide +kernel
theorem dX0_size_4 : decode cX0_size 4 = .ok (.if_icmp .ge 18, 3) := by decide +kernel
theorem dX0_size_7 : decode cX0_size 7 = .ok (.iload_n 0, 1) := by decide +kernel
theorem dX0_size_8 : decode cX0_size 8 = .ok (.bipush 6, 2) := by decide +kernel
theorem dX0_size_10 : decode cX0_size 10 = .ok (.iload_n 1, 1) := by decide +kernel
theorem dX0_size_11 : decode cX0_size 11 = .ok (.imul, 1) := by decide +kernel
theorem dX0_size_12 : decode cX0_size 12 = .ok (.iushr, 1) := by decide +kernel
theorem dX0_size_13 : decode cX0_size 13 = .ok (.ifCond .eq 9, 3) := by decide +kernel
theorem dX0_size_16 : decode cX0_size 16 = .ok (.iinc 1 1, 3) := by decide +kernel
theorem dX0_size_19 : decode cX0_size 19 = .ok (.goto (-17), 3) := by decide +kernel
theorem dX0_size_22 : decode cX0_size 22 = .ok (.iload_n 1, 1) := by decide +kernel
theorem dX0_size_23 : decode cX0_size 23 = .ok (.ireturn, 1) := by decide +kernel
set_option maxRecDepth 20000 in
theorem ggX0_numberAt_X0_size : GoodIn wsX0_numberAt wsX0_size := goodIn_r _ [4] (by decide +kernel) (by decide +kernel)
set_option maxRecDepth 20000 in
theorem gX0_numberAt_X0_size : GoodIn wsX0_numberAt (va_wsS RX0 11 yX0_size wsX0_size) := goodIn_app (goodIn_of _ (by decide +kernel)) ggX0_numberAt_X0_size
theorem dX0_numberAt_0 : decode cX0_numberAt 0 = .ok (.iload_n 0, 1) := by decide +kernel
theorem dX0_numberAt_1 : decode cX0_numberAt 1 = .ok (.invokestatic 11, 3) := by decide +kernel
theorem dX0_numberAt_4 : decode cX0_numberAt 4 = .ok (.iconst 1, 1) := by decide +kernel
theorem dX0_numberAt_5 : decode cX0_numberAt 5 = .ok (.isub, 1) := by decide +kernel
theorem dX0_numberAt_6 : decode cX0_numberAt 6 = .ok (.iload_n 1, 1) := by decide +kernel
theorem dX0_numberAt_7 : decode cX0_numberAt 7 = .ok (.isub, 1) := by decide +kernel
theorem dX0_numberAt_8 : decode cX0_numberAt 8 = .ok (.istore_n 2, 1) := by decide +kernel
theorem dX0_numberAt_9 : decode cX0_numberAt 9 = .ok (.iload_n 2, 1) := by decide +kernel
theorem dX0_numberAt_10 : decode cX0_numberAt 10 = .ok (.ifCond .lt 15, 3) := by decide +kernel
theorem dX0_numberAt_13 : decode cX0_numberAt 13 = .ok (.iload_n 0, 1) := by decide +kernel
theorem dX0_numberAt_14 : decode cX0_numberAt 14 = .ok (.bipush 6, 2) := by decide +kernel
theorem dX0_numberAt_16 : decode cX0_numberAt 16 = .ok (.iload_n 2, 1) := by decide +kernel
theorem dX0_numberAt_17 : decode cX0_numberAt 17 = .ok (.imul, 1) := by decide +kernel
theorem dX0_numberAt_18 : decode cX0_numberAt 18 = .ok (.iushr, 1) := by decide +kernel
theorem dX0_numberAt_19 : decode cX0_numberAt 19 = .ok (.bipush 63, 2) := by decide +kernel
theorem dX0_numberAt_21 : decode cX0_numberAt 21 = .ok (.iand, 1) := by decide +kernel
theorem dX0_numberAt_22 : decode cX0_numberAt 22 = .ok (.goto 4, 3) := by decide +kernel
theorem dX0_numberAt_25 : decode cX0_numberAt 25 = .ok (.iconst 0, 1) := by decide +kernel
theorem dX0_numberAt_26 : decode cX0_numberAt 26 = .ok (.ireturn, 1) := by decide +kernel
theorem dX1_init_0 : decode cX1_init 0 = .ok (.aload_n 0, 1) := by decide +kernel
theorem dX1_init_1 : decode cX1_init 1 = .ok (.invokespecial 3, 3) := by decide +kernel
theorem dX1_init_4 : decode cX1_init 4 = .ok (.aload_n 0, 1) := by decide +kernel
theorem dX1_init_5 : decode cX1_init 5 = .ok (.bipush 24, 2) := by decide +kernel
theorem dX1_init_7 : decode cX1_init 7 = .ok (.newarray .int, 2) := by decide +kernel
theorem dX1_init_9 : decode cX1_init 9 = .ok (.putfield 9, 3) := by decide +kernel
theorem dX1_init_12 : decode cX1_init 12 = .ok (.aload_n 0, 1) := by decide +kernel
theorem dX1_init_13 : decode cX1_init 13 = .ok (.bipush 96, 2) := by decide +kernel
theorem dX1_init_15 : decode cX1_init 15 = .ok (.newarray .int, 2) := by decide +kernel
theorem dX1_init_17 : decode cX1_init 17 = .ok (.putfield 15, 3) := by decide +kernel
theorem dX1_init_20 : decode cX1_init 20 = .ok (.aload_n 0, 1) := by decide +kernel
theorem dX1_init_21 : decode cX1_init 21 = .ok (.bipush 96, 2) := by decide +kernel
theorem dX1_init_23 : decode cX1_init 23 = .ok (.newarray .int, 2) := by decide +kernel
theorem dX1_init_25 : decode cX1_init 25 = .ok (.putfield 18, 3) := by decide +kernel
theorem dX1_init_28 : decode cX1_init 28 = .ok (.aload_n 0, 1) := by decide +kernel
theorem dX1_init_29 : decode cX1_init 29 = .ok (.bipush 96, 2) := by decide +kernel
theorem dX1_init_31 : decode cX1_init 31 = .ok (.newarray .int, 2) := by decide +kernel
theorem dX1_init_33 : decode cX1_init 33 = .ok (.putfield 21, 3) := by decide +kernel
theorem dX1_init_36 : decode cX1_init 36 = .ok (.aload_n 0, 1) := by decide +kernel
theorem dX1_init_37 : decode cX1_init 37 = .ok (.iconst 4, 1) := by decide +kernel
theorem dX1_init_38 : decode cX1_init 38 = .ok (.newarray .int, 2) := by decide +kernel
theorem dX1_init_40 : decode cX1_init 40 = .ok (.putfield 24, 3) := by decide +kernel
theorem dX1_init_43 : decode cX1_init 43 = .ok (.return_, 1) := by decide +kernel
set_option maxRecDepth 20000 in
theorem ggX1_fill_X2_writeCodes : GoodIn wsX1_fill wsX2_writeCodes := goodIn_r _ [14, 15, 16, 17, 13, 18, 19, 20, 21, 22, 23, 24, 25, 26, 27, 28, 29, 30, 31, 32, 33, 34, 35, 36, 37, 38, 39, 40, 41, 61, 62, 63, 64, 65, 66, 67, 68] (by decide +kernel) (by decide +kernel)
set_option maxRecDepth 20000 in
theorem gX1_fill_X2_writeCodes : GoodIn wsX1_fill (wsV RX1 44 RX2 yX2_writeCodes wsX2_writeCodes) := goodIn_app (goodIn_of _ (by decide +kernel)) ggX1_fill_X2_writeCodes
set_option maxRecDepth 20000 in
theorem ggX1_fill_X1_drawerFor : GoodIn wsX1_fill wsX1_drawerFor := goodIn_r _ [46, 3, 47, 8, 54, 55, 56, 57, 58, 59, 60] (by decide +kernel) (by decide +kernel)
set_option maxRecDepth 20000 in
theorem gX1_fill_X1_drawerFor : GoodIn wsX1_fill (wsV RX1 50 RX1 yX1_drawerFor wsX1_drawerFor) := goodIn_app (goodIn_of _ (by decide +kernel)) ggX1_fill_X1_drawerFor
theorem dX1_fill_0 : decode cX1_fill 0 = .ok (.aload_n 0, 1) := by decide +kernel
theorem dX1_fill_1 : decode cX1_fill 1 = .ok (.aload_n 1, 1) := by decide +kernel
theorem dX1_fill_2 : decode cX1_fill 2 = .ok (.getfield 27, 3) := by decide +kernel
theorem dX1_fill_5 : decode cX1_fill 5 = .ok (.putfield 33, 3) := by decide +kernel
theorem dX1_fill_8 : decode cX1_fill 8 = .ok (.aload_n 0, 1) := by decide +kernel
theorem dX1_fill_9 : decode cX1_fill 9 = .ok (.iconst 0, 1) := by decide +kernel
theorem dX1_fill_10 : decode cX1_fill 10 = .ok (.putfield 34, 3) := by decide +kernel
theorem dX1_fill_13 : decode cX1_fill 13 = .ok (.iconst 0, 1) := by decide +kernel
theorem dX1_fill_14 : decode cX1_fill 14 = .ok (.istore_n 3, 1) := by decide +kernel
theorem dX1_fill_15 : decode cX1_fill 15 = .ok (.iload_n 3, 1) := by decide +kernel
theorem dX1_fill_16 : decode cX1_fill 16 = .ok (.aload_n 0, 1) := by decide +kernel
theorem dX1_fill_17 : decode cX1_fill 17 = .ok (.getfield 33, 3) := by decide +kernel
theorem dX1_fill_20 : decode cX1_fill 20 = .ok (.if_icmp .ge 108, 3) := by decide +kernel
theorem dX1_fill_23 : decode cX1_fill 23 = .ok (.aload_n 2, 1) := by decide +kernel
theorem dX1_fill_24 : decode cX1_fill 24 = .ok (.aload_n 1, 1) := by decide +kernel
theorem dX1_fill_25 : decode cX1_fill 25 = .ok (.getfield 37, 3) := by decide +kernel
theorem dX1_fill_28 : decode cX1_fill 28 = .ok (.iload_n 3, 1) := by decide +kernel
theorem dX1_fill_29 : decode cX1_fill 29 = .ok (.laload, 1) := by decide +kernel
theorem dX1_fill_30 : decode cX1_fill 30 = .ok (.aload_n 1, 1) := by decide +kernel
theorem dX1_fill_31 : decode cX1_fill 31 = .ok (.getfield 41, 3) := by decide +kernel
theorem dX1_fill_34 : decode cX1_fill 34 = .ok (.aload_n 0, 1) := by decide +kernel
theorem dX1_fill_35 : decode cX1_fill 35 = .ok (.getfield 24, 3) := by decide +kernel
theorem dX1_fill_38 : decode cX1_fill 38 = .ok (.invokevirtual 44, 3) := by decide +kernel
theorem dX1_fill_41 : decode cX1_fill 41 = .ok (.istore 4, 2) := by decide +kernel
theorem dX1_fill_43 : decode cX1_fill 43 = .ok (.aload_n 0, 1) := by decide +kernel
theorem dX1_fill_44 : decode cX1_fill 44 = .ok (.getfield 9, 3) := by decide +kernel
theorem dX1_fill_47 : decode cX1_fill 47 = .ok (.iload_n 3, 1) := by decide +kernel
theorem dX1_fill_48 : decode cX1_fill 48 = .ok (.iload 4, 2) := by decide +kernel
theorem dX1_fill_50 : decode cX1_fill 50 = .ok (.iastore, 1) := by decide +kernel
theorem dX1_fill_51 : decode cX1_fill 51 = .ok (.iconst 0, 1) := by decide +kernel
theorem dX1_fill_52 : decode cX1_fill 52 = .ok (.istore 5, 2) := by decide +kernel
theorem dX1_fill_54 : decode cX1_fill 54 = .ok (.iload 5, 2) := by decide +kernel
theorem dX1_fill_56 : decode cX1_fill 56 = .ok (.iload 4, 2) := by decide +kernel
theorem dX1_fill_58 : decode cX1_fill 58 = .ok (.if_icmp .ge 64, 3) := by decide +kernel
theorem dX1_fill_61 : decode cX1_fill 61 = .ok (.iload 5, 2) := by decide +kernel
theorem dX1_fill_63 : decode cX1_fill 63 = .ok (.iconst 4, 1) := by decide +kernel
theorem dX1_fill_64 : decode cX1_fill 64 = .ok (.if_icmp .ge 58, 3) := by decide +kernel
theorem dX1_fill_67 : decode cX1_fill 67 = .ok (.aload_n 0, 1) := by decide +kernel
theorem dX1_fill_68 : decode cX1_fill 68 = .ok (.aload_n 0, 1) := by decide +kernel
theorem dX1_fill_69 : decode cX1_fill 69 = .ok (.getfield 24, 3) := by decide +kernel
theorem dX1_fill_72 : decode cX1_fill 72 = .ok (.iload 5, 2) := by decide +kernel
theorem dX1_fill_74 : decode cX1_fill 74 = .ok (.iaload, 1) := by decide +kernel
theorem dX1_fill_75 : decode cX1_fill 75 = .ok (.invokevirtual 50, 3) := by decide +kernel
theorem dX1_fill_78 : decode cX1_fill 78 = .ok (.istore 6, 2) := by decide +kernel
theorem dX1_fill_80 : decode cX1_fill 80 = .ok (.iload 6, 2) := by decide +kernel
theorem dX1_fill_82 : decode cX1_fill 82 = .ok (.bipush 96, 2) := by decide +kernel
theorem dX1_fill_84 : decode cX1_fill 84 = .ok (.if_icmp .lt 6, 3) := by decide +kernel
theorem dX1_fill_87 : decode cX1_fill 87 = .ok (.goto 29, 3) := by decide +kernel
theorem dX1_fill_90 : decode cX1_fill 90 = .ok (.aload_n 0, 1) := by decide +kernel
theorem dX1_fill_91 : decode cX1_fill 91 = .ok (.getfield 21, 3) := by decide +kernel
theorem dX1_fill_94 : decode cX1_fill 94 = .ok (.iload 6, 2) := by decide +kernel
theorem dX1_fill_96 : decode cX1_fill 96 = .ok (.dup2, 1) := by decide +kernel
theorem dX1_fill_97 : decode cX1_fill 97 = .ok (.iaload, 1) := by decide +kernel
theorem dX1_fill_98 : decode cX1_fill 98 = .ok (.iconst 1, 1) := by decide +kernel
theorem dX1_fill_99 : decode cX1_fill 99 = .ok (.iload_n 3, 1) := by decide +kernel
theorem dX1_fill_100 : decode cX1_fill 100 = .ok (.ishl, 1) := by decide +kernel
theorem dX1_fill_101 : decode cX1_fill 101 = .ok (.ior, 1) := by decide +kernel
theorem dX1_fill_102 : decode cX1_fill 102 = .ok (.iastore, 1) := by decide +kernel
theorem dX1_fill_103 : decode cX1_fill 103 = .ok (.aload_n 0, 1) := by decide +kernel
theorem dX1_fill_104 : decode cX1_fill 104 = .ok (.getfield 15, 3) := by decide +kernel
theorem dX1_fill_107 : decode cX1_fill 107 = .ok (.iconst 4, 1) := by decide +kernel
theorem dX1_fill_108 : decode cX1_fill 108 = .ok (.iload_n 3, 1) := by decide +kernel
theorem dX1_fill_109 : decode cX1_fill 109 = .ok (.imul, 1) := by decide +kernel
theorem dX1_fill_110 : decode cX1_fill 110 = .ok (.iload 5, 2) := by decide +kernel
theorem dX1_fill_112 : decode cX1_fill 112 = .ok (.iadd, 1) := by decide +kernel
theorem dX1_fill_113 : decode cX1_fill 113 = .ok (.iload 6, 2) := by decide +kernel
theorem dX1_fill_115 : decode cX1_fill 115 = .ok (.iastore, 1) := by decide +kernel
theorem dX1_fill_116 : decode cX1_fill 116 = .ok (.iinc 5 1, 3) := by decide +kernel
theorem dX1_fill_119 : decode cX1_fill 119 = .ok (.goto (-65), 3) := by decide +kernel
theorem dX1_fill_122 : decode cX1_fill 122 = .ok (.iinc 3 1, 3) := by decide +kernel
theorem dX1_fill_125 : decode cX1_fill 125 = .ok (.goto (-110), 3) := by decide +kernel
theorem dX1_fill_128 : decode cX1_fill 128 = .ok (.return_, 1) := by decide +kernel
theorem dX1_drawerFor_0 : decode cX1_drawerFor 0 = .ok (.iconst 0, 1) := by decide +kernel
theorem dX1_drawerFor_1 : decode cX1_drawerFor 1 = .ok (.istore_n 2, 1) := by decide +kernel
theorem dX1_drawerFor_2 : decode cX1_drawerFor 2 = .ok (.iload_n 2, 1) := by decide +kernel
theorem dX1_drawerFor_3 : decode cX1_drawerFor 3 = .ok (.aload_n 0, 1) := by decide +kernel
theorem dX1_drawerFor_4 : decode cX1_drawerFor 4 = .ok (.getfield 34, 3) := by decide +kernel
theorem dX1_drawerFor_7 : decode cX1_drawerFor 7 = .ok (.if_icmp .ge 19, 3) := by decide +kernel
theorem dX1_drawerFor_10 : decode cX1_drawerFor 10 = .ok (.aload_n 0, 1) := by decide +kernel
theorem dX1_drawerFor_11 : decode cX1_drawerFor 11 = .ok (.getfield 18, 3) := by decide +kernel
theorem dX1_drawerFor_14 : decode cX1_drawerFor 14 = .ok (.iload_n 2, 1) := by decide +kernel
theorem dX1_drawerFor_15 : decode cX1_drawerFor 15 = .ok (.iaload, 1) := by decide +kernel
theorem dX1_drawerFor_16 : decode cX1_drawerFor 16 = .ok (.iload_n 1, 1) := by decide +kernel
theorem dX1_drawerFor_17 : decode cX1_drawerFor 17 = .ok (.if_icmp .eq 9, 3) := by decide +kernel
theorem dX1_drawerFor_20 : decode cX1_drawerFor 20 = .ok (.iinc 2 1, 3) := by decide +kernel
theorem dX1_drawerFor_23 : decode cX1_drawerFor 23 = .ok (.goto (-21), 3) := by decide +kernel
theorem dX1_drawerFor_26 : decode cX1_drawerFor 26 = .ok (.iload_n 2, 1) := by decide +kernel
theorem dX1_drawerFor_27 : decode cX1_drawerFor 27 = .ok (.aload_n 0, 1) := by decide +kernel
theorem dX1_drawerFor_28 : decode cX1_drawerFor 28 = .ok (.getfield 34, 3) := by decide +kernel
theorem dX1_drawerFor_31 : decode cX1_drawerFor 31 = .ok (.if_icmp .ne 33, 3) := by decide +kernel
theorem dX1_drawerFor_34 : decode cX1_drawerFor 34 = .ok (.iload_n 2, 1) := by decide +kernel
theorem dX1_drawerFor_35 : decode cX1_drawerFor 35 = .ok (.bipush 96, 2) := by decide +kernel
theorem dX1_drawerFor_37 : decode cX1_drawerFor 37 = .ok (.if_icmp .ge 27, 3) := by decide +kernel
theorem dX1_drawerFor_40 : decode cX1_drawerFor 40 = .ok (.aload_n 0, 1) := by decide +kernel
theorem dX1_drawerFor_41 : decode cX1_drawerFor 41 = .ok (.dup, 1) := by decide +kernel
theorem dX1_drawerFor_42 : decode cX1_drawerFor 42 = .ok (.getfield 34, 3) := by decide +kernel
theorem dX1_drawerFor_45 : decode cX1_drawerFor 45 = .ok (.iconst 1, 1) := by decide +kernel
theorem dX1_drawerFor_46 : decode cX1_drawerFor 46 = .ok (.iadd, 1) := by decide +kernel
theorem dX1_drawerFor_47 : decode cX1_drawerFor 47 = .ok (.putfield 34, 3) := by decide +kernel
theorem dX1_drawerFor_50 : decode cX1_drawerFor 50 = .ok (.aload_n 0, 1) := by decide +kernel
theorem dX1_drawerFor_51 : decode cX1_drawerFor 51 = .ok (.getfield 18, 3) := by decide +kernel
theorem dX1_drawerFor_54 : decode cX1_drawerFor 54 = .ok (.iload_n 2, 1) := by decide +kernel
theorem dX1_drawerFor_55 : decode cX1_drawerFor 55 = .ok (.iload_n 1, 1) := by decide +kernel
theorem dX1_drawerFor_56 : decode cX1_drawerFor 56 = .ok (.iastore, 1) := by decide +kernel
theorem dX1_drawerFor_57 : decode cX1_drawerFor 57 = .ok (.aload_n 0, 1) := by decide +kernel
theorem dX1_drawerFor_58 : decode cX1_drawerFor 58 = .ok (.getfield 21, 3) := by decide +kernel
theorem dX1_drawerFor_61 : decode cX1_drawerFor 61 = .ok (.iload_n 2, 1) := by decide +kernel
theorem dX1_drawerFor_62 : decode cX1_drawerFor 62 = .ok (.iconst 0, 1) := by decide +kernel
theorem dX1_drawerFor_63 : decode cX1_drawerFor 63 = .ok (.iastore, 1) := by decide +kernel
theorem dX1_drawerFor_64 : decode cX1_drawerFor 64 = .ok (.iload_n 2, 1) := by decide +kernel
theorem dX1_drawerFor_65 : decode cX1_drawerFor 65 = .ok (.ireturn, 1) := by decide +kernel
theorem dX1_codesOf_0 : decode cX1_codesOf 0 = .ok (.iload_n 1, 1) := by decide +kernel
theorem dX1_codesOf_1 : decode cX1_codesOf 1 = .ok (.ifCond .lt 20, 3) := by decide +kernel
theorem dX1_codesOf_4 : decode cX1_codesOf 4 = .ok (.iload_n 1, 1) := by decide +kernel
theorem dX1_codesOf_5 : decode cX1_codesOf 5 = .ok (.aload_n 0, 1) := by decide +kernel
theorem dX1_codesOf_6 : decode cX1_codesOf 6 = .ok (.getfield 33, 3) := by decide +kernel
theorem dX1_codesOf_9 : decode cX1_codesOf 9 = .ok (.if_icmp .ge 12, 3) := by decide +kernel
theorem dX1_codesOf_12 : decode cX1_codesOf 12 = .ok (.aload_n 0, 1) := by decide +kernel
theorem dX1_codesOf_13 : decode cX1_codesOf 13 = .ok (.getfield 9, 3) := by decide +kernel
theorem dX1_codesOf_16 : decode cX1_codesOf 16 = .ok (.iload_n 1, 1) := by decide +kernel
theorem dX1_codesOf_17 : decode cX1_codesOf 17 = .ok (.iaload, 1) := by decide +kernel
theorem dX1_codesOf_18 : decode cX1_codesOf 18 = .ok (.goto 4, 3) := by decide +kernel
theorem dX1_codesOf_21 : decode cX1_codesOf 21 = .ok (.iconst 0, 1) := by decide +kernel
theorem dX1_codesOf_22 : decode cX1_codesOf 22 = .ok (.ireturn, 1) := by decide +kernel
set_option maxRecDepth 20000 in
theorem ggX1_drawerOf_X1_codesOf : GoodIn wsX1_drawerOf wsX1_codesOf := goodIn_r _ [6, 7, 8, 9, 10, 11, 12, 13, 14, 15] (by decide +kernel) (by decide +kernel)
set_option maxRecDepth 20000 in
theorem gX1_drawerOf_X1_codesOf : GoodIn wsX1_drawerOf (wsV RX1 54 RX1 yX1_codesOf wsX1_codesOf) := goodIn_app (goodIn_of _ (by decide +kernel)) ggX1_drawerOf_X1_codesOf
theorem dX1_drawerOf_0 : decode cX1_drawerOf 0 = .ok (.iload_n 2, 1) := by decide +kernel
theorem dX1_drawerOf_1 : decode cX1_drawerOf 1 = .ok (.ifCond .lt 25, 3) := by decide +kernel
theorem dX1_drawerOf_4 : decode cX1_drawerOf 4 = .ok (.iload_n 2, 1) := by decide +kernel
theorem dX1_drawerOf_5 : decode cX1_drawerOf 5 = .ok (.aload_n 0, 1) := by decide +kernel
theorem dX1_drawerOf_6 : decode cX1_drawerOf 6 = .ok (.iload_n 1, 1) := by decide +kernel
theorem dX1_drawerOf_7 : decode cX1_drawerOf 7 = .ok (.invokevirtual 54, 3) := by decide +kernel
theorem dX1_drawerOf_10 : decode cX1_drawerOf 10 = .ok (.if_icmp .ge 16, 3) := by decide +kernel
theorem dX1_drawerOf_13 : decode cX1_drawerOf 13 = .ok (.aload_n 0, 1) := by decide +kernel
theorem dX1_drawerOf_14 : decode cX1_drawerOf 14 = .ok (.getfield 15, 3) := by decide +kernel
theorem dX1_drawerOf_17 : decode cX1_drawerOf 17 = .ok (.iconst 4, 1) := by decide +kernel
theorem dX1_drawerOf_18 : decode cX1_drawerOf 18 = .ok (.iload_n 1, 1) := by decide +kernel
theorem dX1_drawerOf_19 : decode cX1_drawerOf 19 = .ok (.imul, 1) := by decide +kernel
theorem dX1_drawerOf_20 : decode cX1_drawerOf 20 = .ok (.iload_n 2, 1) := by decide +kernel
theorem dX1_drawerOf_21 : decode cX1_drawerOf 21 = .ok (.iadd, 1) := by decide +kernel
theorem dX1_drawerOf_22 : decode cX1_drawerOf 22 = .ok (.iaload, 1) := by decide +kernel
theorem dX1_drawerOf_23 : decode cX1_drawerOf 23 = .ok (.goto 4, 3) := by decide +kernel
theorem dX1_drawerOf_26 : decode cX1_drawerOf 26 = .ok (.iconst 0, 1) := by decide +kernel
theorem dX1_drawerOf_27 : decode cX1_drawerOf 27 = .ok (.ireturn, 1) := by decide +kernel
theorem dX1_codeAt_0 : decode cX1_codeAt 0 = .ok (.iload_n 1, 1) := by decide +kernel
theorem dX1_codeAt_1 : decode cX1_codeAt 1 = .ok (.ifCond .lt 20, 3) := by decide +kernel
theorem dX1_codeAt_4 : decode cX1_codeAt 4 = .ok (.iload_n 1, 1) := by decide +kernel
theorem dX1_codeAt_5 : decode cX1_codeAt 5 = .ok (.aload_n 0, 1) := by decide +kernel
theorem dX1_codeAt_6 : decode cX1_codeAt 6 = .ok (.getfield 34, 3) := by decide +kernel
theorem dX1_codeAt_9 : decode cX1_codeAt 9 = .ok (.if_icmp .ge 12, 3) := by decide +kernel
theorem dX1_codeAt_12 : decode cX1_codeAt 12 = .ok (.aload_n 0, 1) := by decide +kernel
theorem dX1_codeAt_13 : decode cX1_codeAt 13 = .ok (.getfield 18, 3) := by decide +kernel
theorem dX1_codeAt_16 : decode cX1_codeAt 16 = .ok (.iload_n 1, 1) := by decide +kernel
theorem dX1_codeAt_17 : decode cX1_codeAt 17 = .ok (.iaload, 1) := by decide +kernel
theorem dX1_codeAt_18 : decode cX1_codeAt 18 = .ok (.goto 4, 3) := by decide +kernel
theorem dX1_codeAt_21 : decode cX1_codeAt 21 = .ok (.iconst 0, 1) := by decide +kernel
theorem dX1_codeAt_22 : decode cX1_codeAt 22 = .ok (.ireturn, 1) := by decide +kernel
theorem dX1_namesAt_0 : decode cX1_namesAt 0 = .ok (.iload_n 1, 1) := by decide +kernel
theorem dX1_namesAt_1 : decode cX1_namesAt 1 = .ok (.ifCond .lt 20, 3) := by decide +kernel
theorem dX1_namesAt_4 : decode cX1_namesAt 4 = .ok (.iload_n 1, 1) := by decide +kernel
theorem dX1_namesAt_5 : decode cX1_namesAt 5 = .ok (.aload_n 0, 1) := by decide +kernel
theorem dX1_namesAt_6 : decode cX1_namesAt 6 = .ok (.getfield 34, 3) := by decide +kernel
theorem dX1_namesAt_9 : decode cX1_namesAt 9 = .ok (.if_icmp .ge 12, 3) := by decide +kernel
theorem dX1_namesAt_12 : decode cX1_namesAt 12 = .ok (.aload_n 0, 1) := by decide +kernel
theorem dX1_namesAt_13 : decode cX1_namesAt 13 = .ok (.getfield 21, 3) := by decide +kernel
theorem dX1_namesAt_16 : decode cX1_namesAt 16 = .ok (.iload_n 1, 1) := by decide +kernel
theorem dX1_namesAt_17 : decode cX1_namesAt 17 = .ok (.iaload, 1) := by decide +kernel
theorem dX1_namesAt_18 : decode cX1_namesAt 18 = .ok (.goto 4, 3) := by decide +kernel
theorem dX1_namesAt_21 : decode cX1_namesAt 21 = .ok (.iconst 0, 1) := by decide +kernel
theorem dX1_namesAt_22 : decode cX1_namesAt 22 = .ok (.ireturn, 1) := by decide +kernel
theorem dX1_byCode_0 : decode cX1_byCode 0 = .ok (.iconst 0, 1) := by decide +kernel
theorem dX1_byCode_1 : decode cX1_byCode 1 = .ok (.istore_n 2, 1) := by decide +kernel
theorem dX1_byCode_2 : decode cX1_byCode 2 = .ok (.iload_n 2, 1) := by decide +kernel
theorem dX1_byCode_3 : decode cX1_byCode 3 = .ok (.aload_n 0, 1) := by decide +kernel
theorem dX1_byCode_4 : decode cX1_byCode 4 = .ok (.getfield 34, 3) := by decide +kernel
theorem dX1_byCode_7 : decode cX1_byCode 7 = .ok (.if_icmp .ge 55, 3) := by decide +kernel
theorem dX1_byCode_10 : decode cX1_byCode 10 = .ok (.iconst 0, 1) := by decide +kernel
theorem dX1_byCode_11 : decode cX1_byCode 11 = .ok (.istore_n 3, 1) := by decide +kernel
theorem dX1_byCode_12 : decode cX1_byCode 12 = .ok (.iconst 0, 1) := by decide +kernel
theorem dX1_byCode_13 : decode cX1_byCode 13 = .ok (.istore 4, 2) := by decide +kernel
theorem dX1_byCode_15 : decode cX1_byCode 15 = .ok (.iload 4, 2) := by decide +kernel
theorem dX1_byCode_17 : decode cX1_byCode 17 = .ok (.aload_n 0, 1) := by decide +kernel
theorem dX1_byCode_18 : decode cX1_byCode 18 = .ok (.getfield 34, 3) := by decide +kernel
theorem dX1_byCode_21 : decode cX1_byCode 21 = .ok (.if_icmp .ge 28, 3) := by decide +kernel
theorem dX1_byCode_24 : decode cX1_byCode 24 = .ok (.aload_n 0, 1) := by decide +kernel
theorem dX1_byCode_25 : decode cX1_byCode 25 = .ok (.getfield 18, 3) := by decide +kernel
theorem dX1_byCode_28 : decode cX1_byCode 28 = .ok (.iload 4, 2) := by decide +kernel
theorem dX1_byCode_30 : decode cX1_byCode 30 = .ok (.iaload, 1) := by decide +kernel
theorem dX1_byCode_31 : decode cX1_byCode 31 = .ok (.aload_n 0, 1) := by decide +kernel
theorem dX1_byCode_32 : decode cX1_byCode 32 = .ok (.getfield 18, 3) := by decide +kernel
theorem dX1_byCode_35 : decode cX1_byCode 35 = .ok (.iload_n 2, 1) := by decide +kernel
theorem dX1_byCode_36 : decode cX1_byCode 36 = .ok (.iaload, 1) := by decide +kernel
theorem dX1_byCode_37 : decode cX1_byCode 37 = .ok (.if_icmp .ge 6, 3) := by decide +kernel
theorem dX1_byCode_40 : decode cX1_byCode 40 = .ok (.iinc 3 1, 3) := by decide +kernel
theorem dX1_byCode_43 : decode cX1_byCode 43 = .ok (.iinc 4 1, 3) := by decide +kernel
theorem dX1_byCode_46 : decode cX1_byCode 46 = .ok (.goto (-31), 3) := by decide +kernel
theorem dX1_byCode_49 : decode cX1_byCode 49 = .ok (.iload_n 3, 1) := by decide +kernel
theorem dX1_byCode_50 : decode cX1_byCode 50 = .ok (.iload_n 1, 1) := by decide +kernel
theorem dX1_byCode_51 : decode cX1_byCode 51 = .ok (.if_icmp .ne 5, 3) := by decide +kernel
theorem dX1_byCode_54 : decode cX1_byCode 54 = .ok (.iload_n 2, 1) := by decide +kernel
theorem dX1_byCode_55 : decode cX1_byCode 55 = .ok (.ireturn, 1) := by decide +kernel
theorem dX1_byCode_56 : decode cX1_byCode 56 = .ok (.iinc 2 1, 3) := by decide +kernel
theorem dX1_byCode_59 : decode cX1_byCode 59 = .ok (.goto (-57), 3) := by decide +kernel
theorem dX1_byCode_62 : decode cX1_byCode 62 = .ok (.bipush (-6), 2) := by decide +kernel
theorem dX1_byCode_64 : decode cX1_byCode 64 = .ok (.ireturn, 1) := by decide +kernel
set_option maxRecDepth 20000 in
theorem ggX1_namesInFullest_J6_bitCount_0f7a4 : GoodIn wsX1_namesInFullest wsJ6_bitCount_0f7a4 := goodIn_r _ [10, 11, 12, 13] (by decide +kernel) (by decide +kernel)
set_option maxRecDepth 20000 in
theorem gX1_namesInFullest_J6_bitCount_0f7a4 : GoodIn wsX1_namesInFullest (va_wsS RX1 57 yJ6_bitCount_0f7a4 wsJ6_bitCount_0f7a4) := goodIn_app (goodIn_of _ (by decide +kernel)) ggX1_namesInFullest_J6_bitCount_0f7a4
theorem dX1_namesInFullest_0 : decode cX1_namesInFullest 0 = .ok (.iconst 0, 1) := by decide +kernel
theorem dX1_namesInFullest_1 : decode cX1_namesInFullest 1 = .ok (.istore_n 1, 1) := by decide +kernel
theorem dX1_namesInFullest_2 : decode cX1_namesInFullest 2 = .ok (.iconst 0, 1) := by decide +kernel
theorem dX1_namesInFullest_3 : decode cX1_namesInFullest 3 = .ok (.istore_n 2, 1) := by decide +kernel
theorem dX1_namesInFullest_4 : decode cX1_namesInFullest 4 = .ok (.iload_n 2, 1) := by decide +kernel
theorem dX1_namesInFullest_5 : decode cX1_namesInFullest 5 = .ok (.aload_n 0, 1) := by decide +kernel
theorem dX1_namesInFullest_6 : decode cX1_namesInFullest 6 = .ok (.getfield 34, 3) := by decide +kernel
theorem dX1_namesInFullest_9 : decode cX1_namesInFullest 9 = .ok (.if_icmp .ge 23, 3) := by decide +kernel
theorem dX1_namesInFullest_12 : decode cX1_namesInFullest 12 = .ok (.iload_n 1, 1) := by decide +kernel
theorem dX1_namesInFullest_13 : decode cX1_namesInFullest 13 = .ok (.aload_n 0, 1) := by decide +kernel
theorem dX1_namesInFullest_14 : decode cX1_namesInFullest 14 = .ok (.getfield 21, 3) := by decide +kernel
theorem dX1_namesInFullest_17 : decode cX1_namesInFullest 17 = .ok (.iload_n 2, 1) := by decide +kernel
theorem dX1_namesInFullest_18 : decode cX1_namesInFullest 18 = .ok (.iaload, 1) := by decide +kernel
theorem dX1_namesInFullest_19 : decode cX1_namesInFullest 19 = .ok (.invokestatic 57, 3) := by decide +kernel
theorem dX1_namesInFullest_22 : decode cX1_namesInFullest 22 = .ok (.invokestatic 62, 3) := by decide +kernel
theorem dX1_namesInFullest_25 : decode cX1_namesInFullest 25 = .ok (.istore_n 1, 1) := by decide +kernel
theorem dX1_namesInFullest_26 : decode cX1_namesInFullest 26 = .ok (.iinc 2 1, 3) := by decide +kernel
theorem dX1_namesInFullest_29 : decode cX1_namesInFullest 29 = .ok (.goto (-25), 3) := by decide +kernel
theorem dX1_namesInFullest_32 : decode cX1_namesInFullest 32 = .ok (.iload_n 1, 1) := by decide +kernel
theorem dX1_namesInFullest_33 : decode cX1_namesInFullest 33 = .ok (.ireturn, 1) := by decide +kernel
theorem dX1_namesInSeveral_0 : decode cX1_namesInSeveral 0 = .ok (.iconst 0, 1) := by decide +kernel
theorem dX1_namesInSeveral_1 : decode cX1_namesInSeveral 1 = .ok (.istore_n 1, 1) := by decide +kernel
theorem dX1_namesInSeveral_2 : decode cX1_namesInSeveral 2 = .ok (.iconst 0, 1) := by decide +kernel
theorem dX1_namesInSeveral_3 : decode cX1_namesInSeveral 3 = .ok (.istore_n 2, 1) := by decide +kernel
theorem dX1_namesInSeveral_4 : decode cX1_namesInSeveral 4 = .ok (.iload_n 2, 1) := by decide +kernel
theorem dX1_namesInSeveral_5 : decode cX1_namesInSeveral 5 = .ok (.aload_n 0, 1) := by decide +kernel
theorem dX1_namesInSeveral_6 : decode cX1_namesInSeveral 6 = .ok (.getfield 33, 3) := by decide +kernel
theorem dX1_namesInSeveral_9 : decode cX1_namesInSeveral 9 = .ok (.if_icmp .ge 25, 3) := by decide +kernel
theorem dX1_namesInSeveral_12 : decode cX1_namesInSeveral 12 = .ok (.aload_n 0, 1) := by decide +kernel
theorem dX1_namesInSeveral_13 : decode cX1_namesInSeveral 13 = .ok (.getfield 9, 3) := by decide +kernel
theorem dX1_namesInSeveral_16 : decode cX1_namesInSeveral 16 = .ok (.iload_n 2, 1) := by decide +kernel
theorem dX1_namesInSeveral_17 : decode cX1_namesInSeveral 17 = .ok (.iaload, 1) := by decide +kernel
theorem dX1_namesInSeveral_18 : decode cX1_namesInSeveral 18 = .ok (.iconst 1, 1) := by decide +kernel
theorem dX1_namesInSeveral_19 : decode cX1_namesInSeveral 19 = .ok (.if_icmp .le 9, 3) := by decide +kernel
theorem dX1_namesInSeveral_22 : decode cX1_namesInSeveral 22 = .ok (.iload_n 1, 1) := by decide +kernel
theorem dX1_namesInSeveral_23 : decode cX1_namesInSeveral 23 = .ok (.iconst 1, 1) := by decide +kernel
theorem dX1_namesInSeveral_24 : decode cX1_namesInSeveral 24 = .ok (.iload_n 2, 1) := by decide +kernel
theorem dX1_namesInSeveral_25 : decode cX1_namesInSeveral 25 = .ok (.ishl, 1) := by decide +kernel
theorem dX1_namesInSeveral_26 : decode cX1_namesInSeveral 26 = .ok (.ior, 1) := by decide +kernel
theorem dX1_namesInSeveral_27 : decode cX1_namesInSeveral 27 = .ok (.istore_n 1, 1) := by decide +kernel
theorem dX1_namesInSeveral_28 : decode cX1_namesInSeveral 28 = .ok (.iinc 2 1, 3) := by decide +kernel
theorem dX1_namesInSeveral_31 : decode cX1_namesInSeveral 31 = .ok (.goto (-27), 3) := by decide +kernel
theorem dX1_namesInSeveral_34 : decode cX1_namesInSeveral 34 = .ok (.iload_n 1, 1) := by decide +kernel
theorem dX1_namesInSeveral_35 : decode cX1_namesInSeveral 35 = .ok (.ireturn, 1) := by decide +kernel
set_option maxRecDepth 20000 in
theorem ggX1_namesLike_X1_codesOf : GoodIn wsX1_namesLike wsX1_codesOf := goodIn_r _ [5, 6, 7, 19, 20, 21, 22, 23, 24, 25] (by decide +kernel) (by decide +kernel)
set_option maxRecDepth 20000 in
theorem gX1_namesLike_X1_codesOf : GoodIn wsX1_namesLike (wsV RX1 54 RX1 yX1_codesOf wsX1_codesOf) := goodIn_app (goodIn_of _ (by decide +kernel)) ggX1_namesLike_X1_codesOf
set_option maxRecDepth 20000 in
theorem ggX1_namesLike_X1_drawerOf : GoodIn wsX1_namesLike wsX1_drawerOf := goodIn_r _ [11, 12, 1, 2, 3, 4, 5, 6, 7, 19, 20, 21, 22, 23, 24, 25] (by decide +kernel) (by decide +kernel)
set_option maxRecDepth 20000 in
theorem gX1_namesLike_X1_drawerOf : GoodIn wsX1_namesLike (wsV RX1 68 RX1 yX1_drawerOf wsX1_drawerOf) := goodIn_app (goodIn_of _ (by decide +kernel)) ggX1_namesLike_X1_drawerOf
set_option maxRecDepth 20000 in
theorem ggX1_namesLike_X1_namesAt : GoodIn wsX1_namesLike wsX1_namesAt := goodIn_r _ [16, 17, 18, 19, 20, 21, 22, 23, 24, 25] (by decide +kernel) (by decide +kernel)
set_option maxRecDepth 20000 in
theorem gX1_namesLike_X1_namesAt : GoodIn wsX1_namesLike (wsV RX1 71 RX1 yX1_namesAt wsX1_namesAt) := goodIn_app (goodIn_of _ (by decide +kernel)) ggX1_namesLike_X1_namesAt
theorem dX1_namesLike_0 : decode cX1_namesLike 0 = .ok (.iconst 0, 1) := by decide +kernel
theorem dX1_namesLike_1 : decode cX1_namesLike 1 = .ok (.istore_n 2, 1) := by decide +kernel
theorem dX1_namesLike_2 : decode cX1_namesLike 2 = .ok (.aload_n 0, 1) := by decide +kernel
theorem dX1_namesLike_3 : decode cX1_namesLike 3 = .ok (.iload_n 1, 1) := by decide +kernel
theorem dX1_namesLike_4 : decode cX1_namesLike 4 = .ok (.invokevirtual 54, 3) := by decide +kernel
theorem dX1_namesLike_7 : decode cX1_namesLike 7 = .ok (.istore_n 3, 1) := by decide +kernel
theorem dX1_namesLike_8 : decode cX1_namesLike 8 = .ok (.iconst 0, 1) := by decide +kernel
theorem dX1_namesLike_9 : decode cX1_namesLike 9 = .ok (.istore 4, 2) := by decide +kernel
theorem dX1_namesLike_11 : decode cX1_namesLike 11 = .ok (.iload 4, 2) := by decide +kernel
theorem dX1_namesLike_13 : decode cX1_namesLike 13 = .ok (.iload_n 3, 1) := by decide +kernel
theorem dX1_namesLike_14 : decode cX1_namesLike 14 = .ok (.if_icmp .ge 23, 3) := by decide +kernel
theorem dX1_namesLike_17 : decode cX1_namesLike 17 = .ok (.iload_n 2, 1) := by decide +kernel
theorem dX1_namesLike_18 : decode cX1_namesLike 18 = .ok (.aload_n 0, 1) := by decide +kernel
theorem dX1_namesLike_19 : decode cX1_namesLike 19 = .ok (.aload_n 0, 1) := by decide +kernel
theorem dX1_namesLike_20 : decode cX1_namesLike 20 = .ok (.iload_n 1, 1) := by decide +kernel
theorem dX1_namesLike_21 : decode cX1_namesLike 21 = .ok (.iload 4, 2) := by decide +kernel
theorem dX1_namesLike_23 : decode cX1_namesLike 23 = .ok (.invokevirtual 68, 3) := by decide +kernel
theorem dX1_namesLike_26 : decode cX1_namesLike 26 = .ok (.invokevirtual 71, 3) := by decide +kernel
theorem dX1_namesLike_29 : decode cX1_namesLike 29 = .ok (.ior, 1) := by decide +kernel
theorem dX1_namesLike_30 : decode cX1_namesLike 30 = .ok (.istore_n 2, 1) := by decide +kernel
theorem dX1_namesLike_31 : decode cX1_namesLike 31 = .ok (.iinc 4 1, 3) := by decide +kernel
theorem dX1_namesLike_34 : decode cX1_namesLike 34 = .ok (.goto (-23), 3) := by decide +kernel
theorem dX1_namesLike_37 : decode cX1_namesLike 37 = .ok (.iload_n 2, 1) := by decide +kernel
theorem dX1_namesLike_38 : decode cX1_namesLike 38 = .ok (.ireturn, 1) := by decide +kernel
set_option maxRecDepth 20000 in
theorem ggX1_namesHeardLike_X2_writeCodes : GoodIn wsX1_namesHeardLike wsX2_writeCodes := goodIn_r _ [10, 11, 12, 13, 9, 14, 15, 16, 17, 18, 19, 20, 21, 22, 23, 24, 25, 26, 27, 28, 29, 30, 31, 32, 33, 34, 35, 36, 37, 51, 52, 53, 54, 55, 56, 57, 58] (by decide +kernel) (by decide +kernel)
set_option maxRecDepth 20000 in
theorem gX1_namesHeardLike_X2_writeCodes : GoodIn wsX1_namesHeardLike (wsV RX1 44 RX2 yX2_writeCodes wsX2_writeCodes) := goodIn_app (goodIn_of _ (by decide +kernel)) ggX1_namesHeardLike_X2_writeCodes
theorem dX1_namesHeardLike_0 : decode cX1_namesHeardLike 0 = .ok (.aload 4, 2) := by decide +kernel
theorem dX1_namesHeardLike_2 : decode cX1_namesHeardLike 2 = .ok (.lload_n 1, 1) := by decide +kernel
theorem dX1_namesHeardLike_3 : decode cX1_namesHeardLike 3 = .ok (.aload_n 3, 1) := by decide +kernel
theorem dX1_namesHeardLike_4 : decode cX1_namesHeardLike 4 = .ok (.getfield 41, 3) := by decide +kernel
theorem dX1_namesHeardLike_7 : decode cX1_namesHeardLike 7 = .ok (.aload_n 0, 1) := by decide +kernel
theorem dX1_namesHeardLike_8 : decode cX1_namesHeardLike 8 = .ok (.getfield 24, 3) := by decide +kernel
theorem dX1_namesHeardLike_11 : decode cX1_namesHeardLike 11 = .ok (.invokevirtual 44, 3) := by decide +kernel
theorem dX1_namesHeardLike_14 : decode cX1_namesHeardLike 14 = .ok (.istore 5, 2) := by decide +kernel
theorem dX1_namesHeardLike_16 : decode cX1_namesHeardLike 16 = .ok (.iconst 0, 1) := by decide +kernel
theorem dX1_namesHeardLike_17 : decode cX1_namesHeardLike 17 = .ok (.istore 6, 2) := by decide +kernel
theorem dX1_namesHeardLike_19 : decode cX1_namesHeardLike 19 = .ok (.iconst 0, 1) := by decide +kernel
theorem dX1_namesHeardLike_20 : decode cX1_namesHeardLike 20 = .ok (.istore 7, 2) := by decide +kernel
theorem dX1_namesHeardLike_22 : decode cX1_namesHeardLike 22 = .ok (.iload 7, 2) := by decide +kernel
theorem dX1_namesHeardLike_24 : decode cX1_namesHeardLike 24 = .ok (.aload_n 0, 1) := by decide +kernel
theorem dX1_namesHeardLike_25 : decode cX1_namesHeardLike 25 = .ok (.getfield 34, 3) := by decide +kernel
theorem dX1_namesHeardLike_28 : decode cX1_namesHeardLike 28 = .ok (.if_icmp .ge 64, 3) := by decide +kernel
theorem dX1_namesHeardLike_31 : decode cX1_namesHeardLike 31 = .ok (.iconst 0, 1) := by decide +kernel
theorem dX1_namesHeardLike_32 : decode cX1_namesHeardLike 32 = .ok (.istore 8, 2) := by decide +kernel
theorem dX1_namesHeardLike_34 : decode cX1_namesHeardLike 34 = .ok (.iload 8, 2) := by decide +kernel
theorem dX1_namesHeardLike_36 : decode cX1_namesHeardLike 36 = .ok (.iload 5, 2) := by decide +kernel
theorem dX1_namesHeardLike_38 : decode cX1_namesHeardLike 38 = .ok (.if_icmp .ge 48, 3) := by decide +kernel
theorem dX1_namesHeardLike_41 : decode cX1_namesHeardLike 41 = .ok (.iload 8, 2) := by decide +kernel
theorem dX1_namesHeardLike_43 : decode cX1_namesHeardLike 43 = .ok (.aload_n 0, 1) := by decide +kernel
theorem dX1_namesHeardLike_44 : decode cX1_namesHeardLike 44 = .ok (.getfield 24, 3) := by decide +kernel
theorem dX1_namesHeardLike_47 : decode cX1_namesHeardLike 47 = .ok (.arraylength, 1) := by decide +kernel
theorem dX1_namesHeardLike_48 : decode cX1_namesHeardLike 48 = .ok (.if_icmp .ge 38, 3) := by decide +kernel
theorem dX1_namesHeardLike_51 : decode cX1_namesHeardLike 51 = .ok (.aload_n 0, 1) := by decide +kernel
theorem dX1_namesHeardLike_52 : decode cX1_namesHeardLike 52 = .ok (.getfield 24, 3) := by decide +kernel
theorem dX1_namesHeardLike_55 : decode cX1_namesHeardLike 55 = .ok (.iload 8, 2) := by decide +kernel
theorem dX1_namesHeardLike_57 : decode cX1_namesHeardLike 57 = .ok (.iaload, 1) := by decide +kernel
theorem dX1_namesHeardLike_58 : decode cX1_namesHeardLike 58 = .ok (.aload_n 0, 1) := by decide +kernel
theorem dX1_namesHeardLike_59 : decode cX1_namesHeardLike 59 = .ok (.getfield 18, 3) := by decide +kernel
theorem dX1_namesHeardLike_62 : decode cX1_namesHeardLike 62 = .ok (.iload 7, 2) := by decide +kernel
theorem dX1_namesHeardLike_64 : decode cX1_namesHeardLike 64 = .ok (.iaload, 1) := by decide +kernel
theorem dX1_namesHeardLike_65 : decode cX1_namesHeardLike 65 = .ok (.if_icmp .ne 15, 3) := by decide +kernel
theorem dX1_namesHeardLike_68 : decode cX1_namesHeardLike 68 = .ok (.iload 6, 2) := by decide +kernel
theorem dX1_namesHeardLike_70 : decode cX1_namesHeardLike 70 = .ok (.aload_n 0, 1) := by decide +kernel
theorem dX1_namesHeardLike_71 : decode cX1_namesHeardLike 71 = .ok (.getfield 21, 3) := by decide +kernel
theorem dX1_namesHeardLike_74 : decode cX1_namesHeardLike 74 = .ok (.iload 7, 2) := by decide +kernel
theorem dX1_namesHeardLike_76 : decode cX1_namesHeardLike 76 = .ok (.iaload, 1) := by decide +kernel
theorem dX1_namesHeardLike_77 : decode cX1_namesHeardLike 77 = .ok (.ior, 1) := by decide +kernel
theorem dX1_namesHeardLike_78 : decode cX1_namesHeardLike 78 = .ok (.istore 6, 2) := by decide +kernel
theorem dX1_namesHeardLike_80 : decode cX1_namesHeardLike 80 = .ok (.iinc 8 1, 3) := by decide +kernel
theorem dX1_namesHeardLike_83 : decode cX1_namesHeardLike 83 = .ok (.goto (-49), 3) := by decide +kernel
theorem dX1_namesHeardLike_86 : decode cX1_namesHeardLike 86 = .ok (.iinc 7 1, 3) := by decide +kernel
theorem dX1_namesHeardLike_89 : decode cX1_namesHeardLike 89 = .ok (.goto (-67), 3) := by decide +kernel
theorem dX1_namesHeardLike_92 : decode cX1_namesHeardLike 92 = .ok (.iload 6, 2) := by decide +kernel
theorem dX1_namesHeardLike_94 : decode cX1_namesHeardLike 94 = .ok (.ireturn, 1) := by decide +kernel
set_option maxRecDepth 20000 in
theorem ggX1_alikePairs_X1_namesLike : GoodIn wsX1_alikePairs wsX1_namesLike := goodIn_r _ [6, 7, 8, 9, 5, 10, 1, 11, 12, 13, 14, 15, 16, 17, 18, 19, 20, 21, 22, 30, 31, 32, 33, 34, 35, 36] (by decide +kernel) (by decide +kernel)
set_option maxRecDepth 20000 in
theorem gX1_alikePairs_X1_namesLike : GoodIn wsX1_alikePairs (wsV RX1 74 RX1 yX1_namesLike wsX1_namesLike) := goodIn_app (goodIn_of _ (by decide +kernel)) ggX1_alikePairs_X1_namesLike
set_option maxRecDepth 20000 in
theorem ggX1_alikePairs_J6_bitCount_0f7a4 : GoodIn wsX1_alikePairs wsJ6_bitCount_0f7a4 := goodIn_r _ [26, 27, 28, 29] (by decide +kernel) (by decide +kernel)
set_option maxRecDepth 20000 in
theorem gX1_alikePairs_J6_bitCount_0f7a4 : GoodIn wsX1_alikePairs (va_wsS RX1 57 yJ6_bitCount_0f7a4 wsJ6_bitCount_0f7a4) := goodIn_app (goodIn_of _ (by decide +kernel)) ggX1_alikePairs_J6_bitCount_0f7a4
theorem dX1_alikePairs_0 : decode cX1_alikePairs 0 = .ok (.iconst 0, 1) := by decide +kernel
theorem dX1_alikePairs_1 : decode cX1_alikePairs 1 = .ok (.istore_n 1, 1) := by decide +kernel
theorem dX1_alikePairs_2 : decode cX1_alikePairs 2 = .ok (.iconst 0, 1) := by decide +kernel
theorem dX1_alikePairs_3 : decode cX1_alikePairs 3 = .ok (.istore_n 2, 1) := by decide +kernel
theorem dX1_alikePairs_4 : decode cX1_alikePairs 4 = .ok (.iload_n 2, 1) := by decide +kernel
theorem dX1_alikePairs_5 : decode cX1_alikePairs 5 = .ok (.aload_n 0, 1) := by decide +kernel
theorem dX1_alikePairs_6 : decode cX1_alikePairs 6 = .ok (.getfield 33, 3) := by decide +kernel
theorem dX1_alikePairs_9 : decode cX1_alikePairs 9 = .ok (.if_icmp .ge 22, 3) := by decide +kernel
theorem dX1_alikePairs_12 : decode cX1_alikePairs 12 = .ok (.iload_n 1, 1) := by decide +kernel
theorem dX1_alikePairs_13 : decode cX1_alikePairs 13 = .ok (.aload_n 0, 1) := by decide +kernel
theorem dX1_alikePairs_14 : decode cX1_alikePairs 14 = .ok (.iload_n 2, 1) := by decide +kernel
theorem dX1_alikePairs_15 : decode cX1_alikePairs 15 = .ok (.invokevirtual 74, 3) := by decide +kernel
theorem dX1_alikePairs_18 : decode cX1_alikePairs 18 = .ok (.invokestatic 57, 3) := by decide +kernel
theorem dX1_alikePairs_21 : decode cX1_alikePairs 21 = .ok (.iconst 1, 1) := by decide +kernel
theorem dX1_alikePairs_22 : decode cX1_alikePairs 22 = .ok (.isub, 1) := by decide +kernel
theorem dX1_alikePairs_23 : decode cX1_alikePairs 23 = .ok (.iadd, 1) := by decide +kernel
theorem dX1_alikePairs_24 : decode cX1_alikePairs 24 = .ok (.istore_n 1, 1) := by decide +kernel
theorem dX1_alikePairs_25 : decode cX1_alikePairs 25 = .ok (.iinc 2 1, 3) := by decide +kernel
theorem dX1_alikePairs_28 : decode cX1_alikePairs 28 = .ok (.goto (-24), 3) := by decide +kernel
theorem dX1_alikePairs_31 : decode cX1_alikePairs 31 = .ok (.iload_n 1, 1) := by decide +kernel
theorem dX1_alikePairs_32 : decode cX1_alikePairs 32 = .ok (.iconst 2, 1) := by decide +kernel
theorem dX1_alikePairs_33 : decode cX1_alikePairs 33 = .ok (.idiv, 1) := by decide +kernel
theorem dX1_alikePairs_34 : decode cX1_alikePairs 34 = .ok (.ireturn, 1) := by decide +kernel
set_option maxRecDepth 20000 in
theorem ggX2_init_X2_beAsAtFirst : GoodIn wsX2_init wsX2_beAsAtFirst := goodIn_r _ [15, 5, 16, 6, 17, 18, 19, 20, 21, 22, 23, 24, 25, 26] (by decide +kernel) (by decide +kernel)
set_option maxRecDepth 20000 in
theorem gX2_init_X2_beAsAtFirst : GoodIn wsX2_init (wsV RX2 30 RX2 yX2_beAsAtFirst wsX2_beAsAtFirst) := goodIn_app (goodIn_of _ (by decide +kernel)) ggX2_init_X2_beAsAtFirst
theorem dX2_init_0 : decode cX2_init 0 = .ok (.aload_n 0, 1) := by decide +kernel
theorem dX2_init_1 : decode cX2_init 1 = .ok (.invokespecial 3, 3) := by decide +kernel
theorem dX2_init_4 : decode cX2_init 4 = .ok (.aload_n 0, 1) := by decide +kernel
theorem dX2_init_5 : decode cX2_init 5 = .ok (.bipush 26, 2) := by decide +kernel
theorem dX2_init_7 : decode cX2_init 7 = .ok (.newarray .int, 2) := by decide +kernel
theorem dX2_init_9 : decode cX2_init 9 = .ok (.putfield 9, 3) := by decide +kernel
theorem dX2_init_12 : decode cX2_init 12 = .ok (.aload_n 0, 1) := by decide +kernel
theorem dX2_init_13 : decode cX2_init 13 = .ok (.bipush 26, 2) := by decide +kernel
theorem dX2_init_15 : decode cX2_init 15 = .ok (.newarray .int, 2) := by decide +kernel
theorem dX2_init_17 : decode cX2_init 17 = .ok (.putfield 15, 3) := by decide +kernel
theorem dX2_init_20 : decode cX2_init 20 = .ok (.aload_n 0, 1) := by decide +kernel
theorem dX2_init_21 : decode cX2_init 21 = .ok (.bipush 6, 2) := by decide +kernel
theorem dX2_init_23 : decode cX2_init 23 = .ok (.newarray .int, 2) := by decide +kernel
theorem dX2_init_25 : decode cX2_init 25 = .ok (.putfield 18, 3) := by decide +kernel
theorem dX2_init_28 : decode cX2_init 28 = .ok (.aload_n 0, 1) := by decide +kernel
theorem dX2_init_29 : decode cX2_init 29 = .ok (.bipush 6, 2) := by decide +kernel
theorem dX2_init_31 : decode cX2_init 31 = .ok (.newarray .int, 2) := by decide +kernel
theorem dX2_init_33 : decode cX2_init 33 = .ok (.putfield 21, 3) := by decide +kernel
theorem dX2_init_36 : decode cX2_init 36 = .ok (.aload_n 0, 1) := by decide +kernel
theorem dX2_init_37 : decode cX2_init 37 = .ok (.bipush 6, 2) := by decide +kernel
theorem dX2_init_39 : decode cX2_init 39 = .ok (.newarray .int, 2) := by decide +kernel
theorem dX2_init_41 : decode cX2_init 41 = .ok (.putfield 24, 3) := by decide +kernel
theorem dX2_init_44 : decode cX2_init 44 = .ok (.aload_n 0, 1) := by decide +kernel
theorem dX2_init_45 : decode cX2_init 45 = .ok (.bipush 6, 2) := by decide +kernel
theorem dX2_init_47 : decode cX2_init 47 = .ok (.newarray .int, 2) := by decide +kernel
theorem dX2_init_49 : decode cX2_init 49 = .ok (.putfield 27, 3) := by decide +kernel
theorem dX2_init_52 : decode cX2_init 52 = .ok (.aload_n 0, 1) := by decide +kernel
theorem dX2_init_53 : decode cX2_init 53 = .ok (.invokevirtual 30, 3) := by decide +kernel
theorem dX2_init_56 : decode cX2_init 56 = .ok (.return_, 1) := by decide +kernel
theorem dX2_beAsAtFirst_0 : decode cX2_beAsAtFirst 0 = .ok (.iconst 0, 1) := by decide +kernel
theorem dX2_beAsAtFirst_1 : decode cX2_beAsAtFirst 1 = .ok (.istore_n 1, 1) := by decide +kernel
theorem dX2_beAsAtFirst_2 : decode cX2_beAsAtFirst 2 = .ok (.iload_n 1, 1) := by decide +kernel
theorem dX2_beAsAtFirst_3 : decode cX2_beAsAtFirst 3 = .ok (.bipush 26, 2) := by decide +kernel
theorem dX2_beAsAtFirst_5 : decode cX2_beAsAtFirst 5 = .ok (.if_icmp .ge 28, 3) := by decide +kernel
theorem dX2_beAsAtFirst_8 : decode cX2_beAsAtFirst 8 = .ok (.aload_n 0, 1) := by decide +kernel
theorem dX2_beAsAtFirst_9 : decode cX2_beAsAtFirst 9 = .ok (.getfield 9, 3) := by decide +kernel
theorem dX2_beAsAtFirst_12 : decode cX2_beAsAtFirst 12 = .ok (.iload_n 1, 1) := by decide +kernel
theorem dX2_beAsAtFirst_13 : decode cX2_beAsAtFirst 13 = .ok (.getstatic 33, 3) := by decide +kernel
theorem dX2_beAsAtFirst_16 : decode cX2_beAsAtFirst 16 = .ok (.iload_n 1, 1) := by decide +kernel
theorem dX2_beAsAtFirst_17 : decode cX2_beAsAtFirst 17 = .ok (.iaload, 1) := by decide +kernel
theorem dX2_beAsAtFirst_18 : decode cX2_beAsAtFirst 18 = .ok (.iastore, 1) := by decide +kernel
theorem dX2_beAsAtFirst_19 : decode cX2_beAsAtFirst 19 = .ok (.aload_n 0, 1) := by decide +kernel
theorem dX2_beAsAtFirst_20 : decode cX2_beAsAtFirst 20 = .ok (.getfield 15, 3) := by decide +kernel
theorem dX2_beAsAtFirst_23 : decode cX2_beAsAtFirst 23 = .ok (.iload_n 1, 1) := by decide +kernel
theorem dX2_beAsAtFirst_24 : decode cX2_beAsAtFirst 24 = .ok (.bipush (-6), 2) := by decide +kernel
theorem dX2_beAsAtFirst_26 : decode cX2_beAsAtFirst 26 = .ok (.iastore, 1) := by decide +kernel
theorem dX2_beAsAtFirst_27 : decode cX2_beAsAtFirst 27 = .ok (.iinc 1 1, 3) := by decide +kernel
theorem dX2_beAsAtFirst_30 : decode cX2_beAsAtFirst 30 = .ok (.goto (-28), 3) := by decide +kernel
theorem dX2_beAsAtFirst_33 : decode cX2_beAsAtFirst 33 = .ok (.aload_n 0, 1) := by decide +kernel
theorem dX2_beAsAtFirst_34 : decode cX2_beAsAtFirst 34 = .ok (.iconst 0, 1) := by decide +kernel
theorem dX2_beAsAtFirst_35 : decode cX2_beAsAtFirst 35 = .ok (.putfield 36, 3) := by decide +kernel
theorem dX2_beAsAtFirst_38 : decode cX2_beAsAtFirst 38 = .ok (.aload_n 0, 1) := by decide +kernel
theorem dX2_beAsAtFirst_39 : decode cX2_beAsAtFirst 39 = .ok (.iconst 0, 1) := by decide +kernel
theorem dX2_beAsAtFirst_40 : decode cX2_beAsAtFirst 40 = .ok (.putfield 40, 3) := by decide +kernel
theorem dX2_beAsAtFirst_43 : decode cX2_beAsAtFirst 43 = .ok (.return_, 1) := by decide +kernel
theorem dX2_beAs_0 : decode cX2_beAs 0 = .ok (.aload_n 1, 1) := by decide +kernel
theorem dX2_beAs_1 : decode cX2_beAs 1 = .ok (.getfield 9, 3) := by decide +kernel
theorem dX2_beAs_4 : decode cX2_beAs 4 = .ok (.iconst 0, 1) := by decide +kernel
theorem dX2_beAs_5 : decode cX2_beAs 5 = .ok (.aload_n 0, 1) := by decide +kernel
theorem dX2_beAs_6 : decode cX2_beAs 6 = .ok (.getfield 9, 3) := by decide +kernel
theorem dX2_beAs_9 : decode cX2_beAs 9 = .ok (.iconst 0, 1) := by decide +kernel
theorem dX2_beAs_10 : decode cX2_beAs 10 = .ok (.bipush 26, 2) := by decide +kernel
theorem dX2_beAs_12 : decode cX2_beAs 12 = .ok (.invokestatic 43, 3) := by decide +kernel
theorem dX2_beAs_15 : decode cX2_beAs 15 = .ok (.aload_n 1, 1) := by decide +kernel
theorem dX2_beAs_16 : decode cX2_beAs 16 = .ok (.getfield 15, 3) := by decide +kernel
theorem dX2_beAs_19 : decode cX2_beAs 19 = .ok (.iconst 0, 1) := by decide +kernel
theorem dX2_beAs_20 : decode cX2_beAs 20 = .ok (.aload_n 0, 1) := by decide +kernel
theorem dX2_beAs_21 : decode cX2_beAs 21 = .ok (.getfield 15, 3) := by decide +kernel
theorem dX2_beAs_24 : decode cX2_beAs 24 = .ok (.iconst 0, 1) := by decide +kernel
theorem dX2_beAs_25 : decode cX2_beAs 25 = .ok (.bipush 26, 2) := by decide +kernel
theorem dX2_beAs_27 : decode cX2_beAs 27 = .ok (.invokestatic 43, 3) := by decide +kernel
theorem dX2_beAs_30 : decode cX2_beAs 30 = .ok (.aload_n 0, 1) := by decide +kernel
theorem dX2_beAs_31 : decode cX2_beAs 31 = .ok (.aload_n 1, 1) := by decide +kernel
theorem dX2_beAs_32 : decode cX2_beAs 32 = .ok (.getfield 36, 3) := by decide +kernel
theorem dX2_beAs_35 : decode cX2_beAs 35 = .ok (.putfield 36, 3) := by decide +kernel
theorem dX2_beAs_38 : decode cX2_beAs 38 = .ok (.aload_n 0, 1) := by decide +kernel
theorem dX2_beAs_39 : decode cX2_beAs 39 = .ok (.aload_n 1, 1) := by decide +kernel
theorem dX2_beAs_40 : decode cX2_beAs 40 = .ok (.getfield 40, 3) := by decide +kernel
theorem dX2_beAs_43 : decode cX2_beAs 43 = .ok (.putfield 40, 3) := by decide +kernel
theorem dX2_beAs_46 : decode cX2_beAs 46 = .ok (.aload_n 1, 1) := by decide +kernel
theorem dX2_beAs_47 : decode cX2_beAs 47 = .ok (.getfield 18, 3) := by decide +kernel
theorem dX2_beAs_50 : decode cX2_beAs 50 = .ok (.iconst 0, 1) := by decide +kernel
theorem dX2_beAs_51 : decode cX2_beAs 51 = .ok (.aload_n 0, 1) := by decide +kernel
theorem dX2_beAs_52 : decode cX2_beAs 52 = .ok (.getfield 18, 3) := by decide +kernel
theorem dX2_beAs_55 : decode cX2_beAs 55 = .ok (.iconst 0, 1) := by decide +kernel
theorem dX2_beAs_56 : decode cX2_beAs 56 = .ok (.bipush 6, 2) := by decide +kernel
theorem dX2_beAs_58 : decode cX2_beAs 58 = .ok (.invokestatic 43, 3) := by decide +kernel
theorem dX2_beAs_61 : decode cX2_beAs 61 = .ok (.aload_n 1, 1) := by decide +kernel
theorem dX2_beAs_62 : decode cX2_beAs 62 = .ok (.getfield 21, 3) := by decide +kernel
theorem dX2_beAs_65 : decode cX2_beAs 65 = .ok (.iconst 0, 1) := by decide +kernel
theorem dX2_beAs_66 : decode cX2_beAs 66 = .ok (.aload_n 0, 1) := by decide +kernel
theorem dX2_beAs_67 : decode cX2_beAs 67 = .ok (.getfield 21, 3) := by decide +kernel
theorem dX2_beAs_70 : decode cX2_beAs 70 = .ok (.iconst 0, 1) := by decide +kernel
theorem dX2_beAs_71 : decode cX2_beAs 71 = .ok (.bipush 6, 2) := by decide +kernel
theorem dX2_beAs_73 : decode cX2_beAs 73 = .ok (.invokestatic 43, 3) := by decide +kernel
theorem dX2_beAs_76 : decode cX2_beAs 76 = .ok (.aload_n 1, 1) := by decide +kernel
theorem dX2_beAs_77 : decode cX2_beAs 77 = .ok (.getfield 24, 3) := by decide +kernel
theorem dX2_beAs_80 : decode cX2_beAs 80 = .ok (.iconst 0, 1) := by decide +kernel
theorem dX2_beAs_81 : decode cX2_beAs 81 = .ok (.aload_n 0, 1) := by decide +kernel
theorem dX2_beAs_82 : decode cX2_beAs 82 = .ok (.getfield 24, 3) := by decide +kernel
theorem dX2_beAs_85 : decode cX2_beAs 85 = .ok (.iconst 0, 1) := by decide +kernel
theorem dX2_beAs_86 : decode cX2_beAs 86 = .ok (.bipush 6, 2) := by decide +kernel
theorem dX2_beAs_88 : decode cX2_beAs 88 = .ok (.invokestatic 43, 3) := by decide +kernel
theorem dX2_beAs_91 : decode cX2_beAs 91 = .ok (.aload_n 1, 1) := by decide +kernel
theorem dX2_beAs_92 : decode cX2_beAs 92 = .ok (.getfield 27, 3) := by decide +kernel
theorem dX2_beAs_95 : decode cX2_beAs 95 = .ok (.iconst 0, 1) := by decide +kernel
theorem dX2_beAs_96 : decode cX2_beAs 96 = .ok (.aload_n 0, 1) := by decide +kernel
theorem dX2_beAs_97 : decode cX2_beAs 97 = .ok (.getfield 27, 3) := by decide +kernel
theorem dX2_beAs_100 : decode cX2_beAs 100 = .ok (.iconst 0, 1) := by decide +kernel
theorem dX2_beAs_101 : decode cX2_beAs 101 = .ok (.bipush 6, 2) := by decide +kernel
theorem dX2_beAs_103 : decode cX2_beAs 103 = .ok (.invokestatic 43, 3) := by decide +kernel
theorem dX2_beAs_106 : decode cX2_beAs 106 = .ok (.return_, 1) := by decide +kernel
theorem dX2_loseSameSecond_0 : decode cX2_loseSameSecond 0 = .ok (.aload_n 0, 1) := by decide +kernel
theorem dX2_loseSameSecond_1 : decode cX2_loseSameSecond 1 = .ok (.getfield 15, 3) := by decide +kernel
theorem dX2_loseSameSecond_4 : decode cX2_loseSameSecond 4 = .ok (.iload_n 1, 1) := by decide +kernel
theorem dX2_loseSameSecond_5 : decode cX2_loseSameSecond 5 = .ok (.iaload, 1) := by decide +kernel
theorem dX2_loseSameSecond_6 : decode cX2_loseSameSecond 6 = .ok (.aload_n 0, 1) := by decide +kernel
theorem dX2_loseSameSecond_7 : decode cX2_loseSameSecond 7 = .ok (.getfield 9, 3) := by decide +kernel
theorem dX2_loseSameSecond_10 : decode cX2_loseSameSecond 10 = .ok (.iload_n 1, 1) := by decide +kernel
theorem dX2_loseSameSecond_11 : decode cX2_loseSameSecond 11 = .ok (.iaload, 1) := by decide +kernel
theorem dX2_loseSameSecond_12 : decode cX2_loseSameSecond 12 = .ok (.if_icmp .ne 11, 3) := by decide +kernel
theorem dX2_loseSameSecond_15 : decode cX2_loseSameSecond 15 = .ok (.aload_n 0, 1) := by decide +kernel
theorem dX2_loseSameSecond_16 : decode cX2_loseSameSecond 16 = .ok (.getfield 15, 3) := by decide +kernel
theorem dX2_loseSameSecond_19 : decode cX2_loseSameSecond 19 = .ok (.iload_n 1, 1) := by decide +kernel
theorem dX2_loseSameSecond_20 : decode cX2_loseSameSecond 20 = .ok (.bipush (-6), 2) := by decide +kernel
theorem dX2_loseSameSecond_22 : decode cX2_loseSameSecond 22 = .ok (.iastore, 1) := by decide +kernel
theorem dX2_loseSameSecond_23 : decode cX2_loseSameSecond 23 = .ok (.return_, 1) := by decide +kernel
theorem dX2_lettersOf_0 : decode cX2_lettersOf 0 = .ok (.iconst 0, 1) := by decide +kernel
theorem dX2_lettersOf_1 : decode cX2_lettersOf 1 = .ok (.istore_n 2, 1) := by decide +kernel
theorem dX2_lettersOf_2 : decode cX2_lettersOf 2 = .ok (.iconst 0, 1) := by decide +kernel
theorem dX2_lettersOf_3 : decode cX2_lettersOf 3 = .ok (.istore_n 3, 1) := by decide +kernel
theorem dX2_lettersOf_4 : decode cX2_lettersOf 4 = .ok (.iload_n 3, 1) := by decide +kernel
theorem dX2_lettersOf_5 : decode cX2_lettersOf 5 = .ok (.bipush 26, 2) := by decide +kernel
