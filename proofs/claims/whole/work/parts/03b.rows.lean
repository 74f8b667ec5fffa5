theorem dX0_with_0 : decode cX0_with 0 = .ok (.iload_n 0, 1) := by decide +kernel
theorem dX0_with_1 : decode cX0_with 1 = .ok (.bipush 6, 2) := by decide +kernel
theorem dX0_with_3 : decode cX0_with 3 = .ok (.ishl, 1) := by decide +kernel
theorem dX0_with_4 : decode cX0_with 4 = .ok (.iload_n 1, 1) := by decide +kernel
theorem dX0_with_5 : decode cX0_with 5 = .ok (.ior, 1) := by decide +kernel
theorem dX0_with_6 : decode cX0_with 6 = .ok (.ireturn, 1) := by decide +kernel
theorem dX0_size_0 : decode cX0_size 0 = .ok (.iconst 0, 1) := by decide +kernel
theorem dX0_size_1 : decode cX0_size 1 = .ok (.istore_n 1, 1) := by decide +kernel
theorem dX0_size_2 : decode cX0_size 2 = .ok (.iload_n 1, 1) := by decide +kernel
theorem dX0_size_3 : decode cX0_size 3 = .ok (.iconst 5, 1) := by decide +kernel
theorem dX0_size_4 : decode cX0_size 4 = .ok (.if_icmp .ge 18, 3) := by decide +kernel
theorem dX0_size_7 : decode cX0_size 7 = .ok (.iload_n 0, 1) := by decide +kernel
theorem dX0_size_8 : decode cX0_size 8 = .ok (.bipush 6, 2) := by decide +kernel
theorem dX0_size_10 : decode cX0_size 10 = .ok (.iload_n 1, 1) := by decide +kernel
theorem dX0_size_11 : decode cX0_size 11 = .ok (.imul, 1) := by decide +kernel
theorem dX0_size_12 : decode cX0_size 12 = .ok (.iushr, 1) := by decide +kernel
theorem dX0_size_13 : decode cX0_size 13 = .ok (.ifCond .eq 9, 3) := by decide +kernel
theorem dX0_size_16 : decode cX0_size 16 = .ok (.iinc 1 1, 3) := by decide +kernel
theorem dX0_size_19 : decode cX0_size 19 = .ok (.goto (-17), 3) := by decide +kernel
theorem dX0_size_22 : decode cX0_size 22 = .ok (.iload_n 1, 1) := by decide +kernel
theorem dX0_size_23 : decode cX0_size 23 = .ok (.ireturn, 1) := by decide +kernel
set_option maxRecDepth 20000 in
theorem ggX0_numberAt_X0_size : GoodIn wsX0_numberAt wsX0_size := goodIn_r _ [4] (by decide +kernel) (by decide +kernel)
set_option maxRecDepth 20000 in
theorem gX0_numberAt_X0_size : GoodIn wsX0_numberAt (va_wsS RX0 11 yX0_size wsX0_size) := goodIn_app (goodIn_of _ (by decide +kernel)) ggX0_numberAt_X0_size
theorem dX0_numberAt_0 : decode cX0_numberAt 0 = .ok (.iload_n 0, 1) := by decide +kernel
theorem dX0_numberAt_1 : decode cX0_numberAt 1 = .ok (.invokestatic 11, 3) := by decide +kernel
theorem dX0_numberAt_4 : decode cX0_numberAt 4 = .ok (.iconst 1, 1) := by decide +kernel
theorem dX0_numberAt_5 : decode cX0_numberAt 5 = .ok (.isub, 1) := by decide +kernel
theorem dX0_numberAt_6 : decode cX0_numberAt 6 = .ok (.iload_n 1, 1) := by decide +kernel
theorem dX0_numberAt_7 : decode cX0_numberAt 7 = .ok (.isub, 1) := by decide +kernel
theorem dX0_numberAt_8 : decode cX0_numberAt 8 = .ok (.istore_n 2, 1) := by decide +kernel
theorem dX0_numberAt_9 : decode cX0_numberAt 9 = .ok (.iload_n 2, 1) := by decide +kernel
theorem dX0_numberAt_10 : decode cX0_numberAt 10 = .ok (.ifCond .lt 15, 3) := by decide +kernel
theorem dX0_numberAt_13 : decode cX0_numberAt 13 = .ok (.iload_n 0, 1) := by decide +kernel
theorem dX0_numberAt_14 : decode cX0_numberAt 14 = .ok (.bipush 6, 2) := by decide +kernel
theorem dX0_numberAt_16 : decode cX0_numberAt 16 = .ok (.iload_n 2, 1) := by decide +kernel
theorem dX0_numberAt_17 : decode cX0_numberAt 17 = .ok (.imul, 1) := by decide +kernel
theorem dX0_numberAt_18 : decode cX0_numberAt 18 = .ok (.iushr, 1) := by decide +kernel
theorem dX0_numberAt_19 : decode cX0_numberAt 19 = .ok (.bipush 63, 2) := by decide +kernel
theorem dX0_numberAt_21 : decode cX0_numberAt 21 = .ok (.iand, 1) := by decide +kernel
theorem dX0_numberAt_22 : decode cX0_numberAt 22 = .ok (.goto 4, 3) := by decide +kernel
theorem dX0_numberAt_25 : decode cX0_numberAt 25 = .ok (.iconst 0, 1) := by decide +kernel
theorem dX0_numberAt_26 : decode cX0_numberAt 26 = .ok (.ireturn, 1) := by decide +kernel
theorem dX1_init_0 : decode cX1_init 0 = .ok (.aload_n 0, 1) := by decide +kernel
theorem dX1_init_1 : decode cX1_init 1 = .ok (.invokespecial 3, 3) := by decide +kernel
theorem dX1_init_4 : decode cX1_init 4 = .ok (.aload_n 0, 1) := by decide +kernel
theorem dX1_init_5 : decode cX1_init 5 = .ok (.bipush 24, 2) := by decide +kernel
theorem dX1_init_7 : decode cX1_init 7 = .ok (.newarray .int, 2) := by decide +kernel
theorem dX1_init_9 : decode cX1_init 9 = .ok (.putfield 9, 3) := by decide +kernel
theorem dX1_init_12 : decode cX1_init 12 = .ok (.aload_n 0, 1) := by decide +kernel
theorem dX1_init_13 : decode cX1_init 13 = .ok (.bipush 96, 2) := by decide +kernel
theorem dX1_init_15 : decode cX1_init 15 = .ok (.newarray .int, 2) := by decide +kernel
theorem dX1_init_17 : decode cX1_init 17 = .ok (.putfield 15, 3) := by decide +kernel
theorem dX1_init_20 : decode cX1_init 20 = .ok (.aload_n 0, 1) := by decide +kernel
theorem dX1_init_21 : decode cX1_init 21 = .ok (.bipush 96, 2) := by decide +kernel
theorem dX1_init_23 : decode cX1_init 23 = .ok (.newarray .int, 2) := by decide +kernel
theorem dX1_init_25 : decode cX1_init 25 = .ok (.putfield 18, 3) := by decide +kernel
theorem dX1_init_28 : decode cX1_init 28 = .ok (.aload_n 0, 1) := by decide +kernel
theorem dX1_init_29 : decode cX1_init 29 = .ok (.bipush 96, 2) := by decide +kernel
theorem dX1_init_31 : decode cX1_init 31 = .ok (.newarray .int, 2) := by decide +kernel
theorem dX1_init_33 : decode cX1_init 33 = .ok (.putfield 21, 3) := by decide +kernel
theorem dX1_init_36 : decode cX1_init 36 = .ok (.aload_n 0, 1) := by decide +kernel
theorem dX1_init_37 : decode cX1_init 37 = .ok (.iconst 4, 1) := by decide +kernel
theorem dX1_init_38 : decode cX1_init 38 = .ok (.newarray .int, 2) := by decide +kernel
theorem dX1_init_40 : decode cX1_init 40 = .ok (.putfield 24, 3) := by decide +kernel
theorem dX1_init_43 : decode cX1_init 43 = .ok (.return_, 1) := by decide +kernel
set_option maxRecDepth 20000 in
theorem ggX1_fill_X2_writeCodes : GoodIn wsX1_fill wsX2_writeCodes := goodIn_r _ [14, 15, 16, 17, 13, 18, 19, 20, 21, 22, 23, 24, 25, 26, 27, 28, 29, 30, 31, 32, 33, 34, 35, 36, 37, 38, 39, 40, 41, 61, 62, 63, 64, 65, 66, 67, 68] (by decide +kernel) (by decide +kernel)
set_option maxRecDepth 20000 in
theorem gX1_fill_X2_writeCodes : GoodIn wsX1_fill (wsV RX1 44 RX2 yX2_writeCodes wsX2_writeCodes) := goodIn_app (goodIn_of _ (by decide +kernel)) ggX1_fill_X2_writeCodes
set_option maxRecDepth 20000 in
theorem ggX1_fill_X1_drawerFor : GoodIn wsX1_fill wsX1_drawerFor := goodIn_r _ [46, 3, 47, 8, 54, 55, 56, 57, 58, 59, 60] (by decide +kernel) (by decide +kernel)
set_option maxRecDepth 20000 in
theorem gX1_fill_X1_drawerFor : GoodIn wsX1_fill (wsV RX1 50 RX1 yX1_drawerFor wsX1_drawerFor) := goodIn_app (goodIn_of _ (by decide +kernel)) ggX1_fill_X1_drawerFor
theorem dX1_fill_0 : decode cX1_fill 0 = .ok (.aload_n 0, 1) := by decide +kernel
theorem dX1_fill_1 : decode cX1_fill 1 = .ok (.aload_n 1, 1) := by decide +kernel
theorem dX1_fill_2 : decode cX1_fill 2 = .ok (.getfield 27, 3) := by decide +kernel
theorem dX1_fill_5 : decode cX1_fill 5 = .ok (.putfield 33, 3) := by decide +kernel
theorem dX1_fill_8 : decode cX1_fill 8 = .ok (.aload_n 0, 1) := by decide +kernel
theorem dX1_fill_9 : decode cX1_fill 9 = .ok (.iconst 0, 1) := by decide +kernel
theorem dX1_fill_10 : decode cX1_fill 10 = .ok (.putfield 34, 3) := by decide +kernel
theorem dX1_fill_13 : decode cX1_fill 13 = .ok (.iconst 0, 1) := by decide +kernel
theorem dX1_fill_14 : decode cX1_fill 14 = .ok (.istore_n 3, 1) := by decide +kernel
theorem dX1_fill_15 : decode cX1_fill 15 = .ok (.iload_n 3, 1) := by decide +kernel
theorem dX1_fill_16 : decode cX1_fill 16 = .ok (.aload_n 0, 1) := by decide +kernel
theorem dX1_fill_17 : decode cX1_fill 17 = .ok (.getfield 33, 3) := by decide +kernel
theorem dX1_fill_20 : decode cX1_fill 20 = .ok (.if_icmp .ge 108, 3) := by decide +kernel
theorem dX1_fill_23 : decode cX1_fill 23 = .ok (.aload_n 2, 1) := by decide +kernel
theorem dX1_fill_24 : decode cX1_fill 24 = .ok (.aload_n 1, 1) := by decide +kernel
theorem dX1_fill_25 : decode cX1_fill 25 = .ok (.getfield 37, 3) := by decide +kernel
theorem dX1_fill_28 : decode cX1_fill 28 = .ok (.iload_n 3, 1) := by decide +kernel
theorem dX1_fill_29 : decode cX1_fill 29 = .ok (.laload, 1) := by decide +kernel
theorem dX1_fill_30 : decode cX1_fill 30 = .ok (.aload_n 1, 1) := by decide +kernel
theorem dX1_fill_31 : decode cX1_fill 31 = .ok (.getfield 41, 3) := by decide +kernel
theorem dX1_fill_34 : decode cX1_fill 34 = .ok (.aload_n 0, 1) := by decide +kernel
theorem dX1_fill_35 : decode cX1_fill 35 = .ok (.getfield 24, 3) := by decide +kernel
theorem dX1_fill_38 : decode cX1_fill 38 = .ok (.invokevirtual 44, 3) := by decide +kernel
theorem dX1_fill_41 : decode cX1_fill 41 = .ok (.istore 4, 2) := by decide +kernel
theorem dX1_fill_43 : decode cX1_fill 43 = .ok (.aload_n 0, 1) := by decide +kernel
theorem dX1_fill_44 : decode cX1_fill 44 = .ok (.getfield 9, 3) := by decide +kernel
theorem dX1_fill_47 : decode cX1_fill 47 = .ok (.iload_n 3, 1) := by decide +kernel
theorem dX1_fill_48 : decode cX1_fill 48 = .ok (.iload 4, 2) := by decide +kernel
theorem dX1_fill_50 : decode cX1_fill 50 = .ok (.iastore, 1) := by decide +kernel
theorem dX1_fill_51 : decode cX1_fill 51 = .ok (.iconst 0, 1) := by decide +kernel
theorem dX1_fill_52 : decode cX1_fill 52 = .ok (.istore 5, 2) := by decide +kernel
theorem dX1_fill_54 : decode cX1_fill 54 = .ok (.iload 5, 2) := by decide +kernel
theorem dX1_fill_56 : decode cX1_fill 56 = .ok (.iload 4, 2) := by decide +kernel
theorem dX1_fill_58 : decode cX1_fill 58 = .ok (.if_icmp .ge 64, 3) := by decide +kernel
theorem dX1_fill_61 : decode cX1_fill 61 = .ok (.iload 5, 2) := by decide +kernel
theorem dX1_fill_63 : decode cX1_fill 63 = .ok (.iconst 4, 1) := by decide +kernel
theorem dX1_fill_64 : decode cX1_fill 64 = .ok (.if_icmp .ge 58, 3) := by decide +kernel
theorem dX1_fill_67 : decode cX1_fill 67 = .ok (.aload_n 0, 1) := by decide +kernel
theorem dX1_fill_68 : decode cX1_fill 68 = .ok (.aload_n 0, 1) := by decide +kernel
theorem dX1_fill_69 : decode cX1_fill 69 = .ok (.getfield 24, 3) := by decide +kernel
theorem dX1_fill_72 : decode cX1_fill 72 = .ok (.iload 5, 2) := by decide +kernel
theorem dX1_fill_74 : decode cX1_fill 74 = .ok (.iaload, 1) := by decide +kernel
theorem dX1_fill_75 : decode cX1_fill 75 = .ok (.invokevirtual 50, 3) := by decide +kernel
theorem dX1_fill_78 : decode cX1_fill 78 = .ok (.istore 6, 2) := by decide +kernel
theorem dX1_fill_80 : decode cX1_fill 80 = .ok (.iload 6, 2) := by decide +kernel
theorem dX1_fill_82 : decode cX1_fill 82 = .ok (.bipush 96, 2) := by decide +kernel
theorem dX1_fill_84 : decode cX1_fill 84 = .ok (.if_icmp .lt 6, 3) := by decide +kernel
theorem dX1_fill_87 : decode cX1_fill 87 = .ok (.goto 29, 3) := by decide +kernel
theorem dX1_fill_90 : decode cX1_fill 90 = .ok (.aload_n 0, 1) := by decide +kernel
theorem dX1_fill_91 : decode cX1_fill 91 = .ok (.getfield 21, 3) := by decide +kernel
theorem dX1_fill_94 : decode cX1_fill 94 = .ok (.iload 6, 2) := by decide +kernel
theorem dX1_fill_96 : decode cX1_fill 96 = .ok (.dup2, 1) := by decide +kernel
theorem dX1_fill_97 : decode cX1_fill 97 = .ok (.iaload, 1) := by decide +kernel
theorem dX1_fill_98 : decode cX1_fill 98 = .ok (.iconst 1, 1) := by decide +kernel
theorem dX1_fill_99 : decode cX1_fill 99 = .ok (.iload_n 3, 1) := by decide +kernel
theorem dX1_fill_100 : decode cX1_fill 100 = .ok (.ishl, 1) := by decide +kernel
theorem dX1_fill_101 : decode cX1_fill 101 = .ok (.ior, 1) := by decide +kernel
theorem dX1_fill_102 : decode cX1_fill 102 = .ok (.iastore, 1) := by decide +kernel
theorem dX1_fill_103 : decode cX1_fill 103 = .ok (.aload_n 0, 1) := by decide +kernel
theorem dX1_fill_104 : decode cX1_fill 104 = .ok (.getfield 15, 3) := by decide +kernel
theorem dX1_fill_107 : decode cX1_fill 107 = .ok (.iconst 4, 1) := by decide +kernel
theorem dX1_fill_108 : decode cX1_fill 108 = .ok (.iload_n 3, 1) := by decide +kernel
theorem dX1_fill_109 : decode cX1_fill 109 = .ok (.imul, 1) := by decide +kernel
theorem dX1_fill_110 : decode cX1_fill 110 = .ok (.iload 5, 2) := by decide +kernel
theorem dX1_fill_112 : decode cX1_fill 112 = .ok (.iadd, 1) := by decide +kernel
theorem dX1_fill_113 : decode cX1_fill 113 = .ok (.iload 6, 2) := by decide +kernel
theorem dX1_fill_115 : decode cX1_fill 115 = .ok (.iastore, 1) := by decide +kernel
theorem dX1_fill_116 : decode cX1_fill 116 = .ok (.iinc 5 1, 3) := by decide +kernel
theorem dX1_fill_119 : decode cX1_fill 119 = .ok (.goto (-65), 3) := by decide +kernel
theorem dX1_fill_122 : decode cX1_fill 122 = .ok (.iinc 3 1, 3) := by decide +kernel
theorem dX1_fill_125 : decode cX1_fill 125 = .ok (.goto (-110), 3) := by decide +kernel
theorem dX1_fill_128 : decode cX1_fill 128 = .ok (.return_, 1) := by decide +kernel
theorem dX1_drawerFor_0 : decode cX1_drawerFor 0 = .ok (.iconst 0, 1) := by decide +kernel
theorem dX1_drawerFor_1 : decode cX1_drawerFor 1 = .ok (.istore_n 2, 1) := by decide +kernel
theorem dX1_drawerFor_2 : decode cX1_drawerFor 2 = .ok (.iload_n 2, 1) := by decide +kernel
theorem dX1_drawerFor_3 : decode cX1_drawerFor 3 = .ok (.aload_n 0, 1) := by decide +kernel
theorem dX1_drawerFor_4 : decode cX1_drawerFor 4 = .ok (.getfield 34, 3) := by decide +kernel
theorem dX1_drawerFor_7 : decode cX1_drawerFor 7 = .ok (.if_icmp .ge 19, 3) := by decide +kernel
theorem dX1_drawerFor_10 : decode cX1_drawerFor 10 = .ok (.aload_n 0, 1) := by decide +kernel
theorem dX1_drawerFor_11 : decode cX1_drawerFor 11 = .ok (.getfield 18, 3) := by decide +kernel
theorem dX1_drawerFor_14 : decode cX1_drawerFor 14 = .ok (.iload_n 2, 1) := by decide +kernel
theorem dX1_drawerFor_15 : decode cX1_drawerFor 15 = .ok (.iaload, 1) := by decide +kernel
theorem dX1_drawerFor_16 : decode cX1_drawerFor 16 = .ok (.iload_n 1, 1) := by decide +kernel
theorem dX1_drawerFor_17 : decode cX1_drawerFor 17 = .ok (.if_icmp .eq 9, 3) := by decide +kernel
theorem dX1_drawerFor_20 : decode cX1_drawerFor 20 = .ok (.iinc 2 1, 3) := by decide +kernel
theorem dX1_drawerFor_23 : decode cX1_drawerFor 23 = .ok (.goto (-21), 3) := by decide +kernel
theorem dX1_drawerFor_26 : decode cX1_drawerFor 26 = .ok (.iload_n 2, 1) := by decide +kernel
theorem dX1_drawerFor_27 : decode cX1_drawerFor 27 = .ok (.aload_n 0, 1) := by decide +kernel
theorem dX1_drawerFor_28 : decode cX1_drawerFor 28 = .ok (.getfield 34, 3) := by decide +kernel
theorem dX1_drawerFor_31 : decode cX1_drawerFor 31 = .ok (.if_icmp .ne 33, 3) := by decide +kernel
theorem dX1_drawerFor_34 : decode cX1_drawerFor 34 = .ok (.iload_n 2, 1) := by decide +kernel
theorem dX1_drawerFor_35 : decode cX1_drawerFor 35 = .ok (.bipush 96, 2) := by decide +kernel
theorem dX1_drawerFor_37 : decode cX1_drawerFor 37 = .ok (.if_icmp .ge 27, 3) := by decide +kernel
theorem dX1_drawerFor_40 : decode cX1_drawerFor 40 = .ok (.aload_n 0, 1) := by decide +kernel
theorem dX1_drawerFor_41 : decode cX1_drawerFor 41 = .ok (.dup, 1) := by decide +kernel
theorem dX1_drawerFor_42 : decode cX1_drawerFor 42 = .ok (.getfield 34, 3) := by decide +kernel
theorem dX1_drawerFor_45 : decode cX1_drawerFor 45 = .ok (.iconst 1, 1) := by decide +kernel
theorem dX1_drawerFor_46 : decode cX1_drawerFor 46 = .ok (.iadd, 1) := by decide +kernel
theorem dX1_drawerFor_47 : decode cX1_drawerFor 47 = .ok (.putfield 34, 3) := by decide +kernel
theorem dX1_drawerFor_50 : decode cX1_drawerFor 50 = .ok (.aload_n 0, 1) := by decide +kernel
theorem dX1_drawerFor_51 : decode cX1_drawerFor 51 = .ok (.getfield 18, 3) := by decide +kernel
theorem dX1_drawerFor_54 : decode cX1_drawerFor 54 = .ok (.iload_n 2, 1) := by decide +kernel
theorem dX1_drawerFor_55 : decode cX1_drawerFor 55 = .ok (.iload_n 1, 1) := by decide +kernel
theorem dX1_drawerFor_56 : decode cX1_drawerFor 56 = .ok (.iastore, 1) := by decide +kernel
theorem dX1_drawerFor_57 : decode cX1_drawerFor 57 = .ok (.aload_n 0, 1) := by decide +kernel
theorem dX1_drawerFor_58 : decode cX1_drawerFor 58 = .ok (.getfield 21, 3) := by decide +kernel
theorem dX1_drawerFor_61 : decode cX1_drawerFor 61 = .ok (.iload_n 2, 1) := by decide +kernel
theorem dX1_drawerFor_62 : decode cX1_drawerFor 62 = .ok (.iconst 0, 1) := by decide +kernel
theorem dX1_drawerFor_63 : decode cX1_drawerFor 63 = .ok (.iastore, 1) := by decide +kernel
theorem dX1_drawerFor_64 : decode cX1_drawerFor 64 = .ok (.iload_n 2, 1) := by decide +kernel
theorem dX1_drawerFor_65 : decode cX1_drawerFor 65 = .ok (.ireturn, 1) := by decide +kernel
theorem dX1_codesOf_0 : decode cX1_codesOf 0 = .ok (.iload_n 1, 1) := by decide +kernel
theorem dX1_codesOf_1 : decode cX1_codesOf 1 = .ok (.ifCond .lt 20, 3) := by decide +kernel
theorem dX1_codesOf_4 : decode cX1_codesOf 4 = .ok (.iload_n 1, 1) := by decide +kernel
theorem dX1_codesOf_5 : decode cX1_codesOf 5 = .ok (.aload_n 0, 1) := by decide +kernel
theorem dX1_codesOf_6 : decode cX1_codesOf 6 = .ok (.getfield 33, 3) := by decide +kernel
theorem dX1_codesOf_9 : decode cX1_codesOf 9 = .ok (.if_icmp .ge 12, 3) := by decide +kernel
theorem dX1_codesOf_12 : decode cX1_codesOf 12 = .ok (.aload_n 0, 1) := by decide +kernel
theorem dX1_codesOf_13 : decode cX1_codesOf 13 = .ok (.getfield 9, 3) := by decide +kernel
theorem dX1_codesOf_16 : decode cX1_codesOf 16 = .ok (.iload_n 1, 1) := by decide +kernel
theorem dX1_codesOf_17 : decode cX1_codesOf 17 = .ok (.iaload, 1) := by decide +kernel
theorem dX1_codesOf_18 : decode cX1_codesOf 18 = .ok (.goto 4, 3) := by decide +kernel
theorem dX1_codesOf_21 : decode cX1_codesOf 21 = .ok (.iconst 0, 1) := by decide +kernel
theorem dX1_codesOf_22 : decode cX1_codesOf 22 = .ok (.ireturn, 1) := by decide +kernel
set_option maxRecDepth 20000 in
theorem ggX1_drawerOf_X1_codesOf : GoodIn wsX1_drawerOf wsX1_codesOf := goodIn_r _ [6, 7, 8, 9, 10, 11, 12, 13, 14, 15] (by decide +kernel) (by decide +kernel)
set_option maxRecDepth 20000 in
theorem gX1_drawerOf_X1_codesOf : GoodIn wsX1_drawerOf (wsV RX1 54 RX1 yX1_codesOf wsX1_codesOf) := goodIn_app (goodIn_of _ (by decide +kernel)) ggX1_drawerOf_X1_codesOf
theorem dX1_drawerOf_0 : decode cX1_drawerOf 0 = .ok (.iload_n 2, 1) := by decide +kernel
theorem dX1_drawerOf_1 : decode cX1_drawerOf 1 = .ok (.ifCond .lt 25, 3) := by decide +kernel
theorem dX1_drawerOf_4 : decode cX1_drawerOf 4 = .ok (.iload_n 2, 1) := by decide +kernel
theorem dX1_drawerOf_5 : decode cX1_drawerOf 5 = .ok (.aload_n 0, 1) := by decide +kernel
theorem dX1_drawerOf_6 : decode cX1_drawerOf 6 = .ok (.iload_n 1, 1) := by decide +kernel
theorem dX1_drawerOf_7 : decode cX1_drawerOf 7 = .ok (.invokevirtual 54, 3) := by decide +kernel
theorem dX1_drawerOf_10 : decode cX1_drawerOf 10 = .ok (.if_icmp .ge 16, 3) := by decide +kernel
theorem dX1_drawerOf_13 : decode cX1_drawerOf 13 = .ok (.aload_n 0, 1) := by decide +kernel
theorem dX1_drawerOf_14 : decode cX1_drawerOf 14 = .ok (.getfield 15, 3) := by decide +kernel
theorem dX1_drawerOf_17 : decode cX1_drawerOf 17 = .ok (.iconst 4, 1) := by decide +kernel
theorem dX1_drawerOf_18 : decode cX1_drawerOf 18 = .ok (.iload_n 1, 1) := by decide +kernel
theorem dX1_drawerOf_19 : decode cX1_drawerOf 19 = .ok (.imul, 1) := by decide +kernel
theorem dX1_drawerOf_20 : decode cX1_drawerOf 20 = .ok (.iload_n 2, 1) := by decide +kernel
theorem dX1_drawerOf_21 : decode cX1_drawerOf 21 = .ok (.iadd, 1) := by decide +kernel
theorem dX1_drawerOf_22 : decode cX1_drawerOf 22 = .ok (.iaload, 1) := by decide +kernel
theorem dX1_drawerOf_23 : decode cX1_drawerOf 23 = .ok (.goto 4, 3) := by decide +kernel
theorem dX1_drawerOf_26 : decode cX1_drawerOf 26 = .ok (.iconst 0, 1) := by decide +kernel
theorem dX1_drawerOf_27 : decode cX1_drawerOf 27 = .ok (.ireturn, 1) := by decide +kernel
theorem dX1_codeAt_0 : decode cX1_codeAt 0 = .ok (.iload_n 1, 1) := by decide +kernel
theorem dX1_codeAt_1 : decode cX1_codeAt 1 = .ok (.ifCond .lt 20, 3) := by decide +kernel
theorem dX1_codeAt_4 : decode cX1_codeAt 4 = .ok (.iload_n 1, 1) := by decide +kernel
theorem dX1_codeAt_5 : decode cX1_codeAt 5 = .ok (.aload_n 0, 1) := by decide +kernel
theorem dX1_codeAt_6 : decode cX1_codeAt 6 = .ok (.getfield 34, 3) := by decide +kernel
theorem dX1_codeAt_9 : decode cX1_codeAt 9 = .ok (.if_icmp .ge 12, 3) := by decide +kernel
theorem dX1_codeAt_12 : decode cX1_codeAt 12 = .ok (.aload_n 0, 1) := by decide +kernel
theorem dX1_codeAt_13 : decode cX1_codeAt 13 = .ok (.getfield 18, 3) := by decide +kernel
theorem dX1_codeAt_16 : decode cX1_codeAt 16 = .ok (.iload_n 1, 1) := by decide +kernel
theorem dX1_codeAt_17 : decode cX1_codeAt 17 = .ok (.iaload, 1) := by decide +kernel
theorem dX1_codeAt_18 : decode cX1_codeAt 18 = .ok (.goto 4, 3) := by decide +kernel
theorem dX1_codeAt_21 : decode cX1_codeAt 21 = .ok (.iconst 0, 1) := by decide +kernel
theorem dX1_codeAt_22 : decode cX1_codeAt 22 = .ok (.ireturn, 1) := by decide +kernel
theorem dX1_namesAt_0 : decode cX1_namesAt 0 = .ok (.iload_n 1, 1) := by decide +kernel
theorem dX1_namesAt_1 : decode cX1_namesAt 1 = .ok (.ifCond .lt 20, 3) := by decide +kernel
theorem dX1_namesAt_4 : decode cX1_namesAt 4 = .ok (.iload_n 1, 1) := by decide +kernel
theorem dX1_namesAt_5 : decode cX1_namesAt 5 = .ok (.aload_n 0, 1) := by decide +kernel
theorem dX1_namesAt_6 : decode cX1_namesAt 6 = .ok (.getfield 34, 3) := by decide +kernel
theorem dX1_namesAt_9 : decode cX1_namesAt 9 = .ok (.if_icmp .ge 12, 3) := by decide +kernel
theorem dX1_namesAt_12 : decode cX1_namesAt 12 = .ok (.aload_n 0, 1) := by decide +kernel
theorem dX1_namesAt_13 : decode cX1_namesAt 13 = .ok (.getfield 21, 3) := by decide +kernel
theorem dX1_namesAt_16 : decode cX1_namesAt 16 = .ok (.iload_n 1, 1) := by decide +kernel
theorem dX1_namesAt_17 : decode cX1_namesAt 17 = .ok (.iaload, 1) := by decide +kernel
theorem dX1_namesAt_18 : decode cX1_namesAt 18 = .ok (.goto 4, 3) := by decide +kernel
theorem dX1_namesAt_21 : decode cX1_namesAt 21 = .ok (.iconst 0, 1) := by decide +kernel
theorem dX1_namesAt_22 : decode cX1_namesAt 22 = .ok (.ireturn, 1) := by decide +kernel
theorem dX1_byCode_0 : decode cX1_byCode 0 = .ok (.iconst 0, 1) := by decide +kernel
theorem dX1_byCode_1 : decode cX1_byCode 1 = .ok (.istore_n 2, 1) := by decide +kernel
theorem dX1_byCode_2 : decode cX1_byCode 2 = .ok (.iload_n 2, 1) := by decide +kernel
theorem dX1_byCode_3 : decode cX1_byCode 3 = .ok (.aload_n 0, 1) := by decide +kernel
theorem dX1_byCode_4 : decode cX1_byCode 4 = .ok (.getfield 34, 3) := by decide +kernel
theorem dX1_byCode_7 : decode cX1_byCode 7 = .ok (.if_icmp .ge 55, 3) := by decide +kernel
theorem dX1_byCode_10 : decode cX1_byCode 10 = .ok (.iconst 0, 1) := by decide +kernel
theorem dX1_byCode_11 : decode cX1_byCode 11 = .ok (.istore_n 3, 1) := by decide +kernel
theorem dX1_byCode_12 : decode cX1_byCode 12 = .ok (.iconst 0, 1) := by decide +kernel
theorem dX1_byCode_13 : decode cX1_byCode 13 = .ok (.istore 4, 2) := by decide +kernel
theorem dX1_byCode_15 : decode cX1_byCode 15 = .ok (.iload 4, 2) := by decide +kernel
theorem dX1_byCode_17 : decode cX1_byCode 17 = .ok (.aload_n 0, 1) := by decide +kernel
theorem dX1_byCode_18 : decode cX1_byCode 18 = .ok (.getfield 34, 3) := by decide +kernel
theorem dX1_byCode_21 : decode cX1_byCode 21 = .ok (.if_icmp .ge 28, 3) := by decide +kernel
theorem dX1_byCode_24 : decode cX1_byCode 24 = .ok (.aload_n 0, 1) := by decide +kernel
theorem dX1_byCode_25 : decode cX1_byCode 25 = .ok (.getfield 18, 3) := by decide +kernel
theorem dX1_byCode_28 : decode cX1_byCode 28 = .ok (.iload 4, 2) := by decide +kernel
theorem dX1_byCode_30 : decode cX1_byCode 30 = .ok (.iaload, 1) := by decide +kernel
theorem dX1_byCode_31 : decode cX1_byCode 31 = .ok (.aload_n 0, 1) := by decide +kernel
theorem dX1_byCode_32 : decode cX1_byCode 32 = .ok (.getfield 18, 3) := by decide +kernel
theorem dX1_byCode_35 : decode cX1_byCode 35 = .ok (.iload_n 2, 1) := by decide +kernel
theorem dX1_byCode_36 : decode cX1_byCode 36 = .ok (.iaload, 1) := by decide +kernel
theorem dX1_byCode_37 : decode cX1_byCode 37 = .ok (.if_icmp .ge 6, 3) := by decide +kernel
theorem dX1_byCode_40 : decode cX1_byCode 40 = .ok (.iinc 3 1, 3) := by decide +kernel
theorem dX1_byCode_43 : decode cX1_byCode 43 = .ok (.iinc 4 1, 3) := by decide +kernel
theorem dX1_byCode_46 : decode cX1_byCode 46 = .ok (.goto (-31), 3) := by decide +kernel
theorem dX1_byCode_49 : decode cX1_byCode 49 = .ok (.iload_n 3, 1) := by decide +kernel
theorem dX1_byCode_50 : decode cX1_byCode 50 = .ok (.iload_n 1, 1) := by decide +kernel
theorem dX1_byCode_51 : decode cX1_byCode 51 = .ok (.if_icmp .ne 5, 3) := by decide +kernel
theorem dX1_byCode_54 : decode cX1_byCode 54 = .ok (.iload_n 2, 1) := by decide +kernel
theorem dX1_byCode_55 : decode cX1_byCode 55 = .ok (.ireturn, 1) := by decide +kernel
theorem dX1_byCode_56 : decode cX1_byCode 56 = .ok (.iinc 2 1, 3) := by decide +kernel
theorem dX1_byCode_59 : decode cX1_byCode 59 = .ok (.goto (-57), 3) := by decide +kernel
theorem dX1_byCode_62 : decode cX1_byCode 62 = .ok (.bipush (-6), 2) := by decide +kernel
theorem dX1_byCode_64 : decode cX1_byCode 64 = .ok (.ireturn, 1) := by decide +kernel
set_option maxRecDepth 20000 in
theorem ggX1_namesInFullest_J6_bitCount_0f7a4 : GoodIn wsX1_namesInFullest wsJ6_bitCount_0f7a4 := goodIn_r _ [10, 11, 12, 13] (by decide +kernel) (by decide +kernel)
set_option maxRecDepth 20000 in
theorem gX1_namesInFullest_J6_bitCount_0f7a4 : GoodIn wsX1_namesInFullest (va_wsS RX1 57 yJ6_bitCount_0f7a4 wsJ6_bitCount_0f7a4) := goodIn_app (goodIn_of _ (by decide +kernel)) ggX1_namesInFullest_J6_bitCount_0f7a4
theorem dX1_namesInFullest_0 : decode cX1_namesInFullest 0 = .ok (.iconst 0, 1) := by decide +kernel
theorem dX1_namesInFullest_1 : decode cX1_namesInFullest 1 = .ok (.istore_n 1, 1) := by decide +kernel
theorem dX1_namesInFullest_2 : decode cX1_namesInFullest 2 = .ok (.iconst 0, 1) := by decide +kernel
theorem dX1_namesInFullest_3 : decode cX1_namesInFullest 3 = .ok (.istore_n 2, 1) := by decide +kernel
theorem dX1_namesInFullest_4 : decode cX1_namesInFullest 4 = .ok (.iload_n 2, 1) := by decide +kernel
theorem dX1_namesInFullest_5 : decode cX1_namesInFullest 5 = .ok (.aload_n 0, 1) := by decide +kernel
theorem dX1_namesInFullest_6 : decode cX1_namesInFullest 6 = .ok (.getfield 34, 3) := by decide +kernel
theorem dX1_namesInFullest_9 : decode cX1_namesInFullest 9 = .ok (.if_icmp .ge 23, 3) := by decide +kernel
theorem dX1_namesInFullest_12 : decode cX1_namesInFullest 12 = .ok (.iload_n 1, 1) := by decide +kernel
theorem dX1_namesInFullest_13 : decode cX1_namesInFullest 13 = .ok (.aload_n 0, 1) := by decide +kernel
theorem dX1_namesInFullest_14 : decode cX1_namesInFullest 14 = .ok (.getfield 21, 3) := by decide +kernel
theorem dX1_namesInFullest_17 : decode cX1_namesInFullest 17 = .ok (.iload_n 2, 1) := by decide +kernel
theorem dX1_namesInFullest_18 : decode cX1_namesInFullest 18 = .ok (.iaload, 1) := by decide +kernel
theorem dX1_namesInFullest_19 : decode cX1_namesInFullest 19 = .ok (.invokestatic 57, 3) := by decide +kernel
theorem dX1_namesInFullest_22 : decode cX1_namesInFullest 22 = .ok (.invokestatic 62, 3) := by decide +kernel
theorem dX1_namesInFullest_25 : decode cX1_namesInFullest 25 = .ok (.istore_n 1, 1) := by decide +kernel
theorem dX1_namesInFullest_26 : decode cX1_namesInFullest 26 = .ok (.iinc 2 1, 3) := by decide +kernel
theorem dX1_namesInFullest_29 : decode cX1_namesInFullest 29 = .ok (.goto (-25), 3) := by decide +kernel
theorem dX1_namesInFullest_32 : decode cX1_namesInFullest 32 = .ok (.iload_n 1, 1) := by decide +kernel
theorem dX1_namesInFullest_33 : decode cX1_namesInFullest 33 = .ok (.ireturn, 1) := by decide +kernel
theorem dX1_namesInSeveral_0 : decode cX1_namesInSeveral 0 = .ok (.iconst 0, 1) := by decide +kernel
theorem dX1_namesInSeveral_1 : decode cX1_namesInSeveral 1 = .ok (.istore_n 1, 1) := by decide +kernel
theorem dX1_namesInSeveral_2 : decode cX1_namesInSeveral 2 = .ok (.iconst 0, 1) := by decide +kernel
theorem dX1_namesInSeveral_3 : decode cX1_namesInSeveral 3 = .ok (.istore_n 2, 1) := by decide +kernel
theorem dX1_namesInSeveral_4 : decode cX1_namesInSeveral 4 = .ok (.iload_n 2, 1) := by decide +kernel
theorem dX1_namesInSeveral_5 : decode cX1_namesInSeveral 5 = .ok (.aload_n 0, 1) := by decide +kernel
theorem dX1_namesInSeveral_6 : decode cX1_namesInSeveral 6 = .ok (.getfield 33, 3) := by decide +kernel
theorem dX1_namesInSeveral_9 : decode cX1_namesInSeveral 9 = .ok (.if_icmp .ge 25, 3) := by decide +kernel
theorem dX1_namesInSeveral_12 : decode cX1_namesInSeveral 12 = .ok (.aload_n 0, 1) := by decide +kernel
theorem dX1_namesInSeveral_13 : decode cX1_namesInSeveral 13 = .ok (.getfield 9, 3) := by decide +kernel
theorem dX1_namesInSeveral_16 : decode cX1_namesInSeveral 16 = .ok (.iload_n 2, 1) := by decide +kernel
theorem dX1_namesInSeveral_17 : decode cX1_namesInSeveral 17 = .ok (.iaload, 1) := by decide +kernel
theorem dX1_namesInSeveral_18 : decode cX1_namesInSeveral 18 = .ok (.iconst 1, 1) := by decide +kernel
theorem dX1_namesInSeveral_19 : decode cX1_namesInSeveral 19 = .ok (.if_icmp .le 9, 3) := by decide +kernel
theorem dX1_namesInSeveral_22 : decode cX1_namesInSeveral 22 = .ok (.iload_n 1, 1) := by decide +kernel
theorem dX1_namesInSeveral_23 : decode cX1_namesInSeveral 23 = .ok (.iconst 1, 1) := by decide +kernel
theorem dX1_namesInSeveral_24 : decode cX1_namesInSeveral 24 = .ok (.iload_n 2, 1) := by decide +kernel
theorem dX1_namesInSeveral_25 : decode cX1_namesInSeveral 25 = .ok (.ishl, 1) := by decide +kernel
theorem dX1_namesInSeveral_26 : decode cX1_namesInSeveral 26 = .ok (.ior, 1) := by decide +kernel
theorem dX1_namesInSeveral_27 : decode cX1_namesInSeveral 27 = .ok (.istore_n 1, 1) := by decide +kernel
theorem dX1_namesInSeveral_28 : decode cX1_namesInSeveral 28 = .ok (.iinc 2 1, 3) := by decide +kernel
theorem dX1_namesInSeveral_31 : decode cX1_namesInSeveral 31 = .ok (.goto (-27), 3) := by decide +kernel
theorem dX1_namesInSeveral_34 : decode cX1_namesInSeveral 34 = .ok (.iload_n 1, 1) := by decide +kernel
theorem dX1_namesInSeveral_35 : decode cX1_namesInSeveral 35 = .ok (.ireturn, 1) := by decide +kernel
set_option maxRecDepth 20000 in
theorem ggX1_namesLike_X1_codesOf : GoodIn wsX1_namesLike wsX1_codesOf := goodIn_r _ [5, 6, 7, 19, 20, 21, 22, 23, 24, 25] (by decide +kernel) (by decide +kernel)
set_option maxRecDepth 20000 in
theorem gX1_namesLike_X1_codesOf : GoodIn wsX1_namesLike (wsV RX1 54 RX1 yX1_codesOf wsX1_codesOf) := goodIn_app (goodIn_of _ (by decide +kernel)) ggX1_namesLike_X1_codesOf
set_option maxRecDepth 20000 in
theorem ggX1_namesLike_X1_drawerOf : GoodIn wsX1_namesLike wsX1_drawerOf := goodIn_r _ [11, 12, 1, 2, 3, 4, 5, 6, 7, 19, 20, 21, 22, 23, 24, 25] (by decide +kernel) (by decide +kernel)
set_option maxRecDepth 20000 in
theorem gX1_namesLike_X1_drawerOf : GoodIn wsX1_namesLike (wsV RX1 68 RX1 yX1_drawerOf wsX1_drawerOf) := goodIn_app (goodIn_of _ (by decide +kernel)) ggX1_namesLike_X1_drawerOf
set_option maxRecDepth 20000 in
theorem ggX1_namesLike_X1_namesAt : GoodIn wsX1_namesLike wsX1_namesAt := goodIn_r _ [16, 17, 18, 19, 20, 21, 22, 23, 24, 25] (by decide +kernel) (by decide +kernel)
set_option maxRecDepth 20000 in
theorem gX1_namesLike_X1_namesAt : GoodIn wsX1_namesLike (wsV RX1 71 RX1 yX1_namesAt wsX1_namesAt) := goodIn_app (goodIn_of _ (by decide +kernel)) ggX1_namesLike_X1_namesAt
theorem dX1_namesLike_0 : decode cX1_namesLike 0 = .ok (.iconst 0, 1) := by decide +kernel
theorem dX1_namesLike_1 : decode cX1_namesLike 1 = .ok (.istore_n 2, 1) := by decide +kernel
theorem dX1_namesLike_2 : decode cX1_namesLike 2 = .ok (.aload_n 0, 1) := by decide +kernel
theorem dX1_namesLike_3 : decode cX1_namesLike 3 = .ok (.iload_n 1, 1) := by decide +kernel
theorem dX1_namesLike_4 : decode cX1_namesLike 4 = .ok (.invokevirtual 54, 3) := by decide +kernel
theorem dX1_namesLike_7 : decode cX1_namesLike 7 = .ok (.istore_n 3, 1) := by decide +kernel
theorem dX1_namesLike_8 : decode cX1_namesLike 8 = .ok (.iconst 0, 1) := by decide +kernel
theorem dX1_namesLike_9 : decode cX1_namesLike 9 = .ok (.istore 4, 2) := by decide +kernel
theorem dX1_namesLike_11 : decode cX1_namesLike 11 = .ok (.iload 4, 2) := by decide +kernel
theorem dX1_namesLike_13 : decode cX1_namesLike 13 = .ok (.iload_n 3, 1) := by decide +kernel
theorem dX1_namesLike_14 : decode cX1_namesLike 14 = .ok (.if_icmp .ge 23, 3) := by decide +kernel
theorem dX1_namesLike_17 : decode cX1_namesLike 17 = .ok (.iload_n 2, 1) := by decide +kernel
theorem dX1_namesLike_18 : decode cX1_namesLike 18 = .ok (.aload_n 0, 1) := by decide +kernel
theorem dX1_namesLike_19 : decode cX1_namesLike 19 = .ok (.aload_n 0, 1) := by decide +kernel
theorem dX1_namesLike_20 : decode cX1_namesLike 20 = .ok (.iload_n 1, 1) := by decide +kernel
theorem dX1_namesLike_21 : decode cX1_namesLike 21 = .ok (.iload 4, 2) := by decide +kernel
theorem dX1_namesLike_23 : decode cX1_namesLike 23 = .ok (.invokevirtual 68, 3) := by decide +kernel
theorem dX1_namesLike_26 : decode cX1_namesLike 26 = .ok (.invokevirtual 71, 3) := by decide +kernel
theorem dX1_namesLike_29 : decode cX1_namesLike 29 = .ok (.ior, 1) := by decide +kernel
theorem dX1_namesLike_30 : decode cX1_namesLike 30 = .ok (.istore_n 2, 1) := by decide +kernel
theorem dX1_namesLike_31 : decode cX1_namesLike 31 = .ok (.iinc 4 1, 3) := by decide +kernel
theorem dX1_namesLike_34 : decode cX1_namesLike 34 = .ok (.goto (-23), 3) := by decide +kernel
theorem dX1_namesLike_37 : decode cX1_namesLike 37 = .ok (.iload_n 2, 1) := by decide +kernel
theorem dX1_namesLike_38 : decode cX1_namesLike 38 = .ok (.ireturn, 1) := by decide +kernel
set_option maxRecDepth 20000 in
theorem ggX1_namesHeardLike_X2_writeCodes : GoodIn wsX1_namesHeardLike wsX2_writeCodes := goodIn_r _ [10, 11, 12, 13, 9, 14, 15, 16, 17, 18, 19, 20, 21, 22, 23, 24, 25, 26, 27, 28, 29, 30, 31, 32, 33, 34, 35, 36, 37, 51, 52, 53, 54, 55, 56, 57, 58] (by decide +kernel) (by decide +kernel)
set_option maxRecDepth 20000 in
theorem gX1_namesHeardLike_X2_writeCodes : GoodIn wsX1_namesHeardLike (wsV RX1 44 RX2 yX2_writeCodes wsX2_writeCodes) := goodIn_app (goodIn_of _ (by decide +kernel)) ggX1_namesHeardLike_X2_writeCodes
theorem dX1_namesHeardLike_0 : decode cX1_namesHeardLike 0 = .ok (.aload 4, 2) := by decide +kernel
theorem dX1_namesHeardLike_2 : decode cX1_namesHeardLike 2 = .ok (.lload_n 1, 1) := by decide +kernel
theorem dX1_namesHeardLike_3 : decode cX1_namesHeardLike 3 = .ok (.aload_n 3, 1) := by decide +kernel
theorem dX1_namesHeardLike_4 : decode cX1_namesHeardLike 4 = .ok (.getfield 41, 3) := by decide +kernel
theorem dX1_namesHeardLike_7 : decode cX1_namesHeardLike 7 = .ok (.aload_n 0, 1) := by decide +kernel
theorem dX1_namesHeardLike_8 : decode cX1_namesHeardLike 8 = .ok (.getfield 24, 3) := by decide +kernel
theorem dX1_namesHeardLike_11 : decode cX1_namesHeardLike 11 = .ok (.invokevirtual 44, 3) := by decide +kernel
theorem dX1_namesHeardLike_14 : decode cX1_namesHeardLike 14 = .ok (.istore 5, 2) := by decide +kernel
theorem dX1_namesHeardLike_16 : decode cX1_namesHeardLike 16 = .ok (.iconst 0, 1) := by decide +kernel
theorem dX1_namesHeardLike_17 : decode cX1_namesHeardLike 17 = .ok (.istore 6, 2) := by decide +kernel
theorem dX1_namesHeardLike_19 : decode cX1_namesHeardLike 19 = .ok (.iconst 0, 1) := by decide +kernel
theorem dX1_namesHeardLike_20 : decode cX1_namesHeardLike 20 = .ok (.istore 7, 2) := by decide +kernel
theorem dX1_namesHeardLike_22 : decode cX1_namesHeardLike 22 = .ok (.iload 7, 2) := by decide +kernel
theorem dX1_namesHeardLike_24 : decode cX1_namesHeardLike 24 = .ok (.aload_n 0, 1) := by decide +kernel
theorem dX1_namesHeardLike_25 : decode cX1_namesHeardLike 25 = .ok (.getfield 34, 3) := by decide +kernel
theorem dX1_namesHeardLike_28 : decode cX1_namesHeardLike 28 = .ok (.if_icmp .ge 64, 3) := by decide +kernel
theorem dX1_namesHeardLike_31 : decode cX1_namesHeardLike 31 = .ok (.iconst 0, 1) := by decide +kernel
theorem dX1_namesHeardLike_32 : decode cX1_namesHeardLike 32 = .ok (.istore 8, 2) := by decide +kernel
theorem dX1_namesHeardLike_34 : decode cX1_namesHeardLike 34 = .ok (.iload 8, 2) := by decide +kernel
theorem dX1_namesHeardLike_36 : decode cX1_namesHeardLike 36 = .ok (.iload 5, 2) := by decide +kernel
theorem dX1_namesHeardLike_38 : decode cX1_namesHeardLike 38 = .ok (.if_icmp .ge 48, 3) := by decide +kernel
theorem dX1_namesHeardLike_41 : decode cX1_namesHeardLike 41 = .ok (.iload 8, 2) := by decide +kernel
theorem dX1_namesHeardLike_43 : decode cX1_namesHeardLike 43 = .ok (.aload_n 0, 1) := by decide +kernel
theorem dX1_namesHeardLike_44 : decode cX1_namesHeardLike 44 = .ok (.getfield 24, 3) := by decide +kernel
theorem dX1_namesHeardLike_47 : decode cX1_namesHeardLike 47 = .ok (.arraylength, 1) := by decide +kernel
theorem dX1_namesHeardLike_48 : decode cX1_namesHeardLike 48 = .ok (.if_icmp .ge 38, 3) := by decide +kernel
theorem dX1_namesHeardLike_51 : decode cX1_namesHeardLike 51 = .ok (.aload_n 0, 1) := by decide +kernel
theorem dX1_namesHeardLike_52 : decode cX1_namesHeardLike 52 = .ok (.getfield 24, 3) := by decide +kernel
theorem dX1_namesHeardLike_55 : decode cX1_namesHeardLike 55 = .ok (.iload 8, 2) := by decide +kernel
theorem dX1_namesHeardLike_57 : decode cX1_namesHeardLike 57 = .ok (.iaload, 1) := by decide +kernel
theorem dX1_namesHeardLike_58 : decode cX1_namesHeardLike 58 = .ok (.aload_n 0, 1) := by decide +kernel
theorem dX1_namesHeardLike_59 : decode cX1_namesHeardLike 59 = .ok (.getfield 18, 3) := by decide +kernel
theorem dX1_namesHeardLike_62 : decode cX1_namesHeardLike 62 = .ok (.iload 7, 2) := by decide +kernel
theorem dX1_namesHeardLike_64 : decode cX1_namesHeardLike 64 = .ok (.iaload, 1) := by decide +kernel
theorem dX1_namesHeardLike_65 : decode cX1_namesHeardLike 65 = .ok (.if_icmp .ne 15, 3) := by decide +kernel
theorem dX1_namesHeardLike_68 : decode cX1_namesHeardLike 68 = .ok (.iload 6, 2) := by decide +kernel
theorem dX1_namesHeardLike_70 : decode cX1_namesHeardLike 70 = .ok (.aload_n 0, 1) := by decide +kernel
theorem dX1_namesHeardLike_71 : decode cX1_namesHeardLike 71 = .ok (.getfield 21, 3) := by decide +kernel
theorem dX1_namesHeardLike_74 : decode cX1_namesHeardLike 74 = .ok (.iload 7, 2) := by decide +kernel
theorem dX1_namesHeardLike_76 : decode cX1_namesHeardLike 76 = .ok (.iaload, 1) := by decide +kernel
theorem dX1_namesHeardLike_77 : decode cX1_namesHeardLike 77 = .ok (.ior, 1) := by decide +kernel
theorem dX1_namesHeardLike_78 : decode cX1_namesHeardLike 78 = .ok (.istore 6, 2) := by decide +kernel
theorem dX1_namesHeardLike_80 : decode cX1_namesHeardLike 80 = .ok (.iinc 8 1, 3) := by decide +kernel
theorem dX1_namesHeardLike_83 : decode cX1_namesHeardLike 83 = .ok (.goto (-49), 3) := by decide +kernel
theorem dX1_namesHeardLike_86 : decode cX1_namesHeardLike 86 = .ok (.iinc 7 1, 3) := by decide +kernel
theorem dX1_namesHeardLike_89 : decode cX1_namesHeardLike 89 = .ok (.goto (-67), 3) := by decide +kernel
theorem dX1_namesHeardLike_92 : decode cX1_namesHeardLike 92 = .ok (.iload 6, 2) := by decide +kernel
theorem dX1_namesHeardLike_94 : decode cX1_namesHeardLike 94 = .ok (.ireturn, 1) := by decide +kernel
set_option maxRecDepth 20000 in
theorem ggX1_alikePairs_X1_namesLike : GoodIn wsX1_alikePairs wsX1_namesLike := goodIn_r _ [6, 7, 8, 9, 5, 10, 1, 11, 12, 13, 14, 15, 16, 17, 18, 19, 20, 21, 22, 30, 31, 32, 33, 34, 35, 36] (by decide +kernel) (by decide +kernel)
set_option maxRecDepth 20000 in
theorem gX1_alikePairs_X1_namesLike : GoodIn wsX1_alikePairs (wsV RX1 74 RX1 yX1_namesLike wsX1_namesLike) := goodIn_app (goodIn_of _ (by decide +kernel)) ggX1_alikePairs_X1_namesLike
set_option maxRecDepth 20000 in
theorem ggX1_alikePairs_J6_bitCount_0f7a4 : GoodIn wsX1_alikePairs wsJ6_bitCount_0f7a4 := goodIn_r _ [26, 27, 28, 29] (by decide +kernel) (by decide +kernel)
set_option maxRecDepth 20000 in
theorem gX1_alikePairs_J6_bitCount_0f7a4 : GoodIn wsX1_alikePairs (va_wsS RX1 57 yJ6_bitCount_0f7a4 wsJ6_bitCount_0f7a4) := goodIn_app (goodIn_of _ (by decide +kernel)) ggX1_alikePairs_J6_bitCount_0f7a4
theorem dX1_alikePairs_0 : decode cX1_alikePairs 0 = .ok (.iconst 0, 1) := by decide +kernel
theorem dX1_alikePairs_1 : decode cX1_alikePairs 1 = .ok (.istore_n 1, 1) := by decide +kernel
theorem dX1_alikePairs_2 : decode cX1_alikePairs 2 = .ok (.iconst 0, 1) := by decide +kernel
theorem dX1_alikePairs_3 : decode cX1_alikePairs 3 = .ok (.istore_n 2, 1) := by decide +kernel
theorem dX1_alikePairs_4 : decode cX1_alikePairs 4 = .ok (.iload_n 2, 1) := by decide +kernel
theorem dX1_alikePairs_5 : decode cX1_alikePairs 5 = .ok (.aload_n 0, 1) := by decide +kernel
theorem dX1_alikePairs_6 : decode cX1_alikePairs 6 = .ok (.getfield 33, 3) := by decide +kernel
theorem dX1_alikePairs_9 : decode cX1_alikePairs 9 = .ok (.if_icmp .ge 22, 3) := by decide +kernel
theorem dX1_alikePairs_12 : decode cX1_alikePairs 12 = .ok (.iload_n 1, 1) := by decide +kernel
theorem dX1_alikePairs_13 : decode cX1_alikePairs 13 = .ok (.aload_n 0, 1) := by decide +kernel
theorem dX1_alikePairs_14 : decode cX1_alikePairs 14 = .ok (.iload_n 2, 1) := by decide +kernel
theorem dX1_alikePairs_15 : decode cX1_alikePairs 15 = .ok (.invokevirtual 74, 3) := by decide +kernel
theorem dX1_alikePairs_18 : decode cX1_alikePairs 18 = .ok (.invokestatic 57, 3) := by decide +kernel
theorem dX1_alikePairs_21 : decode cX1_alikePairs 21 = .ok (.iconst 1, 1) := by decide +kernel
theorem dX1_alikePairs_22 : decode cX1_alikePairs 22 = .ok (.isub, 1) := by decide +kernel
theorem dX1_alikePairs_23 : decode cX1_alikePairs 23 = .ok (.iadd, 1) := by decide +kernel
theorem dX1_alikePairs_24 : decode cX1_alikePairs 24 = .ok (.istore_n 1, 1) := by decide +kernel
theorem dX1_alikePairs_25 : decode cX1_alikePairs 25 = .ok (.iinc 2 1, 3) := by decide +kernel
theorem dX1_alikePairs_28 : decode cX1_alikePairs 28 = .ok (.goto (-24), 3) := by decide +kernel
theorem dX1_alikePairs_31 : decode cX1_alikePairs 31 = .ok (.iload_n 1, 1) := by decide +kernel
theorem dX1_alikePairs_32 : decode cX1_alikePairs 32 = .ok (.iconst 2, 1) := by decide +kernel
theorem dX1_alikePairs_33 : decode cX1_alikePairs 33 = .ok (.idiv, 1) := by decide +kernel
theorem dX1_alikePairs_34 : decode cX1_alikePairs 34 = .ok (.ireturn, 1) := by decide +kernel
set_option maxRecDepth 20000 in
theorem ggX2_init_X2_beAsAtFirst : GoodIn wsX2_init wsX2_beAsAtFirst := goodIn_r _ [15, 5, 16, 6, 17, 18, 19, 20, 21, 22, 23, 24, 25, 26] (by decide +kernel) (by decide +kernel)
set_option maxRecDepth 20000 in
theorem gX2_init_X2_beAsAtFirst : GoodIn wsX2_init (wsV RX2 30 RX2 yX2_beAsAtFirst wsX2_beAsAtFirst) := goodIn_app (goodIn_of _ (by decide +kernel)) ggX2_init_X2_beAsAtFirst
theorem dX2_init_0 : decode cX2_init 0 = .ok (.aload_n 0, 1) := by decide +kernel
theorem dX2_init_1 : decode cX2_init 1 = .ok (.invokespecial 3, 3) := by decide +kernel
theorem dX2_init_4 : decode cX2_init 4 = .ok (.aload_n 0, 1) := by decide +kernel
theorem dX2_init_5 : decode cX2_init 5 = .ok (.bipush 26, 2) := by decide +kernel
theorem dX2_init_7 : decode cX2_init 7 = .ok (.newarray .int, 2) := by decide +kernel
theorem dX2_init_9 : decode cX2_init 9 = .ok (.putfield 9, 3) := by decide +kernel
theorem dX2_init_12 : decode cX2_init 12 = .ok (.aload_n 0, 1) := by decide +kernel
theorem dX2_init_13 : decode cX2_init 13 = .ok (.bipush 26, 2) := by decide +kernel
theorem dX2_init_15 : decode cX2_init 15 = .ok (.newarray .int, 2) := by decide +kernel
theorem dX2_init_17 : decode cX2_init 17 = .ok (.putfield 15, 3) := by decide +kernel
theorem dX2_init_20 : decode cX2_init 20 = .ok (.aload_n 0, 1) := by decide +kernel
theorem dX2_init_21 : decode cX2_init 21 = .ok (.bipush 6, 2) := by decide +kernel
theorem dX2_init_23 : decode cX2_init 23 = .ok (.newarray .int, 2) := by decide +kernel
theorem dX2_init_25 : decode cX2_init 25 = .ok (.putfield 18, 3) := by decide +kernel
theorem dX2_init_28 : decode cX2_init 28 = .ok (.aload_n 0, 1) := by decide +kernel
theorem dX2_init_29 : decode cX2_init 29 = .ok (.bipush 6, 2) := by decide +kernel
theorem dX2_init_31 : decode cX2_init 31 = .ok (.newarray .int, 2) := by decide +kernel
theorem dX2_init_33 : decode cX2_init 33 = .ok (.putfield 21, 3) := by decide +kernel
theorem dX2_init_36 : decode cX2_init 36 = .ok (.aload_n 0, 1) := by decide +kernel
theorem dX2_init_37 : decode cX2_init 37 = .ok (.bipush 6, 2) := by decide +kernel
theorem dX2_init_39 : decode cX2_init 39 = .ok (.newarray .int, 2) := by decide +kernel
theorem dX2_init_41 : decode cX2_init 41 = .ok (.putfield 24, 3) := by decide +kernel
theorem dX2_init_44 : decode cX2_init 44 = .ok (.aload_n 0, 1) := by decide +kernel
theorem dX2_init_45 : decode cX2_init 45 = .ok (.bipush 6, 2) := by decide +kernel
theorem dX2_init_47 : decode cX2_init 47 = .ok (.newarray .int, 2) := by decide +kernel
theorem dX2_init_49 : decode cX2_init 49 = .ok (.putfield 27, 3) := by decide +kernel
theorem dX2_init_52 : decode cX2_init 52 = .ok (.aload_n 0, 1) := by decide +kernel
theorem dX2_init_53 : decode cX2_init 53 = .ok (.invokevirtual 30, 3) := by decide +kernel
theorem dX2_init_56 : decode cX2_init 56 = .ok (.return_, 1) := by decide +kernel
theorem dX2_beAsAtFirst_0 : decode cX2_beAsAtFirst 0 = .ok (.iconst 0, 1) := by decide +kernel
theorem dX2_beAsAtFirst_1 : decode cX2_beAsAtFirst 1 = .ok (.istore_n 1, 1) := by decide +kernel
theorem dX2_beAsAtFirst_2 : decode cX2_beAsAtFirst 2 = .ok (.iload_n 1, 1) := by decide +kernel
theorem dX2_beAsAtFirst_3 : decode cX2_beAsAtFirst 3 = .ok (.bipush 26, 2) := by decide +kernel
theorem dX2_beAsAtFirst_5 : decode cX2_beAsAtFirst 5 = .ok (.if_icmp .ge 28, 3) := by decide +kernel
theorem dX2_beAsAtFirst_8 : decode cX2_beAsAtFirst 8 = .ok (.aload_n 0, 1) := by decide +kernel
theorem dX2_beAsAtFirst_9 : decode cX2_beAsAtFirst 9 = .ok (.getfield 9, 3) := by decide +kernel
theorem dX2_beAsAtFirst_12 : decode cX2_beAsAtFirst 12 = .ok (.iload_n 1, 1) := by decide +kernel
theorem dX2_beAsAtFirst_13 : decode cX2_beAsAtFirst 13 = .ok (.getstatic 33, 3) := by decide +kernel
theorem dX2_beAsAtFirst_16 : decode cX2_beAsAtFirst 16 = .ok (.iload_n 1, 1) := by decide +kernel
theorem dX2_beAsAtFirst_17 : decode cX2_beAsAtFirst 17 = .ok (.iaload, 1) := by decide +kernel
theorem dX2_beAsAtFirst_18 : decode cX2_beAsAtFirst 18 = .ok (.iastore, 1) := by decide +kernel
theorem dX2_beAsAtFirst_19 : decode cX2_beAsAtFirst 19 = .ok (.aload_n 0, 1) := by decide +kernel
theorem dX2_beAsAtFirst_20 : decode cX2_beAsAtFirst 20 = .ok (.getfield 15, 3) := by decide +kernel
theorem dX2_beAsAtFirst_23 : decode cX2_beAsAtFirst 23 = .ok (.iload_n 1, 1) := by decide +kernel
theorem dX2_beAsAtFirst_24 : decode cX2_beAsAtFirst 24 = .ok (.bipush (-6), 2) := by decide +kernel
theorem dX2_beAsAtFirst_26 : decode cX2_beAsAtFirst 26 = .ok (.iastore, 1) := by decide +kernel
theorem dX2_beAsAtFirst_27 : decode cX2_beAsAtFirst 27 = .ok (.iinc 1 1, 3) := by decide +kernel
theorem dX2_beAsAtFirst_30 : decode cX2_beAsAtFirst 30 = .ok (.goto (-28), 3) := by decide +kernel
theorem dX2_beAsAtFirst_33 : decode cX2_beAsAtFirst 33 = .ok (.aload_n 0, 1) := by decide +kernel
theorem dX2_beAsAtFirst_34 : decode cX2_beAsAtFirst 34 = .ok (.iconst 0, 1) := by decide +kernel
theorem dX2_beAsAtFirst_35 : decode cX2_beAsAtFirst 35 = .ok (.putfield 36, 3) := by decide +kernel
theorem dX2_beAsAtFirst_38 : decode cX2_beAsAtFirst 38 = .ok (.aload_n 0, 1) := by decide +kernel
theorem dX2_beAsAtFirst_39 : decode cX2_beAsAtFirst 39 = .ok (.iconst 0, 1) := by decide +kernel
theorem dX2_beAsAtFirst_40 : decode cX2_beAsAtFirst 40 = .ok (.putfield 40, 3) := by decide +kernel
theorem dX2_beAsAtFirst_43 : decode cX2_beAsAtFirst 43 = .ok (.return_, 1) := by decide +kernel
theorem dX2_beAs_0 : decode cX2_beAs 0 = .ok (.aload_n 1, 1) := by decide +kernel
theorem dX2_beAs_1 : decode cX2_beAs 1 = .ok (.getfield 9, 3) := by decide +kernel
theorem dX2_beAs_4 : decode cX2_beAs 4 = .ok (.iconst 0, 1) := by decide +kernel
theorem dX2_beAs_5 : decode cX2_beAs 5 = .ok (.aload_n 0, 1) := by decide +kernel
theorem dX2_beAs_6 : decode cX2_beAs 6 = .ok (.getfield 9, 3) := by decide +kernel
theorem dX2_beAs_9 : decode cX2_beAs 9 = .ok (.iconst 0, 1) := by decide +kernel
theorem dX2_beAs_10 : decode cX2_beAs 10 = .ok (.bipush 26, 2) := by decide +kernel
theorem dX2_beAs_12 : decode cX2_beAs 12 = .ok (.invokestatic 43, 3) := by decide +kernel
theorem dX2_beAs_15 : decode cX2_beAs 15 = .ok (.aload_n 1, 1) := by decide +kernel
theorem dX2_beAs_16 : decode cX2_beAs 16 = .ok (.getfield 15, 3) := by decide +kernel
theorem dX2_beAs_19 : decode cX2_beAs 19 = .ok (.iconst 0, 1) := by decide +kernel
theorem dX2_beAs_20 : decode cX2_beAs 20 = .ok (.aload_n 0, 1) := by decide +kernel
theorem dX2_beAs_21 : decode cX2_beAs 21 = .ok (.getfield 15, 3) := by decide +kernel
theorem dX2_beAs_24 : decode cX2_beAs 24 = .ok (.iconst 0, 1) := by decide +kernel
theorem dX2_beAs_25 : decode cX2_beAs 25 = .ok (.bipush 26, 2) := by decide +kernel
theorem dX2_beAs_27 : decode cX2_beAs 27 = .ok (.invokestatic 43, 3) := by decide +kernel
theorem dX2_beAs_30 : decode cX2_beAs 30 = .ok (.aload_n 0, 1) := by decide +kernel
theorem dX2_beAs_31 : decode cX2_beAs 31 = .ok (.aload_n 1, 1) := by decide +kernel
theorem dX2_beAs_32 : decode cX2_beAs 32 = .ok (.getfield 36, 3) := by decide +kernel
theorem dX2_beAs_35 : decode cX2_beAs 35 = .ok (.putfield 36, 3) := by decide +kernel
theorem dX2_beAs_38 : decode cX2_beAs 38 = .ok (.aload_n 0, 1) := by decide +kernel
theorem dX2_beAs_39 : decode cX2_beAs 39 = .ok (.aload_n 1, 1) := by decide +kernel
theorem dX2_beAs_40 : decode cX2_beAs 40 = .ok (.getfield 40, 3) := by decide +kernel
theorem dX2_beAs_43 : decode cX2_beAs 43 = .ok (.putfield 40, 3) := by decide +kernel
theorem dX2_beAs_46 : decode cX2_beAs 46 = .ok (.aload_n 1, 1) := by decide +kernel
theorem dX2_beAs_47 : decode cX2_beAs 47 = .ok (.getfield 18, 3) := by decide +kernel
theorem dX2_beAs_50 : decode cX2_beAs 50 = .ok (.iconst 0, 1) := by decide +kernel
theorem dX2_beAs_51 : decode cX2_beAs 51 = .ok (.aload_n 0, 1) := by decide +kernel
theorem dX2_beAs_52 : decode cX2_beAs 52 = .ok (.getfield 18, 3) := by decide +kernel
theorem dX2_beAs_55 : decode cX2_beAs 55 = .ok (.iconst 0, 1) := by decide +kernel
theorem dX2_beAs_56 : decode cX2_beAs 56 = .ok (.bipush 6, 2) := by decide +kernel
theorem dX2_beAs_58 : decode cX2_beAs 58 = .ok (.invokestatic 43, 3) := by decide +kernel
theorem dX2_beAs_61 : decode cX2_beAs 61 = .ok (.aload_n 1, 1) := by decide +kernel
theorem dX2_beAs_62 : decode cX2_beAs 62 = .ok (.getfield 21, 3) := by decide +kernel
theorem dX2_beAs_65 : decode cX2_beAs 65 = .ok (.iconst 0, 1) := by decide +kernel
theorem dX2_beAs_66 : decode cX2_beAs 66 = .ok (.aload_n 0, 1) := by decide +kernel
theorem dX2_beAs_67 : decode cX2_beAs 67 = .ok (.getfield 21, 3) := by decide +kernel
theorem dX2_beAs_70 : decode cX2_beAs 70 = .ok (.iconst 0, 1) := by decide +kernel
theorem dX2_beAs_71 : decode cX2_beAs 71 = .ok (.bipush 6, 2) := by decide +kernel
theorem dX2_beAs_73 : decode cX2_beAs 73 = .ok (.invokestatic 43, 3) := by decide +kernel
theorem dX2_beAs_76 : decode cX2_beAs 76 = .ok (.aload_n 1, 1) := by decide +kernel
theorem dX2_beAs_77 : decode cX2_beAs 77 = .ok (.getfield 24, 3) := by decide +kernel
theorem dX2_beAs_80 : decode cX2_beAs 80 = .ok (.iconst 0, 1) := by decide +kernel
theorem dX2_beAs_81 : decode cX2_beAs 81 = .ok (.aload_n 0, 1) := by decide +kernel
theorem dX2_beAs_82 : decode cX2_beAs 82 = .ok (.getfield 24, 3) := by decide +kernel
theorem dX2_beAs_85 : decode cX2_beAs 85 = .ok (.iconst 0, 1) := by decide +kernel
theorem dX2_beAs_86 : decode cX2_beAs 86 = .ok (.bipush 6, 2) := by decide +kernel
theorem dX2_beAs_88 : decode cX2_beAs 88 = .ok (.invokestatic 43, 3) := by decide +kernel
theorem dX2_beAs_91 : decode cX2_beAs 91 = .ok (.aload_n 1, 1) := by decide +kernel
theorem dX2_beAs_92 : decode cX2_beAs 92 = .ok (.getfield 27, 3) := by decide +kernel
theorem dX2_beAs_95 : decode cX2_beAs 95 = .ok (.iconst 0, 1) := by decide +kernel
theorem dX2_beAs_96 : decode cX2_beAs 96 = .ok (.aload_n 0, 1) := by decide +kernel
theorem dX2_beAs_97 : decode cX2_beAs 97 = .ok (.getfield 27, 3) := by decide +kernel
theorem dX2_beAs_100 : decode cX2_beAs 100 = .ok (.iconst 0, 1) := by decide +kernel
theorem dX2_beAs_101 : decode cX2_beAs 101 = .ok (.bipush 6, 2) := by decide +kernel
theorem dX2_beAs_103 : decode cX2_beAs 103 = .ok (.invokestatic 43, 3) := by decide +kernel
theorem dX2_beAs_106 : decode cX2_beAs 106 = .ok (.return_, 1) := by decide +kernel
theorem dX2_loseSameSecond_0 : decode cX2_loseSameSecond 0 = .ok (.aload_n 0, 1) := by decide +kernel
theorem dX2_loseSameSecond_1 : decode cX2_loseSameSecond 1 = .ok (.getfield 15, 3) := by decide +kernel
theorem dX2_loseSameSecond_4 : decode cX2_loseSameSecond 4 = .ok (.iload_n 1, 1) := by decide +kernel
theorem dX2_loseSameSecond_5 : decode cX2_loseSameSecond 5 = .ok (.iaload, 1) := by decide +kernel
theorem dX2_loseSameSecond_6 : decode cX2_loseSameSecond 6 = .ok (.aload_n 0, 1) := by decide +kernel
theorem dX2_loseSameSecond_7 : decode cX2_loseSameSecond 7 = .ok (.getfield 9, 3) := by decide +kernel
theorem dX2_loseSameSecond_10 : decode cX2_loseSameSecond 10 = .ok (.iload_n 1, 1) := by decide +kernel
theorem dX2_loseSameSecond_11 : decode cX2_loseSameSecond 11 = .ok (.iaload, 1) := by decide +kernel
theorem dX2_loseSameSecond_12 : decode cX2_loseSameSecond 12 = .ok (.if_icmp .ne 11, 3) := by decide +kernel
theorem dX2_loseSameSecond_15 : decode cX2_loseSameSecond 15 = .ok (.aload_n 0, 1) := by decide +kernel
theorem dX2_loseSameSecond_16 : decode cX2_loseSameSecond 16 = .ok (.getfield 15, 3) := by decide +kernel
theorem dX2_loseSameSecond_19 : decode cX2_loseSameSecond 19 = .ok (.iload_n 1, 1) := by decide +kernel
theorem dX2_loseSameSecond_20 : decode cX2_loseSameSecond 20 = .ok (.bipush (-6), 2) := by decide +kernel
theorem dX2_loseSameSecond_22 : decode cX2_loseSameSecond 22 = .ok (.iastore, 1) := by decide +kernel
theorem dX2_loseSameSecond_23 : decode cX2_loseSameSecond 23 = .ok (.return_, 1) := by decide +kernel
theorem dX2_lettersOf_0 : decode cX2_lettersOf 0 = .ok (.iconst 0, 1) := by decide +kernel
theorem dX2_lettersOf_1 : decode cX2_lettersOf 1 = .ok (.istore_n 2, 1) := by decide +kernel
theorem dX2_lettersOf_2 : decode cX2_lettersOf 2 = .ok (.iconst 0, 1) := by decide +kernel
theorem dX2_lettersOf_3 : decode cX2_lettersOf 3 = .ok (.istore_n 3, 1) := by decide +kernel
theorem dX2_lettersOf_4 : decode cX2_lettersOf 4 = .ok (.iload_n 3, 1) := by decide +kernel
theorem dX2_lettersOf_5 : decode cX2_lettersOf 5 = .ok (.bipush 26, 2) := by decide +kernel
theorem dX2_lettersOf_7 : decode cX2_lettersOf 7 = .ok (.if_icmp .ge 25, 3) := by decide +kernel
theorem dX2_lettersOf_10 : decode cX2_lettersOf 10 = .ok (.aload_n 0, 1) := by decide +kernel
theorem dX2_lettersOf_11 : decode cX2_lettersOf 11 = .ok (.getfield 9, 3) := by decide +kernel
theorem dX2_lettersOf_14 : decode cX2_lettersOf 14 = .ok (.iload_n 3, 1) := by decide +kernel
theorem dX2_lettersOf_15 : decode cX2_lettersOf 15 = .ok (.iaload, 1) := by decide +kernel
theorem dX2_lettersOf_16 : decode cX2_lettersOf 16 = .ok (.iload_n 1, 1) := by decide +kernel
theorem dX2_lettersOf_17 : decode cX2_lettersOf 17 = .ok (.if_icmp .ne 9, 3) := by decide +kernel
theorem dX2_lettersOf_20 : decode cX2_lettersOf 20 = .ok (.iload_n 2, 1) := by decide +kernel
theorem dX2_lettersOf_21 : decode cX2_lettersOf 21 = .ok (.iconst 1, 1) := by decide +kernel
theorem dX2_lettersOf_22 : decode cX2_lettersOf 22 = .ok (.iload_n 3, 1) := by decide +kernel
theorem dX2_lettersOf_23 : decode cX2_lettersOf 23 = .ok (.ishl, 1) := by decide +kernel
theorem dX2_lettersOf_24 : decode cX2_lettersOf 24 = .ok (.ior, 1) := by decide +kernel
theorem dX2_lettersOf_25 : decode cX2_lettersOf 25 = .ok (.istore_n 2, 1) := by decide +kernel
theorem dX2_lettersOf_26 : decode cX2_lettersOf 26 = .ok (.iinc 3 1, 3) := by decide +kernel
theorem dX2_lettersOf_29 : decode cX2_lettersOf 29 = .ok (.goto (-25), 3) := by decide +kernel
theorem dX2_lettersOf_32 : decode cX2_lettersOf 32 = .ok (.iload_n 2, 1) := by decide +kernel
theorem dX2_lettersOf_33 : decode cX2_lettersOf 33 = .ok (.ireturn, 1) := by decide +kernel
theorem dX2_lettersWithSecond_0 : decode cX2_lettersWithSecond 0 = .ok (.iconst 0, 1) := by decide +kernel
theorem dX2_lettersWithSecond_1 : decode cX2_lettersWithSecond 1 = .ok (.istore_n 1, 1) := by decide +kernel
theorem dX2_lettersWithSecond_2 : decode cX2_lettersWithSecond 2 = .ok (.iconst 0, 1) := by decide +kernel
theorem dX2_lettersWithSecond_3 : decode cX2_lettersWithSecond 3 = .ok (.istore_n 2, 1) := by decide +kernel
theorem dX2_lettersWithSecond_4 : decode cX2_lettersWithSecond 4 = .ok (.iload_n 2, 1) := by decide +kernel
theorem dX2_lettersWithSecond_5 : decode cX2_lettersWithSecond 5 = .ok (.bipush 26, 2) := by decide +kernel
theorem dX2_lettersWithSecond_7 : decode cX2_lettersWithSecond 7 = .ok (.if_icmp .ge 26, 3) := by decide +kernel
theorem dX2_lettersWithSecond_10 : decode cX2_lettersWithSecond 10 = .ok (.aload_n 0, 1) := by decide +kernel
theorem dX2_lettersWithSecond_11 : decode cX2_lettersWithSecond 11 = .ok (.getfield 15, 3) := by decide +kernel
theorem dX2_lettersWithSecond_14 : decode cX2_lettersWithSecond 14 = .ok (.iload_n 2, 1) := by decide +kernel
theorem dX2_lettersWithSecond_15 : decode cX2_lettersWithSecond 15 = .ok (.iaload, 1) := by decide +kernel
theorem dX2_lettersWithSecond_16 : decode cX2_lettersWithSecond 16 = .ok (.bipush (-6), 2) := by decide +kernel
theorem dX2_lettersWithSecond_18 : decode cX2_lettersWithSecond 18 = .ok (.if_icmp .eq 9, 3) := by decide +kernel
theorem dX2_lettersWithSecond_21 : decode cX2_lettersWithSecond 21 = .ok (.iload_n 1, 1) := by decide +kernel
theorem dX2_lettersWithSecond_22 : decode cX2_lettersWithSecond 22 = .ok (.iconst 1, 1) := by decide +kernel
theorem dX2_lettersWithSecond_23 : decode cX2_lettersWithSecond 23 = .ok (.iload_n 2, 1) := by decide +kernel
theorem dX2_lettersWithSecond_24 : decode cX2_lettersWithSecond 24 = .ok (.ishl, 1) := by decide +kernel
theorem dX2_lettersWithSecond_25 : decode cX2_lettersWithSecond 25 = .ok (.ior, 1) := by decide +kernel
theorem dX2_lettersWithSecond_26 : decode cX2_lettersWithSecond 26 = .ok (.istore_n 1, 1) := by decide +kernel
theorem dX2_lettersWithSecond_27 : decode cX2_lettersWithSecond 27 = .ok (.iinc 2 1, 3) := by decide +kernel
theorem dX2_lettersWithSecond_30 : decode cX2_lettersWithSecond 30 = .ok (.goto (-26), 3) := by decide +kernel
theorem dX2_lettersWithSecond_33 : decode cX2_lettersWithSecond 33 = .ok (.iload_n 1, 1) := by decide +kernel
theorem dX2_lettersWithSecond_34 : decode cX2_lettersWithSecond 34 = .ok (.ireturn, 1) := by decide +kernel
set_option maxRecDepth 20000 in
theorem ggX2_mergeClasses_X2_loseSameSecond : GoodIn wsX2_mergeClasses wsX2_loseSameSecond := goodIn_r _ [7, 2, 1, 25, 26, 27, 28, 29, 30, 31, 32] (by decide +kernel) (by decide +kernel)
set_option maxRecDepth 20000 in
theorem gX2_mergeClasses_X2_loseSameSecond : GoodIn wsX2_mergeClasses (wsV RX2 49 RX2 yX2_loseSameSecond wsX2_loseSameSecond) := goodIn_app (goodIn_of _ (by decide +kernel)) ggX2_mergeClasses_X2_loseSameSecond
set_option maxRecDepth 20000 in
theorem ggX2_mergeClasses_X2_remember : GoodIn wsX2_mergeClasses wsX2_remember := goodIn_r _ [11, 12, 13, 14, 15, 16, 17, 18, 19, 6, 20, 21, 22, 23, 24, 25, 26, 27, 28, 29, 30, 31, 32] (by decide +kernel) (by decide +kernel)
set_option maxRecDepth 20000 in
theorem gX2_mergeClasses_X2_remember : GoodIn wsX2_mergeClasses (wsV RX2 53 RX2 yX2_remember wsX2_remember) := goodIn_app (goodIn_of _ (by decide +kernel)) ggX2_mergeClasses_X2_remember
theorem dX2_mergeClasses_0 : decode cX2_mergeClasses 0 = .ok (.iconst 0, 1) := by decide +kernel
theorem dX2_mergeClasses_1 : decode cX2_mergeClasses 1 = .ok (.istore_n 3, 1) := by decide +kernel
theorem dX2_mergeClasses_2 : decode cX2_mergeClasses 2 = .ok (.iconst 0, 1) := by decide +kernel
theorem dX2_mergeClasses_3 : decode cX2_mergeClasses 3 = .ok (.istore 4, 2) := by decide +kernel
theorem dX2_mergeClasses_5 : decode cX2_mergeClasses 5 = .ok (.iconst 0, 1) := by decide +kernel
theorem dX2_mergeClasses_6 : decode cX2_mergeClasses 6 = .ok (.istore 5, 2) := by decide +kernel
theorem dX2_mergeClasses_8 : decode cX2_mergeClasses 8 = .ok (.iload 5, 2) := by decide +kernel
theorem dX2_mergeClasses_10 : decode cX2_mergeClasses 10 = .ok (.bipush 26, 2) := by decide +kernel
theorem dX2_mergeClasses_12 : decode cX2_mergeClasses 12 = .ok (.if_icmp .ge 97, 3) := by decide +kernel
theorem dX2_mergeClasses_15 : decode cX2_mergeClasses 15 = .ok (.aload_n 0, 1) := by decide +kernel
theorem dX2_mergeClasses_16 : decode cX2_mergeClasses 16 = .ok (.getfield 9, 3) := by decide +kernel
theorem dX2_mergeClasses_19 : decode cX2_mergeClasses 19 = .ok (.iload 5, 2) := by decide +kernel
theorem dX2_mergeClasses_21 : decode cX2_mergeClasses 21 = .ok (.iaload, 1) := by decide +kernel
theorem dX2_mergeClasses_22 : decode cX2_mergeClasses 22 = .ok (.iload_n 2, 1) := by decide +kernel
theorem dX2_mergeClasses_23 : decode cX2_mergeClasses 23 = .ok (.if_icmp .ne 18, 3) := by decide +kernel
theorem dX2_mergeClasses_26 : decode cX2_mergeClasses 26 = .ok (.aload_n 0, 1) := by decide +kernel
theorem dX2_mergeClasses_27 : decode cX2_mergeClasses 27 = .ok (.getfield 9, 3) := by decide +kernel
theorem dX2_mergeClasses_30 : decode cX2_mergeClasses 30 = .ok (.iload 5, 2) := by decide +kernel
theorem dX2_mergeClasses_32 : decode cX2_mergeClasses 32 = .ok (.iload_n 1, 1) := by decide +kernel
theorem dX2_mergeClasses_33 : decode cX2_mergeClasses 33 = .ok (.iastore, 1) := by decide +kernel
theorem dX2_mergeClasses_34 : decode cX2_mergeClasses 34 = .ok (.iload_n 3, 1) := by decide +kernel
theorem dX2_mergeClasses_35 : decode cX2_mergeClasses 35 = .ok (.iconst 1, 1) := by decide +kernel
theorem dX2_mergeClasses_36 : decode cX2_mergeClasses 36 = .ok (.iload 5, 2) := by decide +kernel
theorem dX2_mergeClasses_38 : decode cX2_mergeClasses 38 = .ok (.ishl, 1) := by decide +kernel
theorem dX2_mergeClasses_39 : decode cX2_mergeClasses 39 = .ok (.ior, 1) := by decide +kernel
theorem dX2_mergeClasses_40 : decode cX2_mergeClasses 40 = .ok (.istore_n 3, 1) := by decide +kernel
theorem dX2_mergeClasses_41 : decode cX2_mergeClasses 41 = .ok (.aload_n 0, 1) := by decide +kernel
theorem dX2_mergeClasses_42 : decode cX2_mergeClasses 42 = .ok (.getfield 15, 3) := by decide +kernel
theorem dX2_mergeClasses_45 : decode cX2_mergeClasses 45 = .ok (.iload 5, 2) := by decide +kernel
theorem dX2_mergeClasses_47 : decode cX2_mergeClasses 47 = .ok (.iaload, 1) := by decide +kernel
theorem dX2_mergeClasses_48 : decode cX2_mergeClasses 48 = .ok (.iload_n 2, 1) := by decide +kernel
theorem dX2_mergeClasses_49 : decode cX2_mergeClasses 49 = .ok (.if_icmp .ne 7, 3) := by decide +kernel
theorem dX2_mergeClasses_52 : decode cX2_mergeClasses 52 = .ok (.iconst 1, 1) := by decide +kernel
theorem dX2_mergeClasses_53 : decode cX2_mergeClasses 53 = .ok (.goto 4, 3) := by decide +kernel
theorem dX2_mergeClasses_56 : decode cX2_mergeClasses 56 = .ok (.iconst 0, 1) := by decide +kernel
theorem dX2_mergeClasses_57 : decode cX2_mergeClasses 57 = .ok (.istore 6, 2) := by decide +kernel
theorem dX2_mergeClasses_59 : decode cX2_mergeClasses 59 = .ok (.iload 6, 2) := by decide +kernel
theorem dX2_mergeClasses_61 : decode cX2_mergeClasses 61 = .ok (.ifCond .eq 11, 3) := by decide +kernel
theorem dX2_mergeClasses_64 : decode cX2_mergeClasses 64 = .ok (.aload_n 0, 1) := by decide +kernel
theorem dX2_mergeClasses_65 : decode cX2_mergeClasses 65 = .ok (.getfield 15, 3) := by decide +kernel
theorem dX2_mergeClasses_68 : decode cX2_mergeClasses 68 = .ok (.iload 5, 2) := by decide +kernel
theorem dX2_mergeClasses_70 : decode cX2_mergeClasses 70 = .ok (.iload_n 1, 1) := by decide +kernel
theorem dX2_mergeClasses_71 : decode cX2_mergeClasses 71 = .ok (.iastore, 1) := by decide +kernel
theorem dX2_mergeClasses_72 : decode cX2_mergeClasses 72 = .ok (.aload_n 0, 1) := by decide +kernel
theorem dX2_mergeClasses_73 : decode cX2_mergeClasses 73 = .ok (.iload 5, 2) := by decide +kernel
theorem dX2_mergeClasses_75 : decode cX2_mergeClasses 75 = .ok (.invokevirtual 49, 3) := by decide +kernel
theorem dX2_mergeClasses_78 : decode cX2_mergeClasses 78 = .ok (.iload 6, 2) := by decide +kernel
theorem dX2_mergeClasses_80 : decode cX2_mergeClasses 80 = .ok (.ifCond .eq 23, 3) := by decide +kernel
theorem dX2_mergeClasses_83 : decode cX2_mergeClasses 83 = .ok (.aload_n 0, 1) := by decide +kernel
theorem dX2_mergeClasses_84 : decode cX2_mergeClasses 84 = .ok (.getfield 15, 3) := by decide +kernel
theorem dX2_mergeClasses_87 : decode cX2_mergeClasses 87 = .ok (.iload 5, 2) := by decide +kernel
theorem dX2_mergeClasses_89 : decode cX2_mergeClasses 89 = .ok (.iaload, 1) := by decide +kernel
theorem dX2_mergeClasses_90 : decode cX2_mergeClasses 90 = .ok (.iload_n 1, 1) := by decide +kernel
theorem dX2_mergeClasses_91 : decode cX2_mergeClasses 91 = .ok (.if_icmp .ne 12, 3) := by decide +kernel
theorem dX2_mergeClasses_94 : decode cX2_mergeClasses 94 = .ok (.iload 4, 2) := by decide +kernel
theorem dX2_mergeClasses_96 : decode cX2_mergeClasses 96 = .ok (.iconst 1, 1) := by decide +kernel
theorem dX2_mergeClasses_97 : decode cX2_mergeClasses 97 = .ok (.iload 5, 2) := by decide +kernel
theorem dX2_mergeClasses_99 : decode cX2_mergeClasses 99 = .ok (.ishl, 1) := by decide +kernel
theorem dX2_mergeClasses_100 : decode cX2_mergeClasses 100 = .ok (.ior, 1) := by decide +kernel
theorem dX2_mergeClasses_101 : decode cX2_mergeClasses 101 = .ok (.istore 4, 2) := by decide +kernel
theorem dX2_mergeClasses_103 : decode cX2_mergeClasses 103 = .ok (.iinc 5 1, 3) := by decide +kernel
theorem dX2_mergeClasses_106 : decode cX2_mergeClasses 106 = .ok (.goto (-98), 3) := by decide +kernel
theorem dX2_mergeClasses_109 : decode cX2_mergeClasses 109 = .ok (.aload_n 0, 1) := by decide +kernel
theorem dX2_mergeClasses_110 : decode cX2_mergeClasses 110 = .ok (.iload_n 1, 1) := by decide +kernel
theorem dX2_mergeClasses_111 : decode cX2_mergeClasses 111 = .ok (.iload_n 2, 1) := by decide +kernel
theorem dX2_mergeClasses_112 : decode cX2_mergeClasses 112 = .ok (.iload_n 3, 1) := by decide +kernel
theorem dX2_mergeClasses_113 : decode cX2_mergeClasses 113 = .ok (.iload 4, 2) := by decide +kernel
theorem dX2_mergeClasses_115 : decode cX2_mergeClasses 115 = .ok (.invokevirtual 53, 3) := by decide +kernel
theorem dX2_mergeClasses_118 : decode cX2_mergeClasses 118 = .ok (.return_, 1) := by decide +kernel
set_option maxRecDepth 20000 in
theorem ggX2_remember_X2_forgetOldest : GoodIn wsX2_remember wsX2_forgetOldest := goodIn_r _ [10, 1, 2, 11, 12, 13, 14, 3, 4, 5, 15, 16, 17, 18, 19, 20, 21, 22] (by decide +kernel) (by decide +kernel)
set_option maxRecDepth 20000 in
theorem gX2_remember_X2_forgetOldest : GoodIn wsX2_remember (wsV RX2 57 RX2 yX2_forgetOldest wsX2_forgetOldest) := goodIn_app (goodIn_of _ (by decide +kernel)) ggX2_remember_X2_forgetOldest
theorem dX2_remember_0 : decode cX2_remember 0 = .ok (.aload_n 0, 1) := by decide +kernel
theorem dX2_remember_1 : decode cX2_remember 1 = .ok (.getfield 40, 3) := by decide +kernel
theorem dX2_remember_4 : decode cX2_remember 4 = .ok (.bipush 6, 2) := by decide +kernel
theorem dX2_remember_6 : decode cX2_remember 6 = .ok (.if_icmp .lt 7, 3) := by decide +kernel
theorem dX2_remember_9 : decode cX2_remember 9 = .ok (.aload_n 0, 1) := by decide +kernel
theorem dX2_remember_10 : decode cX2_remember 10 = .ok (.invokevirtual 57, 3) := by decide +kernel
theorem dX2_remember_13 : decode cX2_remember 13 = .ok (.aload_n 0, 1) := by decide +kernel
theorem dX2_remember_14 : decode cX2_remember 14 = .ok (.getfield 18, 3) := by decide +kernel
theorem dX2_remember_17 : decode cX2_remember 17 = .ok (.aload_n 0, 1) := by decide +kernel
theorem dX2_remember_18 : decode cX2_remember 18 = .ok (.getfield 40, 3) := by decide +kernel
theorem dX2_remember_21 : decode cX2_remember 21 = .ok (.iload_n 1, 1) := by decide +kernel
theorem dX2_remember_22 : decode cX2_remember 22 = .ok (.iastore, 1) := by decide +kernel
theorem dX2_remember_23 : decode cX2_remember 23 = .ok (.aload_n 0, 1) := by decide +kernel
theorem dX2_remember_24 : decode cX2_remember 24 = .ok (.getfield 21, 3) := by decide +kernel
theorem dX2_remember_27 : decode cX2_remember 27 = .ok (.aload_n 0, 1) := by decide +kernel
theorem dX2_remember_28 : decode cX2_remember 28 = .ok (.getfield 40, 3) := by decide +kernel
theorem dX2_remember_31 : decode cX2_remember 31 = .ok (.iload_n 2, 1) := by decide +kernel
theorem dX2_remember_32 : decode cX2_remember 32 = .ok (.iastore, 1) := by decide +kernel
theorem dX2_remember_33 : decode cX2_remember 33 = .ok (.aload_n 0, 1) := by decide +kernel
theorem dX2_remember_34 : decode cX2_remember 34 = .ok (.getfield 24, 3) := by decide +kernel
theorem dX2_remember_37 : decode cX2_remember 37 = .ok (.aload_n 0, 1) := by decide +kernel
theorem dX2_remember_38 : decode cX2_remember 38 = .ok (.getfield 40, 3) := by decide +kernel
theorem dX2_remember_41 : decode cX2_remember 41 = .ok (.iload_n 3, 1) := by decide +kernel
theorem dX2_remember_42 : decode cX2_remember 42 = .ok (.iastore, 1) := by decide +kernel
theorem dX2_remember_43 : decode cX2_remember 43 = .ok (.aload_n 0, 1) := by decide +kernel
theorem dX2_remember_44 : decode cX2_remember 44 = .ok (.getfield 27, 3) := by decide +kernel
theorem dX2_remember_47 : decode cX2_remember 47 = .ok (.aload_n 0, 1) := by decide +kernel
theorem dX2_remember_48 : decode cX2_remember 48 = .ok (.getfield 40, 3) := by decide +kernel
theorem dX2_remember_51 : decode cX2_remember 51 = .ok (.iload 4, 2) := by decide +kernel
theorem dX2_remember_53 : decode cX2_remember 53 = .ok (.iastore, 1) := by decide +kernel
theorem dX2_remember_54 : decode cX2_remember 54 = .ok (.aload_n 0, 1) := by decide +kernel
theorem dX2_remember_55 : decode cX2_remember 55 = .ok (.dup, 1) := by decide +kernel
theorem dX2_remember_56 : decode cX2_remember 56 = .ok (.getfield 40, 3) := by decide +kernel
theorem dX2_remember_59 : decode cX2_remember 59 = .ok (.iconst 1, 1) := by decide +kernel
theorem dX2_remember_60 : decode cX2_remember 60 = .ok (.iadd, 1) := by decide +kernel
theorem dX2_remember_61 : decode cX2_remember 61 = .ok (.putfield 40, 3) := by decide +kernel
theorem dX2_remember_64 : decode cX2_remember 64 = .ok (.return_, 1) := by decide +kernel
theorem dX2_forgetOldest_0 : decode cX2_forgetOldest 0 = .ok (.aload_n 0, 1) := by decide +kernel
theorem dX2_forgetOldest_1 : decode cX2_forgetOldest 1 = .ok (.iconst 5, 1) := by decide +kernel
theorem dX2_forgetOldest_2 : decode cX2_forgetOldest 2 = .ok (.putfield 40, 3) := by decide +kernel
theorem dX2_forgetOldest_5 : decode cX2_forgetOldest 5 = .ok (.aload_n 0, 1) := by decide +kernel
theorem dX2_forgetOldest_6 : decode cX2_forgetOldest 6 = .ok (.getfield 18, 3) := by decide +kernel
theorem dX2_forgetOldest_9 : decode cX2_forgetOldest 9 = .ok (.iconst 1, 1) := by decide +kernel
theorem dX2_forgetOldest_10 : decode cX2_forgetOldest 10 = .ok (.aload_n 0, 1) := by decide +kernel
theorem dX2_forgetOldest_11 : decode cX2_forgetOldest 11 = .ok (.getfield 18, 3) := by decide +kernel
theorem dX2_forgetOldest_14 : decode cX2_forgetOldest 14 = .ok (.iconst 0, 1) := by decide +kernel
theorem dX2_forgetOldest_15 : decode cX2_forgetOldest 15 = .ok (.aload_n 0, 1) := by decide +kernel
theorem dX2_forgetOldest_16 : decode cX2_forgetOldest 16 = .ok (.getfield 40, 3) := by decide +kernel
theorem dX2_forgetOldest_19 : decode cX2_forgetOldest 19 = .ok (.invokestatic 43, 3) := by decide +kernel
theorem dX2_forgetOldest_22 : decode cX2_forgetOldest 22 = .ok (.aload_n 0, 1) := by decide +kernel
theorem dX2_forgetOldest_23 : decode cX2_forgetOldest 23 = .ok (.getfield 21, 3) := by decide +kernel
theorem dX2_forgetOldest_26 : decode cX2_forgetOldest 26 = .ok (.iconst 1, 1) := by decide +kernel
theorem dX2_forgetOldest_27 : decode cX2_forgetOldest 27 = .ok (.aload_n 0, 1) := by decide +kernel
theorem dX2_forgetOldest_28 : decode cX2_forgetOldest 28 = .ok (.getfield 21, 3) := by decide +kernel
theorem dX2_forgetOldest_31 : decode cX2_forgetOldest 31 = .ok (.iconst 0, 1) := by decide +kernel
theorem dX2_forgetOldest_32 : decode cX2_forgetOldest 32 = .ok (.aload_n 0, 1) := by decide +kernel
theorem dX2_forgetOldest_33 : decode cX2_forgetOldest 33 = .ok (.getfield 40, 3) := by decide +kernel
theorem dX2_forgetOldest_36 : decode cX2_forgetOldest 36 = .ok (.invokestatic 43, 3) := by decide +kernel
theorem dX2_forgetOldest_39 : decode cX2_forgetOldest 39 = .ok (.aload_n 0, 1) := by decide +kernel
theorem dX2_forgetOldest_40 : decode cX2_forgetOldest 40 = .ok (.getfield 24, 3) := by decide +kernel
theorem dX2_forgetOldest_43 : decode cX2_forgetOldest 43 = .ok (.iconst 1, 1) := by decide +kernel
theorem dX2_forgetOldest_44 : decode cX2_forgetOldest 44 = .ok (.aload_n 0, 1) := by decide +kernel
theorem dX2_forgetOldest_45 : decode cX2_forgetOldest 45 = .ok (.getfield 24, 3) := by decide +kernel
theorem dX2_forgetOldest_48 : decode cX2_forgetOldest 48 = .ok (.iconst 0, 1) := by decide +kernel
theorem dX2_forgetOldest_49 : decode cX2_forgetOldest 49 = .ok (.aload_n 0, 1) := by decide +kernel
theorem dX2_forgetOldest_50 : decode cX2_forgetOldest 50 = .ok (.getfield 40, 3) := by decide +kernel
theorem dX2_forgetOldest_53 : decode cX2_forgetOldest 53 = .ok (.invokestatic 43, 3) := by decide +kernel
theorem dX2_forgetOldest_56 : decode cX2_forgetOldest 56 = .ok (.aload_n 0, 1) := by decide +kernel
theorem dX2_forgetOldest_57 : decode cX2_forgetOldest 57 = .ok (.getfield 27, 3) := by decide +kernel
theorem dX2_forgetOldest_60 : decode cX2_forgetOldest 60 = .ok (.iconst 1, 1) := by decide +kernel
theorem dX2_forgetOldest_61 : decode cX2_forgetOldest 61 = .ok (.aload_n 0, 1) := by decide +kernel
theorem dX2_forgetOldest_62 : decode cX2_forgetOldest 62 = .ok (.getfield 27, 3) := by decide +kernel
theorem dX2_forgetOldest_65 : decode cX2_forgetOldest 65 = .ok (.iconst 0, 1) := by decide +kernel
theorem dX2_forgetOldest_66 : decode cX2_forgetOldest 66 = .ok (.aload_n 0, 1) := by decide +kernel
theorem dX2_forgetOldest_67 : decode cX2_forgetOldest 67 = .ok (.getfield 40, 3) := by decide +kernel
theorem dX2_forgetOldest_70 : decode cX2_forgetOldest 70 = .ok (.invokestatic 43, 3) := by decide +kernel
theorem dX2_forgetOldest_73 : decode cX2_forgetOldest 73 = .ok (.return_, 1) := by decide +kernel
set_option maxRecDepth 20000 in
theorem ggX2_splitLatest_X2_loseSameSecond : GoodIn wsX2_splitLatest wsX2_loseSameSecond := goodIn_r _ [12, 7, 5, 13, 14, 15, 16, 17, 18, 19, 20] (by decide +kernel) (by decide +kernel)
set_option maxRecDepth 20000 in
theorem gX2_splitLatest_X2_loseSameSecond : GoodIn wsX2_splitLatest (wsV RX2 49 RX2 yX2_loseSameSecond wsX2_loseSameSecond) := goodIn_app (goodIn_of _ (by decide +kernel)) ggX2_splitLatest_X2_loseSameSecond
theorem dX2_splitLatest_0 : decode cX2_splitLatest 0 = .ok (.aload_n 0, 1) := by decide +kernel
theorem dX2_splitLatest_1 : decode cX2_splitLatest 1 = .ok (.getfield 40, 3) := by decide +kernel
theorem dX2_splitLatest_4 : decode cX2_splitLatest 4 = .ok (.ifCond .le 12, 3) := by decide +kernel
theorem dX2_splitLatest_7 : decode cX2_splitLatest 7 = .ok (.aload_n 0, 1) := by decide +kernel
theorem dX2_splitLatest_8 : decode cX2_splitLatest 8 = .ok (.getfield 40, 3) := by decide +kernel
theorem dX2_splitLatest_11 : decode cX2_splitLatest 11 = .ok (.bipush 6, 2) := by decide +kernel
theorem dX2_splitLatest_13 : decode cX2_splitLatest 13 = .ok (.if_icmp .le 6, 3) := by decide +kernel
theorem dX2_splitLatest_16 : decode cX2_splitLatest 16 = .ok (.bipush (-5), 2) := by decide +kernel
theorem dX2_splitLatest_18 : decode cX2_splitLatest 18 = .ok (.ireturn, 1) := by decide +kernel
theorem dX2_splitLatest_19 : decode cX2_splitLatest 19 = .ok (.aload_n 0, 1) := by decide +kernel
theorem dX2_splitLatest_20 : decode cX2_splitLatest 20 = .ok (.dup, 1) := by decide +kernel
theorem dX2_splitLatest_21 : decode cX2_splitLatest 21 = .ok (.getfield 40, 3) := by decide +kernel
theorem dX2_splitLatest_24 : decode cX2_splitLatest 24 = .ok (.iconst 1, 1) := by decide +kernel
theorem dX2_splitLatest_25 : decode cX2_splitLatest 25 = .ok (.isub, 1) := by decide +kernel
theorem dX2_splitLatest_26 : decode cX2_splitLatest 26 = .ok (.putfield 40, 3) := by decide +kernel
theorem dX2_splitLatest_29 : decode cX2_splitLatest 29 = .ok (.aload_n 0, 1) := by decide +kernel
theorem dX2_splitLatest_30 : decode cX2_splitLatest 30 = .ok (.getfield 18, 3) := by decide +kernel
theorem dX2_splitLatest_33 : decode cX2_splitLatest 33 = .ok (.aload_n 0, 1) := by decide +kernel
theorem dX2_splitLatest_34 : decode cX2_splitLatest 34 = .ok (.getfield 40, 3) := by decide +kernel
theorem dX2_splitLatest_37 : decode cX2_splitLatest 37 = .ok (.iaload, 1) := by decide +kernel
theorem dX2_splitLatest_38 : decode cX2_splitLatest 38 = .ok (.istore_n 1, 1) := by decide +kernel
theorem dX2_splitLatest_39 : decode cX2_splitLatest 39 = .ok (.aload_n 0, 1) := by decide +kernel
theorem dX2_splitLatest_40 : decode cX2_splitLatest 40 = .ok (.getfield 21, 3) := by decide +kernel
theorem dX2_splitLatest_43 : decode cX2_splitLatest 43 = .ok (.aload_n 0, 1) := by decide +kernel
theorem dX2_splitLatest_44 : decode cX2_splitLatest 44 = .ok (.getfield 40, 3) := by decide +kernel
theorem dX2_splitLatest_47 : decode cX2_splitLatest 47 = .ok (.iaload, 1) := by decide +kernel
theorem dX2_splitLatest_48 : decode cX2_splitLatest 48 = .ok (.istore_n 2, 1) := by decide +kernel
theorem dX2_splitLatest_49 : decode cX2_splitLatest 49 = .ok (.iconst 0, 1) := by decide +kernel
theorem dX2_splitLatest_50 : decode cX2_splitLatest 50 = .ok (.istore_n 3, 1) := by decide +kernel
theorem dX2_splitLatest_51 : decode cX2_splitLatest 51 = .ok (.iload_n 3, 1) := by decide +kernel
theorem dX2_splitLatest_52 : decode cX2_splitLatest 52 = .ok (.bipush 26, 2) := by decide +kernel
theorem dX2_splitLatest_54 : decode cX2_splitLatest 54 = .ok (.if_icmp .ge 83, 3) := by decide +kernel
theorem dX2_splitLatest_57 : decode cX2_splitLatest 57 = .ok (.iconst 1, 1) := by decide +kernel
theorem dX2_splitLatest_58 : decode cX2_splitLatest 58 = .ok (.iload_n 3, 1) := by decide +kernel
theorem dX2_splitLatest_59 : decode cX2_splitLatest 59 = .ok (.ishl, 1) := by decide +kernel
theorem dX2_splitLatest_60 : decode cX2_splitLatest 60 = .ok (.istore 4, 2) := by decide +kernel
theorem dX2_splitLatest_62 : decode cX2_splitLatest 62 = .ok (.aload_n 0, 1) := by decide +kernel
theorem dX2_splitLatest_63 : decode cX2_splitLatest 63 = .ok (.getfield 24, 3) := by decide +kernel
theorem dX2_splitLatest_66 : decode cX2_splitLatest 66 = .ok (.aload_n 0, 1) := by decide +kernel
theorem dX2_splitLatest_67 : decode cX2_splitLatest 67 = .ok (.getfield 40, 3) := by decide +kernel
theorem dX2_splitLatest_70 : decode cX2_splitLatest 70 = .ok (.iaload, 1) := by decide +kernel
theorem dX2_splitLatest_71 : decode cX2_splitLatest 71 = .ok (.iload 4, 2) := by decide +kernel
theorem dX2_splitLatest_73 : decode cX2_splitLatest 73 = .ok (.iand, 1) := by decide +kernel
theorem dX2_splitLatest_74 : decode cX2_splitLatest 74 = .ok (.ifCond .eq 20, 3) := by decide +kernel
theorem dX2_splitLatest_77 : decode cX2_splitLatest 77 = .ok (.aload_n 0, 1) := by decide +kernel
theorem dX2_splitLatest_78 : decode cX2_splitLatest 78 = .ok (.getfield 9, 3) := by decide +kernel
theorem dX2_splitLatest_81 : decode cX2_splitLatest 81 = .ok (.iload_n 3, 1) := by decide +kernel
theorem dX2_splitLatest_82 : decode cX2_splitLatest 82 = .ok (.iaload, 1) := by decide +kernel
theorem dX2_splitLatest_83 : decode cX2_splitLatest 83 = .ok (.iload_n 1, 1) := by decide +kernel
theorem dX2_splitLatest_84 : decode cX2_splitLatest 84 = .ok (.if_icmp .ne 10, 3) := by decide +kernel
theorem dX2_splitLatest_87 : decode cX2_splitLatest 87 = .ok (.aload_n 0, 1) := by decide +kernel
theorem dX2_splitLatest_88 : decode cX2_splitLatest 88 = .ok (.getfield 9, 3) := by decide +kernel
theorem dX2_splitLatest_91 : decode cX2_splitLatest 91 = .ok (.iload_n 3, 1) := by decide +kernel
theorem dX2_splitLatest_92 : decode cX2_splitLatest 92 = .ok (.iload_n 2, 1) := by decide +kernel
theorem dX2_splitLatest_93 : decode cX2_splitLatest 93 = .ok (.iastore, 1) := by decide +kernel
theorem dX2_splitLatest_94 : decode cX2_splitLatest 94 = .ok (.aload_n 0, 1) := by decide +kernel
theorem dX2_splitLatest_95 : decode cX2_splitLatest 95 = .ok (.getfield 27, 3) := by decide +kernel
theorem dX2_splitLatest_98 : decode cX2_splitLatest 98 = .ok (.aload_n 0, 1) := by decide +kernel
theorem dX2_splitLatest_99 : decode cX2_splitLatest 99 = .ok (.getfield 40, 3) := by decide +kernel
theorem dX2_splitLatest_102 : decode cX2_splitLatest 102 = .ok (.iaload, 1) := by decide +kernel
theorem dX2_splitLatest_103 : decode cX2_splitLatest 103 = .ok (.iload 4, 2) := by decide +kernel
theorem dX2_splitLatest_105 : decode cX2_splitLatest 105 = .ok (.iand, 1) := by decide +kernel
theorem dX2_splitLatest_106 : decode cX2_splitLatest 106 = .ok (.ifCond .eq 20, 3) := by decide +kernel
theorem dX2_splitLatest_109 : decode cX2_splitLatest 109 = .ok (.aload_n 0, 1) := by decide +kernel
theorem dX2_splitLatest_110 : decode cX2_splitLatest 110 = .ok (.getfield 15, 3) := by decide +kernel
theorem dX2_splitLatest_113 : decode cX2_splitLatest 113 = .ok (.iload_n 3, 1) := by decide +kernel
theorem dX2_splitLatest_114 : decode cX2_splitLatest 114 = .ok (.iaload, 1) := by decide +kernel
theorem dX2_splitLatest_115 : decode cX2_splitLatest 115 = .ok (.iload_n 1, 1) := by decide +kernel
theorem dX2_splitLatest_116 : decode cX2_splitLatest 116 = .ok (.if_icmp .ne 10, 3) := by decide +kernel
theorem dX2_splitLatest_119 : decode cX2_splitLatest 119 = .ok (.aload_n 0, 1) := by decide +kernel
theorem dX2_splitLatest_120 : decode cX2_splitLatest 120 = .ok (.getfield 15, 3) := by decide +kernel
theorem dX2_splitLatest_123 : decode cX2_splitLatest 123 = .ok (.iload_n 3, 1) := by decide +kernel
theorem dX2_splitLatest_124 : decode cX2_splitLatest 124 = .ok (.iload_n 2, 1) := by decide +kernel
theorem dX2_splitLatest_125 : decode cX2_splitLatest 125 = .ok (.iastore, 1) := by decide +kernel
theorem dX2_splitLatest_126 : decode cX2_splitLatest 126 = .ok (.aload_n 0, 1) := by decide +kernel
theorem dX2_splitLatest_127 : decode cX2_splitLatest 127 = .ok (.iload_n 3, 1) := by decide +kernel
theorem dX2_splitLatest_128 : decode cX2_splitLatest 128 = .ok (.invokevirtual 49, 3) := by decide +kernel
theorem dX2_splitLatest_131 : decode cX2_splitLatest 131 = .ok (.iinc 3 1, 3) := by decide +kernel
theorem dX2_splitLatest_134 : decode cX2_splitLatest 134 = .ok (.goto (-83), 3) := by decide +kernel
theorem dX2_splitLatest_137 : decode cX2_splitLatest 137 = .ok (.iload_n 2, 1) := by decide +kernel
theorem dX2_splitLatest_138 : decode cX2_splitLatest 138 = .ok (.ireturn, 1) := by decide +kernel
set_option maxRecDepth 20000 in
theorem ggX2_writeCodes_X2_waysToHear : GoodIn wsX2_writeCodes wsX2_waysToHear := goodIn_r _ [5, 6, 7, 8, 9, 10, 11, 12, 13, 14, 15, 16, 17, 4, 18, 19, 29, 30, 31, 32, 33, 34, 35, 36] (by decide +kernel) (by decide +kernel)
set_option maxRecDepth 20000 in
theorem gX2_writeCodes_X2_waysToHear : GoodIn wsX2_writeCodes (wsV RX2 60 RX2 yX2_waysToHear wsX2_waysToHear) := goodIn_app (goodIn_of _ (by decide +kernel)) ggX2_writeCodes_X2_waysToHear
set_option maxRecDepth 20000 in
theorem ggX2_writeCodes_X2_codeByWay : GoodIn wsX2_writeCodes wsX2_codeByWay := goodIn_r _ [23, 6, 24, 7, 8, 9, 10, 11, 12, 13, 14, 15, 16, 17, 4, 18, 19, 25, 26, 27, 28, 29, 30, 31, 32, 33, 34, 35, 36] (by decide +kernel) (by decide +kernel)
set_option maxRecDepth 20000 in
theorem gX2_writeCodes_X2_codeByWay : GoodIn wsX2_writeCodes (wsV RX2 64 RX2 yX2_codeByWay wsX2_codeByWay) := goodIn_app (goodIn_of _ (by decide +kernel)) ggX2_writeCodes_X2_codeByWay
theorem dX2_writeCodes_0 : decode cX2_writeCodes 0 = .ok (.aload_n 0, 1) := by decide +kernel
theorem dX2_writeCodes_1 : decode cX2_writeCodes 1 = .ok (.lload_n 1, 1) := by decide +kernel
theorem dX2_writeCodes_2 : decode cX2_writeCodes 2 = .ok (.invokevirtual 60, 3) := by decide +kernel
theorem dX2_writeCodes_5 : decode cX2_writeCodes 5 = .ok (.istore 5, 2) := by decide +kernel
theorem dX2_writeCodes_7 : decode cX2_writeCodes 7 = .ok (.iconst 0, 1) := by decide +kernel
theorem dX2_writeCodes_8 : decode cX2_writeCodes 8 = .ok (.istore 6, 2) := by decide +kernel
theorem dX2_writeCodes_10 : decode cX2_writeCodes 10 = .ok (.iconst 0, 1) := by decide +kernel
theorem dX2_writeCodes_11 : decode cX2_writeCodes 11 = .ok (.istore 7, 2) := by decide +kernel
theorem dX2_writeCodes_13 : decode cX2_writeCodes 13 = .ok (.iload 7, 2) := by decide +kernel
theorem dX2_writeCodes_15 : decode cX2_writeCodes 15 = .ok (.iload 5, 2) := by decide +kernel
theorem dX2_writeCodes_17 : decode cX2_writeCodes 17 = .ok (.if_icmp .ge 82, 3) := by decide +kernel
theorem dX2_writeCodes_20 : decode cX2_writeCodes 20 = .ok (.aload_n 0, 1) := by decide +kernel
theorem dX2_writeCodes_21 : decode cX2_writeCodes 21 = .ok (.lload_n 1, 1) := by decide +kernel
theorem dX2_writeCodes_22 : decode cX2_writeCodes 22 = .ok (.iload_n 3, 1) := by decide +kernel
theorem dX2_writeCodes_23 : decode cX2_writeCodes 23 = .ok (.iload 7, 2) := by decide +kernel
theorem dX2_writeCodes_25 : decode cX2_writeCodes 25 = .ok (.invokevirtual 64, 3) := by decide +kernel
theorem dX2_writeCodes_28 : decode cX2_writeCodes 28 = .ok (.istore 8, 2) := by decide +kernel
theorem dX2_writeCodes_30 : decode cX2_writeCodes 30 = .ok (.iconst 1, 1) := by decide +kernel
theorem dX2_writeCodes_31 : decode cX2_writeCodes 31 = .ok (.istore 9, 2) := by decide +kernel
theorem dX2_writeCodes_33 : decode cX2_writeCodes 33 = .ok (.iconst 0, 1) := by decide +kernel
theorem dX2_writeCodes_34 : decode cX2_writeCodes 34 = .ok (.istore 10, 2) := by decide +kernel
theorem dX2_writeCodes_36 : decode cX2_writeCodes 36 = .ok (.iload 10, 2) := by decide +kernel
theorem dX2_writeCodes_38 : decode cX2_writeCodes 38 = .ok (.iload 6, 2) := by decide +kernel
theorem dX2_writeCodes_40 : decode cX2_writeCodes 40 = .ok (.if_icmp .ge 30, 3) := by decide +kernel
theorem dX2_writeCodes_43 : decode cX2_writeCodes 43 = .ok (.iload 10, 2) := by decide +kernel
theorem dX2_writeCodes_45 : decode cX2_writeCodes 45 = .ok (.aload 4, 2) := by decide +kernel
theorem dX2_writeCodes_47 : decode cX2_writeCodes 47 = .ok (.arraylength, 1) := by decide +kernel
theorem dX2_writeCodes_48 : decode cX2_writeCodes 48 = .ok (.if_icmp .ge 22, 3) := by decide +kernel
theorem dX2_writeCodes_51 : decode cX2_writeCodes 51 = .ok (.aload 4, 2) := by decide +kernel
theorem dX2_writeCodes_53 : decode cX2_writeCodes 53 = .ok (.iload 10, 2) := by decide +kernel
theorem dX2_writeCodes_55 : decode cX2_writeCodes 55 = .ok (.iaload, 1) := by decide +kernel
theorem dX2_writeCodes_56 : decode cX2_writeCodes 56 = .ok (.iload 8, 2) := by decide +kernel
theorem dX2_writeCodes_58 : decode cX2_writeCodes 58 = .ok (.if_icmp .ne 6, 3) := by decide +kernel
theorem dX2_writeCodes_61 : decode cX2_writeCodes 61 = .ok (.iconst 0, 1) := by decide +kernel
theorem dX2_writeCodes_62 : decode cX2_writeCodes 62 = .ok (.istore 9, 2) := by decide +kernel
theorem dX2_writeCodes_64 : decode cX2_writeCodes 64 = .ok (.iinc 10 1, 3) := by decide +kernel
theorem dX2_writeCodes_67 : decode cX2_writeCodes 67 = .ok (.goto (-31), 3) := by decide +kernel
theorem dX2_writeCodes_70 : decode cX2_writeCodes 70 = .ok (.iload 9, 2) := by decide +kernel
theorem dX2_writeCodes_72 : decode cX2_writeCodes 72 = .ok (.ifCond .eq 21, 3) := by decide +kernel
theorem dX2_writeCodes_75 : decode cX2_writeCodes 75 = .ok (.iload 6, 2) := by decide +kernel
theorem dX2_writeCodes_77 : decode cX2_writeCodes 77 = .ok (.aload 4, 2) := by decide +kernel
theorem dX2_writeCodes_79 : decode cX2_writeCodes 79 = .ok (.arraylength, 1) := by decide +kernel
theorem dX2_writeCodes_80 : decode cX2_writeCodes 80 = .ok (.if_icmp .ge 13, 3) := by decide +kernel
theorem dX2_writeCodes_83 : decode cX2_writeCodes 83 = .ok (.aload 4, 2) := by decide +kernel
theorem dX2_writeCodes_85 : decode cX2_writeCodes 85 = .ok (.iload 6, 2) := by decide +kernel
theorem dX2_writeCodes_87 : decode cX2_writeCodes 87 = .ok (.iload 8, 2) := by decide +kernel
theorem dX2_writeCodes_89 : decode cX2_writeCodes 89 = .ok (.iastore, 1) := by decide +kernel
theorem dX2_writeCodes_90 : decode cX2_writeCodes 90 = .ok (.iinc 6 1, 3) := by decide +kernel
theorem dX2_writeCodes_93 : decode cX2_writeCodes 93 = .ok (.iinc 7 1, 3) := by decide +kernel
theorem dX2_writeCodes_96 : decode cX2_writeCodes 96 = .ok (.goto (-83), 3) := by decide +kernel
theorem dX2_writeCodes_99 : decode cX2_writeCodes 99 = .ok (.iload 6, 2) := by decide +kernel
theorem dX2_writeCodes_101 : decode cX2_writeCodes 101 = .ok (.ireturn, 1) := by decide +kernel
set_option maxRecDepth 20000 in
theorem ggX2_waysToHear_X6_letterAt : GoodIn wsX2_waysToHear wsX6_letterAt := goodIn_r _ [5, 6] (by decide +kernel) (by decide +kernel)
set_option maxRecDepth 20000 in
theorem gX2_waysToHear_X6_letterAt : GoodIn wsX2_waysToHear (va_wsS RX2 68 yX6_letterAt wsX6_letterAt) := goodIn_app (goodIn_of _ (by decide +kernel)) ggX2_waysToHear_X6_letterAt
set_option maxRecDepth 20000 in
theorem ggX2_waysToHear_X6_isLetter : GoodIn wsX2_waysToHear wsX6_isLetter := goodIn_r _ [9] (by decide +kernel) (by decide +kernel)
set_option maxRecDepth 20000 in
theorem gX2_waysToHear_X6_isLetter : GoodIn wsX2_waysToHear (va_wsS RX2 74 yX6_isLetter wsX6_isLetter) := goodIn_app (goodIn_of _ (by decide +kernel)) ggX2_waysToHear_X6_isLetter
set_option maxRecDepth 20000 in
theorem ggX2_waysToHear_X2_byHabit : GoodIn wsX2_waysToHear wsX2_byHabit := goodIn_r _ [14, 15, 2, 3, 4, 5, 6, 16, 17, 18, 19, 20, 21, 22, 23] (by decide +kernel) (by decide +kernel)
set_option maxRecDepth 20000 in
theorem gX2_waysToHear_X2_byHabit : GoodIn wsX2_waysToHear (wsV RX2 78 RX2 yX2_byHabit wsX2_byHabit) := goodIn_app (goodIn_of _ (by decide +kernel)) ggX2_waysToHear_X2_byHabit
theorem dX2_waysToHear_0 : decode cX2_waysToHear 0 = .ok (.iconst 1, 1) := by decide +kernel
theorem dX2_waysToHear_1 : decode cX2_waysToHear 1 = .ok (.istore_n 3, 1) := by decide +kernel
theorem dX2_waysToHear_2 : decode cX2_waysToHear 2 = .ok (.iconst 0, 1) := by decide +kernel
theorem dX2_waysToHear_3 : decode cX2_waysToHear 3 = .ok (.istore 4, 2) := by decide +kernel
theorem dX2_waysToHear_5 : decode cX2_waysToHear 5 = .ok (.iload 4, 2) := by decide +kernel
theorem dX2_waysToHear_7 : decode cX2_waysToHear 7 = .ok (.bipush 10, 2) := by decide +kernel
theorem dX2_waysToHear_9 : decode cX2_waysToHear 9 = .ok (.if_icmp .ge 60, 3) := by decide +kernel
theorem dX2_waysToHear_12 : decode cX2_waysToHear 12 = .ok (.iload_n 3, 1) := by decide +kernel
theorem dX2_waysToHear_13 : decode cX2_waysToHear 13 = .ok (.iconst 4, 1) := by decide +kernel
theorem dX2_waysToHear_14 : decode cX2_waysToHear 14 = .ok (.if_icmp .ge 55, 3) := by decide +kernel
theorem dX2_waysToHear_17 : decode cX2_waysToHear 17 = .ok (.lload_n 1, 1) := by decide +kernel
theorem dX2_waysToHear_18 : decode cX2_waysToHear 18 = .ok (.iload 4, 2) := by decide +kernel
theorem dX2_waysToHear_20 : decode cX2_waysToHear 20 = .ok (.invokestatic 68, 3) := by decide +kernel
theorem dX2_waysToHear_23 : decode cX2_waysToHear 23 = .ok (.istore 5, 2) := by decide +kernel
theorem dX2_waysToHear_25 : decode cX2_waysToHear 25 = .ok (.iload 5, 2) := by decide +kernel
theorem dX2_waysToHear_27 : decode cX2_waysToHear 27 = .ok (.invokestatic 74, 3) := by decide +kernel
theorem dX2_waysToHear_30 : decode cX2_waysToHear 30 = .ok (.ifCond .ne 6, 3) := by decide +kernel
theorem dX2_waysToHear_33 : decode cX2_waysToHear 33 = .ok (.goto 36, 3) := by decide +kernel
theorem dX2_waysToHear_36 : decode cX2_waysToHear 36 = .ok (.aload_n 0, 1) := by decide +kernel
theorem dX2_waysToHear_37 : decode cX2_waysToHear 37 = .ok (.getfield 15, 3) := by decide +kernel
theorem dX2_waysToHear_40 : decode cX2_waysToHear 40 = .ok (.iload 5, 2) := by decide +kernel
theorem dX2_waysToHear_42 : decode cX2_waysToHear 42 = .ok (.iaload, 1) := by decide +kernel
theorem dX2_waysToHear_43 : decode cX2_waysToHear 43 = .ok (.bipush (-6), 2) := by decide +kernel
theorem dX2_waysToHear_45 : decode cX2_waysToHear 45 = .ok (.if_icmp .eq 18, 3) := by decide +kernel
theorem dX2_waysToHear_48 : decode cX2_waysToHear 48 = .ok (.aload_n 0, 1) := by decide +kernel
theorem dX2_waysToHear_49 : decode cX2_waysToHear 49 = .ok (.lload_n 1, 1) := by decide +kernel
theorem dX2_waysToHear_50 : decode cX2_waysToHear 50 = .ok (.iload 4, 2) := by decide +kernel
theorem dX2_waysToHear_52 : decode cX2_waysToHear 52 = .ok (.invokevirtual 78, 3) := by decide +kernel
theorem dX2_waysToHear_55 : decode cX2_waysToHear 55 = .ok (.iconst (-1), 1) := by decide +kernel
theorem dX2_waysToHear_56 : decode cX2_waysToHear 56 = .ok (.if_icmp .ne 7, 3) := by decide +kernel
theorem dX2_waysToHear_59 : decode cX2_waysToHear 59 = .ok (.iload_n 3, 1) := by decide +kernel
theorem dX2_waysToHear_60 : decode cX2_waysToHear 60 = .ok (.iconst 2, 1) := by decide +kernel
theorem dX2_waysToHear_61 : decode cX2_waysToHear 61 = .ok (.imul, 1) := by decide +kernel
theorem dX2_waysToHear_62 : decode cX2_waysToHear 62 = .ok (.istore_n 3, 1) := by decide +kernel
theorem dX2_waysToHear_63 : decode cX2_waysToHear 63 = .ok (.iinc 4 1, 3) := by decide +kernel
theorem dX2_waysToHear_66 : decode cX2_waysToHear 66 = .ok (.goto (-61), 3) := by decide +kernel
theorem dX2_waysToHear_69 : decode cX2_waysToHear 69 = .ok (.iload_n 3, 1) := by decide +kernel
theorem dX2_waysToHear_70 : decode cX2_waysToHear 70 = .ok (.ireturn, 1) := by decide +kernel
set_option maxRecDepth 20000 in
theorem ggX2_codeByWay_X6_letterAt : GoodIn wsX2_codeByWay wsX6_letterAt := goodIn_r _ [6, 7] (by decide +kernel) (by decide +kernel)
set_option maxRecDepth 20000 in
theorem gX2_codeByWay_X6_letterAt : GoodIn wsX2_codeByWay (va_wsS RX2 68 yX6_letterAt wsX6_letterAt) := goodIn_app (goodIn_of _ (by decide +kernel)) ggX2_codeByWay_X6_letterAt
set_option maxRecDepth 20000 in
theorem ggX2_codeByWay_X6_isLetter : GoodIn wsX2_codeByWay wsX6_isLetter := goodIn_r _ [10] (by decide +kernel) (by decide +kernel)
set_option maxRecDepth 20000 in
theorem gX2_codeByWay_X6_isLetter : GoodIn wsX2_codeByWay (va_wsS RX2 74 yX6_isLetter wsX6_isLetter) := goodIn_app (goodIn_of _ (by decide +kernel)) ggX2_codeByWay_X6_isLetter
set_option maxRecDepth 20000 in
theorem ggX2_codeByWay_X2_byHabit : GoodIn wsX2_codeByWay wsX2_byHabit := goodIn_r _ [15, 16, 3, 4, 5, 6, 7, 21, 22, 23, 24, 25, 26, 27, 28] (by decide +kernel) (by decide +kernel)
set_option maxRecDepth 20000 in
theorem gX2_codeByWay_X2_byHabit : GoodIn wsX2_codeByWay (wsV RX2 78 RX2 yX2_byHabit wsX2_byHabit) := goodIn_app (goodIn_of _ (by decide +kernel)) ggX2_codeByWay_X2_byHabit
set_option maxRecDepth 20000 in
theorem ggX2_codeByWay_X0_with : GoodIn wsX2_codeByWay wsX0_with := goodIn_r _ [20] (by decide +kernel) (by decide +kernel)
set_option maxRecDepth 20000 in
theorem gX2_codeByWay_X0_with : GoodIn wsX2_codeByWay (va_wsS RX2 81 yX0_with wsX0_with) := goodIn_app (goodIn_of _ (by decide +kernel)) ggX2_codeByWay_X0_with
theorem dX2_codeByWay_0 : decode cX2_codeByWay 0 = .ok (.iconst 0, 1) := by decide +kernel
theorem dX2_codeByWay_1 : decode cX2_codeByWay 1 = .ok (.istore 5, 2) := by decide +kernel
theorem dX2_codeByWay_3 : decode cX2_codeByWay 3 = .ok (.iconst 0, 1) := by decide +kernel
theorem dX2_codeByWay_4 : decode cX2_codeByWay 4 = .ok (.istore 6, 2) := by decide +kernel
theorem dX2_codeByWay_6 : decode cX2_codeByWay 6 = .ok (.iconst 0, 1) := by decide +kernel
theorem dX2_codeByWay_7 : decode cX2_codeByWay 7 = .ok (.istore 7, 2) := by decide +kernel
theorem dX2_codeByWay_9 : decode cX2_codeByWay 9 = .ok (.iload 4, 2) := by decide +kernel
theorem dX2_codeByWay_11 : decode cX2_codeByWay 11 = .ok (.istore 8, 2) := by decide +kernel
theorem dX2_codeByWay_13 : decode cX2_codeByWay 13 = .ok (.iconst 0, 1) := by decide +kernel
theorem dX2_codeByWay_14 : decode cX2_codeByWay 14 = .ok (.istore 9, 2) := by decide +kernel
theorem dX2_codeByWay_16 : decode cX2_codeByWay 16 = .ok (.iload 9, 2) := by decide +kernel
theorem dX2_codeByWay_18 : decode cX2_codeByWay 18 = .ok (.bipush 10, 2) := by decide +kernel
theorem dX2_codeByWay_20 : decode cX2_codeByWay 20 = .ok (.if_icmp .ge 138, 3) := by decide +kernel
theorem dX2_codeByWay_23 : decode cX2_codeByWay 23 = .ok (.iload 6, 2) := by decide +kernel
theorem dX2_codeByWay_25 : decode cX2_codeByWay 25 = .ok (.iload_n 3, 1) := by decide +kernel
theorem dX2_codeByWay_26 : decode cX2_codeByWay 26 = .ok (.if_icmp .ge 132, 3) := by decide +kernel
theorem dX2_codeByWay_29 : decode cX2_codeByWay 29 = .ok (.lload_n 1, 1) := by decide +kernel
theorem dX2_codeByWay_30 : decode cX2_codeByWay 30 = .ok (.iload 9, 2) := by decide +kernel
theorem dX2_codeByWay_32 : decode cX2_codeByWay 32 = .ok (.invokestatic 68, 3) := by decide +kernel
theorem dX2_codeByWay_35 : decode cX2_codeByWay 35 = .ok (.istore 10, 2) := by decide +kernel
theorem dX2_codeByWay_37 : decode cX2_codeByWay 37 = .ok (.iload 10, 2) := by decide +kernel
theorem dX2_codeByWay_39 : decode cX2_codeByWay 39 = .ok (.invokestatic 74, 3) := by decide +kernel
theorem dX2_codeByWay_42 : decode cX2_codeByWay 42 = .ok (.ifCond .ne 6, 3) := by decide +kernel
theorem dX2_codeByWay_45 : decode cX2_codeByWay 45 = .ok (.goto 113, 3) := by decide +kernel
theorem dX2_codeByWay_48 : decode cX2_codeByWay 48 = .ok (.aload_n 0, 1) := by decide +kernel
theorem dX2_codeByWay_49 : decode cX2_codeByWay 49 = .ok (.lload_n 1, 1) := by decide +kernel
theorem dX2_codeByWay_50 : decode cX2_codeByWay 50 = .ok (.iload 9, 2) := by decide +kernel
theorem dX2_codeByWay_52 : decode cX2_codeByWay 52 = .ok (.invokevirtual 78, 3) := by decide +kernel
theorem dX2_codeByWay_55 : decode cX2_codeByWay 55 = .ok (.istore 11, 2) := by decide +kernel
theorem dX2_codeByWay_57 : decode cX2_codeByWay 57 = .ok (.iload 11, 2) := by decide +kernel
theorem dX2_codeByWay_59 : decode cX2_codeByWay 59 = .ok (.iconst (-1), 1) := by decide +kernel
theorem dX2_codeByWay_60 : decode cX2_codeByWay 60 = .ok (.if_icmp .ne 64, 3) := by decide +kernel
theorem dX2_codeByWay_63 : decode cX2_codeByWay 63 = .ok (.aload_n 0, 1) := by decide +kernel
theorem dX2_codeByWay_64 : decode cX2_codeByWay 64 = .ok (.getfield 15, 3) := by decide +kernel
theorem dX2_codeByWay_67 : decode cX2_codeByWay 67 = .ok (.iload 10, 2) := by decide +kernel
theorem dX2_codeByWay_69 : decode cX2_codeByWay 69 = .ok (.iaload, 1) := by decide +kernel
theorem dX2_codeByWay_70 : decode cX2_codeByWay 70 = .ok (.bipush (-6), 2) := by decide +kernel
theorem dX2_codeByWay_72 : decode cX2_codeByWay 72 = .ok (.if_icmp .eq 7, 3) := by decide +kernel
theorem dX2_codeByWay_75 : decode cX2_codeByWay 75 = .ok (.iconst 1, 1) := by decide +kernel
theorem dX2_codeByWay_76 : decode cX2_codeByWay 76 = .ok (.goto 4, 3) := by decide +kernel
theorem dX2_codeByWay_79 : decode cX2_codeByWay 79 = .ok (.iconst 0, 1) := by decide +kernel
theorem dX2_codeByWay_80 : decode cX2_codeByWay 80 = .ok (.istore 12, 2) := by decide +kernel
theorem dX2_codeByWay_82 : decode cX2_codeByWay 82 = .ok (.iload 12, 2) := by decide +kernel
theorem dX2_codeByWay_84 : decode cX2_codeByWay 84 = .ok (.ifCond .eq 20, 3) := by decide +kernel
theorem dX2_codeByWay_87 : decode cX2_codeByWay 87 = .ok (.iload 8, 2) := by decide +kernel
theorem dX2_codeByWay_89 : decode cX2_codeByWay 89 = .ok (.iconst 1, 1) := by decide +kernel
theorem dX2_codeByWay_90 : decode cX2_codeByWay 90 = .ok (.iand, 1) := by decide +kernel
theorem dX2_codeByWay_91 : decode cX2_codeByWay 91 = .ok (.ifCond .eq 13, 3) := by decide +kernel
theorem dX2_codeByWay_94 : decode cX2_codeByWay 94 = .ok (.aload_n 0, 1) := by decide +kernel
theorem dX2_codeByWay_95 : decode cX2_codeByWay 95 = .ok (.getfield 15, 3) := by decide +kernel
theorem dX2_codeByWay_98 : decode cX2_codeByWay 98 = .ok (.iload 10, 2) := by decide +kernel
theorem dX2_codeByWay_100 : decode cX2_codeByWay 100 = .ok (.iaload, 1) := by decide +kernel
theorem dX2_codeByWay_101 : decode cX2_codeByWay 101 = .ok (.goto 10, 3) := by decide +kernel
theorem dX2_codeByWay_104 : decode cX2_codeByWay 104 = .ok (.aload_n 0, 1) := by decide +kernel
theorem dX2_codeByWay_105 : decode cX2_codeByWay 105 = .ok (.getfield 9, 3) := by decide +kernel
theorem dX2_codeByWay_108 : decode cX2_codeByWay 108 = .ok (.iload 10, 2) := by decide +kernel
theorem dX2_codeByWay_110 : decode cX2_codeByWay 110 = .ok (.iaload, 1) := by decide +kernel
theorem dX2_codeByWay_111 : decode cX2_codeByWay 111 = .ok (.istore 11, 2) := by decide +kernel
theorem dX2_codeByWay_113 : decode cX2_codeByWay 113 = .ok (.iload 12, 2) := by decide +kernel
theorem dX2_codeByWay_115 : decode cX2_codeByWay 115 = .ok (.ifCond .eq 9, 3) := by decide +kernel
theorem dX2_codeByWay_118 : decode cX2_codeByWay 118 = .ok (.iload 8, 2) := by decide +kernel
theorem dX2_codeByWay_120 : decode cX2_codeByWay 120 = .ok (.iconst 1, 1) := by decide +kernel
theorem dX2_codeByWay_121 : decode cX2_codeByWay 121 = .ok (.iushr, 1) := by decide +kernel
theorem dX2_codeByWay_122 : decode cX2_codeByWay 122 = .ok (.istore 8, 2) := by decide +kernel
theorem dX2_codeByWay_124 : decode cX2_codeByWay 124 = .ok (.iload 11, 2) := by decide +kernel
theorem dX2_codeByWay_126 : decode cX2_codeByWay 126 = .ok (.ifCond .eq 22, 3) := by decide +kernel
theorem dX2_codeByWay_129 : decode cX2_codeByWay 129 = .ok (.iload 11, 2) := by decide +kernel
theorem dX2_codeByWay_131 : decode cX2_codeByWay 131 = .ok (.iload 7, 2) := by decide +kernel
theorem dX2_codeByWay_133 : decode cX2_codeByWay 133 = .ok (.if_icmp .eq 15, 3) := by decide +kernel
theorem dX2_codeByWay_136 : decode cX2_codeByWay 136 = .ok (.iload 5, 2) := by decide +kernel
theorem dX2_codeByWay_138 : decode cX2_codeByWay 138 = .ok (.iload 11, 2) := by decide +kernel
theorem dX2_codeByWay_140 : decode cX2_codeByWay 140 = .ok (.invokestatic 81, 3) := by decide +kernel
theorem dX2_codeByWay_143 : decode cX2_codeByWay 143 = .ok (.istore 5, 2) := by decide +kernel
theorem dX2_codeByWay_145 : decode cX2_codeByWay 145 = .ok (.iinc 6 1, 3) := by decide +kernel
theorem dX2_codeByWay_148 : decode cX2_codeByWay 148 = .ok (.iload 11, 2) := by decide +kernel
theorem dX2_codeByWay_150 : decode cX2_codeByWay 150 = .ok (.istore 7, 2) := by decide +kernel
theorem dX2_codeByWay_152 : decode cX2_codeByWay 152 = .ok (.iinc 9 1, 3) := by decide +kernel
theorem dX2_codeByWay_155 : decode cX2_codeByWay 155 = .ok (.goto (-139), 3) := by decide +kernel
theorem dX2_codeByWay_158 : decode cX2_codeByWay 158 = .ok (.iload 5, 2) := by decide +kernel
theorem dX2_codeByWay_160 : decode cX2_codeByWay 160 = .ok (.ireturn, 1) := by decide +kernel
set_option maxRecDepth 20000 in
theorem ggX2_byHabit_X6_letterAt : GoodIn wsX2_byHabit wsX6_letterAt := goodIn_r _ [5, 6] (by decide +kernel) (by decide +kernel)
set_option maxRecDepth 20000 in
theorem gX2_byHabit_X6_letterAt : GoodIn wsX2_byHabit (va_wsS RX2 68 yX6_letterAt wsX6_letterAt) := goodIn_app (goodIn_of _ (by decide +kernel)) ggX2_byHabit_X6_letterAt
theorem dX2_byHabit_0 : decode cX2_byHabit 0 = .ok (.aload_n 0, 1) := by decide +kernel
theorem dX2_byHabit_1 : decode cX2_byHabit 1 = .ok (.getfield 36, 3) := by decide +kernel
theorem dX2_byHabit_4 : decode cX2_byHabit 4 = .ok (.ifCond .ne 5, 3) := by decide +kernel
theorem dX2_byHabit_7 : decode cX2_byHabit 7 = .ok (.iconst (-1), 1) := by decide +kernel
theorem dX2_byHabit_8 : decode cX2_byHabit 8 = .ok (.ireturn, 1) := by decide +kernel
theorem dX2_byHabit_9 : decode cX2_byHabit 9 = .ok (.lload_n 1, 1) := by decide +kernel
theorem dX2_byHabit_10 : decode cX2_byHabit 10 = .ok (.iload_n 3, 1) := by decide +kernel
theorem dX2_byHabit_11 : decode cX2_byHabit 11 = .ok (.invokestatic 68, 3) := by decide +kernel
theorem dX2_byHabit_14 : decode cX2_byHabit 14 = .ok (.istore 4, 2) := by decide +kernel
theorem dX2_byHabit_16 : decode cX2_byHabit 16 = .ok (.iload_n 3, 1) := by decide +kernel
theorem dX2_byHabit_17 : decode cX2_byHabit 17 = .ok (.ifCond .ne 22, 3) := by decide +kernel
theorem dX2_byHabit_20 : decode cX2_byHabit 20 = .ok (.aload_n 0, 1) := by decide +kernel
theorem dX2_byHabit_21 : decode cX2_byHabit 21 = .ok (.getfield 36, 3) := by decide +kernel
theorem dX2_byHabit_24 : decode cX2_byHabit 24 = .ok (.iconst 4, 1) := by decide +kernel
theorem dX2_byHabit_25 : decode cX2_byHabit 25 = .ok (.iand, 1) := by decide +kernel
theorem dX2_byHabit_26 : decode cX2_byHabit 26 = .ok (.ifCond .eq 11, 3) := by decide +kernel
theorem dX2_byHabit_29 : decode cX2_byHabit 29 = .ok (.bipush 10, 2) := by decide +kernel
theorem dX2_byHabit_31 : decode cX2_byHabit 31 = .ok (.iload 4, 2) := by decide +kernel
theorem dX2_byHabit_33 : decode cX2_byHabit 33 = .ok (.iadd, 1) := by decide +kernel
theorem dX2_byHabit_34 : decode cX2_byHabit 34 = .ok (.goto 4, 3) := by decide +kernel
theorem dX2_byHabit_37 : decode cX2_byHabit 37 = .ok (.iconst (-1), 1) := by decide +kernel
theorem dX2_byHabit_38 : decode cX2_byHabit 38 = .ok (.ireturn, 1) := by decide +kernel
theorem dX2_byHabit_39 : decode cX2_byHabit 39 = .ok (.iload 4, 2) := by decide +kernel
theorem dX2_byHabit_41 : decode cX2_byHabit 41 = .ok (.bipush 7, 2) := by decide +kernel
theorem dX2_byHabit_43 : decode cX2_byHabit 43 = .ok (.if_icmp .ne 50, 3) := by decide +kernel
theorem dX2_byHabit_46 : decode cX2_byHabit 46 = .ok (.aload_n 0, 1) := by decide +kernel
theorem dX2_byHabit_47 : decode cX2_byHabit 47 = .ok (.getfield 36, 3) := by decide +kernel
theorem dX2_byHabit_50 : decode cX2_byHabit 50 = .ok (.iconst 1, 1) := by decide +kernel
theorem dX2_byHabit_51 : decode cX2_byHabit 51 = .ok (.iand, 1) := by decide +kernel
theorem dX2_byHabit_52 : decode cX2_byHabit 52 = .ok (.ifCond .eq 41, 3) := by decide +kernel
theorem dX2_byHabit_55 : decode cX2_byHabit 55 = .ok (.lload_n 1, 1) := by decide +kernel
theorem dX2_byHabit_56 : decode cX2_byHabit 56 = .ok (.iload_n 3, 1) := by decide +kernel
theorem dX2_byHabit_57 : decode cX2_byHabit 57 = .ok (.iconst 1, 1) := by decide +kernel
theorem dX2_byHabit_58 : decode cX2_byHabit 58 = .ok (.isub, 1) := by decide +kernel
theorem dX2_byHabit_59 : decode cX2_byHabit 59 = .ok (.invokestatic 68, 3) := by decide +kernel
theorem dX2_byHabit_62 : decode cX2_byHabit 62 = .ok (.istore 5, 2) := by decide +kernel
theorem dX2_byHabit_64 : decode cX2_byHabit 64 = .ok (.iload 5, 2) := by decide +kernel
theorem dX2_byHabit_66 : decode cX2_byHabit 66 = .ok (.iconst 2, 1) := by decide +kernel
theorem dX2_byHabit_67 : decode cX2_byHabit 67 = .ok (.if_icmp .eq 24, 3) := by decide +kernel
theorem dX2_byHabit_70 : decode cX2_byHabit 70 = .ok (.iload 5, 2) := by decide +kernel
theorem dX2_byHabit_72 : decode cX2_byHabit 72 = .ok (.bipush 15, 2) := by decide +kernel
theorem dX2_byHabit_74 : decode cX2_byHabit 74 = .ok (.if_icmp .eq 17, 3) := by decide +kernel
theorem dX2_byHabit_77 : decode cX2_byHabit 77 = .ok (.iload 5, 2) := by decide +kernel
theorem dX2_byHabit_79 : decode cX2_byHabit 79 = .ok (.bipush 18, 2) := by decide +kernel
theorem dX2_byHabit_81 : decode cX2_byHabit 81 = .ok (.if_icmp .eq 10, 3) := by decide +kernel
theorem dX2_byHabit_84 : decode cX2_byHabit 84 = .ok (.iload 5, 2) := by decide +kernel
theorem dX2_byHabit_86 : decode cX2_byHabit 86 = .ok (.bipush 19, 2) := by decide +kernel
theorem dX2_byHabit_88 : decode cX2_byHabit 88 = .ok (.if_icmp .ne 5, 3) := by decide +kernel
theorem dX2_byHabit_91 : decode cX2_byHabit 91 = .ok (.iconst 0, 1) := by decide +kernel
theorem dX2_byHabit_92 : decode cX2_byHabit 92 = .ok (.ireturn, 1) := by decide +kernel
theorem dX2_byHabit_93 : decode cX2_byHabit 93 = .ok (.iload 4, 2) := by decide +kernel
theorem dX2_byHabit_95 : decode cX2_byHabit 95 = .ok (.bipush 18, 2) := by decide +kernel
theorem dX2_byHabit_97 : decode cX2_byHabit 97 = .ok (.if_icmp .ne 25, 3) := by decide +kernel
theorem dX2_byHabit_100 : decode cX2_byHabit 100 = .ok (.aload_n 0, 1) := by decide +kernel
theorem dX2_byHabit_101 : decode cX2_byHabit 101 = .ok (.getfield 36, 3) := by decide +kernel
theorem dX2_byHabit_104 : decode cX2_byHabit 104 = .ok (.iconst 2, 1) := by decide +kernel
theorem dX2_byHabit_105 : decode cX2_byHabit 105 = .ok (.iand, 1) := by decide +kernel
theorem dX2_byHabit_106 : decode cX2_byHabit 106 = .ok (.ifCond .eq 16, 3) := by decide +kernel
theorem dX2_byHabit_109 : decode cX2_byHabit 109 = .ok (.lload_n 1, 1) := by decide +kernel
theorem dX2_byHabit_110 : decode cX2_byHabit 110 = .ok (.iload_n 3, 1) := by decide +kernel
theorem dX2_byHabit_111 : decode cX2_byHabit 111 = .ok (.iconst 1, 1) := by decide +kernel
theorem dX2_byHabit_112 : decode cX2_byHabit 112 = .ok (.iadd, 1) := by decide +kernel
theorem dX2_byHabit_113 : decode cX2_byHabit 113 = .ok (.invokestatic 68, 3) := by decide +kernel
theorem dX2_byHabit_116 : decode cX2_byHabit 116 = .ok (.iconst (-1), 1) := by decide +kernel
theorem dX2_byHabit_117 : decode cX2_byHabit 117 = .ok (.if_icmp .ne 5, 3) := by decide +kernel
theorem dX2_byHabit_120 : decode cX2_byHabit 120 = .ok (.iconst 0, 1) := by decide +kernel
theorem dX2_byHabit_121 : decode cX2_byHabit 121 = .ok (.ireturn, 1) := by decide +kernel
theorem dX2_byHabit_122 : decode cX2_byHabit 122 = .ok (.iconst (-1), 1) := by decide +kernel
theorem dX2_byHabit_123 : decode cX2_byHabit 123 = .ok (.ireturn, 1) := by decide +kernel
theorem dX3_init_0 : decode cX3_init 0 = .ok (.aload_n 0, 1) := by decide +kernel
theorem dX3_init_1 : decode cX3_init 1 = .ok (.invokespecial 3, 3) := by decide +kernel
theorem dX3_init_4 : decode cX3_init 4 = .ok (.aload_n 0, 1) := by decide +kernel
theorem dX3_init_5 : decode cX3_init 5 = .ok (.bipush 11, 2) := by decide +kernel
theorem dX3_init_7 : decode cX3_init 7 = .ok (.newarray .int, 2) := by decide +kernel
theorem dX3_init_9 : decode cX3_init 9 = .ok (.putfield 9, 3) := by decide +kernel
theorem dX3_init_12 : decode cX3_init 12 = .ok (.aload_n 0, 1) := by decide +kernel
theorem dX3_init_13 : decode cX3_init 13 = .ok (.bipush 24, 2) := by decide +kernel
theorem dX3_init_15 : decode cX3_init 15 = .ok (.newarray .int, 2) := by decide +kernel
theorem dX3_init_17 : decode cX3_init 17 = .ok (.putfield 15, 3) := by decide +kernel
theorem dX3_init_20 : decode cX3_init 20 = .ok (.return_, 1) := by decide +kernel
set_option maxRecDepth 20000 in
theorem ggX3_between_X6_size : GoodIn wsX3_between wsX6_size := goodIn_r _ [9, 10, 11, 8, 12, 13] (by decide +kernel) (by decide +kernel)
set_option maxRecDepth 20000 in
theorem gX3_between_X6_size : GoodIn wsX3_between (va_wsS RX3 18 yX6_size wsX6_size) := goodIn_app (goodIn_of _ (by decide +kernel)) ggX3_between_X6_size
set_option maxRecDepth 20000 in
theorem ggX3_between_X6_letterAt : GoodIn wsX3_between wsX6_letterAt := goodIn_r _ [12, 13] (by decide +kernel) (by decide +kernel)
set_option maxRecDepth 20000 in
theorem gX3_between_X6_letterAt : GoodIn wsX3_between (va_wsS RX3 24 yX6_letterAt wsX6_letterAt) := goodIn_app (goodIn_of _ (by decide +kernel)) ggX3_between_X6_letterAt
theorem dX3_between_0 : decode cX3_between 0 = .ok (.lload_n 1, 1) := by decide +kernel
theorem dX3_between_1 : decode cX3_between 1 = .ok (.invokestatic 18, 3) := by decide +kernel
theorem dX3_between_4 : decode cX3_between 4 = .ok (.istore 5, 2) := by decide +kernel
theorem dX3_between_6 : decode cX3_between 6 = .ok (.lload_n 3, 1) := by decide +kernel
theorem dX3_between_7 : decode cX3_between 7 = .ok (.invokestatic 18, 3) := by decide +kernel
theorem dX3_between_10 : decode cX3_between 10 = .ok (.istore 6, 2) := by decide +kernel
theorem dX3_between_12 : decode cX3_between 12 = .ok (.iconst 0, 1) := by decide +kernel
theorem dX3_between_13 : decode cX3_between 13 = .ok (.istore 7, 2) := by decide +kernel
theorem dX3_between_15 : decode cX3_between 15 = .ok (.iload 7, 2) := by decide +kernel
theorem dX3_between_17 : decode cX3_between 17 = .ok (.iload 6, 2) := by decide +kernel
theorem dX3_between_19 : decode cX3_between 19 = .ok (.if_icmp .gt 18, 3) := by decide +kernel
theorem dX3_between_22 : decode cX3_between 22 = .ok (.aload_n 0, 1) := by decide +kernel
theorem dX3_between_23 : decode cX3_between 23 = .ok (.getfield 9, 3) := by decide +kernel
theorem dX3_between_26 : decode cX3_between 26 = .ok (.iload 7, 2) := by decide +kernel
theorem dX3_between_28 : decode cX3_between 28 = .ok (.iload 7, 2) := by decide +kernel
theorem dX3_between_30 : decode cX3_between 30 = .ok (.iastore, 1) := by decide +kernel
theorem dX3_between_31 : decode cX3_between 31 = .ok (.iinc 7 1, 3) := by decide +kernel
theorem dX3_between_34 : decode cX3_between 34 = .ok (.goto (-19), 3) := by decide +kernel
theorem dX3_between_37 : decode cX3_between 37 = .ok (.iconst 1, 1) := by decide +kernel
theorem dX3_between_38 : decode cX3_between 38 = .ok (.istore 7, 2) := by decide +kernel
theorem dX3_between_40 : decode cX3_between 40 = .ok (.iload 7, 2) := by decide +kernel
theorem dX3_between_42 : decode cX3_between 42 = .ok (.iload 5, 2) := by decide +kernel
theorem dX3_between_44 : decode cX3_between 44 = .ok (.if_icmp .gt 120, 3) := by decide +kernel
theorem dX3_between_47 : decode cX3_between 47 = .ok (.aload_n 0, 1) := by decide +kernel
theorem dX3_between_48 : decode cX3_between 48 = .ok (.getfield 9, 3) := by decide +kernel
theorem dX3_between_51 : decode cX3_between 51 = .ok (.iconst 0, 1) := by decide +kernel
theorem dX3_between_52 : decode cX3_between 52 = .ok (.iaload, 1) := by decide +kernel
theorem dX3_between_53 : decode cX3_between 53 = .ok (.istore 8, 2) := by decide +kernel
theorem dX3_between_55 : decode cX3_between 55 = .ok (.aload_n 0, 1) := by decide +kernel
theorem dX3_between_56 : decode cX3_between 56 = .ok (.getfield 9, 3) := by decide +kernel
theorem dX3_between_59 : decode cX3_between 59 = .ok (.iconst 0, 1) := by decide +kernel
theorem dX3_between_60 : decode cX3_between 60 = .ok (.iload 7, 2) := by decide +kernel
theorem dX3_between_62 : decode cX3_between 62 = .ok (.iastore, 1) := by decide +kernel
theorem dX3_between_63 : decode cX3_between 63 = .ok (.iconst 1, 1) := by decide +kernel
theorem dX3_between_64 : decode cX3_between 64 = .ok (.istore 9, 2) := by decide +kernel
theorem dX3_between_66 : decode cX3_between 66 = .ok (.iload 9, 2) := by decide +kernel
theorem dX3_between_68 : decode cX3_between 68 = .ok (.iload 6, 2) := by decide +kernel
theorem dX3_between_70 : decode cX3_between 70 = .ok (.if_icmp .gt 88, 3) := by decide +kernel
theorem dX3_between_73 : decode cX3_between 73 = .ok (.aload_n 0, 1) := by decide +kernel
theorem dX3_between_74 : decode cX3_between 74 = .ok (.getfield 9, 3) := by decide +kernel
theorem dX3_between_77 : decode cX3_between 77 = .ok (.iload 9, 2) := by decide +kernel
theorem dX3_between_79 : decode cX3_between 79 = .ok (.iaload, 1) := by decide +kernel
theorem dX3_between_80 : decode cX3_between 80 = .ok (.istore 10, 2) := by decide +kernel
theorem dX3_between_82 : decode cX3_between 82 = .ok (.lload_n 1, 1) := by decide +kernel
theorem dX3_between_83 : decode cX3_between 83 = .ok (.iload 7, 2) := by decide +kernel
theorem dX3_between_85 : decode cX3_between 85 = .ok (.iconst 1, 1) := by decide +kernel
theorem dX3_between_86 : decode cX3_between 86 = .ok (.isub, 1) := by decide +kernel
theorem dX3_between_87 : decode cX3_between 87 = .ok (.invokestatic 24, 3) := by decide +kernel
theorem dX3_between_90 : decode cX3_between 90 = .ok (.lload_n 3, 1) := by decide +kernel
theorem dX3_between_91 : decode cX3_between 91 = .ok (.iload 9, 2) := by decide +kernel
theorem dX3_between_93 : decode cX3_between 93 = .ok (.iconst 1, 1) := by decide +kernel
theorem dX3_between_94 : decode cX3_between 94 = .ok (.isub, 1) := by decide +kernel
theorem dX3_between_95 : decode cX3_between 95 = .ok (.invokestatic 24, 3) := by decide +kernel
theorem dX3_between_98 : decode cX3_between 98 = .ok (.if_icmp .ne 7, 3) := by decide +kernel
theorem dX3_between_101 : decode cX3_between 101 = .ok (.iconst 1, 1) := by decide +kernel
theorem dX3_between_102 : decode cX3_between 102 = .ok (.goto 4, 3) := by decide +kernel
theorem dX3_between_105 : decode cX3_between 105 = .ok (.iconst 0, 1) := by decide +kernel
theorem dX3_between_106 : decode cX3_between 106 = .ok (.istore 11, 2) := by decide +kernel
theorem dX3_between_108 : decode cX3_between 108 = .ok (.aload_n 0, 1) := by decide +kernel
theorem dX3_between_109 : decode cX3_between 109 = .ok (.getfield 9, 3) := by decide +kernel
theorem dX3_between_112 : decode cX3_between 112 = .ok (.iload 9, 2) := by decide +kernel
theorem dX3_between_114 : decode cX3_between 114 = .ok (.iload 11, 2) := by decide +kernel
theorem dX3_between_116 : decode cX3_between 116 = .ok (.ifCond .eq 8, 3) := by decide +kernel
theorem dX3_between_119 : decode cX3_between 119 = .ok (.iload 8, 2) := by decide +kernel
theorem dX3_between_121 : decode cX3_between 121 = .ok (.goto 7, 3) := by decide +kernel
theorem dX3_between_124 : decode cX3_between 124 = .ok (.iload 8, 2) := by decide +kernel
theorem dX3_between_126 : decode cX3_between 126 = .ok (.iconst 1, 1) := by decide +kernel
theorem dX3_between_127 : decode cX3_between 127 = .ok (.iadd, 1) := by decide +kernel
theorem dX3_between_128 : decode cX3_between 128 = .ok (.iload 10, 2) := by decide +kernel
theorem dX3_between_130 : decode cX3_between 130 = .ok (.aload_n 0, 1) := by decide +kernel
theorem dX3_between_131 : decode cX3_between 131 = .ok (.getfield 9, 3) := by decide +kernel
theorem dX3_between_134 : decode cX3_between 134 = .ok (.iload 9, 2) := by decide +kernel
theorem dX3_between_136 : decode cX3_between 136 = .ok (.iconst 1, 1) := by decide +kernel
theorem dX3_between_137 : decode cX3_between 137 = .ok (.isub, 1) := by decide +kernel
theorem dX3_between_138 : decode cX3_between 138 = .ok (.iaload, 1) := by decide +kernel
theorem dX3_between_139 : decode cX3_between 139 = .ok (.invokestatic 28, 3) := by decide +kernel
theorem dX3_between_142 : decode cX3_between 142 = .ok (.iconst 1, 1) := by decide +kernel
theorem dX3_between_143 : decode cX3_between 143 = .ok (.iadd, 1) := by decide +kernel
theorem dX3_between_144 : decode cX3_between 144 = .ok (.invokestatic 28, 3) := by decide +kernel
theorem dX3_between_147 : decode cX3_between 147 = .ok (.iastore, 1) := by decide +kernel
theorem dX3_between_148 : decode cX3_between 148 = .ok (.iload 10, 2) := by decide +kernel
theorem dX3_between_150 : decode cX3_between 150 = .ok (.istore 8, 2) := by decide +kernel
theorem dX3_between_152 : decode cX3_between 152 = .ok (.iinc 9 1, 3) := by decide +kernel
theorem dX3_between_155 : decode cX3_between 155 = .ok (.goto (-89), 3) := by decide +kernel
theorem dX3_between_158 : decode cX3_between 158 = .ok (.iinc 7 1, 3) := by decide +kernel
theorem dX3_between_161 : decode cX3_between 161 = .ok (.goto (-121), 3) := by decide +kernel
theorem dX3_between_164 : decode cX3_between 164 = .ok (.aload_n 0, 1) := by decide +kernel
theorem dX3_between_165 : decode cX3_between 165 = .ok (.getfield 9, 3) := by decide +kernel
theorem dX3_between_168 : decode cX3_between 168 = .ok (.iload 6, 2) := by decide +kernel
theorem dX3_between_170 : decode cX3_between 170 = .ok (.iaload, 1) := by decide +kernel
theorem dX3_between_171 : decode cX3_between 171 = .ok (.ireturn, 1) := by decide +kernel
set_option maxRecDepth 20000 in
theorem ggX3_ranked_X3_between : GoodIn wsX3_ranked wsX3_between := goodIn_r _ [8, 9, 10, 11, 12, 13, 14, 15, 16, 17, 18, 19, 20, 21, 22, 33, 34] (by decide +kernel) (by decide +kernel)
set_option maxRecDepth 20000 in
theorem gX3_ranked_X3_between : GoodIn wsX3_ranked (wsV RX3 44 RX3 yX3_between wsX3_between) := goodIn_app (goodIn_of _ (by decide +kernel)) ggX3_ranked_X3_between
set_option maxRecDepth 20000 in
theorem ggX3_ranked_X3_namesAhead : GoodIn wsX3_ranked wsX3_namesAhead := goodIn_r _ [26, 2, 33, 34] (by decide +kernel) (by decide +kernel)
set_option maxRecDepth 20000 in
theorem gX3_ranked_X3_namesAhead : GoodIn wsX3_ranked (wsV RX3 48 RX3 yX3_namesAhead wsX3_namesAhead) := goodIn_app (goodIn_of _ (by decide +kernel)) ggX3_ranked_X3_namesAhead
theorem dX3_ranked_0 : decode cX3_ranked 0 = .ok (.iconst 0, 1) := by decide +kernel
theorem dX3_ranked_1 : decode cX3_ranked 1 = .ok (.istore 6, 2) := by decide +kernel
theorem dX3_ranked_3 : decode cX3_ranked 3 = .ok (.iload 6, 2) := by decide +kernel
theorem dX3_ranked_5 : decode cX3_ranked 5 = .ok (.aload_n 1, 1) := by decide +kernel
theorem dX3_ranked_6 : decode cX3_ranked 6 = .ok (.getfield 34, 3) := by decide +kernel
theorem dX3_ranked_9 : decode cX3_ranked 9 = .ok (.if_icmp .ge 28, 3) := by decide +kernel
theorem dX3_ranked_12 : decode cX3_ranked 12 = .ok (.aload_n 0, 1) := by decide +kernel
theorem dX3_ranked_13 : decode cX3_ranked 13 = .ok (.getfield 15, 3) := by decide +kernel
theorem dX3_ranked_16 : decode cX3_ranked 16 = .ok (.iload 6, 2) := by decide +kernel
theorem dX3_ranked_18 : decode cX3_ranked 18 = .ok (.aload_n 0, 1) := by decide +kernel
theorem dX3_ranked_19 : decode cX3_ranked 19 = .ok (.lload_n 2, 1) := by decide +kernel
theorem dX3_ranked_20 : decode cX3_ranked 20 = .ok (.aload_n 1, 1) := by decide +kernel
theorem dX3_ranked_21 : decode cX3_ranked 21 = .ok (.getfield 40, 3) := by decide +kernel
theorem dX3_ranked_24 : decode cX3_ranked 24 = .ok (.iload 6, 2) := by decide +kernel
theorem dX3_ranked_26 : decode cX3_ranked 26 = .ok (.laload, 1) := by decide +kernel
theorem dX3_ranked_27 : decode cX3_ranked 27 = .ok (.invokevirtual 44, 3) := by decide +kernel
theorem dX3_ranked_30 : decode cX3_ranked 30 = .ok (.iastore, 1) := by decide +kernel
theorem dX3_ranked_31 : decode cX3_ranked 31 = .ok (.iinc 6 1, 3) := by decide +kernel
theorem dX3_ranked_34 : decode cX3_ranked 34 = .ok (.goto (-31), 3) := by decide +kernel
theorem dX3_ranked_37 : decode cX3_ranked 37 = .ok (.iconst 0, 1) := by decide +kernel
theorem dX3_ranked_38 : decode cX3_ranked 38 = .ok (.istore 6, 2) := by decide +kernel
theorem dX3_ranked_40 : decode cX3_ranked 40 = .ok (.iload 6, 2) := by decide +kernel
theorem dX3_ranked_42 : decode cX3_ranked 42 = .ok (.aload_n 1, 1) := by decide +kernel
theorem dX3_ranked_43 : decode cX3_ranked 43 = .ok (.getfield 34, 3) := by decide +kernel
theorem dX3_ranked_46 : decode cX3_ranked 46 = .ok (.if_icmp .ge 39, 3) := by decide +kernel
theorem dX3_ranked_49 : decode cX3_ranked 49 = .ok (.iload 4, 2) := by decide +kernel
theorem dX3_ranked_51 : decode cX3_ranked 51 = .ok (.iconst 1, 1) := by decide +kernel
theorem dX3_ranked_52 : decode cX3_ranked 52 = .ok (.iload 6, 2) := by decide +kernel
theorem dX3_ranked_54 : decode cX3_ranked 54 = .ok (.ishl, 1) := by decide +kernel
theorem dX3_ranked_55 : decode cX3_ranked 55 = .ok (.iand, 1) := by decide +kernel
theorem dX3_ranked_56 : decode cX3_ranked 56 = .ok (.ifCond .eq 23, 3) := by decide +kernel
theorem dX3_ranked_59 : decode cX3_ranked 59 = .ok (.aload_n 0, 1) := by decide +kernel
theorem dX3_ranked_60 : decode cX3_ranked 60 = .ok (.iload 6, 2) := by decide +kernel
theorem dX3_ranked_62 : decode cX3_ranked 62 = .ok (.aload_n 1, 1) := by decide +kernel
theorem dX3_ranked_63 : decode cX3_ranked 63 = .ok (.getfield 34, 3) := by decide +kernel
theorem dX3_ranked_66 : decode cX3_ranked 66 = .ok (.iload 4, 2) := by decide +kernel
theorem dX3_ranked_68 : decode cX3_ranked 68 = .ok (.invokevirtual 48, 3) := by decide +kernel
theorem dX3_ranked_71 : decode cX3_ranked 71 = .ok (.iload 5, 2) := by decide +kernel
theorem dX3_ranked_73 : decode cX3_ranked 73 = .ok (.if_icmp .ne 6, 3) := by decide +kernel
theorem dX3_ranked_76 : decode cX3_ranked 76 = .ok (.iload 6, 2) := by decide +kernel
theorem dX3_ranked_78 : decode cX3_ranked 78 = .ok (.ireturn, 1) := by decide +kernel
theorem dX3_ranked_79 : decode cX3_ranked 79 = .ok (.iinc 6 1, 3) := by decide +kernel
theorem dX3_ranked_82 : decode cX3_ranked 82 = .ok (.goto (-42), 3) := by decide +kernel
theorem dX3_ranked_85 : decode cX3_ranked 85 = .ok (.bipush (-6), 2) := by decide +kernel
theorem dX3_ranked_87 : decode cX3_ranked 87 = .ok (.ireturn, 1) := by decide +kernel
theorem dX3_namesAhead_0 : decode cX3_namesAhead 0 = .ok (.iconst 0, 1) := by decide +kernel
theorem dX3_namesAhead_1 : decode cX3_namesAhead 1 = .ok (.istore 4, 2) := by decide +kernel
theorem dX3_namesAhead_3 : decode cX3_namesAhead 3 = .ok (.iconst 0, 1) := by decide +kernel
theorem dX3_namesAhead_4 : decode cX3_namesAhead 4 = .ok (.istore 5, 2) := by decide +kernel
theorem dX3_namesAhead_6 : decode cX3_namesAhead 6 = .ok (.iload 5, 2) := by decide +kernel
theorem dX3_namesAhead_8 : decode cX3_namesAhead 8 = .ok (.iload_n 2, 1) := by decide +kernel
theorem dX3_namesAhead_9 : decode cX3_namesAhead 9 = .ok (.if_icmp .ge 65, 3) := by decide +kernel
