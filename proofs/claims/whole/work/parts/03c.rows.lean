theorem dX3_namesAhead_12 : decode cX3_namesAhead 12 = .ok (.iload_n 3, 1) := by decide +kernel
theorem dX3_namesAhead_13 : decode cX3_namesAhead 13 = .ok (.iconst 1, 1) := by decide +kernel
theorem dX3_namesAhead_14 : decode cX3_namesAhead 14 = .ok (.iload 5, 2) := by decide +kernel
theorem dX3_namesAhead_16 : decode cX3_namesAhead 16 = .ok (.ishl, 1) := by decide +kernel
theorem dX3_namesAhead_17 : decode cX3_namesAhead 17 = .ok (.iand, 1) := by decide +kernel
theorem dX3_namesAhead_18 : decode cX3_namesAhead 18 = .ok (.ifCond .ne 6, 3) := by decide +kernel
theorem dX3_namesAhead_21 : decode cX3_namesAhead 21 = .ok (.goto 47, 3) := by decide +kernel
theorem dX3_namesAhead_24 : decode cX3_namesAhead 24 = .ok (.aload_n 0, 1) := by decide +kernel
theorem dX3_namesAhead_25 : decode cX3_namesAhead 25 = .ok (.getfield 15, 3) := by decide +kernel
theorem dX3_namesAhead_28 : decode cX3_namesAhead 28 = .ok (.iload 5, 2) := by decide +kernel
theorem dX3_namesAhead_30 : decode cX3_namesAhead 30 = .ok (.iaload, 1) := by decide +kernel
theorem dX3_namesAhead_31 : decode cX3_namesAhead 31 = .ok (.aload_n 0, 1) := by decide +kernel
theorem dX3_namesAhead_32 : decode cX3_namesAhead 32 = .ok (.getfield 15, 3) := by decide +kernel
theorem dX3_namesAhead_35 : decode cX3_namesAhead 35 = .ok (.iload_n 1, 1) := by decide +kernel
theorem dX3_namesAhead_36 : decode cX3_namesAhead 36 = .ok (.iaload, 1) := by decide +kernel
theorem dX3_namesAhead_37 : decode cX3_namesAhead 37 = .ok (.if_icmp .ge 6, 3) := by decide +kernel
theorem dX3_namesAhead_40 : decode cX3_namesAhead 40 = .ok (.iinc 4 1, 3) := by decide +kernel
theorem dX3_namesAhead_43 : decode cX3_namesAhead 43 = .ok (.aload_n 0, 1) := by decide +kernel
theorem dX3_namesAhead_44 : decode cX3_namesAhead 44 = .ok (.getfield 15, 3) := by decide +kernel
theorem dX3_namesAhead_47 : decode cX3_namesAhead 47 = .ok (.iload 5, 2) := by decide +kernel
theorem dX3_namesAhead_49 : decode cX3_namesAhead 49 = .ok (.iaload, 1) := by decide +kernel
theorem dX3_namesAhead_50 : decode cX3_namesAhead 50 = .ok (.aload_n 0, 1) := by decide +kernel
theorem dX3_namesAhead_51 : decode cX3_namesAhead 51 = .ok (.getfield 15, 3) := by decide +kernel
theorem dX3_namesAhead_54 : decode cX3_namesAhead 54 = .ok (.iload_n 1, 1) := by decide +kernel
theorem dX3_namesAhead_55 : decode cX3_namesAhead 55 = .ok (.iaload, 1) := by decide +kernel
theorem dX3_namesAhead_56 : decode cX3_namesAhead 56 = .ok (.if_icmp .ne 12, 3) := by decide +kernel
theorem dX3_namesAhead_59 : decode cX3_namesAhead 59 = .ok (.iload 5, 2) := by decide +kernel
theorem dX3_namesAhead_61 : decode cX3_namesAhead 61 = .ok (.iload_n 1, 1) := by decide +kernel
theorem dX3_namesAhead_62 : decode cX3_namesAhead 62 = .ok (.if_icmp .ge 6, 3) := by decide +kernel
theorem dX3_namesAhead_65 : decode cX3_namesAhead 65 = .ok (.iinc 4 1, 3) := by decide +kernel
theorem dX3_namesAhead_68 : decode cX3_namesAhead 68 = .ok (.iinc 5 1, 3) := by decide +kernel
theorem dX3_namesAhead_71 : decode cX3_namesAhead 71 = .ok (.goto (-65), 3) := by decide +kernel
theorem dX3_namesAhead_74 : decode cX3_namesAhead 74 = .ok (.iload 4, 2) := by decide +kernel
theorem dX3_namesAhead_76 : decode cX3_namesAhead 76 = .ok (.ireturn, 1) := by decide +kernel
theorem dX4_init_0 : decode cX4_init 0 = .ok (.aload_n 0, 1) := by decide +kernel
theorem dX4_init_1 : decode cX4_init 1 = .ok (.invokespecial 3, 3) := by decide +kernel
theorem dX4_init_4 : decode cX4_init 4 = .ok (.aload_n 0, 1) := by decide +kernel
theorem dX4_init_5 : decode cX4_init 5 = .ok (.bipush 80, 2) := by decide +kernel
theorem dX4_init_7 : decode cX4_init 7 = .ok (.newarray .char, 2) := by decide +kernel
theorem dX4_init_9 : decode cX4_init 9 = .ok (.putfield 9, 3) := by decide +kernel
theorem dX4_init_12 : decode cX4_init 12 = .ok (.aload_n 0, 1) := by decide +kernel
theorem dX4_init_13 : decode cX4_init 13 = .ok (.iconst 0, 1) := by decide +kernel
theorem dX4_init_14 : decode cX4_init 14 = .ok (.putfield 15, 3) := by decide +kernel
theorem dX4_init_17 : decode cX4_init 17 = .ok (.return_, 1) := by decide +kernel
theorem dX4_charactersIn_0 : decode cX4_charactersIn 0 = .ok (.lload_n 0, 1) := by decide +kernel
theorem dX4_charactersIn_1 : decode cX4_charactersIn 1 = .ok (.lstore_n 2, 1) := by decide +kernel
theorem dX4_charactersIn_2 : decode cX4_charactersIn 2 = .ok (.iconst 0, 1) := by decide +kernel
theorem dX4_charactersIn_3 : decode cX4_charactersIn 3 = .ok (.istore 4, 2) := by decide +kernel
theorem dX4_charactersIn_5 : decode cX4_charactersIn 5 = .ok (.iload 4, 2) := by decide +kernel
theorem dX4_charactersIn_7 : decode cX4_charactersIn 7 = .ok (.bipush 8, 2) := by decide +kernel
theorem dX4_charactersIn_9 : decode cX4_charactersIn 9 = .ok (.if_icmp .ge 51, 3) := by decide +kernel
theorem dX4_charactersIn_12 : decode cX4_charactersIn 12 = .ok (.lload_n 2, 1) := by decide +kernel
theorem dX4_charactersIn_13 : decode cX4_charactersIn 13 = .ok (.ldc2_w 19, 3) := by decide +kernel
theorem dX4_charactersIn_16 : decode cX4_charactersIn 16 = .ok (.land, 1) := by decide +kernel
theorem dX4_charactersIn_17 : decode cX4_charactersIn 17 = .ok (.lconst 0, 1) := by decide +kernel
theorem dX4_charactersIn_18 : decode cX4_charactersIn 18 = .ok (.lcmp, 1) := by decide +kernel
theorem dX4_charactersIn_19 : decode cX4_charactersIn 19 = .ok (.ifCond .eq 41, 3) := by decide +kernel
theorem dX4_charactersIn_22 : decode cX4_charactersIn 22 = .ok (.lload_n 2, 1) := by decide +kernel
theorem dX4_charactersIn_23 : decode cX4_charactersIn 23 = .ok (.ldc2_w 19, 3) := by decide +kernel
theorem dX4_charactersIn_26 : decode cX4_charactersIn 26 = .ok (.land, 1) := by decide +kernel
theorem dX4_charactersIn_27 : decode cX4_charactersIn 27 = .ok (.lstore 5, 2) := by decide +kernel
theorem dX4_charactersIn_29 : decode cX4_charactersIn 29 = .ok (.lload 5, 2) := by decide +kernel
theorem dX4_charactersIn_31 : decode cX4_charactersIn 31 = .ok (.ldc2_w 21, 3) := by decide +kernel
theorem dX4_charactersIn_34 : decode cX4_charactersIn 34 = .ok (.lcmp, 1) := by decide +kernel
theorem dX4_charactersIn_35 : decode cX4_charactersIn 35 = .ok (.ifCond .lt 12, 3) := by decide +kernel
theorem dX4_charactersIn_38 : decode cX4_charactersIn 38 = .ok (.lload 5, 2) := by decide +kernel
theorem dX4_charactersIn_40 : decode cX4_charactersIn 40 = .ok (.ldc2_w 23, 3) := by decide +kernel
theorem dX4_charactersIn_43 : decode cX4_charactersIn 43 = .ok (.lcmp, 1) := by decide +kernel
theorem dX4_charactersIn_44 : decode cX4_charactersIn 44 = .ok (.ifCond .le 5, 3) := by decide +kernel
theorem dX4_charactersIn_47 : decode cX4_charactersIn 47 = .ok (.iconst 0, 1) := by decide +kernel
theorem dX4_charactersIn_48 : decode cX4_charactersIn 48 = .ok (.ireturn, 1) := by decide +kernel
theorem dX4_charactersIn_49 : decode cX4_charactersIn 49 = .ok (.lload_n 2, 1) := by decide +kernel
theorem dX4_charactersIn_50 : decode cX4_charactersIn 50 = .ok (.bipush 8, 2) := by decide +kernel
theorem dX4_charactersIn_52 : decode cX4_charactersIn 52 = .ok (.lushr, 1) := by decide +kernel
theorem dX4_charactersIn_53 : decode cX4_charactersIn 53 = .ok (.lstore_n 2, 1) := by decide +kernel
theorem dX4_charactersIn_54 : decode cX4_charactersIn 54 = .ok (.iinc 4 1, 3) := by decide +kernel
theorem dX4_charactersIn_57 : decode cX4_charactersIn 57 = .ok (.goto (-52), 3) := by decide +kernel
theorem dX4_charactersIn_60 : decode cX4_charactersIn 60 = .ok (.lload_n 2, 1) := by decide +kernel
theorem dX4_charactersIn_61 : decode cX4_charactersIn 61 = .ok (.lconst 0, 1) := by decide +kernel
theorem dX4_charactersIn_62 : decode cX4_charactersIn 62 = .ok (.lcmp, 1) := by decide +kernel
theorem dX4_charactersIn_63 : decode cX4_charactersIn 63 = .ok (.ifCond .ne 8, 3) := by decide +kernel
theorem dX4_charactersIn_66 : decode cX4_charactersIn 66 = .ok (.iload 4, 2) := by decide +kernel
theorem dX4_charactersIn_68 : decode cX4_charactersIn 68 = .ok (.goto 4, 3) := by decide +kernel
theorem dX4_charactersIn_71 : decode cX4_charactersIn 71 = .ok (.iconst 0, 1) := by decide +kernel
theorem dX4_charactersIn_72 : decode cX4_charactersIn 72 = .ok (.ireturn, 1) := by decide +kernel
theorem dX4_append_0 : decode cX4_append 0 = .ok (.iload_n 3, 1) := by decide +kernel
theorem dX4_append_1 : decode cX4_append 1 = .ok (.iconst 1, 1) := by decide +kernel
theorem dX4_append_2 : decode cX4_append 2 = .ok (.isub, 1) := by decide +kernel
theorem dX4_append_3 : decode cX4_append 3 = .ok (.istore 4, 2) := by decide +kernel
theorem dX4_append_5 : decode cX4_append 5 = .ok (.iload 4, 2) := by decide +kernel
theorem dX4_append_7 : decode cX4_append 7 = .ok (.ifCond .lt 50, 3) := by decide +kernel
theorem dX4_append_10 : decode cX4_append 10 = .ok (.aload_n 0, 1) := by decide +kernel
theorem dX4_append_11 : decode cX4_append 11 = .ok (.getfield 15, 3) := by decide +kernel
theorem dX4_append_14 : decode cX4_append 14 = .ok (.bipush 80, 2) := by decide +kernel
theorem dX4_append_16 : decode cX4_append 16 = .ok (.if_icmp .ge 41, 3) := by decide +kernel
theorem dX4_append_19 : decode cX4_append 19 = .ok (.aload_n 0, 1) := by decide +kernel
theorem dX4_append_20 : decode cX4_append 20 = .ok (.getfield 9, 3) := by decide +kernel
theorem dX4_append_23 : decode cX4_append 23 = .ok (.aload_n 0, 1) := by decide +kernel
theorem dX4_append_24 : decode cX4_append 24 = .ok (.getfield 15, 3) := by decide +kernel
theorem dX4_append_27 : decode cX4_append 27 = .ok (.lload_n 1, 1) := by decide +kernel
theorem dX4_append_28 : decode cX4_append 28 = .ok (.bipush 8, 2) := by decide +kernel
theorem dX4_append_30 : decode cX4_append 30 = .ok (.iload 4, 2) := by decide +kernel
theorem dX4_append_32 : decode cX4_append 32 = .ok (.imul, 1) := by decide +kernel
theorem dX4_append_33 : decode cX4_append 33 = .ok (.lushr, 1) := by decide +kernel
theorem dX4_append_34 : decode cX4_append 34 = .ok (.ldc2_w 19, 3) := by decide +kernel
theorem dX4_append_37 : decode cX4_append 37 = .ok (.land, 1) := by decide +kernel
theorem dX4_append_38 : decode cX4_append 38 = .ok (.l2i, 1) := by decide +kernel
theorem dX4_append_39 : decode cX4_append 39 = .ok (.i2c, 1) := by decide +kernel
theorem dX4_append_40 : decode cX4_append 40 = .ok (.castore, 1) := by decide +kernel
theorem dX4_append_41 : decode cX4_append 41 = .ok (.aload_n 0, 1) := by decide +kernel
theorem dX4_append_42 : decode cX4_append 42 = .ok (.dup, 1) := by decide +kernel
theorem dX4_append_43 : decode cX4_append 43 = .ok (.getfield 15, 3) := by decide +kernel
theorem dX4_append_46 : decode cX4_append 46 = .ok (.iconst 1, 1) := by decide +kernel
theorem dX4_append_47 : decode cX4_append 47 = .ok (.iadd, 1) := by decide +kernel
theorem dX4_append_48 : decode cX4_append 48 = .ok (.putfield 15, 3) := by decide +kernel
theorem dX4_append_51 : decode cX4_append 51 = .ok (.iinc 4 (-1), 3) := by decide +kernel
theorem dX4_append_54 : decode cX4_append 54 = .ok (.goto (-49), 3) := by decide +kernel
theorem dX4_append_57 : decode cX4_append 57 = .ok (.return_, 1) := by decide +kernel
theorem dX4_firstFault_0 : decode cX4_firstFault 0 = .ok (.aload_n 0, 1) := by decide +kernel
theorem dX4_firstFault_1 : decode cX4_firstFault 1 = .ok (.getfield 15, 3) := by decide +kernel
theorem dX4_firstFault_4 : decode cX4_firstFault 4 = .ok (.ifCond .ne 5, 3) := by decide +kernel
theorem dX4_firstFault_7 : decode cX4_firstFault 7 = .ok (.iconst 0, 1) := by decide +kernel
theorem dX4_firstFault_8 : decode cX4_firstFault 8 = .ok (.ireturn, 1) := by decide +kernel
theorem dX4_firstFault_9 : decode cX4_firstFault 9 = .ok (.iconst 0, 1) := by decide +kernel
theorem dX4_firstFault_10 : decode cX4_firstFault 10 = .ok (.istore_n 1, 1) := by decide +kernel
theorem dX4_firstFault_11 : decode cX4_firstFault 11 = .ok (.iload_n 1, 1) := by decide +kernel
theorem dX4_firstFault_12 : decode cX4_firstFault 12 = .ok (.aload_n 0, 1) := by decide +kernel
theorem dX4_firstFault_13 : decode cX4_firstFault 13 = .ok (.getfield 15, 3) := by decide +kernel
theorem dX4_firstFault_16 : decode cX4_firstFault 16 = .ok (.if_icmp .ge 39, 3) := by decide +kernel
theorem dX4_firstFault_19 : decode cX4_firstFault 19 = .ok (.iload_n 1, 1) := by decide +kernel
theorem dX4_firstFault_20 : decode cX4_firstFault 20 = .ok (.bipush 10, 2) := by decide +kernel
theorem dX4_firstFault_22 : decode cX4_firstFault 22 = .ok (.if_icmp .eq 25, 3) := by decide +kernel
theorem dX4_firstFault_25 : decode cX4_firstFault 25 = .ok (.aload_n 0, 1) := by decide +kernel
theorem dX4_firstFault_26 : decode cX4_firstFault 26 = .ok (.getfield 9, 3) := by decide +kernel
theorem dX4_firstFault_29 : decode cX4_firstFault 29 = .ok (.iload_n 1, 1) := by decide +kernel
theorem dX4_firstFault_30 : decode cX4_firstFault 30 = .ok (.caload, 1) := by decide +kernel
theorem dX4_firstFault_31 : decode cX4_firstFault 31 = .ok (.bipush 97, 2) := by decide +kernel
theorem dX4_firstFault_33 : decode cX4_firstFault 33 = .ok (.if_icmp .lt 14, 3) := by decide +kernel
theorem dX4_firstFault_36 : decode cX4_firstFault 36 = .ok (.aload_n 0, 1) := by decide +kernel
theorem dX4_firstFault_37 : decode cX4_firstFault 37 = .ok (.getfield 9, 3) := by decide +kernel
theorem dX4_firstFault_40 : decode cX4_firstFault 40 = .ok (.iload_n 1, 1) := by decide +kernel
theorem dX4_firstFault_41 : decode cX4_firstFault 41 = .ok (.caload, 1) := by decide +kernel
theorem dX4_firstFault_42 : decode cX4_firstFault 42 = .ok (.bipush 122, 2) := by decide +kernel
theorem dX4_firstFault_44 : decode cX4_firstFault 44 = .ok (.if_icmp .le 5, 3) := by decide +kernel
theorem dX4_firstFault_47 : decode cX4_firstFault 47 = .ok (.iload_n 1, 1) := by decide +kernel
theorem dX4_firstFault_48 : decode cX4_firstFault 48 = .ok (.ireturn, 1) := by decide +kernel
theorem dX4_firstFault_49 : decode cX4_firstFault 49 = .ok (.iinc 1 1, 3) := by decide +kernel
theorem dX4_firstFault_52 : decode cX4_firstFault 52 = .ok (.goto (-41), 3) := by decide +kernel
theorem dX4_firstFault_55 : decode cX4_firstFault 55 = .ok (.bipush (-6), 2) := by decide +kernel
theorem dX4_firstFault_57 : decode cX4_firstFault 57 = .ok (.ireturn, 1) := by decide +kernel
set_option maxRecDepth 20000 in
theorem ggX4_asWord_X6_with : GoodIn wsX4_asWord wsX6_with := goodIn_r _ [6] (by decide +kernel) (by decide +kernel)
set_option maxRecDepth 20000 in
theorem gX4_asWord_X6_with : GoodIn wsX4_asWord (va_wsS RX4 25 yX6_with wsX6_with) := goodIn_app (goodIn_of _ (by decide +kernel)) ggX4_asWord_X6_with
theorem dX4_asWord_0 : decode cX4_asWord 0 = .ok (.lconst 0, 1) := by decide +kernel
theorem dX4_asWord_1 : decode cX4_asWord 1 = .ok (.lstore_n 1, 1) := by decide +kernel
theorem dX4_asWord_2 : decode cX4_asWord 2 = .ok (.iconst 0, 1) := by decide +kernel
theorem dX4_asWord_3 : decode cX4_asWord 3 = .ok (.istore_n 3, 1) := by decide +kernel
theorem dX4_asWord_4 : decode cX4_asWord 4 = .ok (.iload_n 3, 1) := by decide +kernel
theorem dX4_asWord_5 : decode cX4_asWord 5 = .ok (.aload_n 0, 1) := by decide +kernel
theorem dX4_asWord_6 : decode cX4_asWord 6 = .ok (.getfield 15, 3) := by decide +kernel
theorem dX4_asWord_9 : decode cX4_asWord 9 = .ok (.if_icmp .ge 30, 3) := by decide +kernel
theorem dX4_asWord_12 : decode cX4_asWord 12 = .ok (.iload_n 3, 1) := by decide +kernel
theorem dX4_asWord_13 : decode cX4_asWord 13 = .ok (.bipush 10, 2) := by decide +kernel
theorem dX4_asWord_15 : decode cX4_asWord 15 = .ok (.if_icmp .ge 24, 3) := by decide +kernel
theorem dX4_asWord_18 : decode cX4_asWord 18 = .ok (.lload_n 1, 1) := by decide +kernel
theorem dX4_asWord_19 : decode cX4_asWord 19 = .ok (.iload_n 3, 1) := by decide +kernel
theorem dX4_asWord_20 : decode cX4_asWord 20 = .ok (.aload_n 0, 1) := by decide +kernel
theorem dX4_asWord_21 : decode cX4_asWord 21 = .ok (.getfield 9, 3) := by decide +kernel
theorem dX4_asWord_24 : decode cX4_asWord 24 = .ok (.iload_n 3, 1) := by decide +kernel
theorem dX4_asWord_25 : decode cX4_asWord 25 = .ok (.caload, 1) := by decide +kernel
theorem dX4_asWord_26 : decode cX4_asWord 26 = .ok (.bipush 97, 2) := by decide +kernel
theorem dX4_asWord_28 : decode cX4_asWord 28 = .ok (.isub, 1) := by decide +kernel
theorem dX4_asWord_29 : decode cX4_asWord 29 = .ok (.invokestatic 25, 3) := by decide +kernel
theorem dX4_asWord_32 : decode cX4_asWord 32 = .ok (.lstore_n 1, 1) := by decide +kernel
theorem dX4_asWord_33 : decode cX4_asWord 33 = .ok (.iinc 3 1, 3) := by decide +kernel
theorem dX4_asWord_36 : decode cX4_asWord 36 = .ok (.goto (-32), 3) := by decide +kernel
theorem dX4_asWord_39 : decode cX4_asWord 39 = .ok (.lload_n 1, 1) := by decide +kernel
theorem dX4_asWord_40 : decode cX4_asWord 40 = .ok (.lreturn, 1) := by decide +kernel
set_option maxRecDepth 20000 in
theorem ggX5_init_X2_init : GoodIn wsX5_init wsX2_init := goodIn_r _ [16, 17, 2, 3, 18, 19, 20, 21, 22, 23, 24, 25, 26, 27, 13, 28, 29, 30, 31, 38, 39, 40, 41, 42, 43, 44, 45] (by decide +kernel) (by decide +kernel)
set_option maxRecDepth 20000 in
theorem gX5_init_X2_init : GoodIn wsX5_init (wsX2_init) := ggX5_init_X2_init
theorem dX5_init_0 : decode cX5_init 0 = .ok (.aload_n 0, 1) := by decide +kernel
theorem dX5_init_1 : decode cX5_init 1 = .ok (.invokespecial 3, 3) := by decide +kernel
theorem dX5_init_4 : decode cX5_init 4 = .ok (.aload_n 0, 1) := by decide +kernel
theorem dX5_init_5 : decode cX5_init 5 = .ok (.iconst 4, 1) := by decide +kernel
theorem dX5_init_6 : decode cX5_init 6 = .ok (.putfield 9, 3) := by decide +kernel
theorem dX5_init_9 : decode cX5_init 9 = .ok (.aload_n 0, 1) := by decide +kernel
theorem dX5_init_10 : decode cX5_init 10 = .ok (.bipush 24, 2) := by decide +kernel
theorem dX5_init_12 : decode cX5_init 12 = .ok (.putfield 15, 3) := by decide +kernel
theorem dX5_init_15 : decode cX5_init 15 = .ok (.aload_n 0, 1) := by decide +kernel
theorem dX5_init_16 : decode cX5_init 16 = .ok (.iconst 0, 1) := by decide +kernel
theorem dX5_init_17 : decode cX5_init 17 = .ok (.putfield 18, 3) := by decide +kernel
theorem dX5_init_20 : decode cX5_init 20 = .ok (.aload_n 0, 1) := by decide +kernel
theorem dX5_init_21 : decode cX5_init 21 = .ok (.bipush 24, 2) := by decide +kernel
theorem dX5_init_23 : decode cX5_init 23 = .ok (.newarray .long, 2) := by decide +kernel
theorem dX5_init_25 : decode cX5_init 25 = .ok (.putfield 21, 3) := by decide +kernel
theorem dX5_init_28 : decode cX5_init 28 = .ok (.aload_n 0, 1) := by decide +kernel
theorem dX5_init_29 : decode cX5_init 29 = .ok (.iconst 0, 1) := by decide +kernel
theorem dX5_init_30 : decode cX5_init 30 = .ok (.putfield 25, 3) := by decide +kernel
theorem dX5_init_33 : decode cX5_init 33 = .ok (.aload_n 0, 1) := by decide +kernel
theorem dX5_init_34 : decode cX5_init 34 = .ok (.iconst 4, 1) := by decide +kernel
theorem dX5_init_35 : decode cX5_init 35 = .ok (.anewarray 28, 3) := by decide +kernel
theorem dX5_init_38 : decode cX5_init 38 = .ok (.putfield 30, 3) := by decide +kernel
theorem dX5_init_41 : decode cX5_init 41 = .ok (.iconst 0, 1) := by decide +kernel
theorem dX5_init_42 : decode cX5_init 42 = .ok (.istore_n 1, 1) := by decide +kernel
theorem dX5_init_43 : decode cX5_init 43 = .ok (.iload_n 1, 1) := by decide +kernel
theorem dX5_init_44 : decode cX5_init 44 = .ok (.aload_n 0, 1) := by decide +kernel
theorem dX5_init_45 : decode cX5_init 45 = .ok (.getfield 30, 3) := by decide +kernel
theorem dX5_init_48 : decode cX5_init 48 = .ok (.arraylength, 1) := by decide +kernel
theorem dX5_init_49 : decode cX5_init 49 = .ok (.if_icmp .ge 22, 3) := by decide +kernel
theorem dX5_init_52 : decode cX5_init 52 = .ok (.aload_n 0, 1) := by decide +kernel
theorem dX5_init_53 : decode cX5_init 53 = .ok (.getfield 30, 3) := by decide +kernel
theorem dX5_init_56 : decode cX5_init 56 = .ok (.iload_n 1, 1) := by decide +kernel
theorem dX5_init_57 : decode cX5_init 57 = .ok (.new 28, 3) := by decide +kernel
theorem dX5_init_60 : decode cX5_init 60 = .ok (.dup, 1) := by decide +kernel
theorem dX5_init_61 : decode cX5_init 61 = .ok (.invokespecial 34, 3) := by decide +kernel
theorem dX5_init_64 : decode cX5_init 64 = .ok (.aastore, 1) := by decide +kernel
theorem dX5_init_65 : decode cX5_init 65 = .ok (.iinc 1 1, 3) := by decide +kernel
theorem dX5_init_68 : decode cX5_init 68 = .ok (.goto (-25), 3) := by decide +kernel
theorem dX5_init_71 : decode cX5_init 71 = .ok (.return_, 1) := by decide +kernel
set_option maxRecDepth 20000 in
theorem ggX5_beAs_X2_beAs : GoodIn wsX5_beAs wsX2_beAs := goodIn_r _ [15, 16, 17, 6, 7, 8, 18, 19, 20, 21, 22, 23, 24, 31, 32, 33, 34, 35, 36, 37, 38] (by decide +kernel) (by decide +kernel)
set_option maxRecDepth 20000 in
theorem gX5_beAs_X2_beAs : GoodIn wsX5_beAs (wsV RX5 41 RX2 yX2_beAs wsX2_beAs) := goodIn_app (goodIn_of _ (by decide +kernel)) ggX5_beAs_X2_beAs
theorem dX5_beAs_0 : decode cX5_beAs 0 = .ok (.aload_n 0, 1) := by decide +kernel
theorem dX5_beAs_1 : decode cX5_beAs 1 = .ok (.aload_n 1, 1) := by decide +kernel
theorem dX5_beAs_2 : decode cX5_beAs 2 = .ok (.getfield 9, 3) := by decide +kernel
theorem dX5_beAs_5 : decode cX5_beAs 5 = .ok (.putfield 9, 3) := by decide +kernel
theorem dX5_beAs_8 : decode cX5_beAs 8 = .ok (.aload_n 0, 1) := by decide +kernel
theorem dX5_beAs_9 : decode cX5_beAs 9 = .ok (.aload_n 1, 1) := by decide +kernel
theorem dX5_beAs_10 : decode cX5_beAs 10 = .ok (.getfield 15, 3) := by decide +kernel
theorem dX5_beAs_13 : decode cX5_beAs 13 = .ok (.putfield 15, 3) := by decide +kernel
theorem dX5_beAs_16 : decode cX5_beAs 16 = .ok (.aload_n 0, 1) := by decide +kernel
theorem dX5_beAs_17 : decode cX5_beAs 17 = .ok (.aload_n 1, 1) := by decide +kernel
theorem dX5_beAs_18 : decode cX5_beAs 18 = .ok (.getfield 18, 3) := by decide +kernel
theorem dX5_beAs_21 : decode cX5_beAs 21 = .ok (.putfield 18, 3) := by decide +kernel
theorem dX5_beAs_24 : decode cX5_beAs 24 = .ok (.aload_n 1, 1) := by decide +kernel
theorem dX5_beAs_25 : decode cX5_beAs 25 = .ok (.getfield 21, 3) := by decide +kernel
theorem dX5_beAs_28 : decode cX5_beAs 28 = .ok (.iconst 0, 1) := by decide +kernel
theorem dX5_beAs_29 : decode cX5_beAs 29 = .ok (.aload_n 0, 1) := by decide +kernel
theorem dX5_beAs_30 : decode cX5_beAs 30 = .ok (.getfield 21, 3) := by decide +kernel
theorem dX5_beAs_33 : decode cX5_beAs 33 = .ok (.iconst 0, 1) := by decide +kernel
theorem dX5_beAs_34 : decode cX5_beAs 34 = .ok (.bipush 24, 2) := by decide +kernel
theorem dX5_beAs_36 : decode cX5_beAs 36 = .ok (.invokestatic 35, 3) := by decide +kernel
theorem dX5_beAs_39 : decode cX5_beAs 39 = .ok (.aload_n 0, 1) := by decide +kernel
theorem dX5_beAs_40 : decode cX5_beAs 40 = .ok (.aload_n 1, 1) := by decide +kernel
theorem dX5_beAs_41 : decode cX5_beAs 41 = .ok (.getfield 25, 3) := by decide +kernel
theorem dX5_beAs_44 : decode cX5_beAs 44 = .ok (.putfield 25, 3) := by decide +kernel
theorem dX5_beAs_47 : decode cX5_beAs 47 = .ok (.iconst 0, 1) := by decide +kernel
theorem dX5_beAs_48 : decode cX5_beAs 48 = .ok (.istore_n 2, 1) := by decide +kernel
theorem dX5_beAs_49 : decode cX5_beAs 49 = .ok (.iload_n 2, 1) := by decide +kernel
theorem dX5_beAs_50 : decode cX5_beAs 50 = .ok (.aload_n 0, 1) := by decide +kernel
theorem dX5_beAs_51 : decode cX5_beAs 51 = .ok (.getfield 25, 3) := by decide +kernel
theorem dX5_beAs_54 : decode cX5_beAs 54 = .ok (.if_icmp .ge 33, 3) := by decide +kernel
theorem dX5_beAs_57 : decode cX5_beAs 57 = .ok (.iload_n 2, 1) := by decide +kernel
theorem dX5_beAs_58 : decode cX5_beAs 58 = .ok (.aload_n 0, 1) := by decide +kernel
theorem dX5_beAs_59 : decode cX5_beAs 59 = .ok (.getfield 30, 3) := by decide +kernel
theorem dX5_beAs_62 : decode cX5_beAs 62 = .ok (.arraylength, 1) := by decide +kernel
theorem dX5_beAs_63 : decode cX5_beAs 63 = .ok (.if_icmp .ge 24, 3) := by decide +kernel
theorem dX5_beAs_66 : decode cX5_beAs 66 = .ok (.aload_n 0, 1) := by decide +kernel
theorem dX5_beAs_67 : decode cX5_beAs 67 = .ok (.getfield 30, 3) := by decide +kernel
theorem dX5_beAs_70 : decode cX5_beAs 70 = .ok (.iload_n 2, 1) := by decide +kernel
theorem dX5_beAs_71 : decode cX5_beAs 71 = .ok (.aaload, 1) := by decide +kernel
theorem dX5_beAs_72 : decode cX5_beAs 72 = .ok (.aload_n 1, 1) := by decide +kernel
theorem dX5_beAs_73 : decode cX5_beAs 73 = .ok (.getfield 30, 3) := by decide +kernel
theorem dX5_beAs_76 : decode cX5_beAs 76 = .ok (.iload_n 2, 1) := by decide +kernel
theorem dX5_beAs_77 : decode cX5_beAs 77 = .ok (.aaload, 1) := by decide +kernel
theorem dX5_beAs_78 : decode cX5_beAs 78 = .ok (.invokevirtual 41, 3) := by decide +kernel
theorem dX5_beAs_81 : decode cX5_beAs 81 = .ok (.iinc 2 1, 3) := by decide +kernel
theorem dX5_beAs_84 : decode cX5_beAs 84 = .ok (.goto (-35), 3) := by decide +kernel
theorem dX5_beAs_87 : decode cX5_beAs 87 = .ok (.return_, 1) := by decide +kernel
theorem dX5_hasName_0 : decode cX5_hasName 0 = .ok (.iload_n 1, 1) := by decide +kernel
theorem dX5_hasName_1 : decode cX5_hasName 1 = .ok (.ifCond .lt 21, 3) := by decide +kernel
theorem dX5_hasName_4 : decode cX5_hasName 4 = .ok (.iload_n 1, 1) := by decide +kernel
theorem dX5_hasName_5 : decode cX5_hasName 5 = .ok (.aload_n 0, 1) := by decide +kernel
theorem dX5_hasName_6 : decode cX5_hasName 6 = .ok (.getfield 18, 3) := by decide +kernel
theorem dX5_hasName_9 : decode cX5_hasName 9 = .ok (.if_icmp .ge 13, 3) := by decide +kernel
theorem dX5_hasName_12 : decode cX5_hasName 12 = .ok (.iload_n 1, 1) := by decide +kernel
theorem dX5_hasName_13 : decode cX5_hasName 13 = .ok (.bipush 24, 2) := by decide +kernel
theorem dX5_hasName_15 : decode cX5_hasName 15 = .ok (.if_icmp .ge 7, 3) := by decide +kernel
theorem dX5_hasName_18 : decode cX5_hasName 18 = .ok (.iconst 1, 1) := by decide +kernel
theorem dX5_hasName_19 : decode cX5_hasName 19 = .ok (.goto 4, 3) := by decide +kernel
theorem dX5_hasName_22 : decode cX5_hasName 22 = .ok (.iconst 0, 1) := by decide +kernel
theorem dX5_hasName_23 : decode cX5_hasName 23 = .ok (.ireturn, 1) := by decide +kernel
theorem dX5_holds_0 : decode cX5_holds 0 = .ok (.iconst 0, 1) := by decide +kernel
theorem dX5_holds_1 : decode cX5_holds 1 = .ok (.istore_n 3, 1) := by decide +kernel
theorem dX5_holds_2 : decode cX5_holds 2 = .ok (.iload_n 3, 1) := by decide +kernel
theorem dX5_holds_3 : decode cX5_holds 3 = .ok (.aload_n 0, 1) := by decide +kernel
theorem dX5_holds_4 : decode cX5_holds 4 = .ok (.getfield 18, 3) := by decide +kernel
theorem dX5_holds_7 : decode cX5_holds 7 = .ok (.if_icmp .ge 22, 3) := by decide +kernel
theorem dX5_holds_10 : decode cX5_holds 10 = .ok (.aload_n 0, 1) := by decide +kernel
theorem dX5_holds_11 : decode cX5_holds 11 = .ok (.getfield 21, 3) := by decide +kernel
theorem dX5_holds_14 : decode cX5_holds 14 = .ok (.iload_n 3, 1) := by decide +kernel
theorem dX5_holds_15 : decode cX5_holds 15 = .ok (.laload, 1) := by decide +kernel
theorem dX5_holds_16 : decode cX5_holds 16 = .ok (.lload_n 1, 1) := by decide +kernel
theorem dX5_holds_17 : decode cX5_holds 17 = .ok (.lcmp, 1) := by decide +kernel
theorem dX5_holds_18 : decode cX5_holds 18 = .ok (.ifCond .ne 5, 3) := by decide +kernel
theorem dX5_holds_21 : decode cX5_holds 21 = .ok (.iconst 1, 1) := by decide +kernel
theorem dX5_holds_22 : decode cX5_holds 22 = .ok (.ireturn, 1) := by decide +kernel
theorem dX5_holds_23 : decode cX5_holds 23 = .ok (.iinc 3 1, 3) := by decide +kernel
theorem dX5_holds_26 : decode cX5_holds 26 = .ok (.goto (-24), 3) := by decide +kernel
theorem dX5_holds_29 : decode cX5_holds 29 = .ok (.iconst 0, 1) := by decide +kernel
theorem dX5_holds_30 : decode cX5_holds 30 = .ok (.ireturn, 1) := by decide +kernel
theorem dX5_removeName_0 : decode cX5_removeName 0 = .ok (.iload_n 1, 1) := by decide +kernel
theorem dX5_removeName_1 : decode cX5_removeName 1 = .ok (.iconst 1, 1) := by decide +kernel
theorem dX5_removeName_2 : decode cX5_removeName 2 = .ok (.iadd, 1) := by decide +kernel
theorem dX5_removeName_3 : decode cX5_removeName 3 = .ok (.istore_n 2, 1) := by decide +kernel
theorem dX5_removeName_4 : decode cX5_removeName 4 = .ok (.iload_n 2, 1) := by decide +kernel
theorem dX5_removeName_5 : decode cX5_removeName 5 = .ok (.aload_n 0, 1) := by decide +kernel
theorem dX5_removeName_6 : decode cX5_removeName 6 = .ok (.getfield 18, 3) := by decide +kernel
theorem dX5_removeName_9 : decode cX5_removeName 9 = .ok (.if_icmp .ge 23, 3) := by decide +kernel
theorem dX5_removeName_12 : decode cX5_removeName 12 = .ok (.aload_n 0, 1) := by decide +kernel
theorem dX5_removeName_13 : decode cX5_removeName 13 = .ok (.getfield 21, 3) := by decide +kernel
theorem dX5_removeName_16 : decode cX5_removeName 16 = .ok (.iload_n 2, 1) := by decide +kernel
theorem dX5_removeName_17 : decode cX5_removeName 17 = .ok (.iconst 1, 1) := by decide +kernel
theorem dX5_removeName_18 : decode cX5_removeName 18 = .ok (.isub, 1) := by decide +kernel
theorem dX5_removeName_19 : decode cX5_removeName 19 = .ok (.aload_n 0, 1) := by decide +kernel
theorem dX5_removeName_20 : decode cX5_removeName 20 = .ok (.getfield 21, 3) := by decide +kernel
theorem dX5_removeName_23 : decode cX5_removeName 23 = .ok (.iload_n 2, 1) := by decide +kernel
theorem dX5_removeName_24 : decode cX5_removeName 24 = .ok (.laload, 1) := by decide +kernel
theorem dX5_removeName_25 : decode cX5_removeName 25 = .ok (.lastore, 1) := by decide +kernel
theorem dX5_removeName_26 : decode cX5_removeName 26 = .ok (.iinc 2 1, 3) := by decide +kernel
theorem dX5_removeName_29 : decode cX5_removeName 29 = .ok (.goto (-25), 3) := by decide +kernel
theorem dX5_removeName_32 : decode cX5_removeName 32 = .ok (.aload_n 0, 1) := by decide +kernel
theorem dX5_removeName_33 : decode cX5_removeName 33 = .ok (.dup, 1) := by decide +kernel
theorem dX5_removeName_34 : decode cX5_removeName 34 = .ok (.getfield 18, 3) := by decide +kernel
theorem dX5_removeName_37 : decode cX5_removeName 37 = .ok (.iconst 1, 1) := by decide +kernel
theorem dX5_removeName_38 : decode cX5_removeName 38 = .ok (.isub, 1) := by decide +kernel
theorem dX5_removeName_39 : decode cX5_removeName 39 = .ok (.putfield 18, 3) := by decide +kernel
theorem dX5_removeName_42 : decode cX5_removeName 42 = .ok (.return_, 1) := by decide +kernel
set_option maxRecDepth 20000 in
theorem ggX5_lettersInNames_X6_letterSet : GoodIn wsX5_lettersInNames wsX6_letterSet := goodIn_r _ [6, 7, 8, 5, 9, 10, 11, 12, 13] (by decide +kernel) (by decide +kernel)
set_option maxRecDepth 20000 in
theorem gX5_lettersInNames_X6_letterSet : GoodIn wsX5_lettersInNames (va_wsS RX5 45 yX6_letterSet wsX6_letterSet) := goodIn_app (goodIn_of _ (by decide +kernel)) ggX5_lettersInNames_X6_letterSet
theorem dX5_lettersInNames_0 : decode cX5_lettersInNames 0 = .ok (.iconst 0, 1) := by decide +kernel
theorem dX5_lettersInNames_1 : decode cX5_lettersInNames 1 = .ok (.istore_n 1, 1) := by decide +kernel
theorem dX5_lettersInNames_2 : decode cX5_lettersInNames 2 = .ok (.iconst 0, 1) := by decide +kernel
theorem dX5_lettersInNames_3 : decode cX5_lettersInNames 3 = .ok (.istore_n 2, 1) := by decide +kernel
theorem dX5_lettersInNames_4 : decode cX5_lettersInNames 4 = .ok (.iload_n 2, 1) := by decide +kernel
theorem dX5_lettersInNames_5 : decode cX5_lettersInNames 5 = .ok (.aload_n 0, 1) := by decide +kernel
theorem dX5_lettersInNames_6 : decode cX5_lettersInNames 6 = .ok (.getfield 18, 3) := by decide +kernel
theorem dX5_lettersInNames_9 : decode cX5_lettersInNames 9 = .ok (.if_icmp .ge 21, 3) := by decide +kernel
theorem dX5_lettersInNames_12 : decode cX5_lettersInNames 12 = .ok (.iload_n 1, 1) := by decide +kernel
theorem dX5_lettersInNames_13 : decode cX5_lettersInNames 13 = .ok (.aload_n 0, 1) := by decide +kernel
theorem dX5_lettersInNames_14 : decode cX5_lettersInNames 14 = .ok (.getfield 21, 3) := by decide +kernel
theorem dX5_lettersInNames_17 : decode cX5_lettersInNames 17 = .ok (.iload_n 2, 1) := by decide +kernel
theorem dX5_lettersInNames_18 : decode cX5_lettersInNames 18 = .ok (.laload, 1) := by decide +kernel
theorem dX5_lettersInNames_19 : decode cX5_lettersInNames 19 = .ok (.invokestatic 45, 3) := by decide +kernel
theorem dX5_lettersInNames_22 : decode cX5_lettersInNames 22 = .ok (.ior, 1) := by decide +kernel
theorem dX5_lettersInNames_23 : decode cX5_lettersInNames 23 = .ok (.istore_n 1, 1) := by decide +kernel
theorem dX5_lettersInNames_24 : decode cX5_lettersInNames 24 = .ok (.iinc 2 1, 3) := by decide +kernel
theorem dX5_lettersInNames_27 : decode cX5_lettersInNames 27 = .ok (.goto (-23), 3) := by decide +kernel
theorem dX5_lettersInNames_30 : decode cX5_lettersInNames 30 = .ok (.iload_n 1, 1) := by decide +kernel
theorem dX5_lettersInNames_31 : decode cX5_lettersInNames 31 = .ok (.ireturn, 1) := by decide +kernel
theorem dX5_earAt_0 : decode cX5_earAt 0 = .ok (.iload_n 1, 1) := by decide +kernel
theorem dX5_earAt_1 : decode cX5_earAt 1 = .ok (.ifCond .lt 20, 3) := by decide +kernel
theorem dX5_earAt_4 : decode cX5_earAt 4 = .ok (.iload_n 1, 1) := by decide +kernel
theorem dX5_earAt_5 : decode cX5_earAt 5 = .ok (.aload_n 0, 1) := by decide +kernel
theorem dX5_earAt_6 : decode cX5_earAt 6 = .ok (.getfield 25, 3) := by decide +kernel
theorem dX5_earAt_9 : decode cX5_earAt 9 = .ok (.if_icmp .ge 12, 3) := by decide +kernel
theorem dX5_earAt_12 : decode cX5_earAt 12 = .ok (.iload_n 1, 1) := by decide +kernel
theorem dX5_earAt_13 : decode cX5_earAt 13 = .ok (.aload_n 0, 1) := by decide +kernel
theorem dX5_earAt_14 : decode cX5_earAt 14 = .ok (.getfield 30, 3) := by decide +kernel
theorem dX5_earAt_17 : decode cX5_earAt 17 = .ok (.arraylength, 1) := by decide +kernel
theorem dX5_earAt_18 : decode cX5_earAt 18 = .ok (.if_icmp .lt 5, 3) := by decide +kernel
theorem dX5_earAt_21 : decode cX5_earAt 21 = .ok (.aconst_null, 1) := by decide +kernel
theorem dX5_earAt_22 : decode cX5_earAt 22 = .ok (.areturn, 1) := by decide +kernel
theorem dX5_earAt_23 : decode cX5_earAt 23 = .ok (.aload_n 0, 1) := by decide +kernel
theorem dX5_earAt_24 : decode cX5_earAt 24 = .ok (.getfield 30, 3) := by decide +kernel
theorem dX5_earAt_27 : decode cX5_earAt 27 = .ok (.iload_n 1, 1) := by decide +kernel
theorem dX5_earAt_28 : decode cX5_earAt 28 = .ok (.aaload, 1) := by decide +kernel
theorem dX5_earAt_29 : decode cX5_earAt 29 = .ok (.areturn, 1) := by decide +kernel
theorem dX6_isLetter_0 : decode cX6_isLetter 0 = .ok (.iload_n 0, 1) := by decide +kernel
theorem dX6_isLetter_1 : decode cX6_isLetter 1 = .ok (.ifCond .lt 13, 3) := by decide +kernel
theorem dX6_isLetter_4 : decode cX6_isLetter 4 = .ok (.iload_n 0, 1) := by decide +kernel
theorem dX6_isLetter_5 : decode cX6_isLetter 5 = .ok (.bipush 26, 2) := by decide +kernel
theorem dX6_isLetter_7 : decode cX6_isLetter 7 = .ok (.if_icmp .ge 7, 3) := by decide +kernel
theorem dX6_isLetter_10 : decode cX6_isLetter 10 = .ok (.iconst 1, 1) := by decide +kernel
theorem dX6_isLetter_11 : decode cX6_isLetter 11 = .ok (.goto 4, 3) := by decide +kernel
theorem dX6_isLetter_14 : decode cX6_isLetter 14 = .ok (.iconst 0, 1) := by decide +kernel
theorem dX6_isLetter_15 : decode cX6_isLetter 15 = .ok (.ireturn, 1) := by decide +kernel
theorem dX6_with_0 : decode cX6_with 0 = .ok (.lload_n 0, 1) := by decide +kernel
theorem dX6_with_1 : decode cX6_with 1 = .ok (.iload_n 3, 1) := by decide +kernel
theorem dX6_with_2 : decode cX6_with 2 = .ok (.iconst 1, 1) := by decide +kernel
theorem dX6_with_3 : decode cX6_with 3 = .ok (.iadd, 1) := by decide +kernel
theorem dX6_with_4 : decode cX6_with 4 = .ok (.i2l, 1) := by decide +kernel
theorem dX6_with_5 : decode cX6_with 5 = .ok (.iconst 5, 1) := by decide +kernel
theorem dX6_with_6 : decode cX6_with 6 = .ok (.iload_n 2, 1) := by decide +kernel
theorem dX6_with_7 : decode cX6_with 7 = .ok (.imul, 1) := by decide +kernel
theorem dX6_with_8 : decode cX6_with 8 = .ok (.lshl, 1) := by decide +kernel
theorem dX6_with_9 : decode cX6_with 9 = .ok (.lor, 1) := by decide +kernel
theorem dX6_with_10 : decode cX6_with 10 = .ok (.lreturn, 1) := by decide +kernel
theorem dX6_letterAt_0 : decode cX6_letterAt 0 = .ok (.iload_n 2, 1) := by decide +kernel
theorem dX6_letterAt_1 : decode cX6_letterAt 1 = .ok (.ifCond .lt 9, 3) := by decide +kernel
theorem dX6_letterAt_4 : decode cX6_letterAt 4 = .ok (.iload_n 2, 1) := by decide +kernel
theorem dX6_letterAt_5 : decode cX6_letterAt 5 = .ok (.bipush 10, 2) := by decide +kernel
theorem dX6_letterAt_7 : decode cX6_letterAt 7 = .ok (.if_icmp .lt 5, 3) := by decide +kernel
theorem dX6_letterAt_10 : decode cX6_letterAt 10 = .ok (.iconst (-1), 1) := by decide +kernel
theorem dX6_letterAt_11 : decode cX6_letterAt 11 = .ok (.ireturn, 1) := by decide +kernel
theorem dX6_letterAt_12 : decode cX6_letterAt 12 = .ok (.lload_n 0, 1) := by decide +kernel
theorem dX6_letterAt_13 : decode cX6_letterAt 13 = .ok (.iconst 5, 1) := by decide +kernel
theorem dX6_letterAt_14 : decode cX6_letterAt 14 = .ok (.iload_n 2, 1) := by decide +kernel
theorem dX6_letterAt_15 : decode cX6_letterAt 15 = .ok (.imul, 1) := by decide +kernel
theorem dX6_letterAt_16 : decode cX6_letterAt 16 = .ok (.lushr, 1) := by decide +kernel
theorem dX6_letterAt_17 : decode cX6_letterAt 17 = .ok (.ldc2_w 11, 3) := by decide +kernel
theorem dX6_letterAt_20 : decode cX6_letterAt 20 = .ok (.land, 1) := by decide +kernel
theorem dX6_letterAt_21 : decode cX6_letterAt 21 = .ok (.l2i, 1) := by decide +kernel
theorem dX6_letterAt_22 : decode cX6_letterAt 22 = .ok (.iconst 1, 1) := by decide +kernel
theorem dX6_letterAt_23 : decode cX6_letterAt 23 = .ok (.isub, 1) := by decide +kernel
theorem dX6_letterAt_24 : decode cX6_letterAt 24 = .ok (.ireturn, 1) := by decide +kernel
set_option maxRecDepth 20000 in
theorem ggX6_size_X6_letterAt : GoodIn wsX6_size wsX6_letterAt := goodIn_r _ [4, 5] (by decide +kernel) (by decide +kernel)
set_option maxRecDepth 20000 in
theorem gX6_size_X6_letterAt : GoodIn wsX6_size (va_wsS RX6 13 yX6_letterAt wsX6_letterAt) := goodIn_app (goodIn_of _ (by decide +kernel)) ggX6_size_X6_letterAt
theorem dX6_size_0 : decode cX6_size 0 = .ok (.iconst 0, 1) := by decide +kernel
theorem dX6_size_1 : decode cX6_size 1 = .ok (.istore_n 2, 1) := by decide +kernel
theorem dX6_size_2 : decode cX6_size 2 = .ok (.iload_n 2, 1) := by decide +kernel
theorem dX6_size_3 : decode cX6_size 3 = .ok (.bipush 10, 2) := by decide +kernel
theorem dX6_size_5 : decode cX6_size 5 = .ok (.if_icmp .ge 18, 3) := by decide +kernel
theorem dX6_size_8 : decode cX6_size 8 = .ok (.lload_n 0, 1) := by decide +kernel
theorem dX6_size_9 : decode cX6_size 9 = .ok (.iload_n 2, 1) := by decide +kernel
theorem dX6_size_10 : decode cX6_size 10 = .ok (.invokestatic 13, 3) := by decide +kernel
theorem dX6_size_13 : decode cX6_size 13 = .ok (.iconst (-1), 1) := by decide +kernel
theorem dX6_size_14 : decode cX6_size 14 = .ok (.if_icmp .eq 9, 3) := by decide +kernel
theorem dX6_size_17 : decode cX6_size 17 = .ok (.iinc 2 1, 3) := by decide +kernel
theorem dX6_size_20 : decode cX6_size 20 = .ok (.goto (-18), 3) := by decide +kernel
theorem dX6_size_23 : decode cX6_size 23 = .ok (.iload_n 2, 1) := by decide +kernel
theorem dX6_size_24 : decode cX6_size 24 = .ok (.ireturn, 1) := by decide +kernel
set_option maxRecDepth 20000 in
theorem ggX6_letterSet_X6_size : GoodIn wsX6_letterSet wsX6_size := goodIn_r _ [4, 5, 6, 3, 7, 8] (by decide +kernel) (by decide +kernel)
set_option maxRecDepth 20000 in
theorem gX6_letterSet_X6_size : GoodIn wsX6_letterSet (va_wsS RX6 17 yX6_size wsX6_size) := goodIn_app (goodIn_of _ (by decide +kernel)) ggX6_letterSet_X6_size
set_option maxRecDepth 20000 in
theorem ggX6_letterSet_X6_letterAt : GoodIn wsX6_letterSet wsX6_letterAt := goodIn_r _ [7, 8] (by decide +kernel) (by decide +kernel)
set_option maxRecDepth 20000 in
theorem gX6_letterSet_X6_letterAt : GoodIn wsX6_letterSet (va_wsS RX6 13 yX6_letterAt wsX6_letterAt) := goodIn_app (goodIn_of _ (by decide +kernel)) ggX6_letterSet_X6_letterAt
theorem dX6_letterSet_0 : decode cX6_letterSet 0 = .ok (.iconst 0, 1) := by decide +kernel
theorem dX6_letterSet_1 : decode cX6_letterSet 1 = .ok (.istore_n 2, 1) := by decide +kernel
theorem dX6_letterSet_2 : decode cX6_letterSet 2 = .ok (.lload_n 0, 1) := by decide +kernel
theorem dX6_letterSet_3 : decode cX6_letterSet 3 = .ok (.invokestatic 17, 3) := by decide +kernel
theorem dX6_letterSet_6 : decode cX6_letterSet 6 = .ok (.istore_n 3, 1) := by decide +kernel
theorem dX6_letterSet_7 : decode cX6_letterSet 7 = .ok (.iconst 0, 1) := by decide +kernel
theorem dX6_letterSet_8 : decode cX6_letterSet 8 = .ok (.istore 4, 2) := by decide +kernel
theorem dX6_letterSet_10 : decode cX6_letterSet 10 = .ok (.iload 4, 2) := by decide +kernel
theorem dX6_letterSet_12 : decode cX6_letterSet 12 = .ok (.iload_n 3, 1) := by decide +kernel
theorem dX6_letterSet_13 : decode cX6_letterSet 13 = .ok (.if_icmp .ge 20, 3) := by decide +kernel
theorem dX6_letterSet_16 : decode cX6_letterSet 16 = .ok (.iload_n 2, 1) := by decide +kernel
theorem dX6_letterSet_17 : decode cX6_letterSet 17 = .ok (.iconst 1, 1) := by decide +kernel
theorem dX6_letterSet_18 : decode cX6_letterSet 18 = .ok (.lload_n 0, 1) := by decide +kernel
theorem dX6_letterSet_19 : decode cX6_letterSet 19 = .ok (.iload 4, 2) := by decide +kernel
theorem dX6_letterSet_21 : decode cX6_letterSet 21 = .ok (.invokestatic 13, 3) := by decide +kernel
theorem dX6_letterSet_24 : decode cX6_letterSet 24 = .ok (.ishl, 1) := by decide +kernel
theorem dX6_letterSet_25 : decode cX6_letterSet 25 = .ok (.ior, 1) := by decide +kernel
theorem dX6_letterSet_26 : decode cX6_letterSet 26 = .ok (.istore_n 2, 1) := by decide +kernel
theorem dX6_letterSet_27 : decode cX6_letterSet 27 = .ok (.iinc 4 1, 3) := by decide +kernel
theorem dX6_letterSet_30 : decode cX6_letterSet 30 = .ok (.goto (-20), 3) := by decide +kernel
theorem dX6_letterSet_33 : decode cX6_letterSet 33 = .ok (.iload_n 2, 1) := by decide +kernel
theorem dX6_letterSet_34 : decode cX6_letterSet 34 = .ok (.ireturn, 1) := by decide +kernel
set_option maxRecDepth 20000 in
theorem ggX7_init_X5_init : GoodIn wsX7_init wsX5_init := goodIn_r _ [32, 33, 2, 3, 34, 35, 36, 37, 38, 39, 40, 41, 23, 24, 42, 43, 44, 45, 46, 47, 48, 49, 50, 51, 52, 53, 54, 55, 56, 57, 58, 59, 80, 81, 82, 83, 84, 85, 105, 106, 107, 108, 109, 110, 111, 112] (by decide +kernel) (by decide +kernel)
set_option maxRecDepth 20000 in
theorem gX7_init_X5_init : GoodIn wsX7_init (wsX5_init) := ggX7_init_X5_init
set_option maxRecDepth 20000 in
theorem ggX7_init_X4_init : GoodIn wsX7_init wsX4_init := goodIn_r _ [61, 62, 2, 3, 63, 64, 65, 96, 97] (by decide +kernel) (by decide +kernel)
set_option maxRecDepth 20000 in
theorem gX7_init_X4_init_n33 : GoodIn wsX7_init (wsX4_init) := ggX7_init_X4_init
set_option maxRecDepth 20000 in
theorem ggX7_init_X1_init : GoodIn wsX7_init wsX1_init := goodIn_r _ [67, 68, 2, 3, 46, 69, 70, 71, 72, 73, 98, 99, 100, 101, 102, 103, 104] (by decide +kernel) (by decide +kernel)
set_option maxRecDepth 20000 in
theorem gX7_init_X1_init_n40 : GoodIn wsX7_init (wsX1_init) := ggX7_init_X1_init
set_option maxRecDepth 20000 in
theorem ggX7_init_X2_init : GoodIn wsX7_init wsX2_init := goodIn_r _ [44, 45, 2, 3, 46, 47, 48, 49, 50, 51, 52, 53, 54, 55, 24, 56, 57, 58, 59, 105, 106, 107, 108, 109, 110, 111, 112] (by decide +kernel) (by decide +kernel)
set_option maxRecDepth 20000 in
theorem gX7_init_X2_init : GoodIn wsX7_init (wsX2_init) := ggX7_init_X2_init
set_option maxRecDepth 20000 in
theorem ggX7_init_X3_init : GoodIn wsX7_init wsX3_init := goodIn_r _ [76, 77, 2, 3, 46, 78, 79, 113, 114] (by decide +kernel) (by decide +kernel)
set_option maxRecDepth 20000 in
theorem gX7_init_X3_init_n57 : GoodIn wsX7_init (wsX3_init) := ggX7_init_X3_init
theorem dX7_init_0 : decode cX7_init 0 = .ok (.aload_n 0, 1) := by decide +kernel
theorem dX7_init_1 : decode cX7_init 1 = .ok (.invokespecial 1, 3) := by decide +kernel
theorem dX7_init_4 : decode cX7_init 4 = .ok (.aload_n 0, 1) := by decide +kernel
theorem dX7_init_5 : decode cX7_init 5 = .ok (.new 7, 3) := by decide +kernel
theorem dX7_init_8 : decode cX7_init 8 = .ok (.dup, 1) := by decide +kernel
theorem dX7_init_9 : decode cX7_init 9 = .ok (.invokespecial 9, 3) := by decide +kernel
theorem dX7_init_12 : decode cX7_init 12 = .ok (.putfield 10, 3) := by decide +kernel
theorem dX7_init_15 : decode cX7_init 15 = .ok (.aload_n 0, 1) := by decide +kernel
theorem dX7_init_16 : decode cX7_init 16 = .ok (.bipush 6, 2) := by decide +kernel
theorem dX7_init_18 : decode cX7_init 18 = .ok (.anewarray 7, 3) := by decide +kernel
theorem dX7_init_21 : decode cX7_init 21 = .ok (.putfield 16, 3) := by decide +kernel
theorem dX7_init_24 : decode cX7_init 24 = .ok (.aload_n 0, 1) := by decide +kernel
theorem dX7_init_25 : decode cX7_init 25 = .ok (.iconst 0, 1) := by decide +kernel
theorem dX7_init_26 : decode cX7_init 26 = .ok (.putfield 20, 3) := by decide +kernel
theorem dX7_init_29 : decode cX7_init 29 = .ok (.aload_n 0, 1) := by decide +kernel
theorem dX7_init_30 : decode cX7_init 30 = .ok (.iconst 2, 1) := by decide +kernel
theorem dX7_init_31 : decode cX7_init 31 = .ok (.anewarray 7, 3) := by decide +kernel
theorem dX7_init_34 : decode cX7_init 34 = .ok (.putfield 24, 3) := by decide +kernel
theorem dX7_init_37 : decode cX7_init 37 = .ok (.aload_n 0, 1) := by decide +kernel
theorem dX7_init_38 : decode cX7_init 38 = .ok (.iconst 2, 1) := by decide +kernel
theorem dX7_init_39 : decode cX7_init 39 = .ok (.newarray .boolean, 2) := by decide +kernel
theorem dX7_init_41 : decode cX7_init 41 = .ok (.putfield 27, 3) := by decide +kernel
theorem dX7_init_44 : decode cX7_init 44 = .ok (.aload_n 0, 1) := by decide +kernel
theorem dX7_init_45 : decode cX7_init 45 = .ok (.new 31, 3) := by decide +kernel
theorem dX7_init_48 : decode cX7_init 48 = .ok (.dup, 1) := by decide +kernel
theorem dX7_init_49 : decode cX7_init 49 = .ok (.invokespecial 33, 3) := by decide +kernel
theorem dX7_init_52 : decode cX7_init 52 = .ok (.putfield 34, 3) := by decide +kernel
theorem dX7_init_55 : decode cX7_init 55 = .ok (.aload_n 0, 1) := by decide +kernel
theorem dX7_init_56 : decode cX7_init 56 = .ok (.new 38, 3) := by decide +kernel
theorem dX7_init_59 : decode cX7_init 59 = .ok (.dup, 1) := by decide +kernel
theorem dX7_init_60 : decode cX7_init 60 = .ok (.invokespecial 40, 3) := by decide +kernel
theorem dX7_init_63 : decode cX7_init 63 = .ok (.putfield 41, 3) := by decide +kernel
theorem dX7_init_66 : decode cX7_init 66 = .ok (.aload_n 0, 1) := by decide +kernel
theorem dX7_init_67 : decode cX7_init 67 = .ok (.new 38, 3) := by decide +kernel
theorem dX7_init_70 : decode cX7_init 70 = .ok (.dup, 1) := by decide +kernel
theorem dX7_init_71 : decode cX7_init 71 = .ok (.invokespecial 40, 3) := by decide +kernel
theorem dX7_init_74 : decode cX7_init 74 = .ok (.putfield 45, 3) := by decide +kernel
theorem dX7_init_77 : decode cX7_init 77 = .ok (.aload_n 0, 1) := by decide +kernel
theorem dX7_init_78 : decode cX7_init 78 = .ok (.new 48, 3) := by decide +kernel
theorem dX7_init_81 : decode cX7_init 81 = .ok (.dup, 1) := by decide +kernel
theorem dX7_init_82 : decode cX7_init 82 = .ok (.invokespecial 50, 3) := by decide +kernel
theorem dX7_init_85 : decode cX7_init 85 = .ok (.putfield 51, 3) := by decide +kernel
theorem dX7_init_88 : decode cX7_init 88 = .ok (.aload_n 0, 1) := by decide +kernel
theorem dX7_init_89 : decode cX7_init 89 = .ok (.new 55, 3) := by decide +kernel
theorem dX7_init_92 : decode cX7_init 92 = .ok (.dup, 1) := by decide +kernel
theorem dX7_init_93 : decode cX7_init 93 = .ok (.invokespecial 57, 3) := by decide +kernel
theorem dX7_init_96 : decode cX7_init 96 = .ok (.putfield 58, 3) := by decide +kernel
theorem dX7_init_99 : decode cX7_init 99 = .ok (.iconst 0, 1) := by decide +kernel
theorem dX7_init_100 : decode cX7_init 100 = .ok (.istore_n 1, 1) := by decide +kernel
theorem dX7_init_101 : decode cX7_init 101 = .ok (.iload_n 1, 1) := by decide +kernel
theorem dX7_init_102 : decode cX7_init 102 = .ok (.aload_n 0, 1) := by decide +kernel
theorem dX7_init_103 : decode cX7_init 103 = .ok (.getfield 16, 3) := by decide +kernel
theorem dX7_init_106 : decode cX7_init 106 = .ok (.arraylength, 1) := by decide +kernel
theorem dX7_init_107 : decode cX7_init 107 = .ok (.if_icmp .ge 22, 3) := by decide +kernel
theorem dX7_init_110 : decode cX7_init 110 = .ok (.aload_n 0, 1) := by decide +kernel
theorem dX7_init_111 : decode cX7_init 111 = .ok (.getfield 16, 3) := by decide +kernel
theorem dX7_init_114 : decode cX7_init 114 = .ok (.iload_n 1, 1) := by decide +kernel
theorem dX7_init_115 : decode cX7_init 115 = .ok (.new 7, 3) := by decide +kernel
theorem dX7_init_118 : decode cX7_init 118 = .ok (.dup, 1) := by decide +kernel
theorem dX7_init_119 : decode cX7_init 119 = .ok (.invokespecial 9, 3) := by decide +kernel
theorem dX7_init_122 : decode cX7_init 122 = .ok (.aastore, 1) := by decide +kernel
theorem dX7_init_123 : decode cX7_init 123 = .ok (.iinc 1 1, 3) := by decide +kernel
theorem dX7_init_126 : decode cX7_init 126 = .ok (.goto (-25), 3) := by decide +kernel
theorem dX7_init_129 : decode cX7_init 129 = .ok (.iconst 0, 1) := by decide +kernel
theorem dX7_init_130 : decode cX7_init 130 = .ok (.istore_n 1, 1) := by decide +kernel
theorem dX7_init_131 : decode cX7_init 131 = .ok (.iload_n 1, 1) := by decide +kernel
theorem dX7_init_132 : decode cX7_init 132 = .ok (.aload_n 0, 1) := by decide +kernel
theorem dX7_init_133 : decode cX7_init 133 = .ok (.getfield 24, 3) := by decide +kernel
theorem dX7_init_136 : decode cX7_init 136 = .ok (.arraylength, 1) := by decide +kernel
theorem dX7_init_137 : decode cX7_init 137 = .ok (.if_icmp .ge 22, 3) := by decide +kernel
theorem dX7_init_140 : decode cX7_init 140 = .ok (.aload_n 0, 1) := by decide +kernel
theorem dX7_init_141 : decode cX7_init 141 = .ok (.getfield 24, 3) := by decide +kernel
theorem dX7_init_144 : decode cX7_init 144 = .ok (.iload_n 1, 1) := by decide +kernel
theorem dX7_init_145 : decode cX7_init 145 = .ok (.new 7, 3) := by decide +kernel
theorem dX7_init_148 : decode cX7_init 148 = .ok (.dup, 1) := by decide +kernel
theorem dX7_init_149 : decode cX7_init 149 = .ok (.invokespecial 9, 3) := by decide +kernel
theorem dX7_init_152 : decode cX7_init 152 = .ok (.aastore, 1) := by decide +kernel
theorem dX7_init_153 : decode cX7_init 153 = .ok (.iinc 1 1, 3) := by decide +kernel
theorem dX7_init_156 : decode cX7_init 156 = .ok (.goto (-25), 3) := by decide +kernel
theorem dX7_init_159 : decode cX7_init 159 = .ok (.return_, 1) := by decide +kernel
set_option maxRecDepth 20000 in
theorem ggX7_set_X7_isWithin : GoodIn wsX7_set wsX7_isWithin := goodIn_r _ [7] (by decide +kernel) (by decide +kernel)
set_option maxRecDepth 20000 in
theorem gX7_set_X7_isWithin : GoodIn wsX7_set (va_wsS RX7 62 yX7_isWithin wsX7_isWithin) := goodIn_app (goodIn_of _ (by decide +kernel)) ggX7_set_X7_isWithin
set_option maxRecDepth 20000 in
theorem ggX7_set_X7_recordChange : GoodIn wsX7_set wsX7_recordChange := goodIn_r _ [11, 12, 13, 1, 14, 15, 16, 17, 18, 19, 20, 21, 22, 23, 24, 25, 26, 27, 28, 29, 30, 31, 32, 33, 34, 35, 36, 37, 38, 39, 40, 41, 42, 43, 44, 45, 46, 47, 48, 49, 50, 51, 52, 53, 54, 55, 56, 57, 58, 59, 60, 61, 62, 63, 64, 65, 66] (by decide +kernel) (by decide +kernel)
set_option maxRecDepth 20000 in
theorem gX7_set_X7_recordChange : GoodIn wsX7_set (wsV RX7 69 RX7 yX7_recordChange wsX7_recordChange) := goodIn_app (goodIn_of _ (by decide +kernel)) ggX7_set_X7_recordChange
theorem dX7_set_0 : decode cX7_set 0 = .ok (.iload_n 1, 1) := by decide +kernel
theorem dX7_set_1 : decode cX7_set 1 = .ok (.ifCond .ne 34, 3) := by decide +kernel
theorem dX7_set_4 : decode cX7_set 4 = .ok (.iload_n 2, 1) := by decide +kernel
theorem dX7_set_5 : decode cX7_set 5 = .ok (.iconst 1, 1) := by decide +kernel
theorem dX7_set_6 : decode cX7_set 6 = .ok (.iconst 5, 1) := by decide +kernel
theorem dX7_set_7 : decode cX7_set 7 = .ok (.invokestatic 62, 3) := by decide +kernel
theorem dX7_set_10 : decode cX7_set 10 = .ok (.ifCond .eq 25, 3) := by decide +kernel
theorem dX7_set_13 : decode cX7_set 13 = .ok (.aload_n 0, 1) := by decide +kernel
theorem dX7_set_14 : decode cX7_set 14 = .ok (.getfield 10, 3) := by decide +kernel
theorem dX7_set_17 : decode cX7_set 17 = .ok (.getfield 66, 3) := by decide +kernel
theorem dX7_set_20 : decode cX7_set 20 = .ok (.istore_n 3, 1) := by decide +kernel
theorem dX7_set_21 : decode cX7_set 21 = .ok (.aload_n 0, 1) := by decide +kernel
theorem dX7_set_22 : decode cX7_set 22 = .ok (.invokevirtual 69, 3) := by decide +kernel
theorem dX7_set_25 : decode cX7_set 25 = .ok (.aload_n 0, 1) := by decide +kernel
theorem dX7_set_26 : decode cX7_set 26 = .ok (.getfield 10, 3) := by decide +kernel
theorem dX7_set_29 : decode cX7_set 29 = .ok (.iload_n 2, 1) := by decide +kernel
theorem dX7_set_30 : decode cX7_set 30 = .ok (.putfield 66, 3) := by decide +kernel
theorem dX7_set_33 : decode cX7_set 33 = .ok (.iload_n 3, 1) := by decide +kernel
theorem dX7_set_34 : decode cX7_set 34 = .ok (.ireturn, 1) := by decide +kernel
theorem dX7_set_35 : decode cX7_set 35 = .ok (.iload_n 1, 1) := by decide +kernel
theorem dX7_set_36 : decode cX7_set 36 = .ok (.iconst 1, 1) := by decide +kernel
theorem dX7_set_37 : decode cX7_set 37 = .ok (.if_icmp .ne 35, 3) := by decide +kernel
theorem dX7_set_40 : decode cX7_set 40 = .ok (.iload_n 2, 1) := by decide +kernel
theorem dX7_set_41 : decode cX7_set 41 = .ok (.iconst 1, 1) := by decide +kernel
theorem dX7_set_42 : decode cX7_set 42 = .ok (.bipush 24, 2) := by decide +kernel
theorem dX7_set_44 : decode cX7_set 44 = .ok (.invokestatic 62, 3) := by decide +kernel
theorem dX7_set_47 : decode cX7_set 47 = .ok (.ifCond .eq 25, 3) := by decide +kernel
theorem dX7_set_50 : decode cX7_set 50 = .ok (.aload_n 0, 1) := by decide +kernel
theorem dX7_set_51 : decode cX7_set 51 = .ok (.getfield 10, 3) := by decide +kernel
theorem dX7_set_54 : decode cX7_set 54 = .ok (.getfield 72, 3) := by decide +kernel
theorem dX7_set_57 : decode cX7_set 57 = .ok (.istore_n 3, 1) := by decide +kernel
theorem dX7_set_58 : decode cX7_set 58 = .ok (.aload_n 0, 1) := by decide +kernel
theorem dX7_set_59 : decode cX7_set 59 = .ok (.invokevirtual 69, 3) := by decide +kernel
theorem dX7_set_62 : decode cX7_set 62 = .ok (.aload_n 0, 1) := by decide +kernel
theorem dX7_set_63 : decode cX7_set 63 = .ok (.getfield 10, 3) := by decide +kernel
theorem dX7_set_66 : decode cX7_set 66 = .ok (.iload_n 2, 1) := by decide +kernel
theorem dX7_set_67 : decode cX7_set 67 = .ok (.putfield 72, 3) := by decide +kernel
theorem dX7_set_70 : decode cX7_set 70 = .ok (.iload_n 3, 1) := by decide +kernel
theorem dX7_set_71 : decode cX7_set 71 = .ok (.ireturn, 1) := by decide +kernel
theorem dX7_set_72 : decode cX7_set 72 = .ok (.bipush (-2), 2) := by decide +kernel
theorem dX7_set_74 : decode cX7_set 74 = .ok (.ireturn, 1) := by decide +kernel
set_option maxRecDepth 20000 in
theorem ggX7_add_X4_firstFault : GoodIn wsX7_add wsX4_firstFault := goodIn_r _ [11, 12, 13, 78, 79] (by decide +kernel) (by decide +kernel)
set_option maxRecDepth 20000 in
theorem gX7_add_X4_firstFault : GoodIn wsX7_add (wsV RX7 75 RX4 yX4_firstFault wsX4_firstFault) := goodIn_app (goodIn_of _ (by decide +kernel)) ggX7_add_X4_firstFault
set_option maxRecDepth 20000 in
theorem ggX7_add_X4_asWord : GoodIn wsX7_add wsX4_asWord := goodIn_r _ [17, 12, 13, 18, 19, 20, 21, 78, 79] (by decide +kernel) (by decide +kernel)
set_option maxRecDepth 20000 in
theorem gX7_add_X4_asWord : GoodIn wsX7_add (wsV RX7 79 RX4 yX4_asWord wsX4_asWord) := goodIn_app (goodIn_of _ (by decide +kernel)) ggX7_add_X4_asWord
set_option maxRecDepth 20000 in
theorem ggX7_add_X5_holds : GoodIn wsX7_add wsX5_holds := goodIn_r _ [26, 27, 28, 72, 73, 74, 75, 76, 77] (by decide +kernel) (by decide +kernel)
set_option maxRecDepth 20000 in
theorem gX7_add_X5_holds : GoodIn wsX7_add (wsV RX7 83 RX5 yX5_holds wsX5_holds) := goodIn_app (goodIn_of _ (by decide +kernel)) ggX7_add_X5_holds
set_option maxRecDepth 20000 in
theorem ggX7_add_X7_recordChange : GoodIn wsX7_add wsX7_recordChange := goodIn_r _ [33, 34, 35, 2, 36, 37, 38, 25, 39, 40, 41, 27, 28, 42, 43, 44, 45, 46, 47, 48, 49, 50, 51, 52, 53, 54, 55, 56, 57, 58, 59, 60, 61, 62, 63, 64, 65, 66, 67, 68, 69, 70, 71, 72, 73, 74, 75, 76, 77, 80, 81, 82, 83, 84, 85, 86, 87] (by decide +kernel) (by decide +kernel)
set_option maxRecDepth 20000 in
theorem gX7_add_X7_recordChange : GoodIn wsX7_add (wsV RX7 69 RX7 yX7_recordChange wsX7_recordChange) := goodIn_app (goodIn_of _ (by decide +kernel)) ggX7_add_X7_recordChange
theorem dX7_add_0 : decode cX7_add 0 = .ok (.aload_n 0, 1) := by decide +kernel
theorem dX7_add_1 : decode cX7_add 1 = .ok (.getfield 34, 3) := by decide +kernel
theorem dX7_add_4 : decode cX7_add 4 = .ok (.invokevirtual 75, 3) := by decide +kernel
theorem dX7_add_7 : decode cX7_add 7 = .ok (.bipush (-6), 2) := by decide +kernel
theorem dX7_add_9 : decode cX7_add 9 = .ok (.if_icmp .eq 6, 3) := by decide +kernel
theorem dX7_add_12 : decode cX7_add 12 = .ok (.bipush (-3), 2) := by decide +kernel
theorem dX7_add_14 : decode cX7_add 14 = .ok (.ireturn, 1) := by decide +kernel
theorem dX7_add_15 : decode cX7_add 15 = .ok (.aload_n 0, 1) := by decide +kernel
theorem dX7_add_16 : decode cX7_add 16 = .ok (.getfield 34, 3) := by decide +kernel
theorem dX7_add_19 : decode cX7_add 19 = .ok (.invokevirtual 79, 3) := by decide +kernel
theorem dX7_add_22 : decode cX7_add 22 = .ok (.lstore_n 1, 1) := by decide +kernel
theorem dX7_add_23 : decode cX7_add 23 = .ok (.aload_n 0, 1) := by decide +kernel
theorem dX7_add_24 : decode cX7_add 24 = .ok (.getfield 10, 3) := by decide +kernel
theorem dX7_add_27 : decode cX7_add 27 = .ok (.lload_n 1, 1) := by decide +kernel
theorem dX7_add_28 : decode cX7_add 28 = .ok (.invokevirtual 83, 3) := by decide +kernel
theorem dX7_add_31 : decode cX7_add 31 = .ok (.ifCond .eq 6, 3) := by decide +kernel
theorem dX7_add_34 : decode cX7_add 34 = .ok (.bipush (-5), 2) := by decide +kernel
theorem dX7_add_36 : decode cX7_add 36 = .ok (.ireturn, 1) := by decide +kernel
theorem dX7_add_37 : decode cX7_add 37 = .ok (.aload_n 0, 1) := by decide +kernel
theorem dX7_add_38 : decode cX7_add 38 = .ok (.getfield 10, 3) := by decide +kernel
theorem dX7_add_41 : decode cX7_add 41 = .ok (.getfield 87, 3) := by decide +kernel
theorem dX7_add_44 : decode cX7_add 44 = .ok (.aload_n 0, 1) := by decide +kernel
theorem dX7_add_45 : decode cX7_add 45 = .ok (.getfield 10, 3) := by decide +kernel
theorem dX7_add_48 : decode cX7_add 48 = .ok (.getfield 72, 3) := by decide +kernel
theorem dX7_add_51 : decode cX7_add 51 = .ok (.if_icmp .ge 15, 3) := by decide +kernel
theorem dX7_add_54 : decode cX7_add 54 = .ok (.aload_n 0, 1) := by decide +kernel
theorem dX7_add_55 : decode cX7_add 55 = .ok (.getfield 10, 3) := by decide +kernel
theorem dX7_add_58 : decode cX7_add 58 = .ok (.getfield 87, 3) := by decide +kernel
theorem dX7_add_61 : decode cX7_add 61 = .ok (.bipush 24, 2) := by decide +kernel
theorem dX7_add_63 : decode cX7_add 63 = .ok (.if_icmp .lt 6, 3) := by decide +kernel
theorem dX7_add_66 : decode cX7_add 66 = .ok (.bipush (-4), 2) := by decide +kernel
theorem dX7_add_68 : decode cX7_add 68 = .ok (.ireturn, 1) := by decide +kernel
theorem dX7_add_69 : decode cX7_add 69 = .ok (.aload_n 0, 1) := by decide +kernel
theorem dX7_add_70 : decode cX7_add 70 = .ok (.invokevirtual 69, 3) := by decide +kernel
theorem dX7_add_73 : decode cX7_add 73 = .ok (.aload_n 0, 1) := by decide +kernel
theorem dX7_add_74 : decode cX7_add 74 = .ok (.getfield 10, 3) := by decide +kernel
theorem dX7_add_77 : decode cX7_add 77 = .ok (.getfield 90, 3) := by decide +kernel
theorem dX7_add_80 : decode cX7_add 80 = .ok (.aload_n 0, 1) := by decide +kernel
theorem dX7_add_81 : decode cX7_add 81 = .ok (.getfield 10, 3) := by decide +kernel
theorem dX7_add_84 : decode cX7_add 84 = .ok (.getfield 87, 3) := by decide +kernel
theorem dX7_add_87 : decode cX7_add 87 = .ok (.lload_n 1, 1) := by decide +kernel
theorem dX7_add_88 : decode cX7_add 88 = .ok (.lastore, 1) := by decide +kernel
theorem dX7_add_89 : decode cX7_add 89 = .ok (.aload_n 0, 1) := by decide +kernel
theorem dX7_add_90 : decode cX7_add 90 = .ok (.getfield 10, 3) := by decide +kernel
theorem dX7_add_93 : decode cX7_add 93 = .ok (.dup, 1) := by decide +kernel
theorem dX7_add_94 : decode cX7_add 94 = .ok (.getfield 87, 3) := by decide +kernel
theorem dX7_add_97 : decode cX7_add 97 = .ok (.iconst 1, 1) := by decide +kernel
theorem dX7_add_98 : decode cX7_add 98 = .ok (.iadd, 1) := by decide +kernel
theorem dX7_add_99 : decode cX7_add 99 = .ok (.putfield 87, 3) := by decide +kernel
theorem dX7_add_102 : decode cX7_add 102 = .ok (.aload_n 0, 1) := by decide +kernel
theorem dX7_add_103 : decode cX7_add 103 = .ok (.getfield 34, 3) := by decide +kernel
theorem dX7_add_106 : decode cX7_add 106 = .ok (.iconst 0, 1) := by decide +kernel
theorem dX7_add_107 : decode cX7_add 107 = .ok (.putfield 94, 3) := by decide +kernel
theorem dX7_add_110 : decode cX7_add 110 = .ok (.aload_n 0, 1) := by decide +kernel
theorem dX7_add_111 : decode cX7_add 111 = .ok (.getfield 10, 3) := by decide +kernel
theorem dX7_add_114 : decode cX7_add 114 = .ok (.getfield 87, 3) := by decide +kernel
theorem dX7_add_117 : decode cX7_add 117 = .ok (.iconst 1, 1) := by decide +kernel
theorem dX7_add_118 : decode cX7_add 118 = .ok (.isub, 1) := by decide +kernel
theorem dX7_add_119 : decode cX7_add 119 = .ok (.ireturn, 1) := by decide +kernel
set_option maxRecDepth 20000 in
theorem ggX7_drop_X5_hasName : GoodIn wsX7_drop wsX5_hasName := goodIn_r _ [7, 8, 57, 58, 59, 60, 61, 62] (by decide +kernel) (by decide +kernel)
set_option maxRecDepth 20000 in
theorem gX7_drop_X5_hasName : GoodIn wsX7_drop (wsV RX7 97 RX5 yX5_hasName wsX5_hasName) := goodIn_app (goodIn_of _ (by decide +kernel)) ggX7_drop_X5_hasName
set_option maxRecDepth 20000 in
theorem ggX7_drop_X7_recordChange : GoodIn wsX7_drop wsX7_recordChange := goodIn_r _ [13, 14, 15, 1, 16, 17, 18, 6, 19, 20, 21, 8, 22, 23, 24, 25, 26, 27, 28, 29, 30, 31, 32, 33, 34, 35, 36, 37, 38, 39, 40, 41, 42, 47, 48, 49, 50, 51, 52, 53, 54, 55, 56, 57, 58, 59, 60, 61, 62, 63, 64, 65, 66, 67, 68, 69, 70] (by decide +kernel) (by decide +kernel)
set_option maxRecDepth 20000 in
theorem gX7_drop_X7_recordChange : GoodIn wsX7_drop (wsV RX7 69 RX7 yX7_recordChange wsX7_recordChange) := goodIn_app (goodIn_of _ (by decide +kernel)) ggX7_drop_X7_recordChange
set_option maxRecDepth 20000 in
theorem ggX7_drop_X5_removeName : GoodIn wsX7_drop wsX5_removeName := goodIn_r _ [46, 8, 22, 57, 58, 59, 60, 61, 62] (by decide +kernel) (by decide +kernel)
set_option maxRecDepth 20000 in
theorem gX7_drop_X5_removeName : GoodIn wsX7_drop (wsV RX7 101 RX5 yX5_removeName wsX5_removeName) := goodIn_app (goodIn_of _ (by decide +kernel)) ggX7_drop_X5_removeName
theorem dX7_drop_0 : decode cX7_drop 0 = .ok (.aload_n 0, 1) := by decide +kernel
theorem dX7_drop_1 : decode cX7_drop 1 = .ok (.getfield 10, 3) := by decide +kernel
theorem dX7_drop_4 : decode cX7_drop 4 = .ok (.iload_n 1, 1) := by decide +kernel
theorem dX7_drop_5 : decode cX7_drop 5 = .ok (.invokevirtual 97, 3) := by decide +kernel
theorem dX7_drop_8 : decode cX7_drop 8 = .ok (.ifCond .ne 5, 3) := by decide +kernel
theorem dX7_drop_11 : decode cX7_drop 11 = .ok (.iconst (-1), 1) := by decide +kernel
theorem dX7_drop_12 : decode cX7_drop 12 = .ok (.ireturn, 1) := by decide +kernel
theorem dX7_drop_13 : decode cX7_drop 13 = .ok (.aload_n 0, 1) := by decide +kernel
theorem dX7_drop_14 : decode cX7_drop 14 = .ok (.invokevirtual 69, 3) := by decide +kernel
theorem dX7_drop_17 : decode cX7_drop 17 = .ok (.aload_n 0, 1) := by decide +kernel
theorem dX7_drop_18 : decode cX7_drop 18 = .ok (.getfield 10, 3) := by decide +kernel
theorem dX7_drop_21 : decode cX7_drop 21 = .ok (.iload_n 1, 1) := by decide +kernel
theorem dX7_drop_22 : decode cX7_drop 22 = .ok (.invokevirtual 101, 3) := by decide +kernel
theorem dX7_drop_25 : decode cX7_drop 25 = .ok (.aload_n 0, 1) := by decide +kernel
theorem dX7_drop_26 : decode cX7_drop 26 = .ok (.getfield 10, 3) := by decide +kernel
theorem dX7_drop_29 : decode cX7_drop 29 = .ok (.getfield 87, 3) := by decide +kernel
theorem dX7_drop_32 : decode cX7_drop 32 = .ok (.ireturn, 1) := by decide +kernel
set_option maxRecDepth 20000 in
theorem ggX7_ear_X5_earAt : GoodIn wsX7_ear wsX5_earAt := goodIn_r _ [8, 9, 10, 60, 61, 62, 63, 64, 65] (by decide +kernel) (by decide +kernel)
set_option maxRecDepth 20000 in
theorem gX7_ear_X5_earAt : GoodIn wsX7_ear (wsV RX7 105 RX5 yX5_earAt wsX5_earAt) := goodIn_app (goodIn_of _ (by decide +kernel)) ggX7_ear_X5_earAt
set_option maxRecDepth 20000 in
theorem ggX7_ear_X7_recordChange : GoodIn wsX7_ear wsX7_recordChange := goodIn_r _ [15, 16, 17, 1, 18, 19, 20, 7, 21, 22, 23, 24, 25, 26, 27, 28, 29, 9, 10, 30, 31, 32, 33, 34, 35, 36, 37, 38, 39, 40, 41, 42, 43, 50, 51, 52, 53, 54, 55, 56, 57, 58, 59, 60, 61, 62, 63, 64, 65, 66, 67, 68, 69, 70, 71, 72, 73] (by decide +kernel) (by decide +kernel)
set_option maxRecDepth 20000 in
theorem gX7_ear_X7_recordChange : GoodIn wsX7_ear (wsV RX7 69 RX7 yX7_recordChange wsX7_recordChange) := goodIn_app (goodIn_of _ (by decide +kernel)) ggX7_ear_X7_recordChange
set_option maxRecDepth 20000 in
theorem ggX7_ear_X2_beAsAtFirst : GoodIn wsX7_ear wsX2_beAsAtFirst := goodIn_r _ [47, 35, 48, 37, 38, 39, 66, 67, 68, 69, 70, 71, 72, 73] (by decide +kernel) (by decide +kernel)
set_option maxRecDepth 20000 in
theorem gX7_ear_X2_beAsAtFirst : GoodIn wsX7_ear (wsV RX7 116 RX2 yX2_beAsAtFirst wsX2_beAsAtFirst) := goodIn_app (goodIn_of _ (by decide +kernel)) ggX7_ear_X2_beAsAtFirst
set_option maxRecDepth 20000 in
theorem ggX7_ear_X2_beAs : GoodIn wsX7_ear wsX2_beAs := goodIn_r _ [34, 35, 36, 27, 28, 29, 37, 38, 39, 40, 41, 42, 43, 66, 67, 68, 69, 70, 71, 72, 73] (by decide +kernel) (by decide +kernel)
set_option maxRecDepth 20000 in
theorem gX7_ear_X2_beAs : GoodIn wsX7_ear (wsV RX7 119 RX2 yX2_beAs wsX2_beAs) := goodIn_app (goodIn_of _ (by decide +kernel)) ggX7_ear_X2_beAs
theorem dX7_ear_0 : decode cX7_ear 0 = .ok (.aload_n 0, 1) := by decide +kernel
theorem dX7_ear_1 : decode cX7_ear 1 = .ok (.getfield 10, 3) := by decide +kernel
theorem dX7_ear_4 : decode cX7_ear 4 = .ok (.iload_n 1, 1) := by decide +kernel
theorem dX7_ear_5 : decode cX7_ear 5 = .ok (.invokevirtual 105, 3) := by decide +kernel
theorem dX7_ear_8 : decode cX7_ear 8 = .ok (.astore_n 2, 1) := by decide +kernel
theorem dX7_ear_9 : decode cX7_ear 9 = .ok (.aload_n 2, 1) := by decide +kernel
theorem dX7_ear_10 : decode cX7_ear 10 = .ok (.ifnonnull 11, 3) := by decide +kernel
theorem dX7_ear_13 : decode cX7_ear 13 = .ok (.iload_n 1, 1) := by decide +kernel
theorem dX7_ear_14 : decode cX7_ear 14 = .ok (.bipush (-6), 2) := by decide +kernel
theorem dX7_ear_16 : decode cX7_ear 16 = .ok (.if_icmp .eq 5, 3) := by decide +kernel
theorem dX7_ear_19 : decode cX7_ear 19 = .ok (.iconst (-1), 1) := by decide +kernel
theorem dX7_ear_20 : decode cX7_ear 20 = .ok (.ireturn, 1) := by decide +kernel
theorem dX7_ear_21 : decode cX7_ear 21 = .ok (.aload_n 0, 1) := by decide +kernel
theorem dX7_ear_22 : decode cX7_ear 22 = .ok (.getfield 10, 3) := by decide +kernel
theorem dX7_ear_25 : decode cX7_ear 25 = .ok (.getfield 109, 3) := by decide +kernel
theorem dX7_ear_28 : decode cX7_ear 28 = .ok (.iconst 4, 1) := by decide +kernel
theorem dX7_ear_29 : decode cX7_ear 29 = .ok (.if_icmp .lt 6, 3) := by decide +kernel
theorem dX7_ear_32 : decode cX7_ear 32 = .ok (.bipush (-4), 2) := by decide +kernel
theorem dX7_ear_34 : decode cX7_ear 34 = .ok (.ireturn, 1) := by decide +kernel
theorem dX7_ear_35 : decode cX7_ear 35 = .ok (.aload_n 0, 1) := by decide +kernel
theorem dX7_ear_36 : decode cX7_ear 36 = .ok (.invokevirtual 69, 3) := by decide +kernel
theorem dX7_ear_39 : decode cX7_ear 39 = .ok (.aload_n 0, 1) := by decide +kernel
theorem dX7_ear_40 : decode cX7_ear 40 = .ok (.getfield 10, 3) := by decide +kernel
theorem dX7_ear_43 : decode cX7_ear 43 = .ok (.getfield 112, 3) := by decide +kernel
theorem dX7_ear_46 : decode cX7_ear 46 = .ok (.aload_n 0, 1) := by decide +kernel
theorem dX7_ear_47 : decode cX7_ear 47 = .ok (.getfield 10, 3) := by decide +kernel
theorem dX7_ear_50 : decode cX7_ear 50 = .ok (.getfield 109, 3) := by decide +kernel
theorem dX7_ear_53 : decode cX7_ear 53 = .ok (.aaload, 1) := by decide +kernel
theorem dX7_ear_54 : decode cX7_ear 54 = .ok (.astore_n 3, 1) := by decide +kernel
theorem dX7_ear_55 : decode cX7_ear 55 = .ok (.aload_n 2, 1) := by decide +kernel
theorem dX7_ear_56 : decode cX7_ear 56 = .ok (.ifnonnull 10, 3) := by decide +kernel
theorem dX7_ear_59 : decode cX7_ear 59 = .ok (.aload_n 3, 1) := by decide +kernel
theorem dX7_ear_60 : decode cX7_ear 60 = .ok (.invokevirtual 116, 3) := by decide +kernel
theorem dX7_ear_63 : decode cX7_ear 63 = .ok (.goto 8, 3) := by decide +kernel
theorem dX7_ear_66 : decode cX7_ear 66 = .ok (.aload_n 3, 1) := by decide +kernel
theorem dX7_ear_67 : decode cX7_ear 67 = .ok (.aload_n 2, 1) := by decide +kernel
theorem dX7_ear_68 : decode cX7_ear 68 = .ok (.invokevirtual 119, 3) := by decide +kernel
theorem dX7_ear_71 : decode cX7_ear 71 = .ok (.aload_n 0, 1) := by decide +kernel
theorem dX7_ear_72 : decode cX7_ear 72 = .ok (.getfield 10, 3) := by decide +kernel
theorem dX7_ear_75 : decode cX7_ear 75 = .ok (.dup, 1) := by decide +kernel
theorem dX7_ear_76 : decode cX7_ear 76 = .ok (.getfield 109, 3) := by decide +kernel
theorem dX7_ear_79 : decode cX7_ear 79 = .ok (.iconst 1, 1) := by decide +kernel
theorem dX7_ear_80 : decode cX7_ear 80 = .ok (.iadd, 1) := by decide +kernel
theorem dX7_ear_81 : decode cX7_ear 81 = .ok (.putfield 109, 3) := by decide +kernel
theorem dX7_ear_84 : decode cX7_ear 84 = .ok (.aload_n 0, 1) := by decide +kernel
theorem dX7_ear_85 : decode cX7_ear 85 = .ok (.getfield 10, 3) := by decide +kernel
theorem dX7_ear_88 : decode cX7_ear 88 = .ok (.getfield 109, 3) := by decide +kernel
theorem dX7_ear_91 : decode cX7_ear 91 = .ok (.iconst 1, 1) := by decide +kernel
theorem dX7_ear_92 : decode cX7_ear 92 = .ok (.isub, 1) := by decide +kernel
theorem dX7_ear_93 : decode cX7_ear 93 = .ok (.ireturn, 1) := by decide +kernel
set_option maxRecDepth 20000 in
theorem ggX7_hear_X5_earAt : GoodIn wsX7_hear wsX5_earAt := goodIn_r _ [7, 8, 9, 75, 76, 77, 78, 79, 80] (by decide +kernel) (by decide +kernel)
set_option maxRecDepth 20000 in
theorem gX7_hear_X5_earAt : GoodIn wsX7_hear (wsV RX7 105 RX5 yX5_earAt wsX5_earAt) := goodIn_app (goodIn_of _ (by decide +kernel)) ggX7_hear_X5_earAt
set_option maxRecDepth 20000 in
theorem ggX7_hear_X6_isLetter : GoodIn wsX7_hear wsX6_isLetter := goodIn_r _ [13] (by decide +kernel) (by decide +kernel)
set_option maxRecDepth 20000 in
theorem gX7_hear_X6_isLetter : GoodIn wsX7_hear (va_wsS RX7 123 yX6_isLetter wsX6_isLetter) := goodIn_app (goodIn_of _ (by decide +kernel)) ggX7_hear_X6_isLetter
set_option maxRecDepth 20000 in
theorem ggX7_hear_X7_isClass : GoodIn wsX7_hear wsX7_isClass := goodIn_r _ [17, 18, 19, 16, 20] (by decide +kernel) (by decide +kernel)
set_option maxRecDepth 20000 in
theorem gX7_hear_X7_isClass : GoodIn wsX7_hear (va_wsS RX7 128 yX7_isClass wsX7_isClass) := goodIn_app (goodIn_of _ (by decide +kernel)) ggX7_hear_X7_isClass
set_option maxRecDepth 20000 in
theorem ggX7_hear_X7_recordChange : GoodIn wsX7_hear wsX7_recordChange := goodIn_r _ [24, 25, 26, 1, 27, 28, 29, 6, 30, 31, 32, 33, 34, 35, 36, 37, 38, 8, 9, 39, 40, 41, 42, 43, 44, 45, 46, 47, 48, 49, 50, 51, 52, 57, 58, 59, 60, 61, 62, 63, 64, 65, 66, 75, 76, 77, 78, 79, 80, 67, 68, 69, 70, 71, 72, 73, 74] (by decide +kernel) (by decide +kernel)
set_option maxRecDepth 20000 in
theorem gX7_hear_X7_recordChange : GoodIn wsX7_hear (wsV RX7 69 RX7 yX7_recordChange wsX7_recordChange) := goodIn_app (goodIn_of _ (by decide +kernel)) ggX7_hear_X7_recordChange
set_option maxRecDepth 20000 in
theorem ggX7_hear_X2_loseSameSecond : GoodIn wsX7_hear wsX2_loseSameSecond := goodIn_r _ [56, 46, 44, 67, 68, 69, 70, 71, 72, 73, 74] (by decide +kernel) (by decide +kernel)
set_option maxRecDepth 20000 in
theorem gX7_hear_X2_loseSameSecond : GoodIn wsX7_hear (wsV RX7 135 RX2 yX2_loseSameSecond wsX2_loseSameSecond) := goodIn_app (goodIn_of _ (by decide +kernel)) ggX7_hear_X2_loseSameSecond
theorem dX7_hear_0 : decode cX7_hear 0 = .ok (.aload_n 0, 1) := by decide +kernel
theorem dX7_hear_1 : decode cX7_hear 1 = .ok (.getfield 10, 3) := by decide +kernel
theorem dX7_hear_4 : decode cX7_hear 4 = .ok (.iload_n 1, 1) := by decide +kernel
theorem dX7_hear_5 : decode cX7_hear 5 = .ok (.invokevirtual 105, 3) := by decide +kernel
theorem dX7_hear_8 : decode cX7_hear 8 = .ok (.astore 4, 2) := by decide +kernel
theorem dX7_hear_10 : decode cX7_hear 10 = .ok (.aload 4, 2) := by decide +kernel
theorem dX7_hear_12 : decode cX7_hear 12 = .ok (.ifnull 10, 3) := by decide +kernel
theorem dX7_hear_15 : decode cX7_hear 15 = .ok (.iload_n 2, 1) := by decide +kernel
theorem dX7_hear_16 : decode cX7_hear 16 = .ok (.invokestatic 123, 3) := by decide +kernel
theorem dX7_hear_19 : decode cX7_hear 19 = .ok (.ifCond .ne 5, 3) := by decide +kernel
theorem dX7_hear_22 : decode cX7_hear 22 = .ok (.iconst (-1), 1) := by decide +kernel
theorem dX7_hear_23 : decode cX7_hear 23 = .ok (.ireturn, 1) := by decide +kernel
theorem dX7_hear_24 : decode cX7_hear 24 = .ok (.iload_n 3, 1) := by decide +kernel
theorem dX7_hear_25 : decode cX7_hear 25 = .ok (.invokestatic 128, 3) := by decide +kernel
theorem dX7_hear_28 : decode cX7_hear 28 = .ok (.ifCond .ne 6, 3) := by decide +kernel
theorem dX7_hear_31 : decode cX7_hear 31 = .ok (.bipush (-2), 2) := by decide +kernel
theorem dX7_hear_33 : decode cX7_hear 33 = .ok (.ireturn, 1) := by decide +kernel
theorem dX7_hear_34 : decode cX7_hear 34 = .ok (.aload_n 0, 1) := by decide +kernel
theorem dX7_hear_35 : decode cX7_hear 35 = .ok (.invokevirtual 69, 3) := by decide +kernel
theorem dX7_hear_38 : decode cX7_hear 38 = .ok (.aload 4, 2) := by decide +kernel
theorem dX7_hear_40 : decode cX7_hear 40 = .ok (.getfield 131, 3) := by decide +kernel
theorem dX7_hear_43 : decode cX7_hear 43 = .ok (.iload_n 2, 1) := by decide +kernel
theorem dX7_hear_44 : decode cX7_hear 44 = .ok (.iaload, 1) := by decide +kernel
theorem dX7_hear_45 : decode cX7_hear 45 = .ok (.istore 5, 2) := by decide +kernel
theorem dX7_hear_47 : decode cX7_hear 47 = .ok (.aload 4, 2) := by decide +kernel
theorem dX7_hear_49 : decode cX7_hear 49 = .ok (.getfield 131, 3) := by decide +kernel
theorem dX7_hear_52 : decode cX7_hear 52 = .ok (.iload_n 2, 1) := by decide +kernel
theorem dX7_hear_53 : decode cX7_hear 53 = .ok (.iload_n 3, 1) := by decide +kernel
theorem dX7_hear_54 : decode cX7_hear 54 = .ok (.iastore, 1) := by decide +kernel
theorem dX7_hear_55 : decode cX7_hear 55 = .ok (.aload 4, 2) := by decide +kernel
theorem dX7_hear_57 : decode cX7_hear 57 = .ok (.iload_n 2, 1) := by decide +kernel
theorem dX7_hear_58 : decode cX7_hear 58 = .ok (.invokevirtual 135, 3) := by decide +kernel
theorem dX7_hear_61 : decode cX7_hear 61 = .ok (.iload 5, 2) := by decide +kernel
theorem dX7_hear_63 : decode cX7_hear 63 = .ok (.ireturn, 1) := by decide +kernel
set_option maxRecDepth 20000 in
theorem ggX7_second_X5_earAt : GoodIn wsX7_second wsX5_earAt := goodIn_r _ [8, 9, 10, 72, 73, 74, 75, 76, 77] (by decide +kernel) (by decide +kernel)
set_option maxRecDepth 20000 in
theorem gX7_second_X5_earAt : GoodIn wsX7_second (wsV RX7 105 RX5 yX5_earAt wsX5_earAt) := goodIn_app (goodIn_of _ (by decide +kernel)) ggX7_second_X5_earAt
set_option maxRecDepth 20000 in
theorem ggX7_second_X6_isLetter : GoodIn wsX7_second wsX6_isLetter := goodIn_r _ [14] (by decide +kernel) (by decide +kernel)
set_option maxRecDepth 20000 in
theorem gX7_second_X6_isLetter : GoodIn wsX7_second (va_wsS RX7 123 yX6_isLetter wsX6_isLetter) := goodIn_app (goodIn_of _ (by decide +kernel)) ggX7_second_X6_isLetter
set_option maxRecDepth 20000 in
theorem ggX7_second_X7_isClass : GoodIn wsX7_second wsX7_isClass := goodIn_r _ [18, 19, 20, 17, 21] (by decide +kernel) (by decide +kernel)
set_option maxRecDepth 20000 in
theorem gX7_second_X7_isClass : GoodIn wsX7_second (va_wsS RX7 128 yX7_isClass wsX7_isClass) := goodIn_app (goodIn_of _ (by decide +kernel)) ggX7_second_X7_isClass
set_option maxRecDepth 20000 in
theorem ggX7_second_X7_recordChange : GoodIn wsX7_second wsX7_recordChange := goodIn_r _ [25, 26, 27, 1, 28, 29, 30, 7, 31, 32, 33, 34, 35, 36, 37, 38, 39, 9, 10, 40, 41, 42, 43, 44, 45, 46, 47, 48, 49, 50, 51, 52, 53, 54, 55, 56, 57, 58, 59, 60, 61, 62, 63, 72, 73, 74, 75, 76, 77, 64, 65, 66, 67, 68, 69, 70, 71] (by decide +kernel) (by decide +kernel)
set_option maxRecDepth 20000 in
theorem gX7_second_X7_recordChange : GoodIn wsX7_second (wsV RX7 69 RX7 yX7_recordChange wsX7_recordChange) := goodIn_app (goodIn_of _ (by decide +kernel)) ggX7_second_X7_recordChange
theorem dX7_second_0 : decode cX7_second 0 = .ok (.aload_n 0, 1) := by decide +kernel
theorem dX7_second_1 : decode cX7_second 1 = .ok (.getfield 10, 3) := by decide +kernel
theorem dX7_second_4 : decode cX7_second 4 = .ok (.iload_n 1, 1) := by decide +kernel
theorem dX7_second_5 : decode cX7_second 5 = .ok (.invokevirtual 105, 3) := by decide +kernel
theorem dX7_second_8 : decode cX7_second 8 = .ok (.astore 4, 2) := by decide +kernel
theorem dX7_second_10 : decode cX7_second 10 = .ok (.aload 4, 2) := by decide +kernel
theorem dX7_second_12 : decode cX7_second 12 = .ok (.ifnull 10, 3) := by decide +kernel
theorem dX7_second_15 : decode cX7_second 15 = .ok (.iload_n 2, 1) := by decide +kernel
theorem dX7_second_16 : decode cX7_second 16 = .ok (.invokestatic 123, 3) := by decide +kernel
theorem dX7_second_19 : decode cX7_second 19 = .ok (.ifCond .ne 5, 3) := by decide +kernel
theorem dX7_second_22 : decode cX7_second 22 = .ok (.iconst (-1), 1) := by decide +kernel
theorem dX7_second_23 : decode cX7_second 23 = .ok (.ireturn, 1) := by decide +kernel
theorem dX7_second_24 : decode cX7_second 24 = .ok (.iload_n 3, 1) := by decide +kernel
theorem dX7_second_25 : decode cX7_second 25 = .ok (.invokestatic 128, 3) := by decide +kernel
theorem dX7_second_28 : decode cX7_second 28 = .ok (.ifCond .ne 12, 3) := by decide +kernel
theorem dX7_second_31 : decode cX7_second 31 = .ok (.iload_n 3, 1) := by decide +kernel
theorem dX7_second_32 : decode cX7_second 32 = .ok (.bipush (-6), 2) := by decide +kernel
theorem dX7_second_34 : decode cX7_second 34 = .ok (.if_icmp .eq 6, 3) := by decide +kernel
theorem dX7_second_37 : decode cX7_second 37 = .ok (.bipush (-2), 2) := by decide +kernel
theorem dX7_second_39 : decode cX7_second 39 = .ok (.ireturn, 1) := by decide +kernel
theorem dX7_second_40 : decode cX7_second 40 = .ok (.iload_n 3, 1) := by decide +kernel
theorem dX7_second_41 : decode cX7_second 41 = .ok (.aload 4, 2) := by decide +kernel
theorem dX7_second_43 : decode cX7_second 43 = .ok (.getfield 131, 3) := by decide +kernel
theorem dX7_second_46 : decode cX7_second 46 = .ok (.iload_n 2, 1) := by decide +kernel
theorem dX7_second_47 : decode cX7_second 47 = .ok (.iaload, 1) := by decide +kernel
theorem dX7_second_48 : decode cX7_second 48 = .ok (.if_icmp .ne 6, 3) := by decide +kernel
theorem dX7_second_51 : decode cX7_second 51 = .ok (.bipush (-5), 2) := by decide +kernel
theorem dX7_second_53 : decode cX7_second 53 = .ok (.ireturn, 1) := by decide +kernel
theorem dX7_second_54 : decode cX7_second 54 = .ok (.aload_n 0, 1) := by decide +kernel
theorem dX7_second_55 : decode cX7_second 55 = .ok (.invokevirtual 69, 3) := by decide +kernel
theorem dX7_second_58 : decode cX7_second 58 = .ok (.aload 4, 2) := by decide +kernel
theorem dX7_second_60 : decode cX7_second 60 = .ok (.getfield 138, 3) := by decide +kernel
theorem dX7_second_63 : decode cX7_second 63 = .ok (.iload_n 2, 1) := by decide +kernel
theorem dX7_second_64 : decode cX7_second 64 = .ok (.iaload, 1) := by decide +kernel
theorem dX7_second_65 : decode cX7_second 65 = .ok (.istore 5, 2) := by decide +kernel
theorem dX7_second_67 : decode cX7_second 67 = .ok (.aload 4, 2) := by decide +kernel
theorem dX7_second_69 : decode cX7_second 69 = .ok (.getfield 138, 3) := by decide +kernel
theorem dX7_second_72 : decode cX7_second 72 = .ok (.iload_n 2, 1) := by decide +kernel
theorem dX7_second_73 : decode cX7_second 73 = .ok (.iload_n 3, 1) := by decide +kernel
theorem dX7_second_74 : decode cX7_second 74 = .ok (.iastore, 1) := by decide +kernel
theorem dX7_second_75 : decode cX7_second 75 = .ok (.iload 5, 2) := by decide +kernel
theorem dX7_second_77 : decode cX7_second 77 = .ok (.ireturn, 1) := by decide +kernel
set_option maxRecDepth 20000 in
theorem ggX7_habits_X5_earAt : GoodIn wsX7_habits wsX5_earAt := goodIn_r _ [7, 8, 9, 64, 65, 66, 67, 68, 69] (by decide +kernel) (by decide +kernel)
set_option maxRecDepth 20000 in
theorem gX7_habits_X5_earAt : GoodIn wsX7_habits (wsV RX7 105 RX5 yX5_earAt wsX5_earAt) := goodIn_app (goodIn_of _ (by decide +kernel)) ggX7_habits_X5_earAt
set_option maxRecDepth 20000 in
theorem ggX7_habits_X7_isWithin : GoodIn wsX7_habits wsX7_isWithin := goodIn_r _ [13] (by decide +kernel) (by decide +kernel)
set_option maxRecDepth 20000 in
theorem gX7_habits_X7_isWithin : GoodIn wsX7_habits (va_wsS RX7 62 yX7_isWithin wsX7_isWithin) := goodIn_app (goodIn_of _ (by decide +kernel)) ggX7_habits_X7_isWithin
set_option maxRecDepth 20000 in
theorem ggX7_habits_X7_recordChange : GoodIn wsX7_habits wsX7_recordChange := goodIn_r _ [17, 18, 19, 1, 20, 21, 22, 6, 23, 24, 25, 26, 27, 28, 29, 30, 31, 8, 9, 32, 33, 34, 35, 36, 37, 38, 39, 40, 41, 42, 43, 44, 45, 46, 47, 48, 49, 50, 51, 52, 53, 54, 55, 64, 65, 66, 67, 68, 69, 56, 57, 58, 59, 60, 61, 62, 63] (by decide +kernel) (by decide +kernel)
set_option maxRecDepth 20000 in
theorem gX7_habits_X7_recordChange : GoodIn wsX7_habits (wsV RX7 69 RX7 yX7_recordChange wsX7_recordChange) := goodIn_app (goodIn_of _ (by decide +kernel)) ggX7_habits_X7_recordChange
theorem dX7_habits_0 : decode cX7_habits 0 = .ok (.aload_n 0, 1) := by decide +kernel
theorem dX7_habits_1 : decode cX7_habits 1 = .ok (.getfield 10, 3) := by decide +kernel
theorem dX7_habits_4 : decode cX7_habits 4 = .ok (.iload_n 1, 1) := by decide +kernel
theorem dX7_habits_5 : decode cX7_habits 5 = .ok (.invokevirtual 105, 3) := by decide +kernel
theorem dX7_habits_8 : decode cX7_habits 8 = .ok (.astore_n 3, 1) := by decide +kernel
theorem dX7_habits_9 : decode cX7_habits 9 = .ok (.aload_n 3, 1) := by decide +kernel
theorem dX7_habits_10 : decode cX7_habits 10 = .ok (.ifnonnull 5, 3) := by decide +kernel
theorem dX7_habits_13 : decode cX7_habits 13 = .ok (.iconst (-1), 1) := by decide +kernel
theorem dX7_habits_14 : decode cX7_habits 14 = .ok (.ireturn, 1) := by decide +kernel
theorem dX7_habits_15 : decode cX7_habits 15 = .ok (.iload_n 2, 1) := by decide +kernel
theorem dX7_habits_16 : decode cX7_habits 16 = .ok (.iconst 0, 1) := by decide +kernel
theorem dX7_habits_17 : decode cX7_habits 17 = .ok (.bipush 7, 2) := by decide +kernel
theorem dX7_habits_19 : decode cX7_habits 19 = .ok (.invokestatic 62, 3) := by decide +kernel
theorem dX7_habits_22 : decode cX7_habits 22 = .ok (.ifCond .ne 6, 3) := by decide +kernel
theorem dX7_habits_25 : decode cX7_habits 25 = .ok (.bipush (-2), 2) := by decide +kernel
theorem dX7_habits_27 : decode cX7_habits 27 = .ok (.ireturn, 1) := by decide +kernel
theorem dX7_habits_28 : decode cX7_habits 28 = .ok (.aload_n 0, 1) := by decide +kernel
theorem dX7_habits_29 : decode cX7_habits 29 = .ok (.invokevirtual 69, 3) := by decide +kernel
theorem dX7_habits_32 : decode cX7_habits 32 = .ok (.aload_n 3, 1) := by decide +kernel
theorem dX7_habits_33 : decode cX7_habits 33 = .ok (.getfield 141, 3) := by decide +kernel
theorem dX7_habits_36 : decode cX7_habits 36 = .ok (.istore 4, 2) := by decide +kernel
theorem dX7_habits_38 : decode cX7_habits 38 = .ok (.aload_n 3, 1) := by decide +kernel
theorem dX7_habits_39 : decode cX7_habits 39 = .ok (.iload_n 2, 1) := by decide +kernel
theorem dX7_habits_40 : decode cX7_habits 40 = .ok (.putfield 141, 3) := by decide +kernel
theorem dX7_habits_43 : decode cX7_habits 43 = .ok (.iload 4, 2) := by decide +kernel
theorem dX7_habits_45 : decode cX7_habits 45 = .ok (.ireturn, 1) := by decide +kernel
set_option maxRecDepth 20000 in
theorem ggX7_merge_X5_earAt : GoodIn wsX7_merge wsX5_earAt := goodIn_r _ [6, 7, 8, 88, 89, 90, 91, 92, 93] (by decide +kernel) (by decide +kernel)
set_option maxRecDepth 20000 in
theorem gX7_merge_X5_earAt : GoodIn wsX7_merge (wsV RX7 105 RX5 yX5_earAt wsX5_earAt) := goodIn_app (goodIn_of _ (by decide +kernel)) ggX7_merge_X5_earAt
set_option maxRecDepth 20000 in
theorem ggX7_merge_X7_canMerge : GoodIn wsX7_merge wsX7_canMerge := goodIn_r _ [12, 13, 14, 11, 15, 16, 17, 18] (by decide +kernel) (by decide +kernel)
set_option maxRecDepth 20000 in
theorem gX7_merge_X7_canMerge : GoodIn wsX7_merge (va_wsS RX7 144 yX7_canMerge wsX7_canMerge) := goodIn_app (goodIn_of _ (by decide +kernel)) ggX7_merge_X7_canMerge
set_option maxRecDepth 20000 in
theorem ggX7_merge_X7_recordChange : GoodIn wsX7_merge wsX7_recordChange := goodIn_r _ [22, 23, 24, 1, 25, 26, 27, 5, 28, 29, 30, 31, 32, 33, 34, 35, 36, 7, 8, 37, 38, 39, 40, 41, 42, 43, 44, 45, 46, 47, 48, 49, 50, 78, 79, 80, 81, 82, 83, 84, 85, 86, 87, 88, 89, 90, 91, 92, 93, 94, 95, 96, 97, 98, 99, 100, 101] (by decide +kernel) (by decide +kernel)
set_option maxRecDepth 20000 in
theorem gX7_merge_X7_recordChange : GoodIn wsX7_merge (wsV RX7 69 RX7 yX7_recordChange wsX7_recordChange) := goodIn_app (goodIn_of _ (by decide +kernel)) ggX7_merge_X7_recordChange
set_option maxRecDepth 20000 in
theorem ggX7_merge_X2_mergeClasses : GoodIn wsX7_merge wsX2_mergeClasses := goodIn_r _ [54, 42, 44, 55, 56, 57, 40, 58, 59, 60, 61, 62, 46, 47, 48, 49, 50, 63, 64, 65, 66, 43, 34, 35, 36, 94, 95, 96, 97, 98, 99, 100, 101] (by decide +kernel) (by decide +kernel)
set_option maxRecDepth 20000 in
theorem gX7_merge_X2_mergeClasses : GoodIn wsX7_merge (wsV RX7 148 RX2 yX2_mergeClasses wsX2_mergeClasses) := goodIn_app (goodIn_of _ (by decide +kernel)) ggX7_merge_X2_mergeClasses
set_option maxRecDepth 20000 in
theorem ggX7_merge_X2_lettersOf : GoodIn wsX7_merge wsX2_lettersOf := goodIn_r _ [70, 42, 94, 95, 96, 97, 98, 99, 100, 101] (by decide +kernel) (by decide +kernel)
set_option maxRecDepth 20000 in
theorem gX7_merge_X2_lettersOf : GoodIn wsX7_merge (wsV RX7 152 RX2 yX2_lettersOf wsX2_lettersOf) := goodIn_app (goodIn_of _ (by decide +kernel)) ggX7_merge_X2_lettersOf
set_option maxRecDepth 20000 in
theorem ggX7_merge_J6_bitCount_0f7a4 : GoodIn wsX7_merge wsJ6_bitCount_0f7a4 := goodIn_r _ [74, 75, 76, 77] (by decide +kernel) (by decide +kernel)
set_option maxRecDepth 20000 in
theorem gX7_merge_J6_bitCount_0f7a4 : GoodIn wsX7_merge (va_wsS RX7 156 yJ6_bitCount_0f7a4 wsJ6_bitCount_0f7a4) := goodIn_app (goodIn_of _ (by decide +kernel)) ggX7_merge_J6_bitCount_0f7a4
theorem dX7_merge_0 : decode cX7_merge 0 = .ok (.aload_n 0, 1) := by decide +kernel
theorem dX7_merge_1 : decode cX7_merge 1 = .ok (.getfield 10, 3) := by decide +kernel
theorem dX7_merge_4 : decode cX7_merge 4 = .ok (.iload_n 1, 1) := by decide +kernel
theorem dX7_merge_5 : decode cX7_merge 5 = .ok (.invokevirtual 105, 3) := by decide +kernel
theorem dX7_merge_8 : decode cX7_merge 8 = .ok (.astore 4, 2) := by decide +kernel
theorem dX7_merge_10 : decode cX7_merge 10 = .ok (.aload 4, 2) := by decide +kernel
theorem dX7_merge_12 : decode cX7_merge 12 = .ok (.ifnonnull 5, 3) := by decide +kernel
theorem dX7_merge_15 : decode cX7_merge 15 = .ok (.iconst (-1), 1) := by decide +kernel
theorem dX7_merge_16 : decode cX7_merge 16 = .ok (.ireturn, 1) := by decide +kernel
theorem dX7_merge_17 : decode cX7_merge 17 = .ok (.iload_n 2, 1) := by decide +kernel
theorem dX7_merge_18 : decode cX7_merge 18 = .ok (.iload_n 3, 1) := by decide +kernel
theorem dX7_merge_19 : decode cX7_merge 19 = .ok (.invokestatic 144, 3) := by decide +kernel
theorem dX7_merge_22 : decode cX7_merge 22 = .ok (.ifCond .ne 6, 3) := by decide +kernel
theorem dX7_merge_25 : decode cX7_merge 25 = .ok (.bipush (-2), 2) := by decide +kernel
theorem dX7_merge_27 : decode cX7_merge 27 = .ok (.ireturn, 1) := by decide +kernel
theorem dX7_merge_28 : decode cX7_merge 28 = .ok (.aload_n 0, 1) := by decide +kernel
theorem dX7_merge_29 : decode cX7_merge 29 = .ok (.invokevirtual 69, 3) := by decide +kernel
theorem dX7_merge_32 : decode cX7_merge 32 = .ok (.aload 4, 2) := by decide +kernel
theorem dX7_merge_34 : decode cX7_merge 34 = .ok (.iload_n 2, 1) := by decide +kernel
theorem dX7_merge_35 : decode cX7_merge 35 = .ok (.iload_n 3, 1) := by decide +kernel
theorem dX7_merge_36 : decode cX7_merge 36 = .ok (.invokevirtual 148, 3) := by decide +kernel
theorem dX7_merge_39 : decode cX7_merge 39 = .ok (.aload 4, 2) := by decide +kernel
theorem dX7_merge_41 : decode cX7_merge 41 = .ok (.iload_n 2, 1) := by decide +kernel
theorem dX7_merge_42 : decode cX7_merge 42 = .ok (.invokevirtual 152, 3) := by decide +kernel
theorem dX7_merge_45 : decode cX7_merge 45 = .ok (.invokestatic 156, 3) := by decide +kernel
theorem dX7_merge_48 : decode cX7_merge 48 = .ok (.ireturn, 1) := by decide +kernel
set_option maxRecDepth 20000 in
theorem ggX7_split_X5_earAt : GoodIn wsX7_split wsX5_earAt := goodIn_r _ [7, 8, 9, 69, 70, 71, 72, 73, 74] (by decide +kernel) (by decide +kernel)
set_option maxRecDepth 20000 in
theorem gX7_split_X5_earAt : GoodIn wsX7_split (wsV RX7 105 RX5 yX5_earAt wsX5_earAt) := goodIn_app (goodIn_of _ (by decide +kernel)) ggX7_split_X5_earAt
set_option maxRecDepth 20000 in
theorem ggX7_split_X7_recordChange : GoodIn wsX7_split wsX7_recordChange := goodIn_r _ [14, 15, 16, 1, 17, 18, 19, 6, 20, 21, 22, 23, 24, 25, 26, 27, 28, 8, 9, 29, 30, 31, 32, 33, 34, 35, 36, 37, 38, 39, 40, 41, 42, 51, 52, 53, 54, 55, 56, 57, 58, 59, 60, 69, 70, 71, 72, 73, 74, 61, 62, 63, 64, 65, 66, 67, 68] (by decide +kernel) (by decide +kernel)
set_option maxRecDepth 20000 in
theorem gX7_split_X7_recordChange : GoodIn wsX7_split (wsV RX7 69 RX7 yX7_recordChange wsX7_recordChange) := goodIn_app (goodIn_of _ (by decide +kernel)) ggX7_split_X7_recordChange
set_option maxRecDepth 20000 in
theorem ggX7_split_X2_splitLatest : GoodIn wsX7_split wsX2_splitLatest := goodIn_r _ [46, 38, 39, 40, 41, 34, 42, 36, 47, 48, 49, 32, 50, 61, 62, 63, 64, 65, 66, 67, 68] (by decide +kernel) (by decide +kernel)
set_option maxRecDepth 20000 in
theorem gX7_split_X2_splitLatest : GoodIn wsX7_split (wsV RX7 164 RX2 yX2_splitLatest wsX2_splitLatest) := goodIn_app (goodIn_of _ (by decide +kernel)) ggX7_split_X2_splitLatest
theorem dX7_split_0 : decode cX7_split 0 = .ok (.aload_n 0, 1) := by decide +kernel
theorem dX7_split_1 : decode cX7_split 1 = .ok (.getfield 10, 3) := by decide +kernel
theorem dX7_split_4 : decode cX7_split 4 = .ok (.iload_n 1, 1) := by decide +kernel
theorem dX7_split_5 : decode cX7_split 5 = .ok (.invokevirtual 105, 3) := by decide +kernel
theorem dX7_split_8 : decode cX7_split 8 = .ok (.astore_n 2, 1) := by decide +kernel
theorem dX7_split_9 : decode cX7_split 9 = .ok (.aload_n 2, 1) := by decide +kernel
theorem dX7_split_10 : decode cX7_split 10 = .ok (.ifnonnull 5, 3) := by decide +kernel
theorem dX7_split_13 : decode cX7_split 13 = .ok (.iconst (-1), 1) := by decide +kernel
theorem dX7_split_14 : decode cX7_split 14 = .ok (.ireturn, 1) := by decide +kernel
theorem dX7_split_15 : decode cX7_split 15 = .ok (.aload_n 2, 1) := by decide +kernel
theorem dX7_split_16 : decode cX7_split 16 = .ok (.getfield 161, 3) := by decide +kernel
theorem dX7_split_19 : decode cX7_split 19 = .ok (.ifCond .gt 6, 3) := by decide +kernel
theorem dX7_split_22 : decode cX7_split 22 = .ok (.bipush (-5), 2) := by decide +kernel
theorem dX7_split_24 : decode cX7_split 24 = .ok (.ireturn, 1) := by decide +kernel
theorem dX7_split_25 : decode cX7_split 25 = .ok (.aload_n 0, 1) := by decide +kernel
theorem dX7_split_26 : decode cX7_split 26 = .ok (.invokevirtual 69, 3) := by decide +kernel
theorem dX7_split_29 : decode cX7_split 29 = .ok (.aload_n 2, 1) := by decide +kernel
theorem dX7_split_30 : decode cX7_split 30 = .ok (.invokevirtual 164, 3) := by decide +kernel
theorem dX7_split_33 : decode cX7_split 33 = .ok (.ireturn, 1) := by decide +kernel
set_option maxRecDepth 20000 in
theorem ggX7_name_X5_hasName : GoodIn wsX7_name wsX5_hasName := goodIn_r _ [7, 8, 36, 37, 38, 39, 40, 41] (by decide +kernel) (by decide +kernel)
set_option maxRecDepth 20000 in
theorem gX7_name_X5_hasName : GoodIn wsX7_name (wsV RX7 97 RX5 yX5_hasName wsX5_hasName) := goodIn_app (goodIn_of _ (by decide +kernel)) ggX7_name_X5_hasName
set_option maxRecDepth 20000 in
theorem ggX7_name_X6_size : GoodIn wsX7_name wsX6_size := goodIn_r _ [12, 13, 14, 11, 15, 16] (by decide +kernel) (by decide +kernel)
set_option maxRecDepth 20000 in
theorem gX7_name_X6_size : GoodIn wsX7_name (va_wsS RX7 167 yX6_size wsX6_size) := goodIn_app (goodIn_of _ (by decide +kernel)) ggX7_name_X6_size
set_option maxRecDepth 20000 in
theorem ggX7_name_X7_isWithin : GoodIn wsX7_name wsX7_isWithin := goodIn_r _ [20] (by decide +kernel) (by decide +kernel)
set_option maxRecDepth 20000 in
theorem gX7_name_X7_isWithin : GoodIn wsX7_name (va_wsS RX7 62 yX7_isWithin wsX7_isWithin) := goodIn_app (goodIn_of _ (by decide +kernel)) ggX7_name_X7_isWithin
set_option maxRecDepth 20000 in
theorem ggX7_name_X6_letterAt : GoodIn wsX7_name wsX6_letterAt := goodIn_r _ [15, 16] (by decide +kernel) (by decide +kernel)
set_option maxRecDepth 20000 in
theorem gX7_name_X6_letterAt : GoodIn wsX7_name (va_wsS RX7 170 yX6_letterAt wsX6_letterAt) := goodIn_app (goodIn_of _ (by decide +kernel)) ggX7_name_X6_letterAt
set_option maxRecDepth 20000 in
theorem ggX7_name_X6_letterSet : GoodIn wsX7_name wsX6_letterSet := goodIn_r _ [24, 25, 10, 11, 12, 13, 14, 15, 16] (by decide +kernel) (by decide +kernel)
set_option maxRecDepth 20000 in
theorem gX7_name_X6_letterSet : GoodIn wsX7_name (va_wsS RX7 174 yX6_letterSet wsX6_letterSet) := goodIn_app (goodIn_of _ (by decide +kernel)) ggX7_name_X6_letterSet
theorem dX7_name_0 : decode cX7_name 0 = .ok (.aload_n 0, 1) := by decide +kernel
theorem dX7_name_1 : decode cX7_name 1 = .ok (.getfield 10, 3) := by decide +kernel
theorem dX7_name_4 : decode cX7_name 4 = .ok (.iload_n 1, 1) := by decide +kernel
theorem dX7_name_5 : decode cX7_name 5 = .ok (.invokevirtual 97, 3) := by decide +kernel
theorem dX7_name_8 : decode cX7_name 8 = .ok (.ifCond .ne 5, 3) := by decide +kernel
theorem dX7_name_11 : decode cX7_name 11 = .ok (.iconst (-1), 1) := by decide +kernel
theorem dX7_name_12 : decode cX7_name 12 = .ok (.ireturn, 1) := by decide +kernel
theorem dX7_name_13 : decode cX7_name 13 = .ok (.aload_n 0, 1) := by decide +kernel
theorem dX7_name_14 : decode cX7_name 14 = .ok (.getfield 10, 3) := by decide +kernel
theorem dX7_name_17 : decode cX7_name 17 = .ok (.getfield 90, 3) := by decide +kernel
theorem dX7_name_20 : decode cX7_name 20 = .ok (.iload_n 1, 1) := by decide +kernel
theorem dX7_name_21 : decode cX7_name 21 = .ok (.laload, 1) := by decide +kernel
theorem dX7_name_22 : decode cX7_name 22 = .ok (.lstore_n 3, 1) := by decide +kernel
theorem dX7_name_23 : decode cX7_name 23 = .ok (.iload_n 2, 1) := by decide +kernel
theorem dX7_name_24 : decode cX7_name 24 = .ok (.ifCond .ne 8, 3) := by decide +kernel
theorem dX7_name_27 : decode cX7_name 27 = .ok (.lload_n 3, 1) := by decide +kernel
theorem dX7_name_28 : decode cX7_name 28 = .ok (.invokestatic 167, 3) := by decide +kernel
theorem dX7_name_31 : decode cX7_name 31 = .ok (.ireturn, 1) := by decide +kernel
theorem dX7_name_32 : decode cX7_name 32 = .ok (.iload_n 2, 1) := by decide +kernel
theorem dX7_name_33 : decode cX7_name 33 = .ok (.iconst 1, 1) := by decide +kernel
theorem dX7_name_34 : decode cX7_name 34 = .ok (.bipush 10, 2) := by decide +kernel
theorem dX7_name_36 : decode cX7_name 36 = .ok (.invokestatic 62, 3) := by decide +kernel
theorem dX7_name_39 : decode cX7_name 39 = .ok (.ifCond .eq 26, 3) := by decide +kernel
theorem dX7_name_42 : decode cX7_name 42 = .ok (.lload_n 3, 1) := by decide +kernel
theorem dX7_name_43 : decode cX7_name 43 = .ok (.iload_n 2, 1) := by decide +kernel
theorem dX7_name_44 : decode cX7_name 44 = .ok (.iconst 1, 1) := by decide +kernel
theorem dX7_name_45 : decode cX7_name 45 = .ok (.isub, 1) := by decide +kernel
theorem dX7_name_46 : decode cX7_name 46 = .ok (.invokestatic 170, 3) := by decide +kernel
theorem dX7_name_49 : decode cX7_name 49 = .ok (.istore 5, 2) := by decide +kernel
theorem dX7_name_51 : decode cX7_name 51 = .ok (.iload 5, 2) := by decide +kernel
theorem dX7_name_53 : decode cX7_name 53 = .ok (.iconst (-1), 1) := by decide +kernel
theorem dX7_name_54 : decode cX7_name 54 = .ok (.if_icmp .ne 8, 3) := by decide +kernel
theorem dX7_name_57 : decode cX7_name 57 = .ok (.bipush (-6), 2) := by decide +kernel
theorem dX7_name_59 : decode cX7_name 59 = .ok (.goto 5, 3) := by decide +kernel
theorem dX7_name_62 : decode cX7_name 62 = .ok (.iload 5, 2) := by decide +kernel
theorem dX7_name_64 : decode cX7_name 64 = .ok (.ireturn, 1) := by decide +kernel
theorem dX7_name_65 : decode cX7_name 65 = .ok (.iload_n 2, 1) := by decide +kernel
theorem dX7_name_66 : decode cX7_name 66 = .ok (.bipush 11, 2) := by decide +kernel
theorem dX7_name_68 : decode cX7_name 68 = .ok (.if_icmp .ne 8, 3) := by decide +kernel
theorem dX7_name_71 : decode cX7_name 71 = .ok (.lload_n 3, 1) := by decide +kernel
theorem dX7_name_72 : decode cX7_name 72 = .ok (.invokestatic 174, 3) := by decide +kernel
theorem dX7_name_75 : decode cX7_name 75 = .ok (.ireturn, 1) := by decide +kernel
theorem dX7_name_76 : decode cX7_name 76 = .ok (.bipush (-2), 2) := by decide +kernel
theorem dX7_name_78 : decode cX7_name 78 = .ok (.ireturn, 1) := by decide +kernel
set_option maxRecDepth 20000 in
theorem ggX7_of_X5_earAt : GoodIn wsX7_of wsX5_earAt := goodIn_r _ [8, 9, 10, 39, 40, 41, 42, 43, 44] (by decide +kernel) (by decide +kernel)
set_option maxRecDepth 20000 in
theorem gX7_of_X5_earAt : GoodIn wsX7_of (wsV RX7 105 RX5 yX5_earAt wsX5_earAt) := goodIn_app (goodIn_of _ (by decide +kernel)) ggX7_of_X5_earAt
set_option maxRecDepth 20000 in
theorem ggX7_of_X6_isLetter : GoodIn wsX7_of wsX6_isLetter := goodIn_r _ [14] (by decide +kernel) (by decide +kernel)
set_option maxRecDepth 20000 in
theorem gX7_of_X6_isLetter : GoodIn wsX7_of (va_wsS RX7 123 yX6_isLetter wsX6_isLetter) := goodIn_app (goodIn_of _ (by decide +kernel)) ggX7_of_X6_isLetter
set_option maxRecDepth 20000 in
theorem ggX7_of_X2_lettersOf : GoodIn wsX7_of wsX2_lettersOf := goodIn_r _ [19, 20, 31, 32, 33, 34, 35, 36, 37, 38] (by decide +kernel) (by decide +kernel)
set_option maxRecDepth 20000 in
theorem gX7_of_X2_lettersOf : GoodIn wsX7_of (wsV RX7 152 RX2 yX2_lettersOf wsX2_lettersOf) := goodIn_app (goodIn_of _ (by decide +kernel)) ggX7_of_X2_lettersOf
theorem dX7_of_0 : decode cX7_of 0 = .ok (.aload_n 0, 1) := by decide +kernel
theorem dX7_of_1 : decode cX7_of 1 = .ok (.getfield 10, 3) := by decide +kernel
theorem dX7_of_4 : decode cX7_of 4 = .ok (.iload_n 1, 1) := by decide +kernel
theorem dX7_of_5 : decode cX7_of 5 = .ok (.invokevirtual 105, 3) := by decide +kernel
theorem dX7_of_8 : decode cX7_of 8 = .ok (.astore 4, 2) := by decide +kernel
theorem dX7_of_10 : decode cX7_of 10 = .ok (.aload 4, 2) := by decide +kernel
theorem dX7_of_12 : decode cX7_of 12 = .ok (.ifnull 10, 3) := by decide +kernel
theorem dX7_of_15 : decode cX7_of 15 = .ok (.iload_n 2, 1) := by decide +kernel
theorem dX7_of_16 : decode cX7_of 16 = .ok (.invokestatic 123, 3) := by decide +kernel
theorem dX7_of_19 : decode cX7_of 19 = .ok (.ifCond .ne 5, 3) := by decide +kernel
theorem dX7_of_22 : decode cX7_of 22 = .ok (.iconst (-1), 1) := by decide +kernel
theorem dX7_of_23 : decode cX7_of 23 = .ok (.ireturn, 1) := by decide +kernel
theorem dX7_of_24 : decode cX7_of 24 = .ok (.iload_n 3, 1) := by decide +kernel
theorem dX7_of_25 : decode cX7_of 25 = .ok (.tableswitch 56 0 2 #[27, 35, 43], 27) := by decide +kernel
theorem dX7_of_52 : decode cX7_of 52 = .ok (.aload 4, 2) := by decide +kernel
theorem dX7_of_54 : decode cX7_of 54 = .ok (.getfield 131, 3) := by decide +kernel
theorem dX7_of_57 : decode cX7_of 57 = .ok (.iload_n 2, 1) := by decide +kernel
theorem dX7_of_58 : decode cX7_of 58 = .ok (.iaload, 1) := by decide +kernel
theorem dX7_of_59 : decode cX7_of 59 = .ok (.ireturn, 1) := by decide +kernel
theorem dX7_of_60 : decode cX7_of 60 = .ok (.aload 4, 2) := by decide +kernel
theorem dX7_of_62 : decode cX7_of 62 = .ok (.getfield 138, 3) := by decide +kernel
theorem dX7_of_65 : decode cX7_of 65 = .ok (.iload_n 2, 1) := by decide +kernel
theorem dX7_of_66 : decode cX7_of 66 = .ok (.iaload, 1) := by decide +kernel
theorem dX7_of_67 : decode cX7_of 67 = .ok (.ireturn, 1) := by decide +kernel
theorem dX7_of_68 : decode cX7_of 68 = .ok (.aload 4, 2) := by decide +kernel
theorem dX7_of_70 : decode cX7_of 70 = .ok (.aload 4, 2) := by decide +kernel
theorem dX7_of_72 : decode cX7_of 72 = .ok (.getfield 131, 3) := by decide +kernel
theorem dX7_of_75 : decode cX7_of 75 = .ok (.iload_n 2, 1) := by decide +kernel
theorem dX7_of_76 : decode cX7_of 76 = .ok (.iaload, 1) := by decide +kernel
theorem dX7_of_77 : decode cX7_of 77 = .ok (.invokevirtual 152, 3) := by decide +kernel
theorem dX7_of_80 : decode cX7_of 80 = .ok (.ireturn, 1) := by decide +kernel
theorem dX7_of_81 : decode cX7_of 81 = .ok (.bipush (-2), 2) := by decide +kernel
theorem dX7_of_83 : decode cX7_of 83 = .ok (.ireturn, 1) := by decide +kernel
set_option maxRecDepth 20000 in
theorem ggX7_ofEar_X5_earAt : GoodIn wsX7_ofEar wsX5_earAt := goodIn_r _ [10, 11, 12, 136, 137, 138, 139, 140, 141] (by decide +kernel) (by decide +kernel)
set_option maxRecDepth 20000 in
theorem gX7_ofEar_X5_earAt : GoodIn wsX7_ofEar (wsV RX7 105 RX5 yX5_earAt wsX5_earAt) := goodIn_app (goodIn_of _ (by decide +kernel)) ggX7_ofEar_X5_earAt
set_option maxRecDepth 20000 in
theorem ggX7_ofEar_X1_fill : GoodIn wsX7_ofEar wsX1_fill := goodIn_r _ [17, 18, 19, 20, 21, 22, 23, 24, 25, 26, 27, 28, 29, 30, 31, 32, 33, 34, 35, 36, 37, 38, 39, 40, 41, 42, 43, 44, 45, 46, 47, 48, 49, 50, 51, 52, 53, 54, 55, 56, 57, 58, 59, 60, 61, 16, 62, 63, 136, 137, 138, 139, 140, 141, 129, 130, 131, 132, 133, 134, 135, 121, 122, 123, 124, 125, 126, 127, 128] (by decide +kernel) (by decide +kernel)
set_option maxRecDepth 20000 in
theorem gX7_ofEar_X1_fill : GoodIn wsX7_ofEar (wsV RX7 177 RX1 yX1_fill wsX1_fill) := goodIn_app (goodIn_of _ (by decide +kernel)) ggX7_ofEar_X1_fill
set_option maxRecDepth 20000 in
theorem ggX7_ofEar_X1_namesInFullest : GoodIn wsX7_ofEar wsX1_namesInFullest := goodIn_r _ [67, 20, 25, 68, 69, 70, 71, 72, 73, 74, 75, 76, 77, 78, 129, 130, 131, 132, 133, 134, 135] (by decide +kernel) (by decide +kernel)
set_option maxRecDepth 20000 in
theorem gX7_ofEar_X1_namesInFullest : GoodIn wsX7_ofEar (wsV RX7 184 RX1 yX1_namesInFullest wsX1_namesInFullest) := goodIn_app (goodIn_of _ (by decide +kernel)) ggX7_ofEar_X1_namesInFullest
set_option maxRecDepth 20000 in
theorem ggX7_ofEar_X1_namesInSeveral : GoodIn wsX7_ofEar wsX1_namesInSeveral := goodIn_r _ [82, 19, 24, 129, 130, 131, 132, 133, 134, 135] (by decide +kernel) (by decide +kernel)
set_option maxRecDepth 20000 in
theorem gX7_ofEar_X1_namesInSeveral : GoodIn wsX7_ofEar (wsV RX7 187 RX1 yX1_namesInSeveral wsX1_namesInSeveral) := goodIn_app (goodIn_of _ (by decide +kernel)) ggX7_ofEar_X1_namesInSeveral
set_option maxRecDepth 20000 in
theorem ggX7_ofEar_X1_alikePairs : GoodIn wsX7_ofEar wsX1_alikePairs := goodIn_r _ [86, 19, 87, 88, 89, 16, 90, 91, 92, 93, 94, 24, 95, 96, 97, 98, 26, 99, 100, 101, 102, 20, 25, 72, 73, 74, 75, 76, 77, 78, 129, 130, 131, 132, 133, 134, 135] (by decide +kernel) (by decide +kernel)
set_option maxRecDepth 20000 in
theorem gX7_ofEar_X1_alikePairs : GoodIn wsX7_ofEar (wsV RX7 190 RX1 yX1_alikePairs wsX1_alikePairs) := goodIn_app (goodIn_of _ (by decide +kernel)) ggX7_ofEar_X1_alikePairs
set_option maxRecDepth 20000 in
theorem ggX7_ofEar_X2_lettersWithSecond : GoodIn wsX7_ofEar wsX2_lettersWithSecond := goodIn_r _ [106, 36, 121, 122, 123, 124, 125, 126, 127, 128] (by decide +kernel) (by decide +kernel)
set_option maxRecDepth 20000 in
theorem gX7_ofEar_X2_lettersWithSecond : GoodIn wsX7_ofEar (wsV RX7 193 RX2 yX2_lettersWithSecond wsX2_lettersWithSecond) := goodIn_app (goodIn_of _ (by decide +kernel)) ggX7_ofEar_X2_lettersWithSecond
set_option maxRecDepth 20000 in
theorem ggX7_ofEar_X2_lettersOf : GoodIn wsX7_ofEar wsX2_lettersOf := goodIn_r _ [110, 54, 121, 122, 123, 124, 125, 126, 127, 128] (by decide +kernel) (by decide +kernel)
set_option maxRecDepth 20000 in
theorem gX7_ofEar_X2_lettersOf : GoodIn wsX7_ofEar (wsV RX7 152 RX2 yX2_lettersOf wsX2_lettersOf) := goodIn_app (goodIn_of _ (by decide +kernel)) ggX7_ofEar_X2_lettersOf
theorem dX7_ofEar_0 : decode cX7_ofEar 0 = .ok (.aload_n 0, 1) := by decide +kernel
theorem dX7_ofEar_1 : decode cX7_ofEar 1 = .ok (.getfield 10, 3) := by decide +kernel
theorem dX7_ofEar_4 : decode cX7_ofEar 4 = .ok (.iload_n 1, 1) := by decide +kernel
theorem dX7_ofEar_5 : decode cX7_ofEar 5 = .ok (.invokevirtual 105, 3) := by decide +kernel
theorem dX7_ofEar_8 : decode cX7_ofEar 8 = .ok (.astore_n 3, 1) := by decide +kernel
theorem dX7_ofEar_9 : decode cX7_ofEar 9 = .ok (.aload_n 3, 1) := by decide +kernel
theorem dX7_ofEar_10 : decode cX7_ofEar 10 = .ok (.ifnonnull 5, 3) := by decide +kernel
theorem dX7_ofEar_13 : decode cX7_ofEar 13 = .ok (.iconst (-1), 1) := by decide +kernel
theorem dX7_ofEar_14 : decode cX7_ofEar 14 = .ok (.ireturn, 1) := by decide +kernel
theorem dX7_ofEar_15 : decode cX7_ofEar 15 = .ok (.aload_n 0, 1) := by decide +kernel
theorem dX7_ofEar_16 : decode cX7_ofEar 16 = .ok (.getfield 41, 3) := by decide +kernel
theorem dX7_ofEar_19 : decode cX7_ofEar 19 = .ok (.aload_n 0, 1) := by decide +kernel
theorem dX7_ofEar_20 : decode cX7_ofEar 20 = .ok (.getfield 10, 3) := by decide +kernel
theorem dX7_ofEar_23 : decode cX7_ofEar 23 = .ok (.aload_n 3, 1) := by decide +kernel
theorem dX7_ofEar_24 : decode cX7_ofEar 24 = .ok (.invokevirtual 177, 3) := by decide +kernel
theorem dX7_ofEar_27 : decode cX7_ofEar 27 = .ok (.iload_n 2, 1) := by decide +kernel
theorem dX7_ofEar_28 : decode cX7_ofEar 28 = .ok (.tableswitch 101 0 7 #[48, 53, 58, 66, 74, 82, 90, 95], 48) := by decide +kernel
theorem dX7_ofEar_76 : decode cX7_ofEar 76 = .ok (.aload_n 3, 1) := by decide +kernel
theorem dX7_ofEar_77 : decode cX7_ofEar 77 = .ok (.getfield 141, 3) := by decide +kernel
theorem dX7_ofEar_80 : decode cX7_ofEar 80 = .ok (.ireturn, 1) := by decide +kernel
theorem dX7_ofEar_81 : decode cX7_ofEar 81 = .ok (.aload_n 3, 1) := by decide +kernel
theorem dX7_ofEar_82 : decode cX7_ofEar 82 = .ok (.getfield 161, 3) := by decide +kernel
theorem dX7_ofEar_85 : decode cX7_ofEar 85 = .ok (.ireturn, 1) := by decide +kernel
theorem dX7_ofEar_86 : decode cX7_ofEar 86 = .ok (.aload_n 0, 1) := by decide +kernel
theorem dX7_ofEar_87 : decode cX7_ofEar 87 = .ok (.getfield 41, 3) := by decide +kernel
theorem dX7_ofEar_90 : decode cX7_ofEar 90 = .ok (.getfield 181, 3) := by decide +kernel
theorem dX7_ofEar_93 : decode cX7_ofEar 93 = .ok (.ireturn, 1) := by decide +kernel
theorem dX7_ofEar_94 : decode cX7_ofEar 94 = .ok (.aload_n 0, 1) := by decide +kernel
theorem dX7_ofEar_95 : decode cX7_ofEar 95 = .ok (.getfield 41, 3) := by decide +kernel
theorem dX7_ofEar_98 : decode cX7_ofEar 98 = .ok (.invokevirtual 184, 3) := by decide +kernel
theorem dX7_ofEar_101 : decode cX7_ofEar 101 = .ok (.ireturn, 1) := by decide +kernel
theorem dX7_ofEar_102 : decode cX7_ofEar 102 = .ok (.aload_n 0, 1) := by decide +kernel
theorem dX7_ofEar_103 : decode cX7_ofEar 103 = .ok (.getfield 41, 3) := by decide +kernel
theorem dX7_ofEar_106 : decode cX7_ofEar 106 = .ok (.invokevirtual 187, 3) := by decide +kernel
theorem dX7_ofEar_109 : decode cX7_ofEar 109 = .ok (.ireturn, 1) := by decide +kernel
theorem dX7_ofEar_110 : decode cX7_ofEar 110 = .ok (.aload_n 0, 1) := by decide +kernel
theorem dX7_ofEar_111 : decode cX7_ofEar 111 = .ok (.getfield 41, 3) := by decide +kernel
theorem dX7_ofEar_114 : decode cX7_ofEar 114 = .ok (.invokevirtual 190, 3) := by decide +kernel
theorem dX7_ofEar_117 : decode cX7_ofEar 117 = .ok (.ireturn, 1) := by decide +kernel
theorem dX7_ofEar_118 : decode cX7_ofEar 118 = .ok (.aload_n 3, 1) := by decide +kernel
theorem dX7_ofEar_119 : decode cX7_ofEar 119 = .ok (.invokevirtual 193, 3) := by decide +kernel
theorem dX7_ofEar_122 : decode cX7_ofEar 122 = .ok (.ireturn, 1) := by decide +kernel
theorem dX7_ofEar_123 : decode cX7_ofEar 123 = .ok (.aload_n 3, 1) := by decide +kernel
theorem dX7_ofEar_124 : decode cX7_ofEar 124 = .ok (.iconst 0, 1) := by decide +kernel
theorem dX7_ofEar_125 : decode cX7_ofEar 125 = .ok (.invokevirtual 152, 3) := by decide +kernel
theorem dX7_ofEar_128 : decode cX7_ofEar 128 = .ok (.ireturn, 1) := by decide +kernel
theorem dX7_ofEar_129 : decode cX7_ofEar 129 = .ok (.bipush (-2), 2) := by decide +kernel
theorem dX7_ofEar_131 : decode cX7_ofEar 131 = .ok (.ireturn, 1) := by decide +kernel
set_option maxRecDepth 20000 in
theorem ggX7_code_X5_earAt : GoodIn wsX7_code wsX5_earAt := goodIn_r _ [7, 8, 9, 100, 101, 102, 103, 104, 105] (by decide +kernel) (by decide +kernel)
set_option maxRecDepth 20000 in
theorem gX7_code_X5_earAt : GoodIn wsX7_code (wsV RX7 105 RX5 yX5_earAt wsX5_earAt) := goodIn_app (goodIn_of _ (by decide +kernel)) ggX7_code_X5_earAt
set_option maxRecDepth 20000 in
theorem ggX7_code_X5_hasName : GoodIn wsX7_code wsX5_hasName := goodIn_r _ [13, 14, 100, 101, 102, 103, 104, 105] (by decide +kernel) (by decide +kernel)
set_option maxRecDepth 20000 in
theorem gX7_code_X5_hasName : GoodIn wsX7_code (wsV RX7 97 RX5 yX5_hasName wsX5_hasName) := goodIn_app (goodIn_of _ (by decide +kernel)) ggX7_code_X5_hasName
set_option maxRecDepth 20000 in
theorem ggX7_code_X1_fill : GoodIn wsX7_code wsX1_fill := goodIn_r _ [19, 20, 21, 22, 23, 24, 25, 26, 27, 28, 29, 30, 31, 32, 33, 34, 35, 36, 37, 38, 39, 40, 41, 42, 43, 44, 45, 46, 47, 48, 49, 50, 51, 52, 53, 54, 55, 56, 57, 58, 59, 60, 61, 62, 63, 18, 64, 65, 100, 101, 102, 103, 104, 105, 106, 107, 108, 109, 110, 111, 112, 113, 114, 115, 116, 117, 118, 119, 120] (by decide +kernel) (by decide +kernel)
set_option maxRecDepth 20000 in
theorem gX7_code_X1_fill : GoodIn wsX7_code (wsV RX7 177 RX1 yX1_fill wsX1_fill) := goodIn_app (goodIn_of _ (by decide +kernel)) ggX7_code_X1_fill
set_option maxRecDepth 20000 in
theorem ggX7_code_X1_codesOf : GoodIn wsX7_code wsX1_codesOf := goodIn_r _ [69, 21, 26, 106, 107, 108, 109, 110, 111, 112] (by decide +kernel) (by decide +kernel)
set_option maxRecDepth 20000 in
theorem gX7_code_X1_codesOf : GoodIn wsX7_code (wsV RX7 196 RX1 yX1_codesOf wsX1_codesOf) := goodIn_app (goodIn_of _ (by decide +kernel)) ggX7_code_X1_codesOf
set_option maxRecDepth 20000 in
theorem ggX7_code_X7_isWithin : GoodIn wsX7_code wsX7_isWithin := goodIn_r _ [73] (by decide +kernel) (by decide +kernel)
set_option maxRecDepth 20000 in
theorem gX7_code_X7_isWithin : GoodIn wsX7_code (va_wsS RX7 62 yX7_isWithin wsX7_isWithin) := goodIn_app (goodIn_of _ (by decide +kernel)) ggX7_code_X7_isWithin
set_option maxRecDepth 20000 in
theorem ggX7_code_X1_drawerOf : GoodIn wsX7_code wsX1_drawerOf := goodIn_r _ [77, 28, 78, 67, 68, 18, 69, 21, 26, 106, 107, 108, 109, 110, 111, 112] (by decide +kernel) (by decide +kernel)
set_option maxRecDepth 20000 in
theorem gX7_code_X1_drawerOf : GoodIn wsX7_code (wsV RX7 199 RX1 yX1_drawerOf wsX1_drawerOf) := goodIn_app (goodIn_of _ (by decide +kernel)) ggX7_code_X1_drawerOf
set_option maxRecDepth 20000 in
theorem ggX7_code_X1_codeAt : GoodIn wsX7_code wsX1_codeAt := goodIn_r _ [82, 22, 65, 106, 107, 108, 109, 110, 111, 112] (by decide +kernel) (by decide +kernel)
set_option maxRecDepth 20000 in
theorem gX7_code_X1_codeAt : GoodIn wsX7_code (wsV RX7 203 RX1 yX1_codeAt wsX1_codeAt) := goodIn_app (goodIn_of _ (by decide +kernel)) ggX7_code_X1_codeAt
set_option maxRecDepth 20000 in
theorem ggX7_code_X0_size : GoodIn wsX7_code wsX0_size := goodIn_r _ [85] (by decide +kernel) (by decide +kernel)
set_option maxRecDepth 20000 in
theorem gX7_code_X0_size : GoodIn wsX7_code (va_wsS RX7 206 yX0_size wsX0_size) := goodIn_app (goodIn_of _ (by decide +kernel)) ggX7_code_X0_size
set_option maxRecDepth 20000 in
theorem ggX7_code_X0_numberAt : GoodIn wsX7_code wsX0_numberAt := goodIn_r _ [88, 89, 84, 59, 85] (by decide +kernel) (by decide +kernel)
set_option maxRecDepth 20000 in
theorem gX7_code_X0_numberAt : GoodIn wsX7_code (va_wsS RX7 210 yX0_numberAt wsX0_numberAt) := goodIn_app (goodIn_of _ (by decide +kernel)) ggX7_code_X0_numberAt
theorem dX7_code_0 : decode cX7_code 0 = .ok (.aload_n 0, 1) := by decide +kernel
theorem dX7_code_1 : decode cX7_code 1 = .ok (.getfield 10, 3) := by decide +kernel
theorem dX7_code_4 : decode cX7_code 4 = .ok (.iload_n 1, 1) := by decide +kernel
theorem dX7_code_5 : decode cX7_code 5 = .ok (.invokevirtual 105, 3) := by decide +kernel
theorem dX7_code_8 : decode cX7_code 8 = .ok (.astore 5, 2) := by decide +kernel
theorem dX7_code_10 : decode cX7_code 10 = .ok (.aload 5, 2) := by decide +kernel
theorem dX7_code_12 : decode cX7_code 12 = .ok (.ifnull 14, 3) := by decide +kernel
theorem dX7_code_15 : decode cX7_code 15 = .ok (.aload_n 0, 1) := by decide +kernel
theorem dX7_code_16 : decode cX7_code 16 = .ok (.getfield 10, 3) := by decide +kernel
theorem dX7_code_19 : decode cX7_code 19 = .ok (.iload_n 2, 1) := by decide +kernel
theorem dX7_code_20 : decode cX7_code 20 = .ok (.invokevirtual 97, 3) := by decide +kernel
theorem dX7_code_23 : decode cX7_code 23 = .ok (.ifCond .ne 5, 3) := by decide +kernel
theorem dX7_code_26 : decode cX7_code 26 = .ok (.iconst (-1), 1) := by decide +kernel
theorem dX7_code_27 : decode cX7_code 27 = .ok (.ireturn, 1) := by decide +kernel
theorem dX7_code_28 : decode cX7_code 28 = .ok (.aload_n 0, 1) := by decide +kernel
theorem dX7_code_29 : decode cX7_code 29 = .ok (.getfield 41, 3) := by decide +kernel
theorem dX7_code_32 : decode cX7_code 32 = .ok (.aload_n 0, 1) := by decide +kernel
theorem dX7_code_33 : decode cX7_code 33 = .ok (.getfield 10, 3) := by decide +kernel
theorem dX7_code_36 : decode cX7_code 36 = .ok (.aload 5, 2) := by decide +kernel
theorem dX7_code_38 : decode cX7_code 38 = .ok (.invokevirtual 177, 3) := by decide +kernel
theorem dX7_code_41 : decode cX7_code 41 = .ok (.iload_n 3, 1) := by decide +kernel
theorem dX7_code_42 : decode cX7_code 42 = .ok (.iconst 0, 1) := by decide +kernel
theorem dX7_code_43 : decode cX7_code 43 = .ok (.aload_n 0, 1) := by decide +kernel
theorem dX7_code_44 : decode cX7_code 44 = .ok (.getfield 41, 3) := by decide +kernel
theorem dX7_code_47 : decode cX7_code 47 = .ok (.iload_n 2, 1) := by decide +kernel
theorem dX7_code_48 : decode cX7_code 48 = .ok (.invokevirtual 196, 3) := by decide +kernel
theorem dX7_code_51 : decode cX7_code 51 = .ok (.iconst 1, 1) := by decide +kernel
theorem dX7_code_52 : decode cX7_code 52 = .ok (.isub, 1) := by decide +kernel
theorem dX7_code_53 : decode cX7_code 53 = .ok (.invokestatic 62, 3) := by decide +kernel
theorem dX7_code_56 : decode cX7_code 56 = .ok (.ifCond .ne 5, 3) := by decide +kernel
theorem dX7_code_59 : decode cX7_code 59 = .ok (.iconst (-1), 1) := by decide +kernel
theorem dX7_code_60 : decode cX7_code 60 = .ok (.ireturn, 1) := by decide +kernel
theorem dX7_code_61 : decode cX7_code 61 = .ok (.iload 4, 2) := by decide +kernel
theorem dX7_code_63 : decode cX7_code 63 = .ok (.iconst 0, 1) := by decide +kernel
theorem dX7_code_64 : decode cX7_code 64 = .ok (.bipush 6, 2) := by decide +kernel
theorem dX7_code_66 : decode cX7_code 66 = .ok (.invokestatic 62, 3) := by decide +kernel
theorem dX7_code_69 : decode cX7_code 69 = .ok (.ifCond .ne 6, 3) := by decide +kernel
theorem dX7_code_72 : decode cX7_code 72 = .ok (.bipush (-2), 2) := by decide +kernel
theorem dX7_code_74 : decode cX7_code 74 = .ok (.ireturn, 1) := by decide +kernel
theorem dX7_code_75 : decode cX7_code 75 = .ok (.aload_n 0, 1) := by decide +kernel
theorem dX7_code_76 : decode cX7_code 76 = .ok (.getfield 41, 3) := by decide +kernel
theorem dX7_code_79 : decode cX7_code 79 = .ok (.iload_n 2, 1) := by decide +kernel
theorem dX7_code_80 : decode cX7_code 80 = .ok (.iload_n 3, 1) := by decide +kernel
theorem dX7_code_81 : decode cX7_code 81 = .ok (.invokevirtual 199, 3) := by decide +kernel
theorem dX7_code_84 : decode cX7_code 84 = .ok (.istore 6, 2) := by decide +kernel
theorem dX7_code_86 : decode cX7_code 86 = .ok (.iload 4, 2) := by decide +kernel
theorem dX7_code_88 : decode cX7_code 88 = .ok (.bipush 6, 2) := by decide +kernel
theorem dX7_code_90 : decode cX7_code 90 = .ok (.if_icmp .ne 6, 3) := by decide +kernel
theorem dX7_code_93 : decode cX7_code 93 = .ok (.iload 6, 2) := by decide +kernel
theorem dX7_code_95 : decode cX7_code 95 = .ok (.ireturn, 1) := by decide +kernel
theorem dX7_code_96 : decode cX7_code 96 = .ok (.aload_n 0, 1) := by decide +kernel
theorem dX7_code_97 : decode cX7_code 97 = .ok (.getfield 41, 3) := by decide +kernel
theorem dX7_code_100 : decode cX7_code 100 = .ok (.iload 6, 2) := by decide +kernel
theorem dX7_code_102 : decode cX7_code 102 = .ok (.invokevirtual 203, 3) := by decide +kernel
theorem dX7_code_105 : decode cX7_code 105 = .ok (.istore 7, 2) := by decide +kernel
theorem dX7_code_107 : decode cX7_code 107 = .ok (.iload 7, 2) := by decide +kernel
theorem dX7_code_109 : decode cX7_code 109 = .ok (.invokestatic 206, 3) := by decide +kernel
theorem dX7_code_112 : decode cX7_code 112 = .ok (.istore 8, 2) := by decide +kernel
theorem dX7_code_114 : decode cX7_code 114 = .ok (.iload 4, 2) := by decide +kernel
theorem dX7_code_116 : decode cX7_code 116 = .ok (.iconst 5, 1) := by decide +kernel
theorem dX7_code_117 : decode cX7_code 117 = .ok (.if_icmp .ne 6, 3) := by decide +kernel
theorem dX7_code_120 : decode cX7_code 120 = .ok (.iload 8, 2) := by decide +kernel
theorem dX7_code_122 : decode cX7_code 122 = .ok (.ireturn, 1) := by decide +kernel
theorem dX7_code_123 : decode cX7_code 123 = .ok (.iload 4, 2) := by decide +kernel
theorem dX7_code_125 : decode cX7_code 125 = .ok (.iload 8, 2) := by decide +kernel
theorem dX7_code_127 : decode cX7_code 127 = .ok (.if_icmp .ge 13, 3) := by decide +kernel
theorem dX7_code_130 : decode cX7_code 130 = .ok (.iload 7, 2) := by decide +kernel
theorem dX7_code_132 : decode cX7_code 132 = .ok (.iload 4, 2) := by decide +kernel
theorem dX7_code_134 : decode cX7_code 134 = .ok (.invokestatic 210, 3) := by decide +kernel
theorem dX7_code_137 : decode cX7_code 137 = .ok (.goto 5, 3) := by decide +kernel
theorem dX7_code_140 : decode cX7_code 140 = .ok (.bipush (-6), 2) := by decide +kernel
theorem dX7_code_142 : decode cX7_code 142 = .ok (.ireturn, 1) := by decide +kernel
set_option maxRecDepth 20000 in
theorem ggX7_drawer_X5_earAt : GoodIn wsX7_drawer wsX5_earAt := goodIn_r _ [8, 9, 10, 91, 92, 93, 94, 95, 96] (by decide +kernel) (by decide +kernel)
set_option maxRecDepth 20000 in
theorem gX7_drawer_X5_earAt : GoodIn wsX7_drawer (wsV RX7 105 RX5 yX5_earAt wsX5_earAt) := goodIn_app (goodIn_of _ (by decide +kernel)) ggX7_drawer_X5_earAt
set_option maxRecDepth 20000 in
theorem ggX7_drawer_X1_fill : GoodIn wsX7_drawer wsX1_fill := goodIn_r _ [15, 16, 17, 18, 19, 20, 21, 22, 23, 24, 25, 26, 27, 28, 29, 30, 31, 32, 33, 34, 35, 36, 37, 38, 39, 40, 41, 42, 43, 44, 45, 46, 47, 48, 49, 50, 51, 52, 53, 54, 55, 56, 57, 58, 59, 14, 60, 61, 91, 92, 93, 94, 95, 96, 84, 85, 86, 87, 88, 89, 90, 97, 98, 99, 100, 101, 102, 103, 104] (by decide +kernel) (by decide +kernel)
set_option maxRecDepth 20000 in
theorem gX7_drawer_X1_fill : GoodIn wsX7_drawer (wsV RX7 177 RX1 yX1_fill wsX1_fill) := goodIn_app (goodIn_of _ (by decide +kernel)) ggX7_drawer_X1_fill
set_option maxRecDepth 20000 in
theorem ggX7_drawer_X7_isWithin : GoodIn wsX7_drawer wsX7_isWithin := goodIn_r _ [65] (by decide +kernel) (by decide +kernel)
set_option maxRecDepth 20000 in
theorem gX7_drawer_X7_isWithin : GoodIn wsX7_drawer (va_wsS RX7 62 yX7_isWithin wsX7_isWithin) := goodIn_app (goodIn_of _ (by decide +kernel)) ggX7_drawer_X7_isWithin
set_option maxRecDepth 20000 in
theorem ggX7_drawer_X1_namesAt : GoodIn wsX7_drawer wsX1_namesAt := goodIn_r _ [69, 18, 23, 84, 85, 86, 87, 88, 89, 90] (by decide +kernel) (by decide +kernel)
set_option maxRecDepth 20000 in
theorem gX7_drawer_X1_namesAt : GoodIn wsX7_drawer (wsV RX7 213 RX1 yX1_namesAt wsX1_namesAt) := goodIn_app (goodIn_of _ (by decide +kernel)) ggX7_drawer_X1_namesAt
