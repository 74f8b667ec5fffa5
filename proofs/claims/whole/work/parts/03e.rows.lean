theorem dX8_faultOf_58 : decode cX8_faultOf 58 = .ok (.iload_n 1, 1) := by decide +kernel
theorem dX8_faultOf_59 : decode cX8_faultOf 59 = .ok (.ireturn, 1) := by decide +kernel
set_option maxRecDepth 20000 in
theorem ggX8_fault_X8_faultOf : GoodIn wsX8_fault wsX8_faultOf := goodIn_r _ [5, 6, 7, 8, 9, 4, 10, 11, 12, 13, 14, 15, 16, 17, 18, 19, 20, 21, 22, 23, 24, 25, 26, 27, 28] (by decide +kernel) (by decide +kernel)
set_option maxRecDepth 20000 in
theorem gX8_fault_X8_faultOf : GoodIn wsX8_fault (wsV RX8 71 RX8 yX8_faultOf wsX8_faultOf) := goodIn_app (goodIn_of _ (by decide +kernel)) ggX8_fault_X8_faultOf
theorem dX8_fault_0 : decode cX8_fault 0 = .ok (.aload_n 0, 1) := by decide +kernel
theorem dX8_fault_1 : decode cX8_fault 1 = .ok (.invokevirtual 71, 3) := by decide +kernel
theorem dX8_fault_4 : decode cX8_fault 4 = .ok (.ireturn, 1) := by decide +kernel
theorem dX8_takePad_0 : decode cX8_takePad 0 = .ok (.aload_n 0, 1) := by decide +kernel
theorem dX8_takePad_1 : decode cX8_takePad 1 = .ok (.aload_n 0, 1) := by decide +kernel
theorem dX8_takePad_2 : decode cX8_takePad 2 = .ok (.getfield 68, 3) := by decide +kernel
theorem dX8_takePad_5 : decode cX8_takePad 5 = .ok (.putfield 75, 3) := by decide +kernel
theorem dX8_takePad_8 : decode cX8_takePad 8 = .ok (.iconst 0, 1) := by decide +kernel
theorem dX8_takePad_9 : decode cX8_takePad 9 = .ok (.istore_n 1, 1) := by decide +kernel
theorem dX8_takePad_10 : decode cX8_takePad 10 = .ok (.iload_n 1, 1) := by decide +kernel
theorem dX8_takePad_11 : decode cX8_takePad 11 = .ok (.aload_n 0, 1) := by decide +kernel
theorem dX8_takePad_12 : decode cX8_takePad 12 = .ok (.getfield 68, 3) := by decide +kernel
theorem dX8_takePad_15 : decode cX8_takePad 15 = .ok (.if_icmp .ge 24, 3) := by decide +kernel
theorem dX8_takePad_18 : decode cX8_takePad 18 = .ok (.aload_n 0, 1) := by decide +kernel
theorem dX8_takePad_19 : decode cX8_takePad 19 = .ok (.getfield 29, 3) := by decide +kernel
theorem dX8_takePad_22 : decode cX8_takePad 22 = .ok (.iload_n 1, 1) := by decide +kernel
theorem dX8_takePad_23 : decode cX8_takePad 23 = .ok (.aload_n 0, 1) := by decide +kernel
theorem dX8_takePad_24 : decode cX8_takePad 24 = .ok (.getfield 26, 3) := by decide +kernel
theorem dX8_takePad_27 : decode cX8_takePad 27 = .ok (.iload_n 1, 1) := by decide +kernel
theorem dX8_takePad_28 : decode cX8_takePad 28 = .ok (.iaload, 1) := by decide +kernel
theorem dX8_takePad_29 : decode cX8_takePad 29 = .ok (.bipush 97, 2) := by decide +kernel
theorem dX8_takePad_31 : decode cX8_takePad 31 = .ok (.isub, 1) := by decide +kernel
theorem dX8_takePad_32 : decode cX8_takePad 32 = .ok (.iastore, 1) := by decide +kernel
theorem dX8_takePad_33 : decode cX8_takePad 33 = .ok (.iinc 1 1, 3) := by decide +kernel
theorem dX8_takePad_36 : decode cX8_takePad 36 = .ok (.goto (-26), 3) := by decide +kernel
theorem dX8_takePad_39 : decode cX8_takePad 39 = .ok (.return_, 1) := by decide +kernel
set_option maxRecDepth 20000 in
theorem ggX8_takeName_X8_lengthOf : GoodIn wsX8_takeName wsX8_lengthOf := goodIn_r _ [7, 8, 13, 14, 15, 16, 17, 18, 19, 20, 21, 22, 23, 24, 25, 26, 27, 28, 29, 30] (by decide +kernel) (by decide +kernel)
set_option maxRecDepth 20000 in
theorem gX8_takeName_X8_lengthOf : GoodIn wsX8_takeName (wsV RX8 78 RX8 yX8_lengthOf wsX8_lengthOf) := goodIn_app (goodIn_of _ (by decide +kernel)) ggX8_takeName_X8_lengthOf
set_option maxRecDepth 20000 in
theorem ggX8_takeName_X8_letterOf : GoodIn wsX8_takeName wsX8_letterOf := goodIn_r _ [12, 8, 13, 14, 15, 16, 17, 18, 19, 20, 21, 22, 23, 24, 25, 26, 27, 28, 29, 30] (by decide +kernel) (by decide +kernel)
set_option maxRecDepth 20000 in
theorem gX8_takeName_X8_letterOf : GoodIn wsX8_takeName (wsV RX8 82 RX8 yX8_letterOf wsX8_letterOf) := goodIn_app (goodIn_of _ (by decide +kernel)) ggX8_takeName_X8_letterOf
theorem dX8_takeName_0 : decode cX8_takeName 0 = .ok (.aload_n 0, 1) := by decide +kernel
theorem dX8_takeName_1 : decode cX8_takeName 1 = .ok (.aload_n 0, 1) := by decide +kernel
theorem dX8_takeName_2 : decode cX8_takeName 2 = .ok (.iload_n 1, 1) := by decide +kernel
theorem dX8_takeName_3 : decode cX8_takeName 3 = .ok (.invokevirtual 78, 3) := by decide +kernel
theorem dX8_takeName_6 : decode cX8_takeName 6 = .ok (.putfield 75, 3) := by decide +kernel
theorem dX8_takeName_9 : decode cX8_takeName 9 = .ok (.iconst 0, 1) := by decide +kernel
theorem dX8_takeName_10 : decode cX8_takeName 10 = .ok (.istore_n 2, 1) := by decide +kernel
theorem dX8_takeName_11 : decode cX8_takeName 11 = .ok (.iload_n 2, 1) := by decide +kernel
theorem dX8_takeName_12 : decode cX8_takeName 12 = .ok (.aload_n 0, 1) := by decide +kernel
theorem dX8_takeName_13 : decode cX8_takeName 13 = .ok (.getfield 75, 3) := by decide +kernel
theorem dX8_takeName_16 : decode cX8_takeName 16 = .ok (.if_icmp .ge 21, 3) := by decide +kernel
theorem dX8_takeName_19 : decode cX8_takeName 19 = .ok (.aload_n 0, 1) := by decide +kernel
theorem dX8_takeName_20 : decode cX8_takeName 20 = .ok (.getfield 29, 3) := by decide +kernel
theorem dX8_takeName_23 : decode cX8_takeName 23 = .ok (.iload_n 2, 1) := by decide +kernel
theorem dX8_takeName_24 : decode cX8_takeName 24 = .ok (.aload_n 0, 1) := by decide +kernel
theorem dX8_takeName_25 : decode cX8_takeName 25 = .ok (.iload_n 1, 1) := by decide +kernel
theorem dX8_takeName_26 : decode cX8_takeName 26 = .ok (.iload_n 2, 1) := by decide +kernel
theorem dX8_takeName_27 : decode cX8_takeName 27 = .ok (.invokevirtual 82, 3) := by decide +kernel
theorem dX8_takeName_30 : decode cX8_takeName 30 = .ok (.iastore, 1) := by decide +kernel
theorem dX8_takeName_31 : decode cX8_takeName 31 = .ok (.iinc 2 1, 3) := by decide +kernel
theorem dX8_takeName_34 : decode cX8_takeName 34 = .ok (.goto (-23), 3) := by decide +kernel
theorem dX8_takeName_37 : decode cX8_takeName 37 = .ok (.return_, 1) := by decide +kernel
set_option maxRecDepth 20000 in
theorem ggX8_isWord_X8_lengthOf : GoodIn wsX8_isWord wsX8_lengthOf := goodIn_r _ [7, 8, 13, 14, 15, 16, 17, 18, 19, 20, 21, 22, 23, 24, 25, 26, 27, 28, 29, 30] (by decide +kernel) (by decide +kernel)
set_option maxRecDepth 20000 in
theorem gX8_isWord_X8_lengthOf : GoodIn wsX8_isWord (wsV RX8 78 RX8 yX8_lengthOf wsX8_lengthOf) := goodIn_app (goodIn_of _ (by decide +kernel)) ggX8_isWord_X8_lengthOf
set_option maxRecDepth 20000 in
theorem ggX8_isWord_X8_letterOf : GoodIn wsX8_isWord wsX8_letterOf := goodIn_r _ [12, 8, 13, 14, 15, 16, 17, 18, 19, 20, 21, 22, 23, 24, 25, 26, 27, 28, 29, 30] (by decide +kernel) (by decide +kernel)
set_option maxRecDepth 20000 in
theorem gX8_isWord_X8_letterOf : GoodIn wsX8_isWord (wsV RX8 82 RX8 yX8_letterOf wsX8_letterOf) := goodIn_app (goodIn_of _ (by decide +kernel)) ggX8_isWord_X8_letterOf
theorem dX8_isWord_0 : decode cX8_isWord 0 = .ok (.aload_n 0, 1) := by decide +kernel
theorem dX8_isWord_1 : decode cX8_isWord 1 = .ok (.iload_n 1, 1) := by decide +kernel
theorem dX8_isWord_2 : decode cX8_isWord 2 = .ok (.invokevirtual 78, 3) := by decide +kernel
theorem dX8_isWord_5 : decode cX8_isWord 5 = .ok (.aload_n 0, 1) := by decide +kernel
theorem dX8_isWord_6 : decode cX8_isWord 6 = .ok (.getfield 75, 3) := by decide +kernel
theorem dX8_isWord_9 : decode cX8_isWord 9 = .ok (.if_icmp .ne 7, 3) := by decide +kernel
theorem dX8_isWord_12 : decode cX8_isWord 12 = .ok (.iconst 1, 1) := by decide +kernel
theorem dX8_isWord_13 : decode cX8_isWord 13 = .ok (.goto 4, 3) := by decide +kernel
theorem dX8_isWord_16 : decode cX8_isWord 16 = .ok (.iconst 0, 1) := by decide +kernel
theorem dX8_isWord_17 : decode cX8_isWord 17 = .ok (.istore_n 2, 1) := by decide +kernel
theorem dX8_isWord_18 : decode cX8_isWord 18 = .ok (.iconst 0, 1) := by decide +kernel
theorem dX8_isWord_19 : decode cX8_isWord 19 = .ok (.istore_n 3, 1) := by decide +kernel
theorem dX8_isWord_20 : decode cX8_isWord 20 = .ok (.iload_n 3, 1) := by decide +kernel
theorem dX8_isWord_21 : decode cX8_isWord 21 = .ok (.aload_n 0, 1) := by decide +kernel
theorem dX8_isWord_22 : decode cX8_isWord 22 = .ok (.getfield 75, 3) := by decide +kernel
theorem dX8_isWord_25 : decode cX8_isWord 25 = .ok (.if_icmp .ge 34, 3) := by decide +kernel
theorem dX8_isWord_28 : decode cX8_isWord 28 = .ok (.iload_n 2, 1) := by decide +kernel
theorem dX8_isWord_29 : decode cX8_isWord 29 = .ok (.ifCond .eq 30, 3) := by decide +kernel
theorem dX8_isWord_32 : decode cX8_isWord 32 = .ok (.aload_n 0, 1) := by decide +kernel
theorem dX8_isWord_33 : decode cX8_isWord 33 = .ok (.iload_n 1, 1) := by decide +kernel
theorem dX8_isWord_34 : decode cX8_isWord 34 = .ok (.iload_n 3, 1) := by decide +kernel
theorem dX8_isWord_35 : decode cX8_isWord 35 = .ok (.invokevirtual 82, 3) := by decide +kernel
theorem dX8_isWord_38 : decode cX8_isWord 38 = .ok (.aload_n 0, 1) := by decide +kernel
theorem dX8_isWord_39 : decode cX8_isWord 39 = .ok (.getfield 29, 3) := by decide +kernel
theorem dX8_isWord_42 : decode cX8_isWord 42 = .ok (.iload_n 3, 1) := by decide +kernel
theorem dX8_isWord_43 : decode cX8_isWord 43 = .ok (.iaload, 1) := by decide +kernel
theorem dX8_isWord_44 : decode cX8_isWord 44 = .ok (.if_icmp .ne 7, 3) := by decide +kernel
theorem dX8_isWord_47 : decode cX8_isWord 47 = .ok (.iconst 1, 1) := by decide +kernel
theorem dX8_isWord_48 : decode cX8_isWord 48 = .ok (.goto 4, 3) := by decide +kernel
theorem dX8_isWord_51 : decode cX8_isWord 51 = .ok (.iconst 0, 1) := by decide +kernel
theorem dX8_isWord_52 : decode cX8_isWord 52 = .ok (.istore_n 2, 1) := by decide +kernel
theorem dX8_isWord_53 : decode cX8_isWord 53 = .ok (.iinc 3 1, 3) := by decide +kernel
theorem dX8_isWord_56 : decode cX8_isWord 56 = .ok (.goto (-36), 3) := by decide +kernel
theorem dX8_isWord_59 : decode cX8_isWord 59 = .ok (.iload_n 2, 1) := by decide +kernel
theorem dX8_isWord_60 : decode cX8_isWord 60 = .ok (.ireturn, 1) := by decide +kernel
set_option maxRecDepth 20000 in
theorem ggX8_add_X8_faultOf : GoodIn wsX8_add wsX8_faultOf := goodIn_r _ [9, 4, 10, 11, 12, 8, 13, 39, 40, 41, 42, 43, 44, 45, 46, 47, 48, 49, 50, 51, 52, 53, 54, 55, 56] (by decide +kernel) (by decide +kernel)
set_option maxRecDepth 20000 in
theorem gX8_add_X8_faultOf : GoodIn wsX8_add (wsV RX8 71 RX8 yX8_faultOf wsX8_faultOf) := goodIn_app (goodIn_of _ (by decide +kernel)) ggX8_add_X8_faultOf
set_option maxRecDepth 20000 in
theorem ggX8_add_X8_takePad : GoodIn wsX8_add wsX8_takePad := goodIn_r _ [17, 4, 2, 3, 10, 39, 40, 41, 42, 43, 44, 45, 46, 47, 48, 49, 50, 51, 52, 53, 54, 55, 56] (by decide +kernel) (by decide +kernel)
set_option maxRecDepth 20000 in
theorem gX8_add_X8_takePad : GoodIn wsX8_add (wsV RX8 86 RX8 yX8_takePad wsX8_takePad) := goodIn_app (goodIn_of _ (by decide +kernel)) ggX8_add_X8_takePad
set_option maxRecDepth 20000 in
theorem ggX8_add_X8_isWord : GoodIn wsX8_add wsX8_isWord := goodIn_r _ [21, 2, 3, 22, 23, 24, 8, 25, 1, 26, 27, 28, 29, 39, 40, 41, 42, 43, 44, 45, 46, 47, 48, 49, 50, 51, 52, 53, 54, 55, 56] (by decide +kernel) (by decide +kernel)
set_option maxRecDepth 20000 in
theorem gX8_add_X8_isWord : GoodIn wsX8_add (wsV RX8 89 RX8 yX8_isWord wsX8_isWord) := goodIn_app (goodIn_of _ (by decide +kernel)) ggX8_add_X8_isWord
set_option maxRecDepth 20000 in
theorem ggX8_add_X8_record : GoodIn wsX8_add wsX8_record := goodIn_r _ [33, 34, 35, 1, 36, 37, 8, 38, 39, 40, 41, 42, 43, 44, 45, 46, 47, 48, 49, 50, 51, 52, 53, 54, 55, 56] (by decide +kernel) (by decide +kernel)
set_option maxRecDepth 20000 in
theorem gX8_add_X8_record : GoodIn wsX8_add (wsV RX8 63 RX8 yX8_record wsX8_record) := goodIn_app (goodIn_of _ (by decide +kernel)) ggX8_add_X8_record
theorem dX8_add_0 : decode cX8_add 0 = .ok (.aload_n 0, 1) := by decide +kernel
theorem dX8_add_1 : decode cX8_add 1 = .ok (.invokevirtual 71, 3) := by decide +kernel
theorem dX8_add_4 : decode cX8_add 4 = .ok (.bipush (-6), 2) := by decide +kernel
theorem dX8_add_6 : decode cX8_add 6 = .ok (.if_icmp .eq 6, 3) := by decide +kernel
theorem dX8_add_9 : decode cX8_add 9 = .ok (.bipush (-3), 2) := by decide +kernel
theorem dX8_add_11 : decode cX8_add 11 = .ok (.ireturn, 1) := by decide +kernel
theorem dX8_add_12 : decode cX8_add 12 = .ok (.aload_n 0, 1) := by decide +kernel
theorem dX8_add_13 : decode cX8_add 13 = .ok (.invokevirtual 86, 3) := by decide +kernel
theorem dX8_add_16 : decode cX8_add 16 = .ok (.iconst 0, 1) := by decide +kernel
theorem dX8_add_17 : decode cX8_add 17 = .ok (.istore_n 1, 1) := by decide +kernel
theorem dX8_add_18 : decode cX8_add 18 = .ok (.iload_n 1, 1) := by decide +kernel
theorem dX8_add_19 : decode cX8_add 19 = .ok (.aload_n 0, 1) := by decide +kernel
theorem dX8_add_20 : decode cX8_add 20 = .ok (.getfield 7, 3) := by decide +kernel
theorem dX8_add_23 : decode cX8_add 23 = .ok (.iconst 2, 1) := by decide +kernel
theorem dX8_add_24 : decode cX8_add 24 = .ok (.iaload, 1) := by decide +kernel
theorem dX8_add_25 : decode cX8_add 25 = .ok (.if_icmp .ge 20, 3) := by decide +kernel
theorem dX8_add_28 : decode cX8_add 28 = .ok (.aload_n 0, 1) := by decide +kernel
theorem dX8_add_29 : decode cX8_add 29 = .ok (.iload_n 1, 1) := by decide +kernel
theorem dX8_add_30 : decode cX8_add 30 = .ok (.invokevirtual 89, 3) := by decide +kernel
theorem dX8_add_33 : decode cX8_add 33 = .ok (.ifCond .eq 6, 3) := by decide +kernel
theorem dX8_add_36 : decode cX8_add 36 = .ok (.bipush (-5), 2) := by decide +kernel
theorem dX8_add_38 : decode cX8_add 38 = .ok (.ireturn, 1) := by decide +kernel
theorem dX8_add_39 : decode cX8_add 39 = .ok (.iinc 1 1, 3) := by decide +kernel
theorem dX8_add_42 : decode cX8_add 42 = .ok (.goto (-24), 3) := by decide +kernel
theorem dX8_add_45 : decode cX8_add 45 = .ok (.aload_n 0, 1) := by decide +kernel
theorem dX8_add_46 : decode cX8_add 46 = .ok (.getfield 7, 3) := by decide +kernel
theorem dX8_add_49 : decode cX8_add 49 = .ok (.iconst 2, 1) := by decide +kernel
theorem dX8_add_50 : decode cX8_add 50 = .ok (.iaload, 1) := by decide +kernel
theorem dX8_add_51 : decode cX8_add 51 = .ok (.aload_n 0, 1) := by decide +kernel
theorem dX8_add_52 : decode cX8_add 52 = .ok (.getfield 7, 3) := by decide +kernel
theorem dX8_add_55 : decode cX8_add 55 = .ok (.iconst 1, 1) := by decide +kernel
theorem dX8_add_56 : decode cX8_add 56 = .ok (.iaload, 1) := by decide +kernel
theorem dX8_add_57 : decode cX8_add 57 = .ok (.if_icmp .lt 6, 3) := by decide +kernel
theorem dX8_add_60 : decode cX8_add 60 = .ok (.bipush (-4), 2) := by decide +kernel
theorem dX8_add_62 : decode cX8_add 62 = .ok (.ireturn, 1) := by decide +kernel
theorem dX8_add_63 : decode cX8_add 63 = .ok (.aload_n 0, 1) := by decide +kernel
theorem dX8_add_64 : decode cX8_add 64 = .ok (.invokevirtual 63, 3) := by decide +kernel
theorem dX8_add_67 : decode cX8_add 67 = .ok (.iconst 4, 1) := by decide +kernel
theorem dX8_add_68 : decode cX8_add 68 = .ok (.bipush 11, 2) := by decide +kernel
theorem dX8_add_70 : decode cX8_add 70 = .ok (.aload_n 0, 1) := by decide +kernel
theorem dX8_add_71 : decode cX8_add 71 = .ok (.getfield 7, 3) := by decide +kernel
theorem dX8_add_74 : decode cX8_add 74 = .ok (.iconst 2, 1) := by decide +kernel
theorem dX8_add_75 : decode cX8_add 75 = .ok (.iaload, 1) := by decide +kernel
theorem dX8_add_76 : decode cX8_add 76 = .ok (.imul, 1) := by decide +kernel
theorem dX8_add_77 : decode cX8_add 77 = .ok (.iadd, 1) := by decide +kernel
theorem dX8_add_78 : decode cX8_add 78 = .ok (.istore_n 1, 1) := by decide +kernel
theorem dX8_add_79 : decode cX8_add 79 = .ok (.aload_n 0, 1) := by decide +kernel
theorem dX8_add_80 : decode cX8_add 80 = .ok (.getfield 7, 3) := by decide +kernel
theorem dX8_add_83 : decode cX8_add 83 = .ok (.iload_n 1, 1) := by decide +kernel
theorem dX8_add_84 : decode cX8_add 84 = .ok (.aload_n 0, 1) := by decide +kernel
theorem dX8_add_85 : decode cX8_add 85 = .ok (.getfield 75, 3) := by decide +kernel
theorem dX8_add_88 : decode cX8_add 88 = .ok (.iastore, 1) := by decide +kernel
theorem dX8_add_89 : decode cX8_add 89 = .ok (.iconst 0, 1) := by decide +kernel
theorem dX8_add_90 : decode cX8_add 90 = .ok (.istore_n 2, 1) := by decide +kernel
theorem dX8_add_91 : decode cX8_add 91 = .ok (.iload_n 2, 1) := by decide +kernel
theorem dX8_add_92 : decode cX8_add 92 = .ok (.bipush 10, 2) := by decide +kernel
theorem dX8_add_94 : decode cX8_add 94 = .ok (.if_icmp .ge 37, 3) := by decide +kernel
theorem dX8_add_97 : decode cX8_add 97 = .ok (.aload_n 0, 1) := by decide +kernel
theorem dX8_add_98 : decode cX8_add 98 = .ok (.getfield 7, 3) := by decide +kernel
theorem dX8_add_101 : decode cX8_add 101 = .ok (.iload_n 1, 1) := by decide +kernel
theorem dX8_add_102 : decode cX8_add 102 = .ok (.iconst 1, 1) := by decide +kernel
theorem dX8_add_103 : decode cX8_add 103 = .ok (.iadd, 1) := by decide +kernel
theorem dX8_add_104 : decode cX8_add 104 = .ok (.iload_n 2, 1) := by decide +kernel
theorem dX8_add_105 : decode cX8_add 105 = .ok (.iadd, 1) := by decide +kernel
theorem dX8_add_106 : decode cX8_add 106 = .ok (.iload_n 2, 1) := by decide +kernel
theorem dX8_add_107 : decode cX8_add 107 = .ok (.aload_n 0, 1) := by decide +kernel
theorem dX8_add_108 : decode cX8_add 108 = .ok (.getfield 75, 3) := by decide +kernel
theorem dX8_add_111 : decode cX8_add 111 = .ok (.if_icmp .ge 12, 3) := by decide +kernel
theorem dX8_add_114 : decode cX8_add 114 = .ok (.aload_n 0, 1) := by decide +kernel
theorem dX8_add_115 : decode cX8_add 115 = .ok (.getfield 29, 3) := by decide +kernel
theorem dX8_add_118 : decode cX8_add 118 = .ok (.iload_n 2, 1) := by decide +kernel
theorem dX8_add_119 : decode cX8_add 119 = .ok (.iaload, 1) := by decide +kernel
theorem dX8_add_120 : decode cX8_add 120 = .ok (.goto 4, 3) := by decide +kernel
theorem dX8_add_123 : decode cX8_add 123 = .ok (.iconst 0, 1) := by decide +kernel
theorem dX8_add_124 : decode cX8_add 124 = .ok (.iastore, 1) := by decide +kernel
theorem dX8_add_125 : decode cX8_add 125 = .ok (.iinc 2 1, 3) := by decide +kernel
theorem dX8_add_128 : decode cX8_add 128 = .ok (.goto (-37), 3) := by decide +kernel
theorem dX8_add_131 : decode cX8_add 131 = .ok (.aload_n 0, 1) := by decide +kernel
theorem dX8_add_132 : decode cX8_add 132 = .ok (.getfield 7, 3) := by decide +kernel
theorem dX8_add_135 : decode cX8_add 135 = .ok (.iconst 2, 1) := by decide +kernel
theorem dX8_add_136 : decode cX8_add 136 = .ok (.dup2, 1) := by decide +kernel
theorem dX8_add_137 : decode cX8_add 137 = .ok (.iaload, 1) := by decide +kernel
theorem dX8_add_138 : decode cX8_add 138 = .ok (.iconst 1, 1) := by decide +kernel
theorem dX8_add_139 : decode cX8_add 139 = .ok (.iadd, 1) := by decide +kernel
theorem dX8_add_140 : decode cX8_add 140 = .ok (.iastore, 1) := by decide +kernel
theorem dX8_add_141 : decode cX8_add 141 = .ok (.aload_n 0, 1) := by decide +kernel
theorem dX8_add_142 : decode cX8_add 142 = .ok (.iconst 0, 1) := by decide +kernel
theorem dX8_add_143 : decode cX8_add 143 = .ok (.putfield 68, 3) := by decide +kernel
theorem dX8_add_146 : decode cX8_add 146 = .ok (.aload_n 0, 1) := by decide +kernel
theorem dX8_add_147 : decode cX8_add 147 = .ok (.getfield 7, 3) := by decide +kernel
theorem dX8_add_150 : decode cX8_add 150 = .ok (.iconst 2, 1) := by decide +kernel
theorem dX8_add_151 : decode cX8_add 151 = .ok (.iaload, 1) := by decide +kernel
theorem dX8_add_152 : decode cX8_add 152 = .ok (.iconst 1, 1) := by decide +kernel
theorem dX8_add_153 : decode cX8_add 153 = .ok (.isub, 1) := by decide +kernel
theorem dX8_add_154 : decode cX8_add 154 = .ok (.ireturn, 1) := by decide +kernel
set_option maxRecDepth 20000 in
theorem ggX8_drop_X8_isName : GoodIn wsX8_drop wsX8_isName := goodIn_r _ [6, 1, 7, 8, 5, 9, 19, 20, 21, 22, 23, 24, 25, 26, 27, 28, 29, 30, 31, 32, 33, 34, 35, 36] (by decide +kernel) (by decide +kernel)
set_option maxRecDepth 20000 in
theorem gX8_drop_X8_isName : GoodIn wsX8_drop (wsV RX8 93 RX8 yX8_isName wsX8_isName) := goodIn_app (goodIn_of _ (by decide +kernel)) ggX8_drop_X8_isName
set_option maxRecDepth 20000 in
theorem ggX8_drop_X8_record : GoodIn wsX8_drop wsX8_record := goodIn_r _ [13, 14, 15, 1, 16, 17, 5, 18, 19, 20, 21, 22, 23, 24, 25, 26, 27, 28, 29, 30, 31, 32, 33, 34, 35, 36] (by decide +kernel) (by decide +kernel)
set_option maxRecDepth 20000 in
theorem gX8_drop_X8_record : GoodIn wsX8_drop (wsV RX8 63 RX8 yX8_record wsX8_record) := goodIn_app (goodIn_of _ (by decide +kernel)) ggX8_drop_X8_record
theorem dX8_drop_0 : decode cX8_drop 0 = .ok (.aload_n 0, 1) := by decide +kernel
theorem dX8_drop_1 : decode cX8_drop 1 = .ok (.iload_n 1, 1) := by decide +kernel
theorem dX8_drop_2 : decode cX8_drop 2 = .ok (.invokevirtual 93, 3) := by decide +kernel
theorem dX8_drop_5 : decode cX8_drop 5 = .ok (.ifCond .ne 5, 3) := by decide +kernel
theorem dX8_drop_8 : decode cX8_drop 8 = .ok (.iconst (-1), 1) := by decide +kernel
theorem dX8_drop_9 : decode cX8_drop 9 = .ok (.ireturn, 1) := by decide +kernel
theorem dX8_drop_10 : decode cX8_drop 10 = .ok (.aload_n 0, 1) := by decide +kernel
theorem dX8_drop_11 : decode cX8_drop 11 = .ok (.invokevirtual 63, 3) := by decide +kernel
theorem dX8_drop_14 : decode cX8_drop 14 = .ok (.aload_n 0, 1) := by decide +kernel
theorem dX8_drop_15 : decode cX8_drop 15 = .ok (.getfield 7, 3) := by decide +kernel
theorem dX8_drop_18 : decode cX8_drop 18 = .ok (.iconst 2, 1) := by decide +kernel
theorem dX8_drop_19 : decode cX8_drop 19 = .ok (.dup2, 1) := by decide +kernel
theorem dX8_drop_20 : decode cX8_drop 20 = .ok (.iaload, 1) := by decide +kernel
theorem dX8_drop_21 : decode cX8_drop 21 = .ok (.iconst 1, 1) := by decide +kernel
theorem dX8_drop_22 : decode cX8_drop 22 = .ok (.isub, 1) := by decide +kernel
theorem dX8_drop_23 : decode cX8_drop 23 = .ok (.iastore, 1) := by decide +kernel
theorem dX8_drop_24 : decode cX8_drop 24 = .ok (.iconst 4, 1) := by decide +kernel
theorem dX8_drop_25 : decode cX8_drop 25 = .ok (.bipush 11, 2) := by decide +kernel
theorem dX8_drop_27 : decode cX8_drop 27 = .ok (.iload_n 1, 1) := by decide +kernel
theorem dX8_drop_28 : decode cX8_drop 28 = .ok (.imul, 1) := by decide +kernel
theorem dX8_drop_29 : decode cX8_drop 29 = .ok (.iadd, 1) := by decide +kernel
theorem dX8_drop_30 : decode cX8_drop 30 = .ok (.istore_n 2, 1) := by decide +kernel
theorem dX8_drop_31 : decode cX8_drop 31 = .ok (.iload_n 2, 1) := by decide +kernel
theorem dX8_drop_32 : decode cX8_drop 32 = .ok (.iconst 4, 1) := by decide +kernel
theorem dX8_drop_33 : decode cX8_drop 33 = .ok (.bipush 11, 2) := by decide +kernel
theorem dX8_drop_35 : decode cX8_drop 35 = .ok (.aload_n 0, 1) := by decide +kernel
theorem dX8_drop_36 : decode cX8_drop 36 = .ok (.getfield 7, 3) := by decide +kernel
theorem dX8_drop_39 : decode cX8_drop 39 = .ok (.iconst 2, 1) := by decide +kernel
theorem dX8_drop_40 : decode cX8_drop 40 = .ok (.iaload, 1) := by decide +kernel
theorem dX8_drop_41 : decode cX8_drop 41 = .ok (.imul, 1) := by decide +kernel
theorem dX8_drop_42 : decode cX8_drop 42 = .ok (.iadd, 1) := by decide +kernel
theorem dX8_drop_43 : decode cX8_drop 43 = .ok (.if_icmp .ge 24, 3) := by decide +kernel
theorem dX8_drop_46 : decode cX8_drop 46 = .ok (.aload_n 0, 1) := by decide +kernel
theorem dX8_drop_47 : decode cX8_drop 47 = .ok (.getfield 7, 3) := by decide +kernel
theorem dX8_drop_50 : decode cX8_drop 50 = .ok (.iload_n 2, 1) := by decide +kernel
theorem dX8_drop_51 : decode cX8_drop 51 = .ok (.aload_n 0, 1) := by decide +kernel
theorem dX8_drop_52 : decode cX8_drop 52 = .ok (.getfield 7, 3) := by decide +kernel
theorem dX8_drop_55 : decode cX8_drop 55 = .ok (.iload_n 2, 1) := by decide +kernel
theorem dX8_drop_56 : decode cX8_drop 56 = .ok (.bipush 11, 2) := by decide +kernel
theorem dX8_drop_58 : decode cX8_drop 58 = .ok (.iadd, 1) := by decide +kernel
theorem dX8_drop_59 : decode cX8_drop 59 = .ok (.iaload, 1) := by decide +kernel
theorem dX8_drop_60 : decode cX8_drop 60 = .ok (.iastore, 1) := by decide +kernel
theorem dX8_drop_61 : decode cX8_drop 61 = .ok (.iinc 2 1, 3) := by decide +kernel
theorem dX8_drop_64 : decode cX8_drop 64 = .ok (.goto (-33), 3) := by decide +kernel
theorem dX8_drop_67 : decode cX8_drop 67 = .ok (.aload_n 0, 1) := by decide +kernel
theorem dX8_drop_68 : decode cX8_drop 68 = .ok (.getfield 7, 3) := by decide +kernel
theorem dX8_drop_71 : decode cX8_drop 71 = .ok (.iconst 2, 1) := by decide +kernel
theorem dX8_drop_72 : decode cX8_drop 72 = .ok (.iaload, 1) := by decide +kernel
theorem dX8_drop_73 : decode cX8_drop 73 = .ok (.ireturn, 1) := by decide +kernel
theorem dX8_least_0 : decode cX8_least 0 = .ok (.iload_n 0, 1) := by decide +kernel
theorem dX8_least_1 : decode cX8_least 1 = .ok (.iload_n 1, 1) := by decide +kernel
theorem dX8_least_2 : decode cX8_least 2 = .ok (.if_icmp .ge 7, 3) := by decide +kernel
theorem dX8_least_5 : decode cX8_least 5 = .ok (.iload_n 0, 1) := by decide +kernel
theorem dX8_least_6 : decode cX8_least 6 = .ok (.goto 4, 3) := by decide +kernel
theorem dX8_least_9 : decode cX8_least 9 = .ok (.iload_n 1, 1) := by decide +kernel
theorem dX8_least_10 : decode cX8_least 10 = .ok (.ireturn, 1) := by decide +kernel
set_option maxRecDepth 20000 in
theorem ggX8_distanceTo_X8_lengthOf : GoodIn wsX8_distanceTo wsX8_lengthOf := goodIn_r _ [8, 9, 17, 18, 19, 20, 21, 22, 23, 24, 25, 26, 27, 28, 29, 30, 31, 32, 33, 34] (by decide +kernel) (by decide +kernel)
set_option maxRecDepth 20000 in
theorem gX8_distanceTo_X8_lengthOf : GoodIn wsX8_distanceTo (wsV RX8 78 RX8 yX8_lengthOf wsX8_lengthOf) := goodIn_app (goodIn_of _ (by decide +kernel)) ggX8_distanceTo_X8_lengthOf
set_option maxRecDepth 20000 in
theorem ggX8_distanceTo_X8_letterOf : GoodIn wsX8_distanceTo wsX8_letterOf := goodIn_r _ [13, 9, 17, 18, 19, 20, 21, 22, 23, 24, 25, 26, 27, 28, 29, 30, 31, 32, 33, 34] (by decide +kernel) (by decide +kernel)
set_option maxRecDepth 20000 in
theorem gX8_distanceTo_X8_letterOf : GoodIn wsX8_distanceTo (wsV RX8 82 RX8 yX8_letterOf wsX8_letterOf) := goodIn_app (goodIn_of _ (by decide +kernel)) ggX8_distanceTo_X8_letterOf
set_option maxRecDepth 20000 in
theorem ggX8_distanceTo_X8_least : GoodIn wsX8_distanceTo wsX8_least := goodIn_r _ [16] (by decide +kernel) (by decide +kernel)
set_option maxRecDepth 20000 in
theorem gX8_distanceTo_X8_least : GoodIn wsX8_distanceTo (va_wsS RX8 96 yX8_least wsX8_least) := goodIn_app (goodIn_of _ (by decide +kernel)) ggX8_distanceTo_X8_least
theorem dX8_distanceTo_0 : decode cX8_distanceTo 0 = .ok (.aload_n 0, 1) := by decide +kernel
theorem dX8_distanceTo_1 : decode cX8_distanceTo 1 = .ok (.iload_n 1, 1) := by decide +kernel
theorem dX8_distanceTo_2 : decode cX8_distanceTo 2 = .ok (.invokevirtual 78, 3) := by decide +kernel
theorem dX8_distanceTo_5 : decode cX8_distanceTo 5 = .ok (.istore_n 2, 1) := by decide +kernel
theorem dX8_distanceTo_6 : decode cX8_distanceTo 6 = .ok (.iconst 0, 1) := by decide +kernel
theorem dX8_distanceTo_7 : decode cX8_distanceTo 7 = .ok (.istore_n 3, 1) := by decide +kernel
theorem dX8_distanceTo_8 : decode cX8_distanceTo 8 = .ok (.iload_n 3, 1) := by decide +kernel
theorem dX8_distanceTo_9 : decode cX8_distanceTo 9 = .ok (.iload_n 2, 1) := by decide +kernel
theorem dX8_distanceTo_10 : decode cX8_distanceTo 10 = .ok (.if_icmp .gt 16, 3) := by decide +kernel
theorem dX8_distanceTo_13 : decode cX8_distanceTo 13 = .ok (.aload_n 0, 1) := by decide +kernel
theorem dX8_distanceTo_14 : decode cX8_distanceTo 14 = .ok (.getfield 45, 3) := by decide +kernel
theorem dX8_distanceTo_17 : decode cX8_distanceTo 17 = .ok (.iload_n 3, 1) := by decide +kernel
theorem dX8_distanceTo_18 : decode cX8_distanceTo 18 = .ok (.iload_n 3, 1) := by decide +kernel
theorem dX8_distanceTo_19 : decode cX8_distanceTo 19 = .ok (.iastore, 1) := by decide +kernel
theorem dX8_distanceTo_20 : decode cX8_distanceTo 20 = .ok (.iinc 3 1, 3) := by decide +kernel
theorem dX8_distanceTo_23 : decode cX8_distanceTo 23 = .ok (.goto (-15), 3) := by decide +kernel
theorem dX8_distanceTo_26 : decode cX8_distanceTo 26 = .ok (.iconst 1, 1) := by decide +kernel
theorem dX8_distanceTo_27 : decode cX8_distanceTo 27 = .ok (.istore_n 3, 1) := by decide +kernel
theorem dX8_distanceTo_28 : decode cX8_distanceTo 28 = .ok (.iload_n 3, 1) := by decide +kernel
theorem dX8_distanceTo_29 : decode cX8_distanceTo 29 = .ok (.aload_n 0, 1) := by decide +kernel
theorem dX8_distanceTo_30 : decode cX8_distanceTo 30 = .ok (.getfield 75, 3) := by decide +kernel
theorem dX8_distanceTo_33 : decode cX8_distanceTo 33 = .ok (.if_icmp .gt 111, 3) := by decide +kernel
theorem dX8_distanceTo_36 : decode cX8_distanceTo 36 = .ok (.aload_n 0, 1) := by decide +kernel
theorem dX8_distanceTo_37 : decode cX8_distanceTo 37 = .ok (.getfield 45, 3) := by decide +kernel
theorem dX8_distanceTo_40 : decode cX8_distanceTo 40 = .ok (.iconst 0, 1) := by decide +kernel
theorem dX8_distanceTo_41 : decode cX8_distanceTo 41 = .ok (.iaload, 1) := by decide +kernel
theorem dX8_distanceTo_42 : decode cX8_distanceTo 42 = .ok (.istore 4, 2) := by decide +kernel
theorem dX8_distanceTo_44 : decode cX8_distanceTo 44 = .ok (.aload_n 0, 1) := by decide +kernel
theorem dX8_distanceTo_45 : decode cX8_distanceTo 45 = .ok (.getfield 45, 3) := by decide +kernel
theorem dX8_distanceTo_48 : decode cX8_distanceTo 48 = .ok (.iconst 0, 1) := by decide +kernel
theorem dX8_distanceTo_49 : decode cX8_distanceTo 49 = .ok (.iload_n 3, 1) := by decide +kernel
theorem dX8_distanceTo_50 : decode cX8_distanceTo 50 = .ok (.iastore, 1) := by decide +kernel
theorem dX8_distanceTo_51 : decode cX8_distanceTo 51 = .ok (.iconst 1, 1) := by decide +kernel
theorem dX8_distanceTo_52 : decode cX8_distanceTo 52 = .ok (.istore 5, 2) := by decide +kernel
theorem dX8_distanceTo_54 : decode cX8_distanceTo 54 = .ok (.iload 5, 2) := by decide +kernel
theorem dX8_distanceTo_56 : decode cX8_distanceTo 56 = .ok (.iload_n 2, 1) := by decide +kernel
theorem dX8_distanceTo_57 : decode cX8_distanceTo 57 = .ok (.if_icmp .gt 81, 3) := by decide +kernel
theorem dX8_distanceTo_60 : decode cX8_distanceTo 60 = .ok (.iload 4, 2) := by decide +kernel
theorem dX8_distanceTo_62 : decode cX8_distanceTo 62 = .ok (.aload_n 0, 1) := by decide +kernel
theorem dX8_distanceTo_63 : decode cX8_distanceTo 63 = .ok (.getfield 29, 3) := by decide +kernel
theorem dX8_distanceTo_66 : decode cX8_distanceTo 66 = .ok (.iload_n 3, 1) := by decide +kernel
theorem dX8_distanceTo_67 : decode cX8_distanceTo 67 = .ok (.iconst 1, 1) := by decide +kernel
theorem dX8_distanceTo_68 : decode cX8_distanceTo 68 = .ok (.isub, 1) := by decide +kernel
theorem dX8_distanceTo_69 : decode cX8_distanceTo 69 = .ok (.iaload, 1) := by decide +kernel
theorem dX8_distanceTo_70 : decode cX8_distanceTo 70 = .ok (.aload_n 0, 1) := by decide +kernel
theorem dX8_distanceTo_71 : decode cX8_distanceTo 71 = .ok (.iload_n 1, 1) := by decide +kernel
theorem dX8_distanceTo_72 : decode cX8_distanceTo 72 = .ok (.iload 5, 2) := by decide +kernel
theorem dX8_distanceTo_74 : decode cX8_distanceTo 74 = .ok (.iconst 1, 1) := by decide +kernel
theorem dX8_distanceTo_75 : decode cX8_distanceTo 75 = .ok (.isub, 1) := by decide +kernel
theorem dX8_distanceTo_76 : decode cX8_distanceTo 76 = .ok (.invokevirtual 82, 3) := by decide +kernel
theorem dX8_distanceTo_79 : decode cX8_distanceTo 79 = .ok (.if_icmp .ne 7, 3) := by decide +kernel
theorem dX8_distanceTo_82 : decode cX8_distanceTo 82 = .ok (.iconst 0, 1) := by decide +kernel
theorem dX8_distanceTo_83 : decode cX8_distanceTo 83 = .ok (.goto 4, 3) := by decide +kernel
theorem dX8_distanceTo_86 : decode cX8_distanceTo 86 = .ok (.iconst 1, 1) := by decide +kernel
theorem dX8_distanceTo_87 : decode cX8_distanceTo 87 = .ok (.iadd, 1) := by decide +kernel
theorem dX8_distanceTo_88 : decode cX8_distanceTo 88 = .ok (.istore 6, 2) := by decide +kernel
theorem dX8_distanceTo_90 : decode cX8_distanceTo 90 = .ok (.aload_n 0, 1) := by decide +kernel
theorem dX8_distanceTo_91 : decode cX8_distanceTo 91 = .ok (.getfield 45, 3) := by decide +kernel
theorem dX8_distanceTo_94 : decode cX8_distanceTo 94 = .ok (.iload 5, 2) := by decide +kernel
theorem dX8_distanceTo_96 : decode cX8_distanceTo 96 = .ok (.iaload, 1) := by decide +kernel
theorem dX8_distanceTo_97 : decode cX8_distanceTo 97 = .ok (.istore 4, 2) := by decide +kernel
theorem dX8_distanceTo_99 : decode cX8_distanceTo 99 = .ok (.aload_n 0, 1) := by decide +kernel
theorem dX8_distanceTo_100 : decode cX8_distanceTo 100 = .ok (.getfield 45, 3) := by decide +kernel
theorem dX8_distanceTo_103 : decode cX8_distanceTo 103 = .ok (.iload 5, 2) := by decide +kernel
theorem dX8_distanceTo_105 : decode cX8_distanceTo 105 = .ok (.iload 6, 2) := by decide +kernel
theorem dX8_distanceTo_107 : decode cX8_distanceTo 107 = .ok (.aload_n 0, 1) := by decide +kernel
theorem dX8_distanceTo_108 : decode cX8_distanceTo 108 = .ok (.getfield 45, 3) := by decide +kernel
theorem dX8_distanceTo_111 : decode cX8_distanceTo 111 = .ok (.iload 5, 2) := by decide +kernel
theorem dX8_distanceTo_113 : decode cX8_distanceTo 113 = .ok (.iaload, 1) := by decide +kernel
theorem dX8_distanceTo_114 : decode cX8_distanceTo 114 = .ok (.aload_n 0, 1) := by decide +kernel
theorem dX8_distanceTo_115 : decode cX8_distanceTo 115 = .ok (.getfield 45, 3) := by decide +kernel
theorem dX8_distanceTo_118 : decode cX8_distanceTo 118 = .ok (.iload 5, 2) := by decide +kernel
theorem dX8_distanceTo_120 : decode cX8_distanceTo 120 = .ok (.iconst 1, 1) := by decide +kernel
theorem dX8_distanceTo_121 : decode cX8_distanceTo 121 = .ok (.isub, 1) := by decide +kernel
theorem dX8_distanceTo_122 : decode cX8_distanceTo 122 = .ok (.iaload, 1) := by decide +kernel
theorem dX8_distanceTo_123 : decode cX8_distanceTo 123 = .ok (.invokestatic 96, 3) := by decide +kernel
theorem dX8_distanceTo_126 : decode cX8_distanceTo 126 = .ok (.iconst 1, 1) := by decide +kernel
theorem dX8_distanceTo_127 : decode cX8_distanceTo 127 = .ok (.iadd, 1) := by decide +kernel
theorem dX8_distanceTo_128 : decode cX8_distanceTo 128 = .ok (.invokestatic 96, 3) := by decide +kernel
theorem dX8_distanceTo_131 : decode cX8_distanceTo 131 = .ok (.iastore, 1) := by decide +kernel
theorem dX8_distanceTo_132 : decode cX8_distanceTo 132 = .ok (.iinc 5 1, 3) := by decide +kernel
theorem dX8_distanceTo_135 : decode cX8_distanceTo 135 = .ok (.goto (-81), 3) := by decide +kernel
theorem dX8_distanceTo_138 : decode cX8_distanceTo 138 = .ok (.iinc 3 1, 3) := by decide +kernel
theorem dX8_distanceTo_141 : decode cX8_distanceTo 141 = .ok (.goto (-113), 3) := by decide +kernel
theorem dX8_distanceTo_144 : decode cX8_distanceTo 144 = .ok (.aload_n 0, 1) := by decide +kernel
theorem dX8_distanceTo_145 : decode cX8_distanceTo 145 = .ok (.getfield 45, 3) := by decide +kernel
theorem dX8_distanceTo_148 : decode cX8_distanceTo 148 = .ok (.iload_n 2, 1) := by decide +kernel
theorem dX8_distanceTo_149 : decode cX8_distanceTo 149 = .ok (.iaload, 1) := by decide +kernel
theorem dX8_distanceTo_150 : decode cX8_distanceTo 150 = .ok (.ireturn, 1) := by decide +kernel
set_option maxRecDepth 20000 in
theorem ggX8_distance_X8_isName : GoodIn wsX8_distance wsX8_isName := goodIn_r _ [5, 6, 7, 8, 4, 9, 32, 33, 34, 35, 36, 37, 38, 39, 40, 41, 42, 43, 44, 45, 46, 47, 48, 49] (by decide +kernel) (by decide +kernel)
set_option maxRecDepth 20000 in
theorem gX8_distance_X8_isName : GoodIn wsX8_distance (wsV RX8 93 RX8 yX8_isName wsX8_isName) := goodIn_app (goodIn_of _ (by decide +kernel)) ggX8_distance_X8_isName
set_option maxRecDepth 20000 in
theorem ggX8_distance_X8_takeName : GoodIn wsX8_distance wsX8_takeName := goodIn_r _ [13, 14, 15, 16, 17, 18, 4, 19, 6, 20, 21, 22, 23, 32, 33, 34, 35, 36, 37, 38, 39, 40, 41, 42, 43, 44, 45, 46, 47, 48, 49] (by decide +kernel) (by decide +kernel)
set_option maxRecDepth 20000 in
theorem gX8_distance_X8_takeName : GoodIn wsX8_distance (wsV RX8 99 RX8 yX8_takeName wsX8_takeName) := goodIn_app (goodIn_of _ (by decide +kernel)) ggX8_distance_X8_takeName
set_option maxRecDepth 20000 in
theorem ggX8_distance_X8_distanceTo : GoodIn wsX8_distance wsX8_distanceTo := goodIn_r _ [27, 28, 14, 15, 16, 17, 18, 4, 19, 6, 20, 21, 22, 23, 29, 30, 31, 32, 33, 34, 35, 36, 37, 38, 39, 40, 41, 42, 43, 44, 45, 46, 47, 48, 49] (by decide +kernel) (by decide +kernel)
set_option maxRecDepth 20000 in
theorem gX8_distance_X8_distanceTo : GoodIn wsX8_distance (wsV RX8 103 RX8 yX8_distanceTo wsX8_distanceTo) := goodIn_app (goodIn_of _ (by decide +kernel)) ggX8_distance_X8_distanceTo
theorem dX8_distance_0 : decode cX8_distance 0 = .ok (.aload_n 0, 1) := by decide +kernel
theorem dX8_distance_1 : decode cX8_distance 1 = .ok (.iload_n 1, 1) := by decide +kernel
theorem dX8_distance_2 : decode cX8_distance 2 = .ok (.invokevirtual 93, 3) := by decide +kernel
theorem dX8_distance_5 : decode cX8_distance 5 = .ok (.ifCond .eq 11, 3) := by decide +kernel
theorem dX8_distance_8 : decode cX8_distance 8 = .ok (.aload_n 0, 1) := by decide +kernel
theorem dX8_distance_9 : decode cX8_distance 9 = .ok (.iload_n 2, 1) := by decide +kernel
theorem dX8_distance_10 : decode cX8_distance 10 = .ok (.invokevirtual 93, 3) := by decide +kernel
theorem dX8_distance_13 : decode cX8_distance 13 = .ok (.ifCond .ne 5, 3) := by decide +kernel
theorem dX8_distance_16 : decode cX8_distance 16 = .ok (.iconst (-1), 1) := by decide +kernel
theorem dX8_distance_17 : decode cX8_distance 17 = .ok (.ireturn, 1) := by decide +kernel
theorem dX8_distance_18 : decode cX8_distance 18 = .ok (.aload_n 0, 1) := by decide +kernel
theorem dX8_distance_19 : decode cX8_distance 19 = .ok (.iload_n 1, 1) := by decide +kernel
theorem dX8_distance_20 : decode cX8_distance 20 = .ok (.invokevirtual 99, 3) := by decide +kernel
theorem dX8_distance_23 : decode cX8_distance 23 = .ok (.aload_n 0, 1) := by decide +kernel
theorem dX8_distance_24 : decode cX8_distance 24 = .ok (.iload_n 2, 1) := by decide +kernel
theorem dX8_distance_25 : decode cX8_distance 25 = .ok (.invokevirtual 103, 3) := by decide +kernel
theorem dX8_distance_28 : decode cX8_distance 28 = .ok (.ireturn, 1) := by decide +kernel
set_option maxRecDepth 20000 in
theorem ggX8_hasHabit_X8_at : GoodIn wsX8_hasHabit wsX8_at := goodIn_r _ [5, 6, 7, 8, 9, 10, 11, 12, 13, 14, 15, 16, 17, 18, 19, 20, 21, 22, 23, 24] (by decide +kernel) (by decide +kernel)
set_option maxRecDepth 20000 in
theorem gX8_hasHabit_X8_at : GoodIn wsX8_hasHabit (wsV RX8 106 RX8 yX8_at wsX8_at) := goodIn_app (goodIn_of _ (by decide +kernel)) ggX8_hasHabit_X8_at
theorem dX8_hasHabit_0 : decode cX8_hasHabit 0 = .ok (.aload_n 0, 1) := by decide +kernel
theorem dX8_hasHabit_1 : decode cX8_hasHabit 1 = .ok (.iload_n 1, 1) := by decide +kernel
theorem dX8_hasHabit_2 : decode cX8_hasHabit 2 = .ok (.bipush 52, 2) := by decide +kernel
theorem dX8_hasHabit_4 : decode cX8_hasHabit 4 = .ok (.invokevirtual 106, 3) := by decide +kernel
theorem dX8_hasHabit_7 : decode cX8_hasHabit 7 = .ok (.iload_n 2, 1) := by decide +kernel
theorem dX8_hasHabit_8 : decode cX8_hasHabit 8 = .ok (.iand, 1) := by decide +kernel
theorem dX8_hasHabit_9 : decode cX8_hasHabit 9 = .ok (.ifCond .eq 7, 3) := by decide +kernel
theorem dX8_hasHabit_12 : decode cX8_hasHabit 12 = .ok (.iconst 1, 1) := by decide +kernel
theorem dX8_hasHabit_13 : decode cX8_hasHabit 13 = .ok (.goto 4, 3) := by decide +kernel
theorem dX8_hasHabit_16 : decode cX8_hasHabit 16 = .ok (.iconst 0, 1) := by decide +kernel
theorem dX8_hasHabit_17 : decode cX8_hasHabit 17 = .ok (.ireturn, 1) := by decide +kernel
theorem dX8_isBehindOne_0 : decode cX8_isBehindOne 0 = .ok (.iload_n 1, 1) := by decide +kernel
theorem dX8_isBehindOne_1 : decode cX8_isBehindOne 1 = .ok (.ifCond .ne 8, 3) := by decide +kernel
theorem dX8_isBehindOne_4 : decode cX8_isBehindOne 4 = .ok (.bipush (-6), 2) := by decide +kernel
theorem dX8_isBehindOne_6 : decode cX8_isBehindOne 6 = .ok (.goto 11, 3) := by decide +kernel
theorem dX8_isBehindOne_9 : decode cX8_isBehindOne 9 = .ok (.aload_n 0, 1) := by decide +kernel
theorem dX8_isBehindOne_10 : decode cX8_isBehindOne 10 = .ok (.getfield 29, 3) := by decide +kernel
theorem dX8_isBehindOne_13 : decode cX8_isBehindOne 13 = .ok (.iload_n 1, 1) := by decide +kernel
theorem dX8_isBehindOne_14 : decode cX8_isBehindOne 14 = .ok (.iconst 1, 1) := by decide +kernel
theorem dX8_isBehindOne_15 : decode cX8_isBehindOne 15 = .ok (.isub, 1) := by decide +kernel
theorem dX8_isBehindOne_16 : decode cX8_isBehindOne 16 = .ok (.iaload, 1) := by decide +kernel
theorem dX8_isBehindOne_17 : decode cX8_isBehindOne 17 = .ok (.istore_n 2, 1) := by decide +kernel
theorem dX8_isBehindOne_18 : decode cX8_isBehindOne 18 = .ok (.iload_n 2, 1) := by decide +kernel
theorem dX8_isBehindOne_19 : decode cX8_isBehindOne 19 = .ok (.iconst 2, 1) := by decide +kernel
theorem dX8_isBehindOne_20 : decode cX8_isBehindOne 20 = .ok (.if_icmp .eq 21, 3) := by decide +kernel
theorem dX8_isBehindOne_23 : decode cX8_isBehindOne 23 = .ok (.iload_n 2, 1) := by decide +kernel
theorem dX8_isBehindOne_24 : decode cX8_isBehindOne 24 = .ok (.bipush 15, 2) := by decide +kernel
theorem dX8_isBehindOne_26 : decode cX8_isBehindOne 26 = .ok (.if_icmp .eq 15, 3) := by decide +kernel
theorem dX8_isBehindOne_29 : decode cX8_isBehindOne 29 = .ok (.iload_n 2, 1) := by decide +kernel
theorem dX8_isBehindOne_30 : decode cX8_isBehindOne 30 = .ok (.bipush 18, 2) := by decide +kernel
theorem dX8_isBehindOne_32 : decode cX8_isBehindOne 32 = .ok (.if_icmp .eq 9, 3) := by decide +kernel
theorem dX8_isBehindOne_35 : decode cX8_isBehindOne 35 = .ok (.iload_n 2, 1) := by decide +kernel
theorem dX8_isBehindOne_36 : decode cX8_isBehindOne 36 = .ok (.bipush 19, 2) := by decide +kernel
theorem dX8_isBehindOne_38 : decode cX8_isBehindOne 38 = .ok (.if_icmp .ne 7, 3) := by decide +kernel
theorem dX8_isBehindOne_41 : decode cX8_isBehindOne 41 = .ok (.iconst 1, 1) := by decide +kernel
theorem dX8_isBehindOne_42 : decode cX8_isBehindOne 42 = .ok (.goto 4, 3) := by decide +kernel
theorem dX8_isBehindOne_45 : decode cX8_isBehindOne 45 = .ok (.iconst 0, 1) := by decide +kernel
theorem dX8_isBehindOne_46 : decode cX8_isBehindOne 46 = .ok (.ireturn, 1) := by decide +kernel
set_option maxRecDepth 20000 in
theorem ggX8_byHabit_X8_hasHabit : GoodIn wsX8_byHabit wsX8_hasHabit := goodIn_r _ [7, 8, 9, 10, 6, 11, 12, 17, 18, 19, 20, 21, 22, 23, 24, 25, 26, 27, 28, 29, 30, 31, 32, 33, 34] (by decide +kernel) (by decide +kernel)
set_option maxRecDepth 20000 in
theorem gX8_byHabit_X8_hasHabit : GoodIn wsX8_byHabit (wsV RX8 109 RX8 yX8_hasHabit wsX8_hasHabit) := goodIn_app (goodIn_of _ (by decide +kernel)) ggX8_byHabit_X8_hasHabit
set_option maxRecDepth 20000 in
theorem ggX8_byHabit_X8_isBehindOne : GoodIn wsX8_byHabit wsX8_isBehindOne := goodIn_r _ [16, 1, 17, 18, 19, 20, 21, 22, 23, 24, 25, 26, 27, 28, 29, 30, 31, 32, 33, 34] (by decide +kernel) (by decide +kernel)
set_option maxRecDepth 20000 in
theorem gX8_byHabit_X8_isBehindOne : GoodIn wsX8_byHabit (wsV RX8 113 RX8 yX8_isBehindOne wsX8_isBehindOne) := goodIn_app (goodIn_of _ (by decide +kernel)) ggX8_byHabit_X8_isBehindOne
theorem dX8_byHabit_0 : decode cX8_byHabit 0 = .ok (.iload_n 2, 1) := by decide +kernel
theorem dX8_byHabit_1 : decode cX8_byHabit 1 = .ok (.ifCond .ne 22, 3) := by decide +kernel
theorem dX8_byHabit_4 : decode cX8_byHabit 4 = .ok (.aload_n 0, 1) := by decide +kernel
theorem dX8_byHabit_5 : decode cX8_byHabit 5 = .ok (.iload_n 1, 1) := by decide +kernel
theorem dX8_byHabit_6 : decode cX8_byHabit 6 = .ok (.iconst 4, 1) := by decide +kernel
theorem dX8_byHabit_7 : decode cX8_byHabit 7 = .ok (.invokevirtual 109, 3) := by decide +kernel
theorem dX8_byHabit_10 : decode cX8_byHabit 10 = .ok (.ifCond .eq 13, 3) := by decide +kernel
theorem dX8_byHabit_13 : decode cX8_byHabit 13 = .ok (.bipush 10, 2) := by decide +kernel
theorem dX8_byHabit_15 : decode cX8_byHabit 15 = .ok (.aload_n 0, 1) := by decide +kernel
theorem dX8_byHabit_16 : decode cX8_byHabit 16 = .ok (.getfield 29, 3) := by decide +kernel
theorem dX8_byHabit_19 : decode cX8_byHabit 19 = .ok (.iconst 0, 1) := by decide +kernel
theorem dX8_byHabit_20 : decode cX8_byHabit 20 = .ok (.iaload, 1) := by decide +kernel
theorem dX8_byHabit_21 : decode cX8_byHabit 21 = .ok (.iadd, 1) := by decide +kernel
theorem dX8_byHabit_22 : decode cX8_byHabit 22 = .ok (.ireturn, 1) := by decide +kernel
theorem dX8_byHabit_23 : decode cX8_byHabit 23 = .ok (.aload_n 0, 1) := by decide +kernel
theorem dX8_byHabit_24 : decode cX8_byHabit 24 = .ok (.iload_n 1, 1) := by decide +kernel
theorem dX8_byHabit_25 : decode cX8_byHabit 25 = .ok (.iconst 1, 1) := by decide +kernel
theorem dX8_byHabit_26 : decode cX8_byHabit 26 = .ok (.invokevirtual 109, 3) := by decide +kernel
theorem dX8_byHabit_29 : decode cX8_byHabit 29 = .ok (.ifCond .eq 26, 3) := by decide +kernel
theorem dX8_byHabit_32 : decode cX8_byHabit 32 = .ok (.aload_n 0, 1) := by decide +kernel
theorem dX8_byHabit_33 : decode cX8_byHabit 33 = .ok (.getfield 29, 3) := by decide +kernel
theorem dX8_byHabit_36 : decode cX8_byHabit 36 = .ok (.iload_n 2, 1) := by decide +kernel
theorem dX8_byHabit_37 : decode cX8_byHabit 37 = .ok (.iaload, 1) := by decide +kernel
theorem dX8_byHabit_38 : decode cX8_byHabit 38 = .ok (.bipush 7, 2) := by decide +kernel
theorem dX8_byHabit_40 : decode cX8_byHabit 40 = .ok (.if_icmp .ne 15, 3) := by decide +kernel
theorem dX8_byHabit_43 : decode cX8_byHabit 43 = .ok (.aload_n 0, 1) := by decide +kernel
theorem dX8_byHabit_44 : decode cX8_byHabit 44 = .ok (.iload_n 2, 1) := by decide +kernel
theorem dX8_byHabit_45 : decode cX8_byHabit 45 = .ok (.invokevirtual 113, 3) := by decide +kernel
theorem dX8_byHabit_48 : decode cX8_byHabit 48 = .ok (.ifCond .eq 7, 3) := by decide +kernel
theorem dX8_byHabit_51 : decode cX8_byHabit 51 = .ok (.iconst 1, 1) := by decide +kernel
theorem dX8_byHabit_52 : decode cX8_byHabit 52 = .ok (.goto 4, 3) := by decide +kernel
theorem dX8_byHabit_55 : decode cX8_byHabit 55 = .ok (.iconst 0, 1) := by decide +kernel
theorem dX8_byHabit_56 : decode cX8_byHabit 56 = .ok (.istore_n 3, 1) := by decide +kernel
theorem dX8_byHabit_57 : decode cX8_byHabit 57 = .ok (.aload_n 0, 1) := by decide +kernel
theorem dX8_byHabit_58 : decode cX8_byHabit 58 = .ok (.iload_n 1, 1) := by decide +kernel
theorem dX8_byHabit_59 : decode cX8_byHabit 59 = .ok (.iconst 2, 1) := by decide +kernel
theorem dX8_byHabit_60 : decode cX8_byHabit 60 = .ok (.invokevirtual 109, 3) := by decide +kernel
theorem dX8_byHabit_63 : decode cX8_byHabit 63 = .ok (.ifCond .eq 32, 3) := by decide +kernel
theorem dX8_byHabit_66 : decode cX8_byHabit 66 = .ok (.aload_n 0, 1) := by decide +kernel
theorem dX8_byHabit_67 : decode cX8_byHabit 67 = .ok (.getfield 29, 3) := by decide +kernel
theorem dX8_byHabit_70 : decode cX8_byHabit 70 = .ok (.iload_n 2, 1) := by decide +kernel
theorem dX8_byHabit_71 : decode cX8_byHabit 71 = .ok (.iaload, 1) := by decide +kernel
theorem dX8_byHabit_72 : decode cX8_byHabit 72 = .ok (.bipush 18, 2) := by decide +kernel
theorem dX8_byHabit_74 : decode cX8_byHabit 74 = .ok (.if_icmp .ne 21, 3) := by decide +kernel
theorem dX8_byHabit_77 : decode cX8_byHabit 77 = .ok (.iload_n 2, 1) := by decide +kernel
theorem dX8_byHabit_78 : decode cX8_byHabit 78 = .ok (.aload_n 0, 1) := by decide +kernel
theorem dX8_byHabit_79 : decode cX8_byHabit 79 = .ok (.getfield 75, 3) := by decide +kernel
theorem dX8_byHabit_82 : decode cX8_byHabit 82 = .ok (.iconst 1, 1) := by decide +kernel
theorem dX8_byHabit_83 : decode cX8_byHabit 83 = .ok (.isub, 1) := by decide +kernel
theorem dX8_byHabit_84 : decode cX8_byHabit 84 = .ok (.if_icmp .ne 11, 3) := by decide +kernel
theorem dX8_byHabit_87 : decode cX8_byHabit 87 = .ok (.iload_n 2, 1) := by decide +kernel
theorem dX8_byHabit_88 : decode cX8_byHabit 88 = .ok (.ifCond .le 7, 3) := by decide +kernel
theorem dX8_byHabit_91 : decode cX8_byHabit 91 = .ok (.iconst 1, 1) := by decide +kernel
theorem dX8_byHabit_92 : decode cX8_byHabit 92 = .ok (.goto 4, 3) := by decide +kernel
theorem dX8_byHabit_95 : decode cX8_byHabit 95 = .ok (.iconst 0, 1) := by decide +kernel
theorem dX8_byHabit_96 : decode cX8_byHabit 96 = .ok (.istore 4, 2) := by decide +kernel
theorem dX8_byHabit_98 : decode cX8_byHabit 98 = .ok (.iload_n 3, 1) := by decide +kernel
theorem dX8_byHabit_99 : decode cX8_byHabit 99 = .ok (.ifCond .ne 8, 3) := by decide +kernel
theorem dX8_byHabit_102 : decode cX8_byHabit 102 = .ok (.iload 4, 2) := by decide +kernel
theorem dX8_byHabit_104 : decode cX8_byHabit 104 = .ok (.ifCond .eq 7, 3) := by decide +kernel
theorem dX8_byHabit_107 : decode cX8_byHabit 107 = .ok (.iconst 0, 1) := by decide +kernel
theorem dX8_byHabit_108 : decode cX8_byHabit 108 = .ok (.goto 5, 3) := by decide +kernel
theorem dX8_byHabit_111 : decode cX8_byHabit 111 = .ok (.bipush (-6), 2) := by decide +kernel
theorem dX8_byHabit_113 : decode cX8_byHabit 113 = .ok (.ireturn, 1) := by decide +kernel
set_option maxRecDepth 20000 in
theorem ggX8_codeBy_X8_byHabit : GoodIn wsX8_codeBy wsX8_byHabit := goodIn_r _ [10, 2, 1, 11, 12, 13, 9, 14, 15, 16, 17, 18, 3, 19, 20, 21, 22, 23, 24, 25, 26, 27, 28, 29, 30, 31, 32, 33, 34, 35, 36, 37, 38, 39, 40] (by decide +kernel) (by decide +kernel)
set_option maxRecDepth 20000 in
theorem gX8_codeBy_X8_byHabit : GoodIn wsX8_codeBy (wsV RX8 116 RX8 yX8_byHabit wsX8_byHabit) := goodIn_app (goodIn_of _ (by decide +kernel)) ggX8_codeBy_X8_byHabit
set_option maxRecDepth 20000 in
theorem ggX8_codeBy_X8_at : GoodIn wsX8_codeBy wsX8_at := goodIn_r _ [18, 3, 23, 24, 25, 26, 27, 28, 29, 30, 31, 32, 33, 34, 35, 36, 37, 38, 39, 40] (by decide +kernel) (by decide +kernel)
set_option maxRecDepth 20000 in
theorem gX8_codeBy_X8_at : GoodIn wsX8_codeBy (wsV RX8 106 RX8 yX8_at wsX8_at) := goodIn_app (goodIn_of _ (by decide +kernel)) ggX8_codeBy_X8_at
theorem dX8_codeBy_0 : decode cX8_codeBy 0 = .ok (.lconst 0, 1) := by decide +kernel
theorem dX8_codeBy_1 : decode cX8_codeBy 1 = .ok (.lstore_n 3, 1) := by decide +kernel
theorem dX8_codeBy_2 : decode cX8_codeBy 2 = .ok (.iconst 0, 1) := by decide +kernel
theorem dX8_codeBy_3 : decode cX8_codeBy 3 = .ok (.istore 5, 2) := by decide +kernel
theorem dX8_codeBy_5 : decode cX8_codeBy 5 = .ok (.iconst 0, 1) := by decide +kernel
theorem dX8_codeBy_6 : decode cX8_codeBy 6 = .ok (.istore 6, 2) := by decide +kernel
theorem dX8_codeBy_8 : decode cX8_codeBy 8 = .ok (.iconst 0, 1) := by decide +kernel
theorem dX8_codeBy_9 : decode cX8_codeBy 9 = .ok (.istore 7, 2) := by decide +kernel
theorem dX8_codeBy_11 : decode cX8_codeBy 11 = .ok (.iconst 0, 1) := by decide +kernel
theorem dX8_codeBy_12 : decode cX8_codeBy 12 = .ok (.istore 8, 2) := by decide +kernel
theorem dX8_codeBy_14 : decode cX8_codeBy 14 = .ok (.iload 8, 2) := by decide +kernel
theorem dX8_codeBy_16 : decode cX8_codeBy 16 = .ok (.aload_n 0, 1) := by decide +kernel
theorem dX8_codeBy_17 : decode cX8_codeBy 17 = .ok (.getfield 75, 3) := by decide +kernel
theorem dX8_codeBy_20 : decode cX8_codeBy 20 = .ok (.if_icmp .ge 153, 3) := by decide +kernel
theorem dX8_codeBy_23 : decode cX8_codeBy 23 = .ok (.aload_n 0, 1) := by decide +kernel
theorem dX8_codeBy_24 : decode cX8_codeBy 24 = .ok (.iload_n 1, 1) := by decide +kernel
theorem dX8_codeBy_25 : decode cX8_codeBy 25 = .ok (.iload 8, 2) := by decide +kernel
theorem dX8_codeBy_27 : decode cX8_codeBy 27 = .ok (.invokevirtual 116, 3) := by decide +kernel
theorem dX8_codeBy_30 : decode cX8_codeBy 30 = .ok (.istore 9, 2) := by decide +kernel
theorem dX8_codeBy_32 : decode cX8_codeBy 32 = .ok (.iload 9, 2) := by decide +kernel
theorem dX8_codeBy_34 : decode cX8_codeBy 34 = .ok (.bipush (-6), 2) := by decide +kernel
theorem dX8_codeBy_36 : decode cX8_codeBy 36 = .ok (.if_icmp .ne 91, 3) := by decide +kernel
theorem dX8_codeBy_39 : decode cX8_codeBy 39 = .ok (.aload_n 0, 1) := by decide +kernel
theorem dX8_codeBy_40 : decode cX8_codeBy 40 = .ok (.iload_n 1, 1) := by decide +kernel
theorem dX8_codeBy_41 : decode cX8_codeBy 41 = .ok (.bipush 26, 2) := by decide +kernel
theorem dX8_codeBy_43 : decode cX8_codeBy 43 = .ok (.aload_n 0, 1) := by decide +kernel
theorem dX8_codeBy_44 : decode cX8_codeBy 44 = .ok (.getfield 29, 3) := by decide +kernel
theorem dX8_codeBy_47 : decode cX8_codeBy 47 = .ok (.iload 8, 2) := by decide +kernel
theorem dX8_codeBy_49 : decode cX8_codeBy 49 = .ok (.iaload, 1) := by decide +kernel
theorem dX8_codeBy_50 : decode cX8_codeBy 50 = .ok (.iadd, 1) := by decide +kernel
theorem dX8_codeBy_51 : decode cX8_codeBy 51 = .ok (.invokevirtual 106, 3) := by decide +kernel
theorem dX8_codeBy_54 : decode cX8_codeBy 54 = .ok (.iconst 1, 1) := by decide +kernel
theorem dX8_codeBy_55 : decode cX8_codeBy 55 = .ok (.isub, 1) := by decide +kernel
theorem dX8_codeBy_56 : decode cX8_codeBy 56 = .ok (.istore 10, 2) := by decide +kernel
theorem dX8_codeBy_58 : decode cX8_codeBy 58 = .ok (.iload 10, 2) := by decide +kernel
theorem dX8_codeBy_60 : decode cX8_codeBy 60 = .ok (.ifCond .lt 23, 3) := by decide +kernel
theorem dX8_codeBy_63 : decode cX8_codeBy 63 = .ok (.iload 6, 2) := by decide +kernel
theorem dX8_codeBy_65 : decode cX8_codeBy 65 = .ok (.iconst 2, 1) := by decide +kernel
theorem dX8_codeBy_66 : decode cX8_codeBy 66 = .ok (.if_icmp .ge 17, 3) := by decide +kernel
theorem dX8_codeBy_69 : decode cX8_codeBy 69 = .ok (.iload_n 2, 1) := by decide +kernel
theorem dX8_codeBy_70 : decode cX8_codeBy 70 = .ok (.iload 6, 2) := by decide +kernel
theorem dX8_codeBy_72 : decode cX8_codeBy 72 = .ok (.ishr, 1) := by decide +kernel
theorem dX8_codeBy_73 : decode cX8_codeBy 73 = .ok (.iconst 1, 1) := by decide +kernel
theorem dX8_codeBy_74 : decode cX8_codeBy 74 = .ok (.iand, 1) := by decide +kernel
theorem dX8_codeBy_75 : decode cX8_codeBy 75 = .ok (.iconst 1, 1) := by decide +kernel
theorem dX8_codeBy_76 : decode cX8_codeBy 76 = .ok (.if_icmp .ne 7, 3) := by decide +kernel
theorem dX8_codeBy_79 : decode cX8_codeBy 79 = .ok (.iconst 1, 1) := by decide +kernel
theorem dX8_codeBy_80 : decode cX8_codeBy 80 = .ok (.goto 4, 3) := by decide +kernel
theorem dX8_codeBy_83 : decode cX8_codeBy 83 = .ok (.iconst 0, 1) := by decide +kernel
theorem dX8_codeBy_84 : decode cX8_codeBy 84 = .ok (.istore 11, 2) := by decide +kernel
theorem dX8_codeBy_86 : decode cX8_codeBy 86 = .ok (.iload 11, 2) := by decide +kernel
theorem dX8_codeBy_88 : decode cX8_codeBy 88 = .ok (.ifCond .eq 8, 3) := by decide +kernel
theorem dX8_codeBy_91 : decode cX8_codeBy 91 = .ok (.iload 10, 2) := by decide +kernel
theorem dX8_codeBy_93 : decode cX8_codeBy 93 = .ok (.goto 17, 3) := by decide +kernel
theorem dX8_codeBy_96 : decode cX8_codeBy 96 = .ok (.aload_n 0, 1) := by decide +kernel
theorem dX8_codeBy_97 : decode cX8_codeBy 97 = .ok (.iload_n 1, 1) := by decide +kernel
theorem dX8_codeBy_98 : decode cX8_codeBy 98 = .ok (.iconst 0, 1) := by decide +kernel
theorem dX8_codeBy_99 : decode cX8_codeBy 99 = .ok (.aload_n 0, 1) := by decide +kernel
theorem dX8_codeBy_100 : decode cX8_codeBy 100 = .ok (.getfield 29, 3) := by decide +kernel
theorem dX8_codeBy_103 : decode cX8_codeBy 103 = .ok (.iload 8, 2) := by decide +kernel
theorem dX8_codeBy_105 : decode cX8_codeBy 105 = .ok (.iaload, 1) := by decide +kernel
theorem dX8_codeBy_106 : decode cX8_codeBy 106 = .ok (.iadd, 1) := by decide +kernel
theorem dX8_codeBy_107 : decode cX8_codeBy 107 = .ok (.invokevirtual 106, 3) := by decide +kernel
theorem dX8_codeBy_110 : decode cX8_codeBy 110 = .ok (.istore 9, 2) := by decide +kernel
theorem dX8_codeBy_112 : decode cX8_codeBy 112 = .ok (.iload 6, 2) := by decide +kernel
theorem dX8_codeBy_114 : decode cX8_codeBy 114 = .ok (.iload 10, 2) := by decide +kernel
theorem dX8_codeBy_116 : decode cX8_codeBy 116 = .ok (.ifCond .lt 7, 3) := by decide +kernel
theorem dX8_codeBy_119 : decode cX8_codeBy 119 = .ok (.iconst 1, 1) := by decide +kernel
theorem dX8_codeBy_120 : decode cX8_codeBy 120 = .ok (.goto 4, 3) := by decide +kernel
theorem dX8_codeBy_123 : decode cX8_codeBy 123 = .ok (.iconst 0, 1) := by decide +kernel
theorem dX8_codeBy_124 : decode cX8_codeBy 124 = .ok (.iadd, 1) := by decide +kernel
theorem dX8_codeBy_125 : decode cX8_codeBy 125 = .ok (.istore 6, 2) := by decide +kernel
theorem dX8_codeBy_127 : decode cX8_codeBy 127 = .ok (.iload 9, 2) := by decide +kernel
theorem dX8_codeBy_129 : decode cX8_codeBy 129 = .ok (.ifCond .le 34, 3) := by decide +kernel
theorem dX8_codeBy_132 : decode cX8_codeBy 132 = .ok (.iload 9, 2) := by decide +kernel
theorem dX8_codeBy_134 : decode cX8_codeBy 134 = .ok (.iload 7, 2) := by decide +kernel
theorem dX8_codeBy_136 : decode cX8_codeBy 136 = .ok (.if_icmp .eq 27, 3) := by decide +kernel
theorem dX8_codeBy_139 : decode cX8_codeBy 139 = .ok (.iload 5, 2) := by decide +kernel
theorem dX8_codeBy_141 : decode cX8_codeBy 141 = .ok (.aload_n 0, 1) := by decide +kernel
theorem dX8_codeBy_142 : decode cX8_codeBy 142 = .ok (.getfield 7, 3) := by decide +kernel
theorem dX8_codeBy_145 : decode cX8_codeBy 145 = .ok (.iconst 0, 1) := by decide +kernel
theorem dX8_codeBy_146 : decode cX8_codeBy 146 = .ok (.iaload, 1) := by decide +kernel
theorem dX8_codeBy_147 : decode cX8_codeBy 147 = .ok (.if_icmp .ge 16, 3) := by decide +kernel
theorem dX8_codeBy_150 : decode cX8_codeBy 150 = .ok (.ldc2_w 119, 3) := by decide +kernel
theorem dX8_codeBy_153 : decode cX8_codeBy 153 = .ok (.lload_n 3, 1) := by decide +kernel
theorem dX8_codeBy_154 : decode cX8_codeBy 154 = .ok (.lmul, 1) := by decide +kernel
theorem dX8_codeBy_155 : decode cX8_codeBy 155 = .ok (.iload 9, 2) := by decide +kernel
theorem dX8_codeBy_157 : decode cX8_codeBy 157 = .ok (.i2l, 1) := by decide +kernel
theorem dX8_codeBy_158 : decode cX8_codeBy 158 = .ok (.ladd, 1) := by decide +kernel
theorem dX8_codeBy_159 : decode cX8_codeBy 159 = .ok (.lstore_n 3, 1) := by decide +kernel
theorem dX8_codeBy_160 : decode cX8_codeBy 160 = .ok (.iinc 5 1, 3) := by decide +kernel
theorem dX8_codeBy_163 : decode cX8_codeBy 163 = .ok (.iload 9, 2) := by decide +kernel
theorem dX8_codeBy_165 : decode cX8_codeBy 165 = .ok (.istore 7, 2) := by decide +kernel
theorem dX8_codeBy_167 : decode cX8_codeBy 167 = .ok (.iinc 8 1, 3) := by decide +kernel
theorem dX8_codeBy_170 : decode cX8_codeBy 170 = .ok (.goto (-156), 3) := by decide +kernel
theorem dX8_codeBy_173 : decode cX8_codeBy 173 = .ok (.iload 5, 2) := by decide +kernel
theorem dX8_codeBy_175 : decode cX8_codeBy 175 = .ok (.istore 8, 2) := by decide +kernel
theorem dX8_codeBy_177 : decode cX8_codeBy 177 = .ok (.iload 8, 2) := by decide +kernel
theorem dX8_codeBy_179 : decode cX8_codeBy 179 = .ok (.iconst 5, 1) := by decide +kernel
theorem dX8_codeBy_180 : decode cX8_codeBy 180 = .ok (.if_icmp .ge 15, 3) := by decide +kernel
theorem dX8_codeBy_183 : decode cX8_codeBy 183 = .ok (.lload_n 3, 1) := by decide +kernel
theorem dX8_codeBy_184 : decode cX8_codeBy 184 = .ok (.ldc2_w 119, 3) := by decide +kernel
theorem dX8_codeBy_187 : decode cX8_codeBy 187 = .ok (.lmul, 1) := by decide +kernel
theorem dX8_codeBy_188 : decode cX8_codeBy 188 = .ok (.lstore_n 3, 1) := by decide +kernel
theorem dX8_codeBy_189 : decode cX8_codeBy 189 = .ok (.iinc 8 1, 3) := by decide +kernel
theorem dX8_codeBy_192 : decode cX8_codeBy 192 = .ok (.goto (-15), 3) := by decide +kernel
theorem dX8_codeBy_195 : decode cX8_codeBy 195 = .ok (.ldc2_w 121, 3) := by decide +kernel
theorem dX8_codeBy_198 : decode cX8_codeBy 198 = .ok (.iload 5, 2) := by decide +kernel
theorem dX8_codeBy_200 : decode cX8_codeBy 200 = .ok (.i2l, 1) := by decide +kernel
theorem dX8_codeBy_201 : decode cX8_codeBy 201 = .ok (.lmul, 1) := by decide +kernel
theorem dX8_codeBy_202 : decode cX8_codeBy 202 = .ok (.lload_n 3, 1) := by decide +kernel
theorem dX8_codeBy_203 : decode cX8_codeBy 203 = .ok (.ladd, 1) := by decide +kernel
theorem dX8_codeBy_204 : decode cX8_codeBy 204 = .ok (.lreturn, 1) := by decide +kernel
set_option maxRecDepth 20000 in
theorem ggX8_hearWord_X8_codeBy : GoodIn wsX8_hearWord wsX8_codeBy := goodIn_r _ [7, 8, 9, 10, 11, 12, 13, 14, 15, 6, 16, 17, 18, 19, 20, 21, 22, 23, 24, 25, 26, 27, 28, 29, 30, 31, 32, 33, 34, 35, 36, 37, 38, 39, 40, 41, 42, 43, 44, 45, 46] (by decide +kernel) (by decide +kernel)
set_option maxRecDepth 20000 in
theorem gX8_hearWord_X8_codeBy : GoodIn wsX8_hearWord (wsV RX8 126 RX8 yX8_codeBy wsX8_codeBy) := goodIn_app (goodIn_of _ (by decide +kernel)) ggX8_hearWord_X8_codeBy
theorem dX8_hearWord_0 : decode cX8_hearWord 0 = .ok (.aload_n 0, 1) := by decide +kernel
theorem dX8_hearWord_1 : decode cX8_hearWord 1 = .ok (.iconst 0, 1) := by decide +kernel
theorem dX8_hearWord_2 : decode cX8_hearWord 2 = .ok (.putfield 123, 3) := by decide +kernel
theorem dX8_hearWord_5 : decode cX8_hearWord 5 = .ok (.iconst 0, 1) := by decide +kernel
theorem dX8_hearWord_6 : decode cX8_hearWord 6 = .ok (.istore_n 2, 1) := by decide +kernel
theorem dX8_hearWord_7 : decode cX8_hearWord 7 = .ok (.iload_n 2, 1) := by decide +kernel
theorem dX8_hearWord_8 : decode cX8_hearWord 8 = .ok (.iconst 4, 1) := by decide +kernel
theorem dX8_hearWord_9 : decode cX8_hearWord 9 = .ok (.if_icmp .ge 86, 3) := by decide +kernel
theorem dX8_hearWord_12 : decode cX8_hearWord 12 = .ok (.aload_n 0, 1) := by decide +kernel
theorem dX8_hearWord_13 : decode cX8_hearWord 13 = .ok (.iload_n 1, 1) := by decide +kernel
theorem dX8_hearWord_14 : decode cX8_hearWord 14 = .ok (.iload_n 2, 1) := by decide +kernel
theorem dX8_hearWord_15 : decode cX8_hearWord 15 = .ok (.invokevirtual 126, 3) := by decide +kernel
theorem dX8_hearWord_18 : decode cX8_hearWord 18 = .ok (.lstore_n 3, 1) := by decide +kernel
theorem dX8_hearWord_19 : decode cX8_hearWord 19 = .ok (.iconst 1, 1) := by decide +kernel
theorem dX8_hearWord_20 : decode cX8_hearWord 20 = .ok (.istore 5, 2) := by decide +kernel
theorem dX8_hearWord_22 : decode cX8_hearWord 22 = .ok (.iconst 0, 1) := by decide +kernel
theorem dX8_hearWord_23 : decode cX8_hearWord 23 = .ok (.istore 6, 2) := by decide +kernel
theorem dX8_hearWord_25 : decode cX8_hearWord 25 = .ok (.iload 6, 2) := by decide +kernel
theorem dX8_hearWord_27 : decode cX8_hearWord 27 = .ok (.aload_n 0, 1) := by decide +kernel
theorem dX8_hearWord_28 : decode cX8_hearWord 28 = .ok (.getfield 123, 3) := by decide +kernel
theorem dX8_hearWord_31 : decode cX8_hearWord 31 = .ok (.if_icmp .ge 33, 3) := by decide +kernel
theorem dX8_hearWord_34 : decode cX8_hearWord 34 = .ok (.iload 5, 2) := by decide +kernel
theorem dX8_hearWord_36 : decode cX8_hearWord 36 = .ok (.ifCond .eq 19, 3) := by decide +kernel
theorem dX8_hearWord_39 : decode cX8_hearWord 39 = .ok (.aload_n 0, 1) := by decide +kernel
theorem dX8_hearWord_40 : decode cX8_hearWord 40 = .ok (.getfield 32, 3) := by decide +kernel
theorem dX8_hearWord_43 : decode cX8_hearWord 43 = .ok (.iload 6, 2) := by decide +kernel
theorem dX8_hearWord_45 : decode cX8_hearWord 45 = .ok (.laload, 1) := by decide +kernel
theorem dX8_hearWord_46 : decode cX8_hearWord 46 = .ok (.lload_n 3, 1) := by decide +kernel
theorem dX8_hearWord_47 : decode cX8_hearWord 47 = .ok (.lcmp, 1) := by decide +kernel
theorem dX8_hearWord_48 : decode cX8_hearWord 48 = .ok (.ifCond .eq 7, 3) := by decide +kernel
theorem dX8_hearWord_51 : decode cX8_hearWord 51 = .ok (.iconst 1, 1) := by decide +kernel
theorem dX8_hearWord_52 : decode cX8_hearWord 52 = .ok (.goto 4, 3) := by decide +kernel
theorem dX8_hearWord_55 : decode cX8_hearWord 55 = .ok (.iconst 0, 1) := by decide +kernel
theorem dX8_hearWord_56 : decode cX8_hearWord 56 = .ok (.istore 5, 2) := by decide +kernel
theorem dX8_hearWord_58 : decode cX8_hearWord 58 = .ok (.iinc 6 1, 3) := by decide +kernel
theorem dX8_hearWord_61 : decode cX8_hearWord 61 = .ok (.goto (-36), 3) := by decide +kernel
theorem dX8_hearWord_64 : decode cX8_hearWord 64 = .ok (.iload 5, 2) := by decide +kernel
theorem dX8_hearWord_66 : decode cX8_hearWord 66 = .ok (.ifCond .eq 23, 3) := by decide +kernel
theorem dX8_hearWord_69 : decode cX8_hearWord 69 = .ok (.aload_n 0, 1) := by decide +kernel
theorem dX8_hearWord_70 : decode cX8_hearWord 70 = .ok (.getfield 32, 3) := by decide +kernel
theorem dX8_hearWord_73 : decode cX8_hearWord 73 = .ok (.aload_n 0, 1) := by decide +kernel
theorem dX8_hearWord_74 : decode cX8_hearWord 74 = .ok (.getfield 123, 3) := by decide +kernel
theorem dX8_hearWord_77 : decode cX8_hearWord 77 = .ok (.lload_n 3, 1) := by decide +kernel
theorem dX8_hearWord_78 : decode cX8_hearWord 78 = .ok (.lastore, 1) := by decide +kernel
theorem dX8_hearWord_79 : decode cX8_hearWord 79 = .ok (.aload_n 0, 1) := by decide +kernel
theorem dX8_hearWord_80 : decode cX8_hearWord 80 = .ok (.dup, 1) := by decide +kernel
theorem dX8_hearWord_81 : decode cX8_hearWord 81 = .ok (.getfield 123, 3) := by decide +kernel
theorem dX8_hearWord_84 : decode cX8_hearWord 84 = .ok (.iconst 1, 1) := by decide +kernel
theorem dX8_hearWord_85 : decode cX8_hearWord 85 = .ok (.iadd, 1) := by decide +kernel
theorem dX8_hearWord_86 : decode cX8_hearWord 86 = .ok (.putfield 123, 3) := by decide +kernel
theorem dX8_hearWord_89 : decode cX8_hearWord 89 = .ok (.iinc 2 1, 3) := by decide +kernel
theorem dX8_hearWord_92 : decode cX8_hearWord 92 = .ok (.goto (-85), 3) := by decide +kernel
theorem dX8_hearWord_95 : decode cX8_hearWord 95 = .ok (.return_, 1) := by decide +kernel
theorem dX8_drawerWith_0 : decode cX8_drawerWith 0 = .ok (.bipush (-6), 2) := by decide +kernel
theorem dX8_drawerWith_2 : decode cX8_drawerWith 2 = .ok (.istore_n 3, 1) := by decide +kernel
theorem dX8_drawerWith_3 : decode cX8_drawerWith 3 = .ok (.aload_n 0, 1) := by decide +kernel
theorem dX8_drawerWith_4 : decode cX8_drawerWith 4 = .ok (.getfield 130, 3) := by decide +kernel
theorem dX8_drawerWith_7 : decode cX8_drawerWith 7 = .ok (.iconst 1, 1) := by decide +kernel
theorem dX8_drawerWith_8 : decode cX8_drawerWith 8 = .ok (.isub, 1) := by decide +kernel
theorem dX8_drawerWith_9 : decode cX8_drawerWith 9 = .ok (.istore 4, 2) := by decide +kernel
theorem dX8_drawerWith_11 : decode cX8_drawerWith 11 = .ok (.iload 4, 2) := by decide +kernel
theorem dX8_drawerWith_13 : decode cX8_drawerWith 13 = .ok (.ifCond .lt 28, 3) := by decide +kernel
theorem dX8_drawerWith_16 : decode cX8_drawerWith 16 = .ok (.aload_n 0, 1) := by decide +kernel
theorem dX8_drawerWith_17 : decode cX8_drawerWith 17 = .ok (.getfield 42, 3) := by decide +kernel
theorem dX8_drawerWith_20 : decode cX8_drawerWith 20 = .ok (.iload 4, 2) := by decide +kernel
theorem dX8_drawerWith_22 : decode cX8_drawerWith 22 = .ok (.laload, 1) := by decide +kernel
theorem dX8_drawerWith_23 : decode cX8_drawerWith 23 = .ok (.lload_n 1, 1) := by decide +kernel
theorem dX8_drawerWith_24 : decode cX8_drawerWith 24 = .ok (.lcmp, 1) := by decide +kernel
theorem dX8_drawerWith_25 : decode cX8_drawerWith 25 = .ok (.ifCond .ne 8, 3) := by decide +kernel
theorem dX8_drawerWith_28 : decode cX8_drawerWith 28 = .ok (.iload 4, 2) := by decide +kernel
theorem dX8_drawerWith_30 : decode cX8_drawerWith 30 = .ok (.goto 4, 3) := by decide +kernel
theorem dX8_drawerWith_33 : decode cX8_drawerWith 33 = .ok (.iload_n 3, 1) := by decide +kernel
theorem dX8_drawerWith_34 : decode cX8_drawerWith 34 = .ok (.istore_n 3, 1) := by decide +kernel
theorem dX8_drawerWith_35 : decode cX8_drawerWith 35 = .ok (.iinc 4 (-1), 3) := by decide +kernel
theorem dX8_drawerWith_38 : decode cX8_drawerWith 38 = .ok (.goto (-27), 3) := by decide +kernel
theorem dX8_drawerWith_41 : decode cX8_drawerWith 41 = .ok (.iload_n 3, 1) := by decide +kernel
theorem dX8_drawerWith_42 : decode cX8_drawerWith 42 = .ok (.ireturn, 1) := by decide +kernel
set_option maxRecDepth 20000 in
theorem ggX8_hearAll_X8_takeName : GoodIn wsX8_hearAll wsX8_takeName := goodIn_r _ [12, 13, 14, 15, 16, 17, 11, 18, 2, 19, 20, 21, 22, 53, 54, 55, 56, 57, 58, 59, 60, 61, 62, 63, 64, 65, 66, 67, 68, 69, 70] (by decide +kernel) (by decide +kernel)
set_option maxRecDepth 20000 in
theorem gX8_hearAll_X8_takeName : GoodIn wsX8_hearAll (wsV RX8 99 RX8 yX8_takeName wsX8_takeName) := goodIn_app (goodIn_of _ (by decide +kernel)) ggX8_hearAll_X8_takeName
set_option maxRecDepth 20000 in
theorem ggX8_hearAll_X8_hearWord : GoodIn wsX8_hearAll wsX8_hearWord := goodIn_r _ [26, 4, 6, 27, 28, 29, 11, 30, 13, 14, 2, 31, 32, 33, 34, 35, 36, 37, 38, 39, 40, 41, 42, 43, 44, 45, 46, 47, 48, 53, 54, 55, 56, 57, 58, 59, 60, 61, 62, 63, 64, 65, 66, 67, 68, 69, 70] (by decide +kernel) (by decide +kernel)
set_option maxRecDepth 20000 in
theorem gX8_hearAll_X8_hearWord : GoodIn wsX8_hearAll (wsV RX8 133 RX8 yX8_hearWord wsX8_hearWord) := goodIn_app (goodIn_of _ (by decide +kernel)) ggX8_hearAll_X8_hearWord
set_option maxRecDepth 20000 in
theorem ggX8_hearAll_X8_drawerWith : GoodIn wsX8_hearAll wsX8_drawerWith := goodIn_r _ [52, 1, 7, 53, 54, 55, 56, 57, 58, 59, 60, 61, 62, 63, 64, 65, 66, 67, 68, 69, 70] (by decide +kernel) (by decide +kernel)
set_option maxRecDepth 20000 in
theorem gX8_hearAll_X8_drawerWith : GoodIn wsX8_hearAll (wsV RX8 136 RX8 yX8_drawerWith wsX8_drawerWith) := goodIn_app (goodIn_of _ (by decide +kernel)) ggX8_hearAll_X8_drawerWith
theorem dX8_hearAll_0 : decode cX8_hearAll 0 = .ok (.aload_n 0, 1) := by decide +kernel
theorem dX8_hearAll_1 : decode cX8_hearAll 1 = .ok (.iconst 0, 1) := by decide +kernel
theorem dX8_hearAll_2 : decode cX8_hearAll 2 = .ok (.putfield 130, 3) := by decide +kernel
theorem dX8_hearAll_5 : decode cX8_hearAll 5 = .ok (.iconst 0, 1) := by decide +kernel
theorem dX8_hearAll_6 : decode cX8_hearAll 6 = .ok (.istore_n 2, 1) := by decide +kernel
theorem dX8_hearAll_7 : decode cX8_hearAll 7 = .ok (.iload_n 2, 1) := by decide +kernel
theorem dX8_hearAll_8 : decode cX8_hearAll 8 = .ok (.aload_n 0, 1) := by decide +kernel
theorem dX8_hearAll_9 : decode cX8_hearAll 9 = .ok (.getfield 7, 3) := by decide +kernel
theorem dX8_hearAll_12 : decode cX8_hearAll 12 = .ok (.iconst 2, 1) := by decide +kernel
theorem dX8_hearAll_13 : decode cX8_hearAll 13 = .ok (.iaload, 1) := by decide +kernel
theorem dX8_hearAll_14 : decode cX8_hearAll 14 = .ok (.if_icmp .ge 101, 3) := by decide +kernel
theorem dX8_hearAll_17 : decode cX8_hearAll 17 = .ok (.aload_n 0, 1) := by decide +kernel
theorem dX8_hearAll_18 : decode cX8_hearAll 18 = .ok (.iload_n 2, 1) := by decide +kernel
theorem dX8_hearAll_19 : decode cX8_hearAll 19 = .ok (.invokevirtual 99, 3) := by decide +kernel
theorem dX8_hearAll_22 : decode cX8_hearAll 22 = .ok (.aload_n 0, 1) := by decide +kernel
theorem dX8_hearAll_23 : decode cX8_hearAll 23 = .ok (.iload_n 1, 1) := by decide +kernel
theorem dX8_hearAll_24 : decode cX8_hearAll 24 = .ok (.invokevirtual 133, 3) := by decide +kernel
theorem dX8_hearAll_27 : decode cX8_hearAll 27 = .ok (.aload_n 0, 1) := by decide +kernel
theorem dX8_hearAll_28 : decode cX8_hearAll 28 = .ok (.getfield 39, 3) := by decide +kernel
theorem dX8_hearAll_31 : decode cX8_hearAll 31 = .ok (.iload_n 2, 1) := by decide +kernel
theorem dX8_hearAll_32 : decode cX8_hearAll 32 = .ok (.aload_n 0, 1) := by decide +kernel
theorem dX8_hearAll_33 : decode cX8_hearAll 33 = .ok (.getfield 123, 3) := by decide +kernel
theorem dX8_hearAll_36 : decode cX8_hearAll 36 = .ok (.iastore, 1) := by decide +kernel
theorem dX8_hearAll_37 : decode cX8_hearAll 37 = .ok (.iconst 0, 1) := by decide +kernel
theorem dX8_hearAll_38 : decode cX8_hearAll 38 = .ok (.istore_n 3, 1) := by decide +kernel
theorem dX8_hearAll_39 : decode cX8_hearAll 39 = .ok (.iload_n 3, 1) := by decide +kernel
theorem dX8_hearAll_40 : decode cX8_hearAll 40 = .ok (.aload_n 0, 1) := by decide +kernel
theorem dX8_hearAll_41 : decode cX8_hearAll 41 = .ok (.getfield 123, 3) := by decide +kernel
theorem dX8_hearAll_44 : decode cX8_hearAll 44 = .ok (.if_icmp .ge 65, 3) := by decide +kernel
theorem dX8_hearAll_47 : decode cX8_hearAll 47 = .ok (.aload_n 0, 1) := by decide +kernel
theorem dX8_hearAll_48 : decode cX8_hearAll 48 = .ok (.getfield 36, 3) := by decide +kernel
theorem dX8_hearAll_51 : decode cX8_hearAll 51 = .ok (.iconst 4, 1) := by decide +kernel
theorem dX8_hearAll_52 : decode cX8_hearAll 52 = .ok (.iload_n 2, 1) := by decide +kernel
theorem dX8_hearAll_53 : decode cX8_hearAll 53 = .ok (.imul, 1) := by decide +kernel
theorem dX8_hearAll_54 : decode cX8_hearAll 54 = .ok (.iload_n 3, 1) := by decide +kernel
theorem dX8_hearAll_55 : decode cX8_hearAll 55 = .ok (.iadd, 1) := by decide +kernel
theorem dX8_hearAll_56 : decode cX8_hearAll 56 = .ok (.aload_n 0, 1) := by decide +kernel
theorem dX8_hearAll_57 : decode cX8_hearAll 57 = .ok (.getfield 32, 3) := by decide +kernel
theorem dX8_hearAll_60 : decode cX8_hearAll 60 = .ok (.iload_n 3, 1) := by decide +kernel
theorem dX8_hearAll_61 : decode cX8_hearAll 61 = .ok (.laload, 1) := by decide +kernel
theorem dX8_hearAll_62 : decode cX8_hearAll 62 = .ok (.lastore, 1) := by decide +kernel
theorem dX8_hearAll_63 : decode cX8_hearAll 63 = .ok (.aload_n 0, 1) := by decide +kernel
theorem dX8_hearAll_64 : decode cX8_hearAll 64 = .ok (.aload_n 0, 1) := by decide +kernel
theorem dX8_hearAll_65 : decode cX8_hearAll 65 = .ok (.getfield 32, 3) := by decide +kernel
theorem dX8_hearAll_68 : decode cX8_hearAll 68 = .ok (.iload_n 3, 1) := by decide +kernel
theorem dX8_hearAll_69 : decode cX8_hearAll 69 = .ok (.laload, 1) := by decide +kernel
theorem dX8_hearAll_70 : decode cX8_hearAll 70 = .ok (.invokevirtual 136, 3) := by decide +kernel
theorem dX8_hearAll_73 : decode cX8_hearAll 73 = .ok (.bipush (-6), 2) := by decide +kernel
theorem dX8_hearAll_75 : decode cX8_hearAll 75 = .ok (.if_icmp .ne 28, 3) := by decide +kernel
theorem dX8_hearAll_78 : decode cX8_hearAll 78 = .ok (.aload_n 0, 1) := by decide +kernel
theorem dX8_hearAll_79 : decode cX8_hearAll 79 = .ok (.getfield 42, 3) := by decide +kernel
theorem dX8_hearAll_82 : decode cX8_hearAll 82 = .ok (.aload_n 0, 1) := by decide +kernel
theorem dX8_hearAll_83 : decode cX8_hearAll 83 = .ok (.getfield 130, 3) := by decide +kernel
theorem dX8_hearAll_86 : decode cX8_hearAll 86 = .ok (.aload_n 0, 1) := by decide +kernel
theorem dX8_hearAll_87 : decode cX8_hearAll 87 = .ok (.getfield 32, 3) := by decide +kernel
theorem dX8_hearAll_90 : decode cX8_hearAll 90 = .ok (.iload_n 3, 1) := by decide +kernel
theorem dX8_hearAll_91 : decode cX8_hearAll 91 = .ok (.laload, 1) := by decide +kernel
theorem dX8_hearAll_92 : decode cX8_hearAll 92 = .ok (.lastore, 1) := by decide +kernel
theorem dX8_hearAll_93 : decode cX8_hearAll 93 = .ok (.aload_n 0, 1) := by decide +kernel
theorem dX8_hearAll_94 : decode cX8_hearAll 94 = .ok (.dup, 1) := by decide +kernel
theorem dX8_hearAll_95 : decode cX8_hearAll 95 = .ok (.getfield 130, 3) := by decide +kernel
theorem dX8_hearAll_98 : decode cX8_hearAll 98 = .ok (.iconst 1, 1) := by decide +kernel
theorem dX8_hearAll_99 : decode cX8_hearAll 99 = .ok (.iadd, 1) := by decide +kernel
theorem dX8_hearAll_100 : decode cX8_hearAll 100 = .ok (.putfield 130, 3) := by decide +kernel
theorem dX8_hearAll_103 : decode cX8_hearAll 103 = .ok (.iinc 3 1, 3) := by decide +kernel
theorem dX8_hearAll_106 : decode cX8_hearAll 106 = .ok (.goto (-67), 3) := by decide +kernel
theorem dX8_hearAll_109 : decode cX8_hearAll 109 = .ok (.iinc 2 1, 3) := by decide +kernel
theorem dX8_hearAll_112 : decode cX8_hearAll 112 = .ok (.goto (-105), 3) := by decide +kernel
theorem dX8_hearAll_115 : decode cX8_hearAll 115 = .ok (.return_, 1) := by decide +kernel
theorem dX8_hasCode_0 : decode cX8_hasCode 0 = .ok (.iconst 0, 1) := by decide +kernel
theorem dX8_hasCode_1 : decode cX8_hasCode 1 = .ok (.istore 4, 2) := by decide +kernel
theorem dX8_hasCode_3 : decode cX8_hasCode 3 = .ok (.iconst 0, 1) := by decide +kernel
theorem dX8_hasCode_4 : decode cX8_hasCode 4 = .ok (.istore 5, 2) := by decide +kernel
theorem dX8_hasCode_6 : decode cX8_hasCode 6 = .ok (.iload 5, 2) := by decide +kernel
theorem dX8_hasCode_8 : decode cX8_hasCode 8 = .ok (.aload_n 0, 1) := by decide +kernel
theorem dX8_hasCode_9 : decode cX8_hasCode 9 = .ok (.getfield 39, 3) := by decide +kernel
theorem dX8_hasCode_12 : decode cX8_hasCode 12 = .ok (.iload_n 1, 1) := by decide +kernel
theorem dX8_hasCode_13 : decode cX8_hasCode 13 = .ok (.iaload, 1) := by decide +kernel
theorem dX8_hasCode_14 : decode cX8_hasCode 14 = .ok (.if_icmp .ge 37, 3) := by decide +kernel
theorem dX8_hasCode_17 : decode cX8_hasCode 17 = .ok (.iload 4, 2) := by decide +kernel
theorem dX8_hasCode_19 : decode cX8_hasCode 19 = .ok (.ifCond .ne 19, 3) := by decide +kernel
theorem dX8_hasCode_22 : decode cX8_hasCode 22 = .ok (.aload_n 0, 1) := by decide +kernel
theorem dX8_hasCode_23 : decode cX8_hasCode 23 = .ok (.getfield 36, 3) := by decide +kernel
theorem dX8_hasCode_26 : decode cX8_hasCode 26 = .ok (.iconst 4, 1) := by decide +kernel
theorem dX8_hasCode_27 : decode cX8_hasCode 27 = .ok (.iload_n 1, 1) := by decide +kernel
theorem dX8_hasCode_28 : decode cX8_hasCode 28 = .ok (.imul, 1) := by decide +kernel
theorem dX8_hasCode_29 : decode cX8_hasCode 29 = .ok (.iload 5, 2) := by decide +kernel
theorem dX8_hasCode_31 : decode cX8_hasCode 31 = .ok (.iadd, 1) := by decide +kernel
theorem dX8_hasCode_32 : decode cX8_hasCode 32 = .ok (.laload, 1) := by decide +kernel
theorem dX8_hasCode_33 : decode cX8_hasCode 33 = .ok (.lload_n 2, 1) := by decide +kernel
theorem dX8_hasCode_34 : decode cX8_hasCode 34 = .ok (.lcmp, 1) := by decide +kernel
theorem dX8_hasCode_35 : decode cX8_hasCode 35 = .ok (.ifCond .ne 7, 3) := by decide +kernel
theorem dX8_hasCode_38 : decode cX8_hasCode 38 = .ok (.iconst 1, 1) := by decide +kernel
theorem dX8_hasCode_39 : decode cX8_hasCode 39 = .ok (.goto 4, 3) := by decide +kernel
theorem dX8_hasCode_42 : decode cX8_hasCode 42 = .ok (.iconst 0, 1) := by decide +kernel
theorem dX8_hasCode_43 : decode cX8_hasCode 43 = .ok (.istore 4, 2) := by decide +kernel
theorem dX8_hasCode_45 : decode cX8_hasCode 45 = .ok (.iinc 5 1, 3) := by decide +kernel
theorem dX8_hasCode_48 : decode cX8_hasCode 48 = .ok (.goto (-42), 3) := by decide +kernel
theorem dX8_hasCode_51 : decode cX8_hasCode 51 = .ok (.iload 4, 2) := by decide +kernel
theorem dX8_hasCode_53 : decode cX8_hasCode 53 = .ok (.ireturn, 1) := by decide +kernel
set_option maxRecDepth 20000 in
theorem ggX8_haveCommon_X8_hasCode : GoodIn wsX8_haveCommon wsX8_hasCode := goodIn_r _ [7, 1, 2, 8, 9, 10, 11, 12, 13, 14, 15, 16, 17, 18, 19, 20, 21, 22, 23, 24, 25] (by decide +kernel) (by decide +kernel)
set_option maxRecDepth 20000 in
theorem gX8_haveCommon_X8_hasCode : GoodIn wsX8_haveCommon (wsV RX8 140 RX8 yX8_hasCode wsX8_hasCode) := goodIn_app (goodIn_of _ (by decide +kernel)) ggX8_haveCommon_X8_hasCode
theorem dX8_haveCommon_0 : decode cX8_haveCommon 0 = .ok (.iconst 0, 1) := by decide +kernel
theorem dX8_haveCommon_1 : decode cX8_haveCommon 1 = .ok (.istore_n 3, 1) := by decide +kernel
theorem dX8_haveCommon_2 : decode cX8_haveCommon 2 = .ok (.iconst 0, 1) := by decide +kernel
theorem dX8_haveCommon_3 : decode cX8_haveCommon 3 = .ok (.istore 4, 2) := by decide +kernel
theorem dX8_haveCommon_5 : decode cX8_haveCommon 5 = .ok (.iload 4, 2) := by decide +kernel
theorem dX8_haveCommon_7 : decode cX8_haveCommon 7 = .ok (.aload_n 0, 1) := by decide +kernel
theorem dX8_haveCommon_8 : decode cX8_haveCommon 8 = .ok (.getfield 39, 3) := by decide +kernel
theorem dX8_haveCommon_11 : decode cX8_haveCommon 11 = .ok (.iload_n 1, 1) := by decide +kernel
theorem dX8_haveCommon_12 : decode cX8_haveCommon 12 = .ok (.iaload, 1) := by decide +kernel
theorem dX8_haveCommon_13 : decode cX8_haveCommon 13 = .ok (.if_icmp .ge 38, 3) := by decide +kernel
theorem dX8_haveCommon_16 : decode cX8_haveCommon 16 = .ok (.iload_n 3, 1) := by decide +kernel
theorem dX8_haveCommon_17 : decode cX8_haveCommon 17 = .ok (.ifCond .ne 22, 3) := by decide +kernel
theorem dX8_haveCommon_20 : decode cX8_haveCommon 20 = .ok (.aload_n 0, 1) := by decide +kernel
theorem dX8_haveCommon_21 : decode cX8_haveCommon 21 = .ok (.iload_n 2, 1) := by decide +kernel
theorem dX8_haveCommon_22 : decode cX8_haveCommon 22 = .ok (.aload_n 0, 1) := by decide +kernel
theorem dX8_haveCommon_23 : decode cX8_haveCommon 23 = .ok (.getfield 36, 3) := by decide +kernel
theorem dX8_haveCommon_26 : decode cX8_haveCommon 26 = .ok (.iconst 4, 1) := by decide +kernel
theorem dX8_haveCommon_27 : decode cX8_haveCommon 27 = .ok (.iload_n 1, 1) := by decide +kernel
theorem dX8_haveCommon_28 : decode cX8_haveCommon 28 = .ok (.imul, 1) := by decide +kernel
theorem dX8_haveCommon_29 : decode cX8_haveCommon 29 = .ok (.iload 4, 2) := by decide +kernel
theorem dX8_haveCommon_31 : decode cX8_haveCommon 31 = .ok (.iadd, 1) := by decide +kernel
theorem dX8_haveCommon_32 : decode cX8_haveCommon 32 = .ok (.laload, 1) := by decide +kernel
theorem dX8_haveCommon_33 : decode cX8_haveCommon 33 = .ok (.invokevirtual 140, 3) := by decide +kernel
theorem dX8_haveCommon_36 : decode cX8_haveCommon 36 = .ok (.ifCond .eq 7, 3) := by decide +kernel
theorem dX8_haveCommon_39 : decode cX8_haveCommon 39 = .ok (.iconst 1, 1) := by decide +kernel
theorem dX8_haveCommon_40 : decode cX8_haveCommon 40 = .ok (.goto 4, 3) := by decide +kernel
theorem dX8_haveCommon_43 : decode cX8_haveCommon 43 = .ok (.iconst 0, 1) := by decide +kernel
theorem dX8_haveCommon_44 : decode cX8_haveCommon 44 = .ok (.istore_n 3, 1) := by decide +kernel
theorem dX8_haveCommon_45 : decode cX8_haveCommon 45 = .ok (.iinc 4 1, 3) := by decide +kernel
theorem dX8_haveCommon_48 : decode cX8_haveCommon 48 = .ok (.goto (-43), 3) := by decide +kernel
theorem dX8_haveCommon_51 : decode cX8_haveCommon 51 = .ok (.iload_n 3, 1) := by decide +kernel
theorem dX8_haveCommon_52 : decode cX8_haveCommon 52 = .ok (.ireturn, 1) := by decide +kernel
set_option maxRecDepth 20000 in
theorem ggX8_namesWith_X8_hasCode : GoodIn wsX8_namesWith wsX8_hasCode := goodIn_r _ [6, 7, 8, 9, 10, 11, 12, 13, 14, 15, 16, 17, 18, 19, 20, 21, 22, 23, 24, 25, 26] (by decide +kernel) (by decide +kernel)
set_option maxRecDepth 20000 in
theorem gX8_namesWith_X8_hasCode : GoodIn wsX8_namesWith (wsV RX8 140 RX8 yX8_hasCode wsX8_hasCode) := goodIn_app (goodIn_of _ (by decide +kernel)) ggX8_namesWith_X8_hasCode
theorem dX8_namesWith_0 : decode cX8_namesWith 0 = .ok (.iconst 0, 1) := by decide +kernel
theorem dX8_namesWith_1 : decode cX8_namesWith 1 = .ok (.istore_n 3, 1) := by decide +kernel
theorem dX8_namesWith_2 : decode cX8_namesWith 2 = .ok (.iconst 0, 1) := by decide +kernel
theorem dX8_namesWith_3 : decode cX8_namesWith 3 = .ok (.istore 4, 2) := by decide +kernel
theorem dX8_namesWith_5 : decode cX8_namesWith 5 = .ok (.iload 4, 2) := by decide +kernel
theorem dX8_namesWith_7 : decode cX8_namesWith 7 = .ok (.aload_n 0, 1) := by decide +kernel
theorem dX8_namesWith_8 : decode cX8_namesWith 8 = .ok (.getfield 7, 3) := by decide +kernel
theorem dX8_namesWith_11 : decode cX8_namesWith 11 = .ok (.iconst 2, 1) := by decide +kernel
theorem dX8_namesWith_12 : decode cX8_namesWith 12 = .ok (.iaload, 1) := by decide +kernel
theorem dX8_namesWith_13 : decode cX8_namesWith 13 = .ok (.if_icmp .ge 30, 3) := by decide +kernel
theorem dX8_namesWith_16 : decode cX8_namesWith 16 = .ok (.iload_n 3, 1) := by decide +kernel
theorem dX8_namesWith_17 : decode cX8_namesWith 17 = .ok (.aload_n 0, 1) := by decide +kernel
theorem dX8_namesWith_18 : decode cX8_namesWith 18 = .ok (.iload 4, 2) := by decide +kernel
theorem dX8_namesWith_20 : decode cX8_namesWith 20 = .ok (.lload_n 1, 1) := by decide +kernel
theorem dX8_namesWith_21 : decode cX8_namesWith 21 = .ok (.invokevirtual 140, 3) := by decide +kernel
theorem dX8_namesWith_24 : decode cX8_namesWith 24 = .ok (.ifCond .eq 10, 3) := by decide +kernel
theorem dX8_namesWith_27 : decode cX8_namesWith 27 = .ok (.iconst 1, 1) := by decide +kernel
theorem dX8_namesWith_28 : decode cX8_namesWith 28 = .ok (.iload 4, 2) := by decide +kernel
theorem dX8_namesWith_30 : decode cX8_namesWith 30 = .ok (.ishl, 1) := by decide +kernel
theorem dX8_namesWith_31 : decode cX8_namesWith 31 = .ok (.goto 4, 3) := by decide +kernel
theorem dX8_namesWith_34 : decode cX8_namesWith 34 = .ok (.iconst 0, 1) := by decide +kernel
theorem dX8_namesWith_35 : decode cX8_namesWith 35 = .ok (.ior, 1) := by decide +kernel
theorem dX8_namesWith_36 : decode cX8_namesWith 36 = .ok (.istore_n 3, 1) := by decide +kernel
theorem dX8_namesWith_37 : decode cX8_namesWith 37 = .ok (.iinc 4 1, 3) := by decide +kernel
theorem dX8_namesWith_40 : decode cX8_namesWith 40 = .ok (.goto (-35), 3) := by decide +kernel
theorem dX8_namesWith_43 : decode cX8_namesWith 43 = .ok (.iload_n 3, 1) := by decide +kernel
theorem dX8_namesWith_44 : decode cX8_namesWith 44 = .ok (.ireturn, 1) := by decide +kernel
theorem dX8_bits_0 : decode cX8_bits 0 = .ok (.iconst 0, 1) := by decide +kernel
theorem dX8_bits_1 : decode cX8_bits 1 = .ok (.istore_n 1, 1) := by decide +kernel
theorem dX8_bits_2 : decode cX8_bits 2 = .ok (.iconst 0, 1) := by decide +kernel
theorem dX8_bits_3 : decode cX8_bits 3 = .ok (.istore_n 2, 1) := by decide +kernel
theorem dX8_bits_4 : decode cX8_bits 4 = .ok (.iload_n 2, 1) := by decide +kernel
theorem dX8_bits_5 : decode cX8_bits 5 = .ok (.bipush 26, 2) := by decide +kernel
theorem dX8_bits_7 : decode cX8_bits 7 = .ok (.if_icmp .ge 17, 3) := by decide +kernel
theorem dX8_bits_10 : decode cX8_bits 10 = .ok (.iload_n 1, 1) := by decide +kernel
theorem dX8_bits_11 : decode cX8_bits 11 = .ok (.iload_n 0, 1) := by decide +kernel
theorem dX8_bits_12 : decode cX8_bits 12 = .ok (.iload_n 2, 1) := by decide +kernel
theorem dX8_bits_13 : decode cX8_bits 13 = .ok (.ishr, 1) := by decide +kernel
theorem dX8_bits_14 : decode cX8_bits 14 = .ok (.iconst 1, 1) := by decide +kernel
theorem dX8_bits_15 : decode cX8_bits 15 = .ok (.iand, 1) := by decide +kernel
theorem dX8_bits_16 : decode cX8_bits 16 = .ok (.iadd, 1) := by decide +kernel
theorem dX8_bits_17 : decode cX8_bits 17 = .ok (.istore_n 1, 1) := by decide +kernel
theorem dX8_bits_18 : decode cX8_bits 18 = .ok (.iinc 2 1, 3) := by decide +kernel
theorem dX8_bits_21 : decode cX8_bits 21 = .ok (.goto (-17), 3) := by decide +kernel
theorem dX8_bits_24 : decode cX8_bits 24 = .ok (.iload_n 1, 1) := by decide +kernel
theorem dX8_bits_25 : decode cX8_bits 25 = .ok (.ireturn, 1) := by decide +kernel
set_option maxRecDepth 20000 in
theorem ggX8_likeOnes_X8_haveCommon : GoodIn wsX8_likeOnes wsX8_haveCommon := goodIn_r _ [6, 7, 8, 9, 10, 11, 5, 12, 13, 14, 15, 16, 17, 18, 19, 20, 21, 22, 23, 24, 25, 26, 27, 28, 29, 30] (by decide +kernel) (by decide +kernel)
set_option maxRecDepth 20000 in
theorem gX8_likeOnes_X8_haveCommon : GoodIn wsX8_likeOnes (wsV RX8 144 RX8 yX8_haveCommon wsX8_haveCommon) := goodIn_app (goodIn_of _ (by decide +kernel)) ggX8_likeOnes_X8_haveCommon
theorem dX8_likeOnes_0 : decode cX8_likeOnes 0 = .ok (.iconst 0, 1) := by decide +kernel
theorem dX8_likeOnes_1 : decode cX8_likeOnes 1 = .ok (.istore_n 2, 1) := by decide +kernel
theorem dX8_likeOnes_2 : decode cX8_likeOnes 2 = .ok (.iconst 0, 1) := by decide +kernel
theorem dX8_likeOnes_3 : decode cX8_likeOnes 3 = .ok (.istore_n 3, 1) := by decide +kernel
theorem dX8_likeOnes_4 : decode cX8_likeOnes 4 = .ok (.iload_n 3, 1) := by decide +kernel
theorem dX8_likeOnes_5 : decode cX8_likeOnes 5 = .ok (.aload_n 0, 1) := by decide +kernel
theorem dX8_likeOnes_6 : decode cX8_likeOnes 6 = .ok (.getfield 7, 3) := by decide +kernel
theorem dX8_likeOnes_9 : decode cX8_likeOnes 9 = .ok (.iconst 2, 1) := by decide +kernel
theorem dX8_likeOnes_10 : decode cX8_likeOnes 10 = .ok (.iaload, 1) := by decide +kernel
theorem dX8_likeOnes_11 : decode cX8_likeOnes 11 = .ok (.if_icmp .ge 28, 3) := by decide +kernel
theorem dX8_likeOnes_14 : decode cX8_likeOnes 14 = .ok (.iload_n 2, 1) := by decide +kernel
theorem dX8_likeOnes_15 : decode cX8_likeOnes 15 = .ok (.aload_n 0, 1) := by decide +kernel
theorem dX8_likeOnes_16 : decode cX8_likeOnes 16 = .ok (.iload_n 1, 1) := by decide +kernel
theorem dX8_likeOnes_17 : decode cX8_likeOnes 17 = .ok (.iload_n 3, 1) := by decide +kernel
theorem dX8_likeOnes_18 : decode cX8_likeOnes 18 = .ok (.invokevirtual 144, 3) := by decide +kernel
theorem dX8_likeOnes_21 : decode cX8_likeOnes 21 = .ok (.ifCond .eq 9, 3) := by decide +kernel
theorem dX8_likeOnes_24 : decode cX8_likeOnes 24 = .ok (.iconst 1, 1) := by decide +kernel
theorem dX8_likeOnes_25 : decode cX8_likeOnes 25 = .ok (.iload_n 3, 1) := by decide +kernel
theorem dX8_likeOnes_26 : decode cX8_likeOnes 26 = .ok (.ishl, 1) := by decide +kernel
theorem dX8_likeOnes_27 : decode cX8_likeOnes 27 = .ok (.goto 4, 3) := by decide +kernel
theorem dX8_likeOnes_30 : decode cX8_likeOnes 30 = .ok (.iconst 0, 1) := by decide +kernel
theorem dX8_likeOnes_31 : decode cX8_likeOnes 31 = .ok (.ior, 1) := by decide +kernel
theorem dX8_likeOnes_32 : decode cX8_likeOnes 32 = .ok (.istore_n 2, 1) := by decide +kernel
theorem dX8_likeOnes_33 : decode cX8_likeOnes 33 = .ok (.iinc 3 1, 3) := by decide +kernel
theorem dX8_likeOnes_36 : decode cX8_likeOnes 36 = .ok (.goto (-32), 3) := by decide +kernel
theorem dX8_likeOnes_39 : decode cX8_likeOnes 39 = .ok (.iload_n 2, 1) := by decide +kernel
theorem dX8_likeOnes_40 : decode cX8_likeOnes 40 = .ok (.ireturn, 1) := by decide +kernel
set_option maxRecDepth 20000 in
theorem ggX8_pairs_X8_hearAll : GoodIn wsX8_pairs wsX8_hearAll := goodIn_r _ [6, 7, 1, 8, 9, 10, 11, 12, 13, 14, 15, 5, 16, 17, 18, 19, 20, 21, 22, 23, 24, 25, 26, 27, 28, 29, 30, 31, 32, 33, 34, 35, 36, 37, 38, 39, 40, 41, 42, 43, 44, 45, 46, 47, 48, 49, 50, 51, 52, 53, 54, 55, 56, 72, 73, 74, 75, 76, 77, 78, 79, 80, 81, 82, 83, 84, 85, 86, 87, 88, 89] (by decide +kernel) (by decide +kernel)
set_option maxRecDepth 20000 in
theorem gX8_pairs_X8_hearAll : GoodIn wsX8_pairs (wsV RX8 147 RX8 yX8_hearAll wsX8_hearAll) := goodIn_app (goodIn_of _ (by decide +kernel)) ggX8_pairs_X8_hearAll
set_option maxRecDepth 20000 in
theorem ggX8_pairs_X8_likeOnes : GoodIn wsX8_pairs wsX8_likeOnes := goodIn_r _ [60, 1, 61, 62, 63, 5, 64, 8, 10, 65, 66, 67, 68, 72, 73, 74, 75, 76, 77, 78, 79, 80, 81, 82, 83, 84, 85, 86, 87, 88, 89] (by decide +kernel) (by decide +kernel)
set_option maxRecDepth 20000 in
theorem gX8_pairs_X8_likeOnes : GoodIn wsX8_pairs (wsV RX8 150 RX8 yX8_likeOnes wsX8_likeOnes) := goodIn_app (goodIn_of _ (by decide +kernel)) ggX8_pairs_X8_likeOnes
set_option maxRecDepth 20000 in
theorem ggX8_pairs_X8_bits : GoodIn wsX8_pairs wsX8_bits := goodIn_r _ [71] (by decide +kernel) (by decide +kernel)
set_option maxRecDepth 20000 in
theorem gX8_pairs_X8_bits : GoodIn wsX8_pairs (va_wsS RX8 153 yX8_bits wsX8_bits) := goodIn_app (goodIn_of _ (by decide +kernel)) ggX8_pairs_X8_bits
theorem dX8_pairs_0 : decode cX8_pairs 0 = .ok (.aload_n 0, 1) := by decide +kernel
theorem dX8_pairs_1 : decode cX8_pairs 1 = .ok (.iload_n 1, 1) := by decide +kernel
theorem dX8_pairs_2 : decode cX8_pairs 2 = .ok (.invokevirtual 147, 3) := by decide +kernel
theorem dX8_pairs_5 : decode cX8_pairs 5 = .ok (.iconst 0, 1) := by decide +kernel
theorem dX8_pairs_6 : decode cX8_pairs 6 = .ok (.istore_n 2, 1) := by decide +kernel
theorem dX8_pairs_7 : decode cX8_pairs 7 = .ok (.iconst 0, 1) := by decide +kernel
theorem dX8_pairs_8 : decode cX8_pairs 8 = .ok (.istore_n 3, 1) := by decide +kernel
theorem dX8_pairs_9 : decode cX8_pairs 9 = .ok (.iload_n 3, 1) := by decide +kernel
theorem dX8_pairs_10 : decode cX8_pairs 10 = .ok (.aload_n 0, 1) := by decide +kernel
theorem dX8_pairs_11 : decode cX8_pairs 11 = .ok (.getfield 7, 3) := by decide +kernel
theorem dX8_pairs_14 : decode cX8_pairs 14 = .ok (.iconst 2, 1) := by decide +kernel
theorem dX8_pairs_15 : decode cX8_pairs 15 = .ok (.iaload, 1) := by decide +kernel
theorem dX8_pairs_16 : decode cX8_pairs 16 = .ok (.if_icmp .ge 22, 3) := by decide +kernel
theorem dX8_pairs_19 : decode cX8_pairs 19 = .ok (.iload_n 2, 1) := by decide +kernel
theorem dX8_pairs_20 : decode cX8_pairs 20 = .ok (.aload_n 0, 1) := by decide +kernel
theorem dX8_pairs_21 : decode cX8_pairs 21 = .ok (.iload_n 3, 1) := by decide +kernel
theorem dX8_pairs_22 : decode cX8_pairs 22 = .ok (.invokevirtual 150, 3) := by decide +kernel
theorem dX8_pairs_25 : decode cX8_pairs 25 = .ok (.invokestatic 153, 3) := by decide +kernel
theorem dX8_pairs_28 : decode cX8_pairs 28 = .ok (.iconst 1, 1) := by decide +kernel
theorem dX8_pairs_29 : decode cX8_pairs 29 = .ok (.isub, 1) := by decide +kernel
theorem dX8_pairs_30 : decode cX8_pairs 30 = .ok (.iadd, 1) := by decide +kernel
theorem dX8_pairs_31 : decode cX8_pairs 31 = .ok (.istore_n 2, 1) := by decide +kernel
theorem dX8_pairs_32 : decode cX8_pairs 32 = .ok (.iinc 3 1, 3) := by decide +kernel
theorem dX8_pairs_35 : decode cX8_pairs 35 = .ok (.goto (-26), 3) := by decide +kernel
theorem dX8_pairs_38 : decode cX8_pairs 38 = .ok (.iload_n 2, 1) := by decide +kernel
theorem dX8_pairs_39 : decode cX8_pairs 39 = .ok (.iconst 2, 1) := by decide +kernel
theorem dX8_pairs_40 : decode cX8_pairs 40 = .ok (.idiv, 1) := by decide +kernel
theorem dX8_pairs_41 : decode cX8_pairs 41 = .ok (.ireturn, 1) := by decide +kernel
theorem dX8_firstKind_0 : decode cX8_firstKind 0 = .ok (.iload_n 0, 1) := by decide +kernel
theorem dX8_firstKind_1 : decode cX8_firstKind 1 = .ok (.tableswitch 128 0 24 #[115, 117, 128, 119, 115, 117, 128, 115, 115, 128, 128, 121, 123, 123, 115, 117, 128, 125, 128, 119, 115, 117, 115, 128, 115], 115) := by decide +kernel
theorem dX8_firstKind_116 : decode cX8_firstKind 116 = .ok (.iconst 0, 1) := by decide +kernel
theorem dX8_firstKind_117 : decode cX8_firstKind 117 = .ok (.ireturn, 1) := by decide +kernel
theorem dX8_firstKind_118 : decode cX8_firstKind 118 = .ok (.iconst 1, 1) := by decide +kernel
theorem dX8_firstKind_119 : decode cX8_firstKind 119 = .ok (.ireturn, 1) := by decide +kernel
theorem dX8_firstKind_120 : decode cX8_firstKind 120 = .ok (.iconst 3, 1) := by decide +kernel
theorem dX8_firstKind_121 : decode cX8_firstKind 121 = .ok (.ireturn, 1) := by decide +kernel
theorem dX8_firstKind_122 : decode cX8_firstKind 122 = .ok (.iconst 4, 1) := by decide +kernel
theorem dX8_firstKind_123 : decode cX8_firstKind 123 = .ok (.ireturn, 1) := by decide +kernel
theorem dX8_firstKind_124 : decode cX8_firstKind 124 = .ok (.iconst 5, 1) := by decide +kernel
theorem dX8_firstKind_125 : decode cX8_firstKind 125 = .ok (.ireturn, 1) := by decide +kernel
theorem dX8_firstKind_126 : decode cX8_firstKind 126 = .ok (.bipush 6, 2) := by decide +kernel
theorem dX8_firstKind_128 : decode cX8_firstKind 128 = .ok (.ireturn, 1) := by decide +kernel
theorem dX8_firstKind_129 : decode cX8_firstKind 129 = .ok (.iconst 2, 1) := by decide +kernel
theorem dX8_firstKind_130 : decode cX8_firstKind 130 = .ok (.ireturn, 1) := by decide +kernel
set_option maxRecDepth 20000 in
theorem ggX8_ear_X8_isEar : GoodIn wsX8_ear wsX8_isEar := goodIn_r _ [6, 1, 7, 8, 5, 9, 30, 31, 32, 33, 34, 35, 36, 37, 38, 39, 40, 41, 42, 43, 44, 45, 46, 47] (by decide +kernel) (by decide +kernel)
set_option maxRecDepth 20000 in
theorem gX8_ear_X8_isEar : GoodIn wsX8_ear (wsV RX8 156 RX8 yX8_isEar wsX8_isEar) := goodIn_app (goodIn_of _ (by decide +kernel)) ggX8_ear_X8_isEar
set_option maxRecDepth 20000 in
theorem ggX8_ear_X8_record : GoodIn wsX8_ear wsX8_record := goodIn_r _ [13, 14, 15, 1, 16, 17, 5, 18, 30, 31, 32, 33, 34, 35, 36, 37, 38, 39, 40, 41, 42, 43, 44, 45, 46, 47] (by decide +kernel) (by decide +kernel)
set_option maxRecDepth 20000 in
theorem gX8_ear_X8_record : GoodIn wsX8_ear (wsV RX8 63 RX8 yX8_record wsX8_record) := goodIn_app (goodIn_of _ (by decide +kernel)) ggX8_ear_X8_record
set_option maxRecDepth 20000 in
theorem ggX8_ear_X8_at : GoodIn wsX8_ear wsX8_at := goodIn_r _ [22, 1, 30, 31, 32, 33, 34, 35, 36, 37, 38, 39, 40, 41, 42, 43, 44, 45, 46, 47] (by decide +kernel) (by decide +kernel)
set_option maxRecDepth 20000 in
theorem gX8_ear_X8_at : GoodIn wsX8_ear (wsV RX8 106 RX8 yX8_at wsX8_at) := goodIn_app (goodIn_of _ (by decide +kernel)) ggX8_ear_X8_at
set_option maxRecDepth 20000 in
theorem ggX8_ear_X8_lay : GoodIn wsX8_ear wsX8_lay := goodIn_r _ [26, 1, 30, 31, 32, 33, 34, 35, 36, 37, 38, 39, 40, 41, 42, 43, 44, 45, 46, 47] (by decide +kernel) (by decide +kernel)
set_option maxRecDepth 20000 in
theorem gX8_ear_X8_lay : GoodIn wsX8_ear (wsV RX8 159 RX8 yX8_lay wsX8_lay) := goodIn_app (goodIn_of _ (by decide +kernel)) ggX8_ear_X8_lay
set_option maxRecDepth 20000 in
theorem ggX8_ear_X8_firstKind : GoodIn wsX8_ear wsX8_firstKind := goodIn_r _ [29] (by decide +kernel) (by decide +kernel)
set_option maxRecDepth 20000 in
theorem gX8_ear_X8_firstKind : GoodIn wsX8_ear (va_wsS RX8 163 yX8_firstKind wsX8_firstKind) := goodIn_app (goodIn_of _ (by decide +kernel)) ggX8_ear_X8_firstKind
theorem dX8_ear_0 : decode cX8_ear 0 = .ok (.iload_n 1, 1) := by decide +kernel
theorem dX8_ear_1 : decode cX8_ear 1 = .ok (.bipush (-6), 2) := by decide +kernel
theorem dX8_ear_3 : decode cX8_ear 3 = .ok (.if_icmp .eq 13, 3) := by decide +kernel
theorem dX8_ear_6 : decode cX8_ear 6 = .ok (.aload_n 0, 1) := by decide +kernel
theorem dX8_ear_7 : decode cX8_ear 7 = .ok (.iload_n 1, 1) := by decide +kernel
theorem dX8_ear_8 : decode cX8_ear 8 = .ok (.invokevirtual 156, 3) := by decide +kernel
theorem dX8_ear_11 : decode cX8_ear 11 = .ok (.ifCond .ne 5, 3) := by decide +kernel
theorem dX8_ear_14 : decode cX8_ear 14 = .ok (.iconst (-1), 1) := by decide +kernel
theorem dX8_ear_15 : decode cX8_ear 15 = .ok (.ireturn, 1) := by decide +kernel
theorem dX8_ear_16 : decode cX8_ear 16 = .ok (.aload_n 0, 1) := by decide +kernel
theorem dX8_ear_17 : decode cX8_ear 17 = .ok (.getfield 7, 3) := by decide +kernel
theorem dX8_ear_20 : decode cX8_ear 20 = .ok (.iconst 3, 1) := by decide +kernel
theorem dX8_ear_21 : decode cX8_ear 21 = .ok (.iaload, 1) := by decide +kernel
theorem dX8_ear_22 : decode cX8_ear 22 = .ok (.istore_n 2, 1) := by decide +kernel
theorem dX8_ear_23 : decode cX8_ear 23 = .ok (.iload_n 2, 1) := by decide +kernel
theorem dX8_ear_24 : decode cX8_ear 24 = .ok (.iconst 4, 1) := by decide +kernel
theorem dX8_ear_25 : decode cX8_ear 25 = .ok (.if_icmp .ne 6, 3) := by decide +kernel
theorem dX8_ear_28 : decode cX8_ear 28 = .ok (.bipush (-4), 2) := by decide +kernel
theorem dX8_ear_30 : decode cX8_ear 30 = .ok (.ireturn, 1) := by decide +kernel
theorem dX8_ear_31 : decode cX8_ear 31 = .ok (.aload_n 0, 1) := by decide +kernel
theorem dX8_ear_32 : decode cX8_ear 32 = .ok (.invokevirtual 63, 3) := by decide +kernel
theorem dX8_ear_35 : decode cX8_ear 35 = .ok (.iconst 0, 1) := by decide +kernel
theorem dX8_ear_36 : decode cX8_ear 36 = .ok (.istore_n 3, 1) := by decide +kernel
theorem dX8_ear_37 : decode cX8_ear 37 = .ok (.iload_n 3, 1) := by decide +kernel
theorem dX8_ear_38 : decode cX8_ear 38 = .ok (.bipush 78, 2) := by decide +kernel
theorem dX8_ear_40 : decode cX8_ear 40 = .ok (.if_icmp .ge 31, 3) := by decide +kernel
theorem dX8_ear_43 : decode cX8_ear 43 = .ok (.aload_n 0, 1) := by decide +kernel
theorem dX8_ear_44 : decode cX8_ear 44 = .ok (.iload_n 2, 1) := by decide +kernel
theorem dX8_ear_45 : decode cX8_ear 45 = .ok (.iload_n 3, 1) := by decide +kernel
theorem dX8_ear_46 : decode cX8_ear 46 = .ok (.iload_n 1, 1) := by decide +kernel
theorem dX8_ear_47 : decode cX8_ear 47 = .ok (.bipush (-6), 2) := by decide +kernel
theorem dX8_ear_49 : decode cX8_ear 49 = .ok (.if_icmp .ne 7, 3) := by decide +kernel
theorem dX8_ear_52 : decode cX8_ear 52 = .ok (.iconst 0, 1) := by decide +kernel
theorem dX8_ear_53 : decode cX8_ear 53 = .ok (.goto 9, 3) := by decide +kernel
theorem dX8_ear_56 : decode cX8_ear 56 = .ok (.aload_n 0, 1) := by decide +kernel
theorem dX8_ear_57 : decode cX8_ear 57 = .ok (.iload_n 1, 1) := by decide +kernel
theorem dX8_ear_58 : decode cX8_ear 58 = .ok (.iload_n 3, 1) := by decide +kernel
theorem dX8_ear_59 : decode cX8_ear 59 = .ok (.invokevirtual 106, 3) := by decide +kernel
theorem dX8_ear_62 : decode cX8_ear 62 = .ok (.invokevirtual 159, 3) := by decide +kernel
theorem dX8_ear_65 : decode cX8_ear 65 = .ok (.iinc 3 1, 3) := by decide +kernel
theorem dX8_ear_68 : decode cX8_ear 68 = .ok (.goto (-31), 3) := by decide +kernel
theorem dX8_ear_71 : decode cX8_ear 71 = .ok (.iconst 0, 1) := by decide +kernel
theorem dX8_ear_72 : decode cX8_ear 72 = .ok (.istore_n 3, 1) := by decide +kernel
theorem dX8_ear_73 : decode cX8_ear 73 = .ok (.iload_n 3, 1) := by decide +kernel
theorem dX8_ear_74 : decode cX8_ear 74 = .ok (.bipush 26, 2) := by decide +kernel
theorem dX8_ear_76 : decode cX8_ear 76 = .ok (.if_icmp .ge 27, 3) := by decide +kernel
theorem dX8_ear_79 : decode cX8_ear 79 = .ok (.iload_n 1, 1) := by decide +kernel
theorem dX8_ear_80 : decode cX8_ear 80 = .ok (.bipush (-6), 2) := by decide +kernel
theorem dX8_ear_82 : decode cX8_ear 82 = .ok (.if_icmp .ne 21, 3) := by decide +kernel
theorem dX8_ear_85 : decode cX8_ear 85 = .ok (.aload_n 0, 1) := by decide +kernel
theorem dX8_ear_86 : decode cX8_ear 86 = .ok (.iload_n 2, 1) := by decide +kernel
theorem dX8_ear_87 : decode cX8_ear 87 = .ok (.iconst 0, 1) := by decide +kernel
theorem dX8_ear_88 : decode cX8_ear 88 = .ok (.iload_n 3, 1) := by decide +kernel
theorem dX8_ear_89 : decode cX8_ear 89 = .ok (.iadd, 1) := by decide +kernel
theorem dX8_ear_90 : decode cX8_ear 90 = .ok (.iload_n 3, 1) := by decide +kernel
theorem dX8_ear_91 : decode cX8_ear 91 = .ok (.invokestatic 163, 3) := by decide +kernel
theorem dX8_ear_94 : decode cX8_ear 94 = .ok (.invokevirtual 159, 3) := by decide +kernel
theorem dX8_ear_97 : decode cX8_ear 97 = .ok (.iinc 3 1, 3) := by decide +kernel
theorem dX8_ear_100 : decode cX8_ear 100 = .ok (.goto (-27), 3) := by decide +kernel
theorem dX8_ear_103 : decode cX8_ear 103 = .ok (.aload_n 0, 1) := by decide +kernel
theorem dX8_ear_104 : decode cX8_ear 104 = .ok (.getfield 7, 3) := by decide +kernel
theorem dX8_ear_107 : decode cX8_ear 107 = .ok (.iconst 3, 1) := by decide +kernel
theorem dX8_ear_108 : decode cX8_ear 108 = .ok (.dup2, 1) := by decide +kernel
theorem dX8_ear_109 : decode cX8_ear 109 = .ok (.iaload, 1) := by decide +kernel
theorem dX8_ear_110 : decode cX8_ear 110 = .ok (.iconst 1, 1) := by decide +kernel
theorem dX8_ear_111 : decode cX8_ear 111 = .ok (.iadd, 1) := by decide +kernel
theorem dX8_ear_112 : decode cX8_ear 112 = .ok (.iastore, 1) := by decide +kernel
theorem dX8_ear_113 : decode cX8_ear 113 = .ok (.iload_n 2, 1) := by decide +kernel
theorem dX8_ear_114 : decode cX8_ear 114 = .ok (.ireturn, 1) := by decide +kernel
set_option maxRecDepth 20000 in
theorem ggX8_clean_X8_at : GoodIn wsX8_clean wsX8_at := goodIn_r _ [5, 6, 11, 12, 13, 14, 15, 16, 17, 18, 19, 20, 21, 22, 23, 24, 25, 26, 27, 28] (by decide +kernel) (by decide +kernel)
set_option maxRecDepth 20000 in
theorem gX8_clean_X8_at : GoodIn wsX8_clean (wsV RX8 106 RX8 yX8_at wsX8_at) := goodIn_app (goodIn_of _ (by decide +kernel)) ggX8_clean_X8_at
set_option maxRecDepth 20000 in
theorem ggX8_clean_X8_lay : GoodIn wsX8_clean wsX8_lay := goodIn_r _ [10, 6, 11, 12, 13, 14, 15, 16, 17, 18, 19, 20, 21, 22, 23, 24, 25, 26, 27, 28] (by decide +kernel) (by decide +kernel)
set_option maxRecDepth 20000 in
theorem gX8_clean_X8_lay : GoodIn wsX8_clean (wsV RX8 159 RX8 yX8_lay wsX8_lay) := goodIn_app (goodIn_of _ (by decide +kernel)) ggX8_clean_X8_lay
theorem dX8_clean_0 : decode cX8_clean 0 = .ok (.iconst 0, 1) := by decide +kernel
theorem dX8_clean_1 : decode cX8_clean 1 = .ok (.istore_n 2, 1) := by decide +kernel
theorem dX8_clean_2 : decode cX8_clean 2 = .ok (.iload_n 2, 1) := by decide +kernel
theorem dX8_clean_3 : decode cX8_clean 3 = .ok (.bipush 26, 2) := by decide +kernel
theorem dX8_clean_5 : decode cX8_clean 5 = .ok (.if_icmp .ge 41, 3) := by decide +kernel
theorem dX8_clean_8 : decode cX8_clean 8 = .ok (.aload_n 0, 1) := by decide +kernel
theorem dX8_clean_9 : decode cX8_clean 9 = .ok (.iload_n 1, 1) := by decide +kernel
theorem dX8_clean_10 : decode cX8_clean 10 = .ok (.bipush 26, 2) := by decide +kernel
theorem dX8_clean_12 : decode cX8_clean 12 = .ok (.iload_n 2, 1) := by decide +kernel
theorem dX8_clean_13 : decode cX8_clean 13 = .ok (.iadd, 1) := by decide +kernel
theorem dX8_clean_14 : decode cX8_clean 14 = .ok (.invokevirtual 106, 3) := by decide +kernel
theorem dX8_clean_17 : decode cX8_clean 17 = .ok (.aload_n 0, 1) := by decide +kernel
theorem dX8_clean_18 : decode cX8_clean 18 = .ok (.iload_n 1, 1) := by decide +kernel
theorem dX8_clean_19 : decode cX8_clean 19 = .ok (.iconst 0, 1) := by decide +kernel
theorem dX8_clean_20 : decode cX8_clean 20 = .ok (.iload_n 2, 1) := by decide +kernel
theorem dX8_clean_21 : decode cX8_clean 21 = .ok (.iadd, 1) := by decide +kernel
theorem dX8_clean_22 : decode cX8_clean 22 = .ok (.invokevirtual 106, 3) := by decide +kernel
theorem dX8_clean_25 : decode cX8_clean 25 = .ok (.iconst 1, 1) := by decide +kernel
theorem dX8_clean_26 : decode cX8_clean 26 = .ok (.iadd, 1) := by decide +kernel
theorem dX8_clean_27 : decode cX8_clean 27 = .ok (.if_icmp .ne 13, 3) := by decide +kernel
theorem dX8_clean_30 : decode cX8_clean 30 = .ok (.aload_n 0, 1) := by decide +kernel
theorem dX8_clean_31 : decode cX8_clean 31 = .ok (.iload_n 1, 1) := by decide +kernel
theorem dX8_clean_32 : decode cX8_clean 32 = .ok (.bipush 26, 2) := by decide +kernel
theorem dX8_clean_34 : decode cX8_clean 34 = .ok (.iload_n 2, 1) := by decide +kernel
theorem dX8_clean_35 : decode cX8_clean 35 = .ok (.iadd, 1) := by decide +kernel
theorem dX8_clean_36 : decode cX8_clean 36 = .ok (.iconst 0, 1) := by decide +kernel
theorem dX8_clean_37 : decode cX8_clean 37 = .ok (.invokevirtual 159, 3) := by decide +kernel
theorem dX8_clean_40 : decode cX8_clean 40 = .ok (.iinc 2 1, 3) := by decide +kernel
theorem dX8_clean_43 : decode cX8_clean 43 = .ok (.goto (-41), 3) := by decide +kernel
theorem dX8_clean_46 : decode cX8_clean 46 = .ok (.return_, 1) := by decide +kernel
set_option maxRecDepth 20000 in
theorem ggX8_hear_X8_isEar : GoodIn wsX8_hear wsX8_isEar := goodIn_r _ [5, 6, 7, 8, 4, 9, 37, 38, 39, 40, 41, 42, 43, 44, 45, 46, 47, 48, 49, 50, 51, 52, 53, 54] (by decide +kernel) (by decide +kernel)
set_option maxRecDepth 20000 in
theorem gX8_hear_X8_isEar : GoodIn wsX8_hear (wsV RX8 156 RX8 yX8_isEar wsX8_isEar) := goodIn_app (goodIn_of _ (by decide +kernel)) ggX8_hear_X8_isEar
set_option maxRecDepth 20000 in
theorem ggX8_hear_X8_isLetter : GoodIn wsX8_hear wsX8_isLetter := goodIn_r _ [12, 7, 8, 4, 9] (by decide +kernel) (by decide +kernel)
set_option maxRecDepth 20000 in
theorem gX8_hear_X8_isLetter : GoodIn wsX8_hear (va_wsS RX8 166 yX8_isLetter wsX8_isLetter) := goodIn_app (goodIn_of _ (by decide +kernel)) ggX8_hear_X8_isLetter
set_option maxRecDepth 20000 in
theorem ggX8_hear_X8_isKind : GoodIn wsX8_hear wsX8_isKind := goodIn_r _ [15, 7, 8, 4, 9] (by decide +kernel) (by decide +kernel)
set_option maxRecDepth 20000 in
theorem gX8_hear_X8_isKind : GoodIn wsX8_hear (va_wsS RX8 169 yX8_isKind wsX8_isKind) := goodIn_app (goodIn_of _ (by decide +kernel)) ggX8_hear_X8_isKind
set_option maxRecDepth 20000 in
theorem ggX8_hear_X8_record : GoodIn wsX8_hear wsX8_record := goodIn_r _ [19, 20, 21, 6, 22, 23, 4, 24, 37, 38, 39, 40, 41, 42, 43, 44, 45, 46, 47, 48, 49, 50, 51, 52, 53, 54] (by decide +kernel) (by decide +kernel)
set_option maxRecDepth 20000 in
theorem gX8_hear_X8_record : GoodIn wsX8_hear (wsV RX8 63 RX8 yX8_record wsX8_record) := goodIn_app (goodIn_of _ (by decide +kernel)) ggX8_hear_X8_record
set_option maxRecDepth 20000 in
theorem ggX8_hear_X8_at : GoodIn wsX8_hear wsX8_at := goodIn_r _ [28, 6, 37, 38, 39, 40, 41, 42, 43, 44, 45, 46, 47, 48, 49, 50, 51, 52, 53, 54] (by decide +kernel) (by decide +kernel)
set_option maxRecDepth 20000 in
theorem gX8_hear_X8_at : GoodIn wsX8_hear (wsV RX8 106 RX8 yX8_at wsX8_at) := goodIn_app (goodIn_of _ (by decide +kernel)) ggX8_hear_X8_at
set_option maxRecDepth 20000 in
theorem ggX8_hear_X8_lay : GoodIn wsX8_hear wsX8_lay := goodIn_r _ [32, 6, 37, 38, 39, 40, 41, 42, 43, 44, 45, 46, 47, 48, 49, 50, 51, 52, 53, 54] (by decide +kernel) (by decide +kernel)
set_option maxRecDepth 20000 in
theorem gX8_hear_X8_lay : GoodIn wsX8_hear (wsV RX8 159 RX8 yX8_lay wsX8_lay) := goodIn_app (goodIn_of _ (by decide +kernel)) ggX8_hear_X8_lay
set_option maxRecDepth 20000 in
theorem ggX8_hear_X8_clean : GoodIn wsX8_hear wsX8_clean := goodIn_r _ [36, 25, 26, 27, 4, 28, 6, 29, 30, 31, 32, 37, 38, 39, 40, 41, 42, 43, 44, 45, 46, 47, 48, 49, 50, 51, 52, 53, 54] (by decide +kernel) (by decide +kernel)
set_option maxRecDepth 20000 in
theorem gX8_hear_X8_clean : GoodIn wsX8_hear (wsV RX8 172 RX8 yX8_clean wsX8_clean) := goodIn_app (goodIn_of _ (by decide +kernel)) ggX8_hear_X8_clean
theorem dX8_hear_0 : decode cX8_hear 0 = .ok (.aload_n 0, 1) := by decide +kernel
theorem dX8_hear_1 : decode cX8_hear 1 = .ok (.iload_n 1, 1) := by decide +kernel
theorem dX8_hear_2 : decode cX8_hear 2 = .ok (.invokevirtual 156, 3) := by decide +kernel
theorem dX8_hear_5 : decode cX8_hear 5 = .ok (.ifCond .eq 10, 3) := by decide +kernel
theorem dX8_hear_8 : decode cX8_hear 8 = .ok (.iload_n 2, 1) := by decide +kernel
theorem dX8_hear_9 : decode cX8_hear 9 = .ok (.invokestatic 166, 3) := by decide +kernel
theorem dX8_hear_12 : decode cX8_hear 12 = .ok (.ifCond .ne 5, 3) := by decide +kernel
theorem dX8_hear_15 : decode cX8_hear 15 = .ok (.iconst (-1), 1) := by decide +kernel
theorem dX8_hear_16 : decode cX8_hear 16 = .ok (.ireturn, 1) := by decide +kernel
theorem dX8_hear_17 : decode cX8_hear 17 = .ok (.iload_n 3, 1) := by decide +kernel
theorem dX8_hear_18 : decode cX8_hear 18 = .ok (.invokestatic 169, 3) := by decide +kernel
theorem dX8_hear_21 : decode cX8_hear 21 = .ok (.ifCond .ne 6, 3) := by decide +kernel
theorem dX8_hear_24 : decode cX8_hear 24 = .ok (.bipush (-2), 2) := by decide +kernel
theorem dX8_hear_26 : decode cX8_hear 26 = .ok (.ireturn, 1) := by decide +kernel
theorem dX8_hear_27 : decode cX8_hear 27 = .ok (.aload_n 0, 1) := by decide +kernel
theorem dX8_hear_28 : decode cX8_hear 28 = .ok (.invokevirtual 63, 3) := by decide +kernel
theorem dX8_hear_31 : decode cX8_hear 31 = .ok (.aload_n 0, 1) := by decide +kernel
theorem dX8_hear_32 : decode cX8_hear 32 = .ok (.iload_n 1, 1) := by decide +kernel
theorem dX8_hear_33 : decode cX8_hear 33 = .ok (.iconst 0, 1) := by decide +kernel
theorem dX8_hear_34 : decode cX8_hear 34 = .ok (.iload_n 2, 1) := by decide +kernel
theorem dX8_hear_35 : decode cX8_hear 35 = .ok (.iadd, 1) := by decide +kernel
theorem dX8_hear_36 : decode cX8_hear 36 = .ok (.invokevirtual 106, 3) := by decide +kernel
theorem dX8_hear_39 : decode cX8_hear 39 = .ok (.istore 4, 2) := by decide +kernel
theorem dX8_hear_41 : decode cX8_hear 41 = .ok (.aload_n 0, 1) := by decide +kernel
theorem dX8_hear_42 : decode cX8_hear 42 = .ok (.iload_n 1, 1) := by decide +kernel
theorem dX8_hear_43 : decode cX8_hear 43 = .ok (.iconst 0, 1) := by decide +kernel
theorem dX8_hear_44 : decode cX8_hear 44 = .ok (.iload_n 2, 1) := by decide +kernel
theorem dX8_hear_45 : decode cX8_hear 45 = .ok (.iadd, 1) := by decide +kernel
theorem dX8_hear_46 : decode cX8_hear 46 = .ok (.iload_n 3, 1) := by decide +kernel
theorem dX8_hear_47 : decode cX8_hear 47 = .ok (.invokevirtual 159, 3) := by decide +kernel
theorem dX8_hear_50 : decode cX8_hear 50 = .ok (.aload_n 0, 1) := by decide +kernel
theorem dX8_hear_51 : decode cX8_hear 51 = .ok (.iload_n 1, 1) := by decide +kernel
theorem dX8_hear_52 : decode cX8_hear 52 = .ok (.invokevirtual 172, 3) := by decide +kernel
theorem dX8_hear_55 : decode cX8_hear 55 = .ok (.iload 4, 2) := by decide +kernel
theorem dX8_hear_57 : decode cX8_hear 57 = .ok (.ireturn, 1) := by decide +kernel
set_option maxRecDepth 20000 in
theorem ggX8_secondOf_X8_at : GoodIn wsX8_secondOf wsX8_at := goodIn_r _ [5, 6, 7, 8, 9, 10, 11, 12, 13, 14, 15, 16, 17, 18, 19, 20, 21, 22, 23, 24] (by decide +kernel) (by decide +kernel)
set_option maxRecDepth 20000 in
theorem gX8_secondOf_X8_at : GoodIn wsX8_secondOf (wsV RX8 106 RX8 yX8_at wsX8_at) := goodIn_app (goodIn_of _ (by decide +kernel)) ggX8_secondOf_X8_at
theorem dX8_secondOf_0 : decode cX8_secondOf 0 = .ok (.aload_n 0, 1) := by decide +kernel
theorem dX8_secondOf_1 : decode cX8_secondOf 1 = .ok (.iload_n 1, 1) := by decide +kernel
theorem dX8_secondOf_2 : decode cX8_secondOf 2 = .ok (.bipush 26, 2) := by decide +kernel
theorem dX8_secondOf_4 : decode cX8_secondOf 4 = .ok (.iload_n 2, 1) := by decide +kernel
theorem dX8_secondOf_5 : decode cX8_secondOf 5 = .ok (.iadd, 1) := by decide +kernel
theorem dX8_secondOf_6 : decode cX8_secondOf 6 = .ok (.invokevirtual 106, 3) := by decide +kernel
theorem dX8_secondOf_9 : decode cX8_secondOf 9 = .ok (.ifCond .ne 8, 3) := by decide +kernel
theorem dX8_secondOf_12 : decode cX8_secondOf 12 = .ok (.bipush (-6), 2) := by decide +kernel
theorem dX8_secondOf_14 : decode cX8_secondOf 14 = .ok (.goto 14, 3) := by decide +kernel
theorem dX8_secondOf_17 : decode cX8_secondOf 17 = .ok (.aload_n 0, 1) := by decide +kernel
theorem dX8_secondOf_18 : decode cX8_secondOf 18 = .ok (.iload_n 1, 1) := by decide +kernel
theorem dX8_secondOf_19 : decode cX8_secondOf 19 = .ok (.bipush 26, 2) := by decide +kernel
theorem dX8_secondOf_21 : decode cX8_secondOf 21 = .ok (.iload_n 2, 1) := by decide +kernel
theorem dX8_secondOf_22 : decode cX8_secondOf 22 = .ok (.iadd, 1) := by decide +kernel
theorem dX8_secondOf_23 : decode cX8_secondOf 23 = .ok (.invokevirtual 106, 3) := by decide +kernel
theorem dX8_secondOf_26 : decode cX8_secondOf 26 = .ok (.iconst 1, 1) := by decide +kernel
theorem dX8_secondOf_27 : decode cX8_secondOf 27 = .ok (.isub, 1) := by decide +kernel
theorem dX8_secondOf_28 : decode cX8_secondOf 28 = .ok (.ireturn, 1) := by decide +kernel
set_option maxRecDepth 20000 in
theorem ggX8_second_X8_isEar : GoodIn wsX8_second wsX8_isEar := goodIn_r _ [5, 6, 7, 8, 4, 9, 37, 38, 39, 40, 41, 42, 43, 44, 45, 46, 47, 48, 49, 50, 51, 52, 53, 54] (by decide +kernel) (by decide +kernel)
set_option maxRecDepth 20000 in
theorem gX8_second_X8_isEar : GoodIn wsX8_second (wsV RX8 156 RX8 yX8_isEar wsX8_isEar) := goodIn_app (goodIn_of _ (by decide +kernel)) ggX8_second_X8_isEar
set_option maxRecDepth 20000 in
theorem ggX8_second_X8_isLetter : GoodIn wsX8_second wsX8_isLetter := goodIn_r _ [12, 7, 8, 4, 9] (by decide +kernel) (by decide +kernel)
set_option maxRecDepth 20000 in
theorem gX8_second_X8_isLetter : GoodIn wsX8_second (va_wsS RX8 166 yX8_isLetter wsX8_isLetter) := goodIn_app (goodIn_of _ (by decide +kernel)) ggX8_second_X8_isLetter
set_option maxRecDepth 20000 in
theorem ggX8_second_X8_isKind : GoodIn wsX8_second wsX8_isKind := goodIn_r _ [15, 7, 8, 4, 9] (by decide +kernel) (by decide +kernel)
set_option maxRecDepth 20000 in
theorem gX8_second_X8_isKind : GoodIn wsX8_second (va_wsS RX8 169 yX8_isKind wsX8_isKind) := goodIn_app (goodIn_of _ (by decide +kernel)) ggX8_second_X8_isKind
set_option maxRecDepth 20000 in
theorem ggX8_second_X8_at : GoodIn wsX8_second wsX8_at := goodIn_r _ [19, 6, 37, 38, 39, 40, 41, 42, 43, 44, 45, 46, 47, 48, 49, 50, 51, 52, 53, 54] (by decide +kernel) (by decide +kernel)
set_option maxRecDepth 20000 in
theorem gX8_second_X8_at : GoodIn wsX8_second (wsV RX8 106 RX8 yX8_at wsX8_at) := goodIn_app (goodIn_of _ (by decide +kernel)) ggX8_second_X8_at
set_option maxRecDepth 20000 in
theorem ggX8_second_X8_record : GoodIn wsX8_second wsX8_record := goodIn_r _ [23, 24, 25, 6, 26, 27, 4, 28, 37, 38, 39, 40, 41, 42, 43, 44, 45, 46, 47, 48, 49, 50, 51, 52, 53, 54] (by decide +kernel) (by decide +kernel)
set_option maxRecDepth 20000 in
theorem gX8_second_X8_record : GoodIn wsX8_second (wsV RX8 63 RX8 yX8_record wsX8_record) := goodIn_app (goodIn_of _ (by decide +kernel)) ggX8_second_X8_record
set_option maxRecDepth 20000 in
theorem ggX8_second_X8_secondOf : GoodIn wsX8_second wsX8_secondOf := goodIn_r _ [32, 16, 17, 18, 4, 19, 6, 37, 38, 39, 40, 41, 42, 43, 44, 45, 46, 47, 48, 49, 50, 51, 52, 53, 54] (by decide +kernel) (by decide +kernel)
set_option maxRecDepth 20000 in
theorem gX8_second_X8_secondOf : GoodIn wsX8_second (wsV RX8 175 RX8 yX8_secondOf wsX8_secondOf) := goodIn_app (goodIn_of _ (by decide +kernel)) ggX8_second_X8_secondOf
set_option maxRecDepth 20000 in
theorem ggX8_second_X8_lay : GoodIn wsX8_second wsX8_lay := goodIn_r _ [36, 6, 37, 38, 39, 40, 41, 42, 43, 44, 45, 46, 47, 48, 49, 50, 51, 52, 53, 54] (by decide +kernel) (by decide +kernel)
set_option maxRecDepth 20000 in
theorem gX8_second_X8_lay : GoodIn wsX8_second (wsV RX8 159 RX8 yX8_lay wsX8_lay) := goodIn_app (goodIn_of _ (by decide +kernel)) ggX8_second_X8_lay
theorem dX8_second_0 : decode cX8_second 0 = .ok (.aload_n 0, 1) := by decide +kernel
theorem dX8_second_1 : decode cX8_second 1 = .ok (.iload_n 1, 1) := by decide +kernel
theorem dX8_second_2 : decode cX8_second 2 = .ok (.invokevirtual 156, 3) := by decide +kernel
theorem dX8_second_5 : decode cX8_second 5 = .ok (.ifCond .eq 10, 3) := by decide +kernel
theorem dX8_second_8 : decode cX8_second 8 = .ok (.iload_n 2, 1) := by decide +kernel
theorem dX8_second_9 : decode cX8_second 9 = .ok (.invokestatic 166, 3) := by decide +kernel
theorem dX8_second_12 : decode cX8_second 12 = .ok (.ifCond .ne 5, 3) := by decide +kernel
theorem dX8_second_15 : decode cX8_second 15 = .ok (.iconst (-1), 1) := by decide +kernel
theorem dX8_second_16 : decode cX8_second 16 = .ok (.ireturn, 1) := by decide +kernel
theorem dX8_second_17 : decode cX8_second 17 = .ok (.iload_n 3, 1) := by decide +kernel
theorem dX8_second_18 : decode cX8_second 18 = .ok (.invokestatic 169, 3) := by decide +kernel
theorem dX8_second_21 : decode cX8_second 21 = .ok (.ifCond .ne 12, 3) := by decide +kernel
theorem dX8_second_24 : decode cX8_second 24 = .ok (.iload_n 3, 1) := by decide +kernel
theorem dX8_second_25 : decode cX8_second 25 = .ok (.bipush (-6), 2) := by decide +kernel
theorem dX8_second_27 : decode cX8_second 27 = .ok (.if_icmp .eq 6, 3) := by decide +kernel
theorem dX8_second_30 : decode cX8_second 30 = .ok (.bipush (-2), 2) := by decide +kernel
theorem dX8_second_32 : decode cX8_second 32 = .ok (.ireturn, 1) := by decide +kernel
theorem dX8_second_33 : decode cX8_second 33 = .ok (.iload_n 3, 1) := by decide +kernel
theorem dX8_second_34 : decode cX8_second 34 = .ok (.aload_n 0, 1) := by decide +kernel
theorem dX8_second_35 : decode cX8_second 35 = .ok (.iload_n 1, 1) := by decide +kernel
theorem dX8_second_36 : decode cX8_second 36 = .ok (.iconst 0, 1) := by decide +kernel
theorem dX8_second_37 : decode cX8_second 37 = .ok (.iload_n 2, 1) := by decide +kernel
theorem dX8_second_38 : decode cX8_second 38 = .ok (.iadd, 1) := by decide +kernel
theorem dX8_second_39 : decode cX8_second 39 = .ok (.invokevirtual 106, 3) := by decide +kernel
theorem dX8_second_42 : decode cX8_second 42 = .ok (.if_icmp .ne 6, 3) := by decide +kernel
theorem dX8_second_45 : decode cX8_second 45 = .ok (.bipush (-5), 2) := by decide +kernel
theorem dX8_second_47 : decode cX8_second 47 = .ok (.ireturn, 1) := by decide +kernel
theorem dX8_second_48 : decode cX8_second 48 = .ok (.aload_n 0, 1) := by decide +kernel
theorem dX8_second_49 : decode cX8_second 49 = .ok (.invokevirtual 63, 3) := by decide +kernel
theorem dX8_second_52 : decode cX8_second 52 = .ok (.aload_n 0, 1) := by decide +kernel
theorem dX8_second_53 : decode cX8_second 53 = .ok (.iload_n 1, 1) := by decide +kernel
theorem dX8_second_54 : decode cX8_second 54 = .ok (.iload_n 2, 1) := by decide +kernel
theorem dX8_second_55 : decode cX8_second 55 = .ok (.invokevirtual 175, 3) := by decide +kernel
theorem dX8_second_58 : decode cX8_second 58 = .ok (.istore 4, 2) := by decide +kernel
theorem dX8_second_60 : decode cX8_second 60 = .ok (.aload_n 0, 1) := by decide +kernel
theorem dX8_second_61 : decode cX8_second 61 = .ok (.iload_n 1, 1) := by decide +kernel
theorem dX8_second_62 : decode cX8_second 62 = .ok (.bipush 26, 2) := by decide +kernel
theorem dX8_second_64 : decode cX8_second 64 = .ok (.iload_n 2, 1) := by decide +kernel
theorem dX8_second_65 : decode cX8_second 65 = .ok (.iadd, 1) := by decide +kernel
theorem dX8_second_66 : decode cX8_second 66 = .ok (.iload_n 3, 1) := by decide +kernel
theorem dX8_second_67 : decode cX8_second 67 = .ok (.bipush (-6), 2) := by decide +kernel
theorem dX8_second_69 : decode cX8_second 69 = .ok (.if_icmp .ne 7, 3) := by decide +kernel
theorem dX8_second_72 : decode cX8_second 72 = .ok (.iconst 0, 1) := by decide +kernel
theorem dX8_second_73 : decode cX8_second 73 = .ok (.goto 6, 3) := by decide +kernel
theorem dX8_second_76 : decode cX8_second 76 = .ok (.iload_n 3, 1) := by decide +kernel
theorem dX8_second_77 : decode cX8_second 77 = .ok (.iconst 1, 1) := by decide +kernel
theorem dX8_second_78 : decode cX8_second 78 = .ok (.iadd, 1) := by decide +kernel
theorem dX8_second_79 : decode cX8_second 79 = .ok (.invokevirtual 159, 3) := by decide +kernel
theorem dX8_second_82 : decode cX8_second 82 = .ok (.iload 4, 2) := by decide +kernel
theorem dX8_second_84 : decode cX8_second 84 = .ok (.ireturn, 1) := by decide +kernel
set_option maxRecDepth 20000 in
theorem ggX8_habits_X8_isEar : GoodIn wsX8_habits wsX8_isEar := goodIn_r _ [5, 6, 7, 8, 4, 9, 27, 28, 29, 30, 31, 32, 33, 34, 35, 36, 37, 38, 39, 40, 41, 42, 43, 44] (by decide +kernel) (by decide +kernel)
set_option maxRecDepth 20000 in
theorem gX8_habits_X8_isEar : GoodIn wsX8_habits (wsV RX8 156 RX8 yX8_isEar wsX8_isEar) := goodIn_app (goodIn_of _ (by decide +kernel)) ggX8_habits_X8_isEar
set_option maxRecDepth 20000 in
theorem ggX8_habits_X8_in : GoodIn wsX8_habits wsX8_in := goodIn_r _ [9] (by decide +kernel) (by decide +kernel)
set_option maxRecDepth 20000 in
theorem gX8_habits_X8_in : GoodIn wsX8_habits (va_wsS RX8 51 yX8_in wsX8_in) := goodIn_app (goodIn_of _ (by decide +kernel)) ggX8_habits_X8_in
set_option maxRecDepth 20000 in
theorem ggX8_habits_X8_record : GoodIn wsX8_habits wsX8_record := goodIn_r _ [13, 14, 15, 6, 16, 17, 4, 18, 27, 28, 29, 30, 31, 32, 33, 34, 35, 36, 37, 38, 39, 40, 41, 42, 43, 44] (by decide +kernel) (by decide +kernel)
set_option maxRecDepth 20000 in
theorem gX8_habits_X8_record : GoodIn wsX8_habits (wsV RX8 63 RX8 yX8_record wsX8_record) := goodIn_app (goodIn_of _ (by decide +kernel)) ggX8_habits_X8_record
set_option maxRecDepth 20000 in
theorem ggX8_habits_X8_at : GoodIn wsX8_habits wsX8_at := goodIn_r _ [22, 6, 27, 28, 29, 30, 31, 32, 33, 34, 35, 36, 37, 38, 39, 40, 41, 42, 43, 44] (by decide +kernel) (by decide +kernel)
set_option maxRecDepth 20000 in
theorem gX8_habits_X8_at : GoodIn wsX8_habits (wsV RX8 106 RX8 yX8_at wsX8_at) := goodIn_app (goodIn_of _ (by decide +kernel)) ggX8_habits_X8_at
set_option maxRecDepth 20000 in
theorem ggX8_habits_X8_lay : GoodIn wsX8_habits wsX8_lay := goodIn_r _ [26, 6, 27, 28, 29, 30, 31, 32, 33, 34, 35, 36, 37, 38, 39, 40, 41, 42, 43, 44] (by decide +kernel) (by decide +kernel)
