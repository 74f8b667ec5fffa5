set_option maxRecDepth 20000 in
theorem gX8_habits_X8_lay : GoodIn wsX8_habits (wsV RX8 159 RX8 yX8_lay wsX8_lay) := goodIn_app (goodIn_of _ (by decide +kernel)) ggX8_habits_X8_lay
theorem dX8_habits_0 : decode cX8_habits 0 = .ok (.aload_n 0, 1) := by decide +kernel
theorem dX8_habits_1 : decode cX8_habits 1 = .ok (.iload_n 1, 1) := by decide +kernel
theorem dX8_habits_2 : decode cX8_habits 2 = .ok (.invokevirtual 156, 3) := by decide +kernel
theorem dX8_habits_5 : decode cX8_habits 5 = .ok (.ifCond .ne 5, 3) := by decide +kernel
theorem dX8_habits_8 : decode cX8_habits 8 = .ok (.iconst (-1), 1) := by decide +kernel
theorem dX8_habits_9 : decode cX8_habits 9 = .ok (.ireturn, 1) := by decide +kernel
theorem dX8_habits_10 : decode cX8_habits 10 = .ok (.iload_n 2, 1) := by decide +kernel
theorem dX8_habits_11 : decode cX8_habits 11 = .ok (.iconst 0, 1) := by decide +kernel
theorem dX8_habits_12 : decode cX8_habits 12 = .ok (.bipush 7, 2) := by decide +kernel
theorem dX8_habits_14 : decode cX8_habits 14 = .ok (.invokestatic 51, 3) := by decide +kernel
theorem dX8_habits_17 : decode cX8_habits 17 = .ok (.ifCond .ne 6, 3) := by decide +kernel
theorem dX8_habits_20 : decode cX8_habits 20 = .ok (.bipush (-2), 2) := by decide +kernel
theorem dX8_habits_22 : decode cX8_habits 22 = .ok (.ireturn, 1) := by decide +kernel
theorem dX8_habits_23 : decode cX8_habits 23 = .ok (.aload_n 0, 1) := by decide +kernel
theorem dX8_habits_24 : decode cX8_habits 24 = .ok (.invokevirtual 63, 3) := by decide +kernel
theorem dX8_habits_27 : decode cX8_habits 27 = .ok (.aload_n 0, 1) := by decide +kernel
theorem dX8_habits_28 : decode cX8_habits 28 = .ok (.iload_n 1, 1) := by decide +kernel
theorem dX8_habits_29 : decode cX8_habits 29 = .ok (.bipush 52, 2) := by decide +kernel
theorem dX8_habits_31 : decode cX8_habits 31 = .ok (.invokevirtual 106, 3) := by decide +kernel
theorem dX8_habits_34 : decode cX8_habits 34 = .ok (.istore_n 3, 1) := by decide +kernel
theorem dX8_habits_35 : decode cX8_habits 35 = .ok (.aload_n 0, 1) := by decide +kernel
theorem dX8_habits_36 : decode cX8_habits 36 = .ok (.iload_n 1, 1) := by decide +kernel
theorem dX8_habits_37 : decode cX8_habits 37 = .ok (.bipush 52, 2) := by decide +kernel
theorem dX8_habits_39 : decode cX8_habits 39 = .ok (.iload_n 2, 1) := by decide +kernel
theorem dX8_habits_40 : decode cX8_habits 40 = .ok (.invokevirtual 159, 3) := by decide +kernel
theorem dX8_habits_43 : decode cX8_habits 43 = .ok (.iload_n 3, 1) := by decide +kernel
theorem dX8_habits_44 : decode cX8_habits 44 = .ok (.ireturn, 1) := by decide +kernel
set_option maxRecDepth 20000 in
theorem ggX8_lettersOf_X8_at : GoodIn wsX8_lettersOf wsX8_at := goodIn_r _ [5, 6, 7, 8, 9, 10, 11, 12, 13, 14, 15, 16, 17, 18, 19, 20, 21, 22, 23, 24] (by decide +kernel) (by decide +kernel)
set_option maxRecDepth 20000 in
theorem gX8_lettersOf_X8_at : GoodIn wsX8_lettersOf (wsV RX8 106 RX8 yX8_at wsX8_at) := goodIn_app (goodIn_of _ (by decide +kernel)) ggX8_lettersOf_X8_at
theorem dX8_lettersOf_0 : decode cX8_lettersOf 0 = .ok (.iconst 0, 1) := by decide +kernel
theorem dX8_lettersOf_1 : decode cX8_lettersOf 1 = .ok (.istore_n 3, 1) := by decide +kernel
theorem dX8_lettersOf_2 : decode cX8_lettersOf 2 = .ok (.iconst 0, 1) := by decide +kernel
theorem dX8_lettersOf_3 : decode cX8_lettersOf 3 = .ok (.istore 4, 2) := by decide +kernel
theorem dX8_lettersOf_5 : decode cX8_lettersOf 5 = .ok (.iload 4, 2) := by decide +kernel
theorem dX8_lettersOf_7 : decode cX8_lettersOf 7 = .ok (.bipush 26, 2) := by decide +kernel
theorem dX8_lettersOf_9 : decode cX8_lettersOf 9 = .ok (.if_icmp .ge 33, 3) := by decide +kernel
theorem dX8_lettersOf_12 : decode cX8_lettersOf 12 = .ok (.iload_n 3, 1) := by decide +kernel
theorem dX8_lettersOf_13 : decode cX8_lettersOf 13 = .ok (.aload_n 0, 1) := by decide +kernel
theorem dX8_lettersOf_14 : decode cX8_lettersOf 14 = .ok (.iload_n 1, 1) := by decide +kernel
theorem dX8_lettersOf_15 : decode cX8_lettersOf 15 = .ok (.iconst 0, 1) := by decide +kernel
theorem dX8_lettersOf_16 : decode cX8_lettersOf 16 = .ok (.iload 4, 2) := by decide +kernel
theorem dX8_lettersOf_18 : decode cX8_lettersOf 18 = .ok (.iadd, 1) := by decide +kernel
theorem dX8_lettersOf_19 : decode cX8_lettersOf 19 = .ok (.invokevirtual 106, 3) := by decide +kernel
theorem dX8_lettersOf_22 : decode cX8_lettersOf 22 = .ok (.iload_n 2, 1) := by decide +kernel
theorem dX8_lettersOf_23 : decode cX8_lettersOf 23 = .ok (.if_icmp .ne 10, 3) := by decide +kernel
theorem dX8_lettersOf_26 : decode cX8_lettersOf 26 = .ok (.iconst 1, 1) := by decide +kernel
theorem dX8_lettersOf_27 : decode cX8_lettersOf 27 = .ok (.iload 4, 2) := by decide +kernel
theorem dX8_lettersOf_29 : decode cX8_lettersOf 29 = .ok (.ishl, 1) := by decide +kernel
theorem dX8_lettersOf_30 : decode cX8_lettersOf 30 = .ok (.goto 4, 3) := by decide +kernel
theorem dX8_lettersOf_33 : decode cX8_lettersOf 33 = .ok (.iconst 0, 1) := by decide +kernel
theorem dX8_lettersOf_34 : decode cX8_lettersOf 34 = .ok (.ior, 1) := by decide +kernel
theorem dX8_lettersOf_35 : decode cX8_lettersOf 35 = .ok (.istore_n 3, 1) := by decide +kernel
theorem dX8_lettersOf_36 : decode cX8_lettersOf 36 = .ok (.iinc 4 1, 3) := by decide +kernel
theorem dX8_lettersOf_39 : decode cX8_lettersOf 39 = .ok (.goto (-34), 3) := by decide +kernel
theorem dX8_lettersOf_42 : decode cX8_lettersOf 42 = .ok (.iload_n 3, 1) := by decide +kernel
theorem dX8_lettersOf_43 : decode cX8_lettersOf 43 = .ok (.ireturn, 1) := by decide +kernel
set_option maxRecDepth 20000 in
theorem ggX8_forgetOldest_X8_at : GoodIn wsX8_forgetOldest wsX8_at := goodIn_r _ [5, 6, 11, 12, 13, 14, 15, 16, 17, 18, 19, 20, 21, 22, 23, 24, 25, 26, 27, 28] (by decide +kernel) (by decide +kernel)
set_option maxRecDepth 20000 in
theorem gX8_forgetOldest_X8_at : GoodIn wsX8_forgetOldest (wsV RX8 106 RX8 yX8_at wsX8_at) := goodIn_app (goodIn_of _ (by decide +kernel)) ggX8_forgetOldest_X8_at
set_option maxRecDepth 20000 in
theorem ggX8_forgetOldest_X8_lay : GoodIn wsX8_forgetOldest wsX8_lay := goodIn_r _ [10, 6, 11, 12, 13, 14, 15, 16, 17, 18, 19, 20, 21, 22, 23, 24, 25, 26, 27, 28] (by decide +kernel) (by decide +kernel)
set_option maxRecDepth 20000 in
theorem gX8_forgetOldest_X8_lay : GoodIn wsX8_forgetOldest (wsV RX8 159 RX8 yX8_lay wsX8_lay) := goodIn_app (goodIn_of _ (by decide +kernel)) ggX8_forgetOldest_X8_lay
theorem dX8_forgetOldest_0 : decode cX8_forgetOldest 0 = .ok (.bipush 54, 2) := by decide +kernel
theorem dX8_forgetOldest_2 : decode cX8_forgetOldest 2 = .ok (.istore_n 2, 1) := by decide +kernel
theorem dX8_forgetOldest_3 : decode cX8_forgetOldest 3 = .ok (.iload_n 2, 1) := by decide +kernel
theorem dX8_forgetOldest_4 : decode cX8_forgetOldest 4 = .ok (.bipush 74, 2) := by decide +kernel
theorem dX8_forgetOldest_6 : decode cX8_forgetOldest 6 = .ok (.if_icmp .ge 23, 3) := by decide +kernel
theorem dX8_forgetOldest_9 : decode cX8_forgetOldest 9 = .ok (.aload_n 0, 1) := by decide +kernel
theorem dX8_forgetOldest_10 : decode cX8_forgetOldest 10 = .ok (.iload_n 1, 1) := by decide +kernel
theorem dX8_forgetOldest_11 : decode cX8_forgetOldest 11 = .ok (.iload_n 2, 1) := by decide +kernel
theorem dX8_forgetOldest_12 : decode cX8_forgetOldest 12 = .ok (.aload_n 0, 1) := by decide +kernel
theorem dX8_forgetOldest_13 : decode cX8_forgetOldest 13 = .ok (.iload_n 1, 1) := by decide +kernel
theorem dX8_forgetOldest_14 : decode cX8_forgetOldest 14 = .ok (.iload_n 2, 1) := by decide +kernel
theorem dX8_forgetOldest_15 : decode cX8_forgetOldest 15 = .ok (.iconst 4, 1) := by decide +kernel
theorem dX8_forgetOldest_16 : decode cX8_forgetOldest 16 = .ok (.iadd, 1) := by decide +kernel
theorem dX8_forgetOldest_17 : decode cX8_forgetOldest 17 = .ok (.invokevirtual 106, 3) := by decide +kernel
theorem dX8_forgetOldest_20 : decode cX8_forgetOldest 20 = .ok (.invokevirtual 159, 3) := by decide +kernel
theorem dX8_forgetOldest_23 : decode cX8_forgetOldest 23 = .ok (.iinc 2 1, 3) := by decide +kernel
theorem dX8_forgetOldest_26 : decode cX8_forgetOldest 26 = .ok (.goto (-23), 3) := by decide +kernel
theorem dX8_forgetOldest_29 : decode cX8_forgetOldest 29 = .ok (.aload_n 0, 1) := by decide +kernel
theorem dX8_forgetOldest_30 : decode cX8_forgetOldest 30 = .ok (.iload_n 1, 1) := by decide +kernel
theorem dX8_forgetOldest_31 : decode cX8_forgetOldest 31 = .ok (.bipush 53, 2) := by decide +kernel
theorem dX8_forgetOldest_33 : decode cX8_forgetOldest 33 = .ok (.iconst 5, 1) := by decide +kernel
theorem dX8_forgetOldest_34 : decode cX8_forgetOldest 34 = .ok (.invokevirtual 159, 3) := by decide +kernel
theorem dX8_forgetOldest_37 : decode cX8_forgetOldest 37 = .ok (.return_, 1) := by decide +kernel
set_option maxRecDepth 20000 in
theorem ggX8_mergeKinds_X8_lettersOf : GoodIn wsX8_mergeKinds wsX8_lettersOf := goodIn_r _ [5, 6, 7, 8, 4, 9, 10, 23, 24, 25, 26, 27, 28, 29, 30, 31, 32, 33, 34, 35, 36, 37, 38, 39, 40] (by decide +kernel) (by decide +kernel)
set_option maxRecDepth 20000 in
theorem gX8_mergeKinds_X8_lettersOf : GoodIn wsX8_mergeKinds (wsV RX8 178 RX8 yX8_lettersOf wsX8_lettersOf) := goodIn_app (goodIn_of _ (by decide +kernel)) ggX8_mergeKinds_X8_lettersOf
set_option maxRecDepth 20000 in
theorem ggX8_mergeKinds_X8_at : GoodIn wsX8_mergeKinds wsX8_at := goodIn_r _ [9, 10, 23, 24, 25, 26, 27, 28, 29, 30, 31, 32, 33, 34, 35, 36, 37, 38, 39, 40] (by decide +kernel) (by decide +kernel)
set_option maxRecDepth 20000 in
theorem gX8_mergeKinds_X8_at : GoodIn wsX8_mergeKinds (wsV RX8 106 RX8 yX8_at wsX8_at) := goodIn_app (goodIn_of _ (by decide +kernel)) ggX8_mergeKinds_X8_at
set_option maxRecDepth 20000 in
theorem ggX8_mergeKinds_X8_lay : GoodIn wsX8_mergeKinds wsX8_lay := goodIn_r _ [14, 10, 23, 24, 25, 26, 27, 28, 29, 30, 31, 32, 33, 34, 35, 36, 37, 38, 39, 40] (by decide +kernel) (by decide +kernel)
set_option maxRecDepth 20000 in
theorem gX8_mergeKinds_X8_lay : GoodIn wsX8_mergeKinds (wsV RX8 159 RX8 yX8_lay wsX8_lay) := goodIn_app (goodIn_of _ (by decide +kernel)) ggX8_mergeKinds_X8_lay
set_option maxRecDepth 20000 in
theorem ggX8_mergeKinds_X8_clean : GoodIn wsX8_mergeKinds wsX8_clean := goodIn_r _ [18, 6, 7, 8, 4, 9, 10, 11, 12, 13, 14, 23, 24, 25, 26, 27, 28, 29, 30, 31, 32, 33, 34, 35, 36, 37, 38, 39, 40] (by decide +kernel) (by decide +kernel)
set_option maxRecDepth 20000 in
theorem gX8_mergeKinds_X8_clean : GoodIn wsX8_mergeKinds (wsV RX8 172 RX8 yX8_clean wsX8_clean) := goodIn_app (goodIn_of _ (by decide +kernel)) ggX8_mergeKinds_X8_clean
set_option maxRecDepth 20000 in
theorem ggX8_mergeKinds_X8_forgetOldest : GoodIn wsX8_mergeKinds wsX8_forgetOldest := goodIn_r _ [22, 6, 7, 8, 4, 9, 10, 11, 12, 13, 14, 23, 24, 25, 26, 27, 28, 29, 30, 31, 32, 33, 34, 35, 36, 37, 38, 39, 40] (by decide +kernel) (by decide +kernel)
set_option maxRecDepth 20000 in
theorem gX8_mergeKinds_X8_forgetOldest : GoodIn wsX8_mergeKinds (wsV RX8 181 RX8 yX8_forgetOldest wsX8_forgetOldest) := goodIn_app (goodIn_of _ (by decide +kernel)) ggX8_mergeKinds_X8_forgetOldest
theorem dX8_mergeKinds_0 : decode cX8_mergeKinds 0 = .ok (.aload_n 0, 1) := by decide +kernel
theorem dX8_mergeKinds_1 : decode cX8_mergeKinds 1 = .ok (.iload_n 1, 1) := by decide +kernel
theorem dX8_mergeKinds_2 : decode cX8_mergeKinds 2 = .ok (.iload_n 3, 1) := by decide +kernel
theorem dX8_mergeKinds_3 : decode cX8_mergeKinds 3 = .ok (.invokevirtual 178, 3) := by decide +kernel
theorem dX8_mergeKinds_6 : decode cX8_mergeKinds 6 = .ok (.istore 4, 2) := by decide +kernel
theorem dX8_mergeKinds_8 : decode cX8_mergeKinds 8 = .ok (.iconst 0, 1) := by decide +kernel
theorem dX8_mergeKinds_9 : decode cX8_mergeKinds 9 = .ok (.istore 5, 2) := by decide +kernel
theorem dX8_mergeKinds_11 : decode cX8_mergeKinds 11 = .ok (.iconst 0, 1) := by decide +kernel
theorem dX8_mergeKinds_12 : decode cX8_mergeKinds 12 = .ok (.istore 6, 2) := by decide +kernel
theorem dX8_mergeKinds_14 : decode cX8_mergeKinds 14 = .ok (.iload 6, 2) := by decide +kernel
theorem dX8_mergeKinds_16 : decode cX8_mergeKinds 16 = .ok (.bipush 26, 2) := by decide +kernel
theorem dX8_mergeKinds_18 : decode cX8_mergeKinds 18 = .ok (.if_icmp .ge 124, 3) := by decide +kernel
theorem dX8_mergeKinds_21 : decode cX8_mergeKinds 21 = .ok (.aload_n 0, 1) := by decide +kernel
theorem dX8_mergeKinds_22 : decode cX8_mergeKinds 22 = .ok (.iload_n 1, 1) := by decide +kernel
theorem dX8_mergeKinds_23 : decode cX8_mergeKinds 23 = .ok (.bipush 26, 2) := by decide +kernel
theorem dX8_mergeKinds_25 : decode cX8_mergeKinds 25 = .ok (.iload 6, 2) := by decide +kernel
theorem dX8_mergeKinds_27 : decode cX8_mergeKinds 27 = .ok (.iadd, 1) := by decide +kernel
theorem dX8_mergeKinds_28 : decode cX8_mergeKinds 28 = .ok (.invokevirtual 106, 3) := by decide +kernel
theorem dX8_mergeKinds_31 : decode cX8_mergeKinds 31 = .ok (.iload_n 3, 1) := by decide +kernel
theorem dX8_mergeKinds_32 : decode cX8_mergeKinds 32 = .ok (.iconst 1, 1) := by decide +kernel
theorem dX8_mergeKinds_33 : decode cX8_mergeKinds 33 = .ok (.iadd, 1) := by decide +kernel
theorem dX8_mergeKinds_34 : decode cX8_mergeKinds 34 = .ok (.if_icmp .ne 7, 3) := by decide +kernel
theorem dX8_mergeKinds_37 : decode cX8_mergeKinds 37 = .ok (.iconst 1, 1) := by decide +kernel
theorem dX8_mergeKinds_38 : decode cX8_mergeKinds 38 = .ok (.goto 4, 3) := by decide +kernel
theorem dX8_mergeKinds_41 : decode cX8_mergeKinds 41 = .ok (.iconst 0, 1) := by decide +kernel
theorem dX8_mergeKinds_42 : decode cX8_mergeKinds 42 = .ok (.istore 7, 2) := by decide +kernel
theorem dX8_mergeKinds_44 : decode cX8_mergeKinds 44 = .ok (.iload 4, 2) := by decide +kernel
theorem dX8_mergeKinds_46 : decode cX8_mergeKinds 46 = .ok (.iload 6, 2) := by decide +kernel
theorem dX8_mergeKinds_48 : decode cX8_mergeKinds 48 = .ok (.ishr, 1) := by decide +kernel
theorem dX8_mergeKinds_49 : decode cX8_mergeKinds 49 = .ok (.iconst 1, 1) := by decide +kernel
theorem dX8_mergeKinds_50 : decode cX8_mergeKinds 50 = .ok (.iand, 1) := by decide +kernel
theorem dX8_mergeKinds_51 : decode cX8_mergeKinds 51 = .ok (.iconst 1, 1) := by decide +kernel
theorem dX8_mergeKinds_52 : decode cX8_mergeKinds 52 = .ok (.if_icmp .ne 7, 3) := by decide +kernel
theorem dX8_mergeKinds_55 : decode cX8_mergeKinds 55 = .ok (.iload_n 2, 1) := by decide +kernel
theorem dX8_mergeKinds_56 : decode cX8_mergeKinds 56 = .ok (.goto 12, 3) := by decide +kernel
theorem dX8_mergeKinds_59 : decode cX8_mergeKinds 59 = .ok (.aload_n 0, 1) := by decide +kernel
theorem dX8_mergeKinds_60 : decode cX8_mergeKinds 60 = .ok (.iload_n 1, 1) := by decide +kernel
theorem dX8_mergeKinds_61 : decode cX8_mergeKinds 61 = .ok (.iconst 0, 1) := by decide +kernel
theorem dX8_mergeKinds_62 : decode cX8_mergeKinds 62 = .ok (.iload 6, 2) := by decide +kernel
theorem dX8_mergeKinds_64 : decode cX8_mergeKinds 64 = .ok (.iadd, 1) := by decide +kernel
theorem dX8_mergeKinds_65 : decode cX8_mergeKinds 65 = .ok (.invokevirtual 106, 3) := by decide +kernel
theorem dX8_mergeKinds_68 : decode cX8_mergeKinds 68 = .ok (.istore 8, 2) := by decide +kernel
theorem dX8_mergeKinds_70 : decode cX8_mergeKinds 70 = .ok (.aload_n 0, 1) := by decide +kernel
theorem dX8_mergeKinds_71 : decode cX8_mergeKinds 71 = .ok (.iload_n 1, 1) := by decide +kernel
theorem dX8_mergeKinds_72 : decode cX8_mergeKinds 72 = .ok (.iconst 0, 1) := by decide +kernel
theorem dX8_mergeKinds_73 : decode cX8_mergeKinds 73 = .ok (.iload 6, 2) := by decide +kernel
theorem dX8_mergeKinds_75 : decode cX8_mergeKinds 75 = .ok (.iadd, 1) := by decide +kernel
theorem dX8_mergeKinds_76 : decode cX8_mergeKinds 76 = .ok (.iload 8, 2) := by decide +kernel
theorem dX8_mergeKinds_78 : decode cX8_mergeKinds 78 = .ok (.invokevirtual 159, 3) := by decide +kernel
theorem dX8_mergeKinds_81 : decode cX8_mergeKinds 81 = .ok (.aload_n 0, 1) := by decide +kernel
theorem dX8_mergeKinds_82 : decode cX8_mergeKinds 82 = .ok (.iload_n 1, 1) := by decide +kernel
theorem dX8_mergeKinds_83 : decode cX8_mergeKinds 83 = .ok (.bipush 26, 2) := by decide +kernel
theorem dX8_mergeKinds_85 : decode cX8_mergeKinds 85 = .ok (.iload 6, 2) := by decide +kernel
theorem dX8_mergeKinds_87 : decode cX8_mergeKinds 87 = .ok (.iadd, 1) := by decide +kernel
theorem dX8_mergeKinds_88 : decode cX8_mergeKinds 88 = .ok (.iload 7, 2) := by decide +kernel
theorem dX8_mergeKinds_90 : decode cX8_mergeKinds 90 = .ok (.ifCond .eq 9, 3) := by decide +kernel
theorem dX8_mergeKinds_93 : decode cX8_mergeKinds 93 = .ok (.iload_n 2, 1) := by decide +kernel
theorem dX8_mergeKinds_94 : decode cX8_mergeKinds 94 = .ok (.iconst 1, 1) := by decide +kernel
theorem dX8_mergeKinds_95 : decode cX8_mergeKinds 95 = .ok (.iadd, 1) := by decide +kernel
theorem dX8_mergeKinds_96 : decode cX8_mergeKinds 96 = .ok (.goto 13, 3) := by decide +kernel
theorem dX8_mergeKinds_99 : decode cX8_mergeKinds 99 = .ok (.aload_n 0, 1) := by decide +kernel
theorem dX8_mergeKinds_100 : decode cX8_mergeKinds 100 = .ok (.iload_n 1, 1) := by decide +kernel
theorem dX8_mergeKinds_101 : decode cX8_mergeKinds 101 = .ok (.bipush 26, 2) := by decide +kernel
theorem dX8_mergeKinds_103 : decode cX8_mergeKinds 103 = .ok (.iload 6, 2) := by decide +kernel
theorem dX8_mergeKinds_105 : decode cX8_mergeKinds 105 = .ok (.iadd, 1) := by decide +kernel
theorem dX8_mergeKinds_106 : decode cX8_mergeKinds 106 = .ok (.invokevirtual 106, 3) := by decide +kernel
theorem dX8_mergeKinds_109 : decode cX8_mergeKinds 109 = .ok (.invokevirtual 159, 3) := by decide +kernel
theorem dX8_mergeKinds_112 : decode cX8_mergeKinds 112 = .ok (.iload 5, 2) := by decide +kernel
theorem dX8_mergeKinds_114 : decode cX8_mergeKinds 114 = .ok (.iload 7, 2) := by decide +kernel
theorem dX8_mergeKinds_116 : decode cX8_mergeKinds 116 = .ok (.ifCond .eq 16, 3) := by decide +kernel
theorem dX8_mergeKinds_119 : decode cX8_mergeKinds 119 = .ok (.iload 8, 2) := by decide +kernel
theorem dX8_mergeKinds_121 : decode cX8_mergeKinds 121 = .ok (.iload_n 2, 1) := by decide +kernel
theorem dX8_mergeKinds_122 : decode cX8_mergeKinds 122 = .ok (.if_icmp .eq 10, 3) := by decide +kernel
theorem dX8_mergeKinds_125 : decode cX8_mergeKinds 125 = .ok (.iconst 1, 1) := by decide +kernel
theorem dX8_mergeKinds_126 : decode cX8_mergeKinds 126 = .ok (.iload 6, 2) := by decide +kernel
theorem dX8_mergeKinds_128 : decode cX8_mergeKinds 128 = .ok (.ishl, 1) := by decide +kernel
theorem dX8_mergeKinds_129 : decode cX8_mergeKinds 129 = .ok (.goto 4, 3) := by decide +kernel
theorem dX8_mergeKinds_132 : decode cX8_mergeKinds 132 = .ok (.iconst 0, 1) := by decide +kernel
theorem dX8_mergeKinds_133 : decode cX8_mergeKinds 133 = .ok (.ior, 1) := by decide +kernel
theorem dX8_mergeKinds_134 : decode cX8_mergeKinds 134 = .ok (.istore 5, 2) := by decide +kernel
theorem dX8_mergeKinds_136 : decode cX8_mergeKinds 136 = .ok (.iinc 6 1, 3) := by decide +kernel
theorem dX8_mergeKinds_139 : decode cX8_mergeKinds 139 = .ok (.goto (-125), 3) := by decide +kernel
theorem dX8_mergeKinds_142 : decode cX8_mergeKinds 142 = .ok (.aload_n 0, 1) := by decide +kernel
theorem dX8_mergeKinds_143 : decode cX8_mergeKinds 143 = .ok (.iload_n 1, 1) := by decide +kernel
theorem dX8_mergeKinds_144 : decode cX8_mergeKinds 144 = .ok (.invokevirtual 172, 3) := by decide +kernel
theorem dX8_mergeKinds_147 : decode cX8_mergeKinds 147 = .ok (.aload_n 0, 1) := by decide +kernel
theorem dX8_mergeKinds_148 : decode cX8_mergeKinds 148 = .ok (.iload_n 1, 1) := by decide +kernel
theorem dX8_mergeKinds_149 : decode cX8_mergeKinds 149 = .ok (.bipush 53, 2) := by decide +kernel
theorem dX8_mergeKinds_151 : decode cX8_mergeKinds 151 = .ok (.invokevirtual 106, 3) := by decide +kernel
theorem dX8_mergeKinds_154 : decode cX8_mergeKinds 154 = .ok (.bipush 6, 2) := by decide +kernel
theorem dX8_mergeKinds_156 : decode cX8_mergeKinds 156 = .ok (.if_icmp .ne 8, 3) := by decide +kernel
theorem dX8_mergeKinds_159 : decode cX8_mergeKinds 159 = .ok (.aload_n 0, 1) := by decide +kernel
theorem dX8_mergeKinds_160 : decode cX8_mergeKinds 160 = .ok (.iload_n 1, 1) := by decide +kernel
theorem dX8_mergeKinds_161 : decode cX8_mergeKinds 161 = .ok (.invokevirtual 181, 3) := by decide +kernel
theorem dX8_mergeKinds_164 : decode cX8_mergeKinds 164 = .ok (.bipush 54, 2) := by decide +kernel
theorem dX8_mergeKinds_166 : decode cX8_mergeKinds 166 = .ok (.iconst 4, 1) := by decide +kernel
theorem dX8_mergeKinds_167 : decode cX8_mergeKinds 167 = .ok (.aload_n 0, 1) := by decide +kernel
theorem dX8_mergeKinds_168 : decode cX8_mergeKinds 168 = .ok (.iload_n 1, 1) := by decide +kernel
theorem dX8_mergeKinds_169 : decode cX8_mergeKinds 169 = .ok (.bipush 53, 2) := by decide +kernel
theorem dX8_mergeKinds_171 : decode cX8_mergeKinds 171 = .ok (.invokevirtual 106, 3) := by decide +kernel
theorem dX8_mergeKinds_174 : decode cX8_mergeKinds 174 = .ok (.imul, 1) := by decide +kernel
theorem dX8_mergeKinds_175 : decode cX8_mergeKinds 175 = .ok (.iadd, 1) := by decide +kernel
theorem dX8_mergeKinds_176 : decode cX8_mergeKinds 176 = .ok (.istore 6, 2) := by decide +kernel
theorem dX8_mergeKinds_178 : decode cX8_mergeKinds 178 = .ok (.aload_n 0, 1) := by decide +kernel
theorem dX8_mergeKinds_179 : decode cX8_mergeKinds 179 = .ok (.iload_n 1, 1) := by decide +kernel
theorem dX8_mergeKinds_180 : decode cX8_mergeKinds 180 = .ok (.iload 6, 2) := by decide +kernel
theorem dX8_mergeKinds_182 : decode cX8_mergeKinds 182 = .ok (.iload_n 2, 1) := by decide +kernel
theorem dX8_mergeKinds_183 : decode cX8_mergeKinds 183 = .ok (.invokevirtual 159, 3) := by decide +kernel
theorem dX8_mergeKinds_186 : decode cX8_mergeKinds 186 = .ok (.aload_n 0, 1) := by decide +kernel
theorem dX8_mergeKinds_187 : decode cX8_mergeKinds 187 = .ok (.iload_n 1, 1) := by decide +kernel
theorem dX8_mergeKinds_188 : decode cX8_mergeKinds 188 = .ok (.iload 6, 2) := by decide +kernel
theorem dX8_mergeKinds_190 : decode cX8_mergeKinds 190 = .ok (.iconst 1, 1) := by decide +kernel
theorem dX8_mergeKinds_191 : decode cX8_mergeKinds 191 = .ok (.iadd, 1) := by decide +kernel
theorem dX8_mergeKinds_192 : decode cX8_mergeKinds 192 = .ok (.iload_n 3, 1) := by decide +kernel
theorem dX8_mergeKinds_193 : decode cX8_mergeKinds 193 = .ok (.invokevirtual 159, 3) := by decide +kernel
theorem dX8_mergeKinds_196 : decode cX8_mergeKinds 196 = .ok (.aload_n 0, 1) := by decide +kernel
theorem dX8_mergeKinds_197 : decode cX8_mergeKinds 197 = .ok (.iload_n 1, 1) := by decide +kernel
theorem dX8_mergeKinds_198 : decode cX8_mergeKinds 198 = .ok (.iload 6, 2) := by decide +kernel
theorem dX8_mergeKinds_200 : decode cX8_mergeKinds 200 = .ok (.iconst 2, 1) := by decide +kernel
theorem dX8_mergeKinds_201 : decode cX8_mergeKinds 201 = .ok (.iadd, 1) := by decide +kernel
theorem dX8_mergeKinds_202 : decode cX8_mergeKinds 202 = .ok (.iload 4, 2) := by decide +kernel
theorem dX8_mergeKinds_204 : decode cX8_mergeKinds 204 = .ok (.invokevirtual 159, 3) := by decide +kernel
theorem dX8_mergeKinds_207 : decode cX8_mergeKinds 207 = .ok (.aload_n 0, 1) := by decide +kernel
theorem dX8_mergeKinds_208 : decode cX8_mergeKinds 208 = .ok (.iload_n 1, 1) := by decide +kernel
theorem dX8_mergeKinds_209 : decode cX8_mergeKinds 209 = .ok (.iload 6, 2) := by decide +kernel
theorem dX8_mergeKinds_211 : decode cX8_mergeKinds 211 = .ok (.iconst 3, 1) := by decide +kernel
theorem dX8_mergeKinds_212 : decode cX8_mergeKinds 212 = .ok (.iadd, 1) := by decide +kernel
theorem dX8_mergeKinds_213 : decode cX8_mergeKinds 213 = .ok (.iload 5, 2) := by decide +kernel
theorem dX8_mergeKinds_215 : decode cX8_mergeKinds 215 = .ok (.invokevirtual 159, 3) := by decide +kernel
theorem dX8_mergeKinds_218 : decode cX8_mergeKinds 218 = .ok (.aload_n 0, 1) := by decide +kernel
theorem dX8_mergeKinds_219 : decode cX8_mergeKinds 219 = .ok (.iload_n 1, 1) := by decide +kernel
theorem dX8_mergeKinds_220 : decode cX8_mergeKinds 220 = .ok (.bipush 53, 2) := by decide +kernel
theorem dX8_mergeKinds_222 : decode cX8_mergeKinds 222 = .ok (.aload_n 0, 1) := by decide +kernel
theorem dX8_mergeKinds_223 : decode cX8_mergeKinds 223 = .ok (.iload_n 1, 1) := by decide +kernel
theorem dX8_mergeKinds_224 : decode cX8_mergeKinds 224 = .ok (.bipush 53, 2) := by decide +kernel
theorem dX8_mergeKinds_226 : decode cX8_mergeKinds 226 = .ok (.invokevirtual 106, 3) := by decide +kernel
theorem dX8_mergeKinds_229 : decode cX8_mergeKinds 229 = .ok (.iconst 1, 1) := by decide +kernel
theorem dX8_mergeKinds_230 : decode cX8_mergeKinds 230 = .ok (.iadd, 1) := by decide +kernel
theorem dX8_mergeKinds_231 : decode cX8_mergeKinds 231 = .ok (.invokevirtual 159, 3) := by decide +kernel
theorem dX8_mergeKinds_234 : decode cX8_mergeKinds 234 = .ok (.return_, 1) := by decide +kernel
set_option maxRecDepth 20000 in
theorem ggX8_areKinds_X8_isKind : GoodIn wsX8_areKinds wsX8_isKind := goodIn_r _ [4, 5, 6, 3, 7] (by decide +kernel) (by decide +kernel)
set_option maxRecDepth 20000 in
theorem gX8_areKinds_X8_isKind : GoodIn wsX8_areKinds (va_wsS RX8 169 yX8_isKind wsX8_isKind) := goodIn_app (goodIn_of _ (by decide +kernel)) ggX8_areKinds_X8_isKind
theorem dX8_areKinds_0 : decode cX8_areKinds 0 = .ok (.iload_n 0, 1) := by decide +kernel
theorem dX8_areKinds_1 : decode cX8_areKinds 1 = .ok (.invokestatic 169, 3) := by decide +kernel
theorem dX8_areKinds_4 : decode cX8_areKinds 4 = .ok (.ifCond .eq 19, 3) := by decide +kernel
theorem dX8_areKinds_7 : decode cX8_areKinds 7 = .ok (.iload_n 1, 1) := by decide +kernel
theorem dX8_areKinds_8 : decode cX8_areKinds 8 = .ok (.invokestatic 169, 3) := by decide +kernel
theorem dX8_areKinds_11 : decode cX8_areKinds 11 = .ok (.ifCond .eq 12, 3) := by decide +kernel
theorem dX8_areKinds_14 : decode cX8_areKinds 14 = .ok (.iload_n 0, 1) := by decide +kernel
theorem dX8_areKinds_15 : decode cX8_areKinds 15 = .ok (.iload_n 1, 1) := by decide +kernel
theorem dX8_areKinds_16 : decode cX8_areKinds 16 = .ok (.if_icmp .eq 7, 3) := by decide +kernel
theorem dX8_areKinds_19 : decode cX8_areKinds 19 = .ok (.iconst 1, 1) := by decide +kernel
theorem dX8_areKinds_20 : decode cX8_areKinds 20 = .ok (.goto 4, 3) := by decide +kernel
theorem dX8_areKinds_23 : decode cX8_areKinds 23 = .ok (.iconst 0, 1) := by decide +kernel
theorem dX8_areKinds_24 : decode cX8_areKinds 24 = .ok (.ireturn, 1) := by decide +kernel
set_option maxRecDepth 20000 in
theorem ggX8_merge_X8_isEar : GoodIn wsX8_merge wsX8_isEar := goodIn_r _ [5, 6, 7, 8, 4, 9, 52, 53, 54, 55, 56, 57, 58, 59, 60, 61, 62, 63, 64, 65, 66, 67, 68, 69] (by decide +kernel) (by decide +kernel)
set_option maxRecDepth 20000 in
theorem gX8_merge_X8_isEar : GoodIn wsX8_merge (wsV RX8 156 RX8 yX8_isEar wsX8_isEar) := goodIn_app (goodIn_of _ (by decide +kernel)) ggX8_merge_X8_isEar
set_option maxRecDepth 20000 in
theorem ggX8_merge_X8_areKinds : GoodIn wsX8_merge wsX8_areKinds := goodIn_r _ [12, 13, 14, 4, 15, 7, 8, 9] (by decide +kernel) (by decide +kernel)
set_option maxRecDepth 20000 in
theorem gX8_merge_X8_areKinds : GoodIn wsX8_merge (va_wsS RX8 184 yX8_areKinds wsX8_areKinds) := goodIn_app (goodIn_of _ (by decide +kernel)) ggX8_merge_X8_areKinds
set_option maxRecDepth 20000 in
theorem ggX8_merge_X8_record : GoodIn wsX8_merge wsX8_record := goodIn_r _ [19, 20, 21, 6, 22, 23, 4, 24, 52, 53, 54, 55, 56, 57, 58, 59, 60, 61, 62, 63, 64, 65, 66, 67, 68, 69] (by decide +kernel) (by decide +kernel)
set_option maxRecDepth 20000 in
theorem gX8_merge_X8_record : GoodIn wsX8_merge (wsV RX8 63 RX8 yX8_record wsX8_record) := goodIn_app (goodIn_of _ (by decide +kernel)) ggX8_merge_X8_record
set_option maxRecDepth 20000 in
theorem ggX8_merge_X8_mergeKinds : GoodIn wsX8_merge wsX8_mergeKinds := goodIn_r _ [28, 29, 30, 31, 4, 32, 33, 34, 35, 36, 6, 37, 38, 39, 40, 41, 42, 43, 44, 45, 46, 47, 48, 52, 53, 54, 55, 56, 57, 58, 59, 60, 61, 62, 63, 64, 65, 66, 67, 68, 69] (by decide +kernel) (by decide +kernel)
set_option maxRecDepth 20000 in
theorem gX8_merge_X8_mergeKinds : GoodIn wsX8_merge (wsV RX8 187 RX8 yX8_mergeKinds wsX8_mergeKinds) := goodIn_app (goodIn_of _ (by decide +kernel)) ggX8_merge_X8_mergeKinds
set_option maxRecDepth 20000 in
theorem ggX8_merge_X8_lettersOf : GoodIn wsX8_merge wsX8_lettersOf := goodIn_r _ [32, 33, 34, 35, 4, 36, 6, 52, 53, 54, 55, 56, 57, 58, 59, 60, 61, 62, 63, 64, 65, 66, 67, 68, 69] (by decide +kernel) (by decide +kernel)
set_option maxRecDepth 20000 in
theorem gX8_merge_X8_lettersOf : GoodIn wsX8_merge (wsV RX8 178 RX8 yX8_lettersOf wsX8_lettersOf) := goodIn_app (goodIn_of _ (by decide +kernel)) ggX8_merge_X8_lettersOf
set_option maxRecDepth 20000 in
theorem ggX8_merge_X8_bits : GoodIn wsX8_merge wsX8_bits := goodIn_r _ [51] (by decide +kernel) (by decide +kernel)
set_option maxRecDepth 20000 in
theorem gX8_merge_X8_bits : GoodIn wsX8_merge (va_wsS RX8 153 yX8_bits wsX8_bits) := goodIn_app (goodIn_of _ (by decide +kernel)) ggX8_merge_X8_bits
theorem dX8_merge_0 : decode cX8_merge 0 = .ok (.aload_n 0, 1) := by decide +kernel
theorem dX8_merge_1 : decode cX8_merge 1 = .ok (.iload_n 1, 1) := by decide +kernel
theorem dX8_merge_2 : decode cX8_merge 2 = .ok (.invokevirtual 156, 3) := by decide +kernel
theorem dX8_merge_5 : decode cX8_merge 5 = .ok (.ifCond .ne 5, 3) := by decide +kernel
theorem dX8_merge_8 : decode cX8_merge 8 = .ok (.iconst (-1), 1) := by decide +kernel
theorem dX8_merge_9 : decode cX8_merge 9 = .ok (.ireturn, 1) := by decide +kernel
theorem dX8_merge_10 : decode cX8_merge 10 = .ok (.iload_n 2, 1) := by decide +kernel
theorem dX8_merge_11 : decode cX8_merge 11 = .ok (.iload_n 3, 1) := by decide +kernel
theorem dX8_merge_12 : decode cX8_merge 12 = .ok (.invokestatic 184, 3) := by decide +kernel
theorem dX8_merge_15 : decode cX8_merge 15 = .ok (.ifCond .ne 6, 3) := by decide +kernel
theorem dX8_merge_18 : decode cX8_merge 18 = .ok (.bipush (-2), 2) := by decide +kernel
theorem dX8_merge_20 : decode cX8_merge 20 = .ok (.ireturn, 1) := by decide +kernel
theorem dX8_merge_21 : decode cX8_merge 21 = .ok (.aload_n 0, 1) := by decide +kernel
theorem dX8_merge_22 : decode cX8_merge 22 = .ok (.invokevirtual 63, 3) := by decide +kernel
theorem dX8_merge_25 : decode cX8_merge 25 = .ok (.aload_n 0, 1) := by decide +kernel
theorem dX8_merge_26 : decode cX8_merge 26 = .ok (.iload_n 1, 1) := by decide +kernel
theorem dX8_merge_27 : decode cX8_merge 27 = .ok (.iload_n 2, 1) := by decide +kernel
theorem dX8_merge_28 : decode cX8_merge 28 = .ok (.iload_n 3, 1) := by decide +kernel
theorem dX8_merge_29 : decode cX8_merge 29 = .ok (.invokevirtual 187, 3) := by decide +kernel
theorem dX8_merge_32 : decode cX8_merge 32 = .ok (.aload_n 0, 1) := by decide +kernel
theorem dX8_merge_33 : decode cX8_merge 33 = .ok (.iload_n 1, 1) := by decide +kernel
theorem dX8_merge_34 : decode cX8_merge 34 = .ok (.iload_n 2, 1) := by decide +kernel
theorem dX8_merge_35 : decode cX8_merge 35 = .ok (.invokevirtual 178, 3) := by decide +kernel
theorem dX8_merge_38 : decode cX8_merge 38 = .ok (.invokestatic 153, 3) := by decide +kernel
theorem dX8_merge_41 : decode cX8_merge 41 = .ok (.ireturn, 1) := by decide +kernel
set_option maxRecDepth 20000 in
theorem ggX8_split_X8_isEar : GoodIn wsX8_split wsX8_isEar := goodIn_r _ [5, 6, 7, 8, 4, 9, 31, 32, 33, 34, 35, 36, 37, 38, 39, 40, 41, 42, 43, 44, 45, 46, 47, 48] (by decide +kernel) (by decide +kernel)
set_option maxRecDepth 20000 in
theorem gX8_split_X8_isEar : GoodIn wsX8_split (wsV RX8 156 RX8 yX8_isEar wsX8_isEar) := goodIn_app (goodIn_of _ (by decide +kernel)) ggX8_split_X8_isEar
set_option maxRecDepth 20000 in
theorem ggX8_split_X8_at : GoodIn wsX8_split wsX8_at := goodIn_r _ [13, 6, 31, 32, 33, 34, 35, 36, 37, 38, 39, 40, 41, 42, 43, 44, 45, 46, 47, 48] (by decide +kernel) (by decide +kernel)
set_option maxRecDepth 20000 in
theorem gX8_split_X8_at : GoodIn wsX8_split (wsV RX8 106 RX8 yX8_at wsX8_at) := goodIn_app (goodIn_of _ (by decide +kernel)) ggX8_split_X8_at
set_option maxRecDepth 20000 in
theorem ggX8_split_X8_record : GoodIn wsX8_split wsX8_record := goodIn_r _ [17, 18, 19, 6, 20, 21, 4, 22, 31, 32, 33, 34, 35, 36, 37, 38, 39, 40, 41, 42, 43, 44, 45, 46, 47, 48] (by decide +kernel) (by decide +kernel)
set_option maxRecDepth 20000 in
theorem gX8_split_X8_record : GoodIn wsX8_split (wsV RX8 63 RX8 yX8_record wsX8_record) := goodIn_app (goodIn_of _ (by decide +kernel)) ggX8_split_X8_record
set_option maxRecDepth 20000 in
theorem ggX8_split_X8_lay : GoodIn wsX8_split wsX8_lay := goodIn_r _ [26, 6, 31, 32, 33, 34, 35, 36, 37, 38, 39, 40, 41, 42, 43, 44, 45, 46, 47, 48] (by decide +kernel) (by decide +kernel)
set_option maxRecDepth 20000 in
theorem gX8_split_X8_lay : GoodIn wsX8_split (wsV RX8 159 RX8 yX8_lay wsX8_lay) := goodIn_app (goodIn_of _ (by decide +kernel)) ggX8_split_X8_lay
set_option maxRecDepth 20000 in
theorem ggX8_split_X8_clean : GoodIn wsX8_split wsX8_clean := goodIn_r _ [30, 10, 11, 12, 4, 13, 6, 23, 24, 25, 26, 31, 32, 33, 34, 35, 36, 37, 38, 39, 40, 41, 42, 43, 44, 45, 46, 47, 48] (by decide +kernel) (by decide +kernel)
set_option maxRecDepth 20000 in
theorem gX8_split_X8_clean : GoodIn wsX8_split (wsV RX8 172 RX8 yX8_clean wsX8_clean) := goodIn_app (goodIn_of _ (by decide +kernel)) ggX8_split_X8_clean
theorem dX8_split_0 : decode cX8_split 0 = .ok (.aload_n 0, 1) := by decide +kernel
theorem dX8_split_1 : decode cX8_split 1 = .ok (.iload_n 1, 1) := by decide +kernel
theorem dX8_split_2 : decode cX8_split 2 = .ok (.invokevirtual 156, 3) := by decide +kernel
theorem dX8_split_5 : decode cX8_split 5 = .ok (.ifCond .ne 5, 3) := by decide +kernel
theorem dX8_split_8 : decode cX8_split 8 = .ok (.iconst (-1), 1) := by decide +kernel
theorem dX8_split_9 : decode cX8_split 9 = .ok (.ireturn, 1) := by decide +kernel
theorem dX8_split_10 : decode cX8_split 10 = .ok (.aload_n 0, 1) := by decide +kernel
theorem dX8_split_11 : decode cX8_split 11 = .ok (.iload_n 1, 1) := by decide +kernel
theorem dX8_split_12 : decode cX8_split 12 = .ok (.bipush 53, 2) := by decide +kernel
theorem dX8_split_14 : decode cX8_split 14 = .ok (.invokevirtual 106, 3) := by decide +kernel
theorem dX8_split_17 : decode cX8_split 17 = .ok (.ifCond .ne 6, 3) := by decide +kernel
theorem dX8_split_20 : decode cX8_split 20 = .ok (.bipush (-5), 2) := by decide +kernel
theorem dX8_split_22 : decode cX8_split 22 = .ok (.ireturn, 1) := by decide +kernel
theorem dX8_split_23 : decode cX8_split 23 = .ok (.aload_n 0, 1) := by decide +kernel
theorem dX8_split_24 : decode cX8_split 24 = .ok (.invokevirtual 63, 3) := by decide +kernel
theorem dX8_split_27 : decode cX8_split 27 = .ok (.aload_n 0, 1) := by decide +kernel
theorem dX8_split_28 : decode cX8_split 28 = .ok (.iload_n 1, 1) := by decide +kernel
theorem dX8_split_29 : decode cX8_split 29 = .ok (.bipush 53, 2) := by decide +kernel
theorem dX8_split_31 : decode cX8_split 31 = .ok (.aload_n 0, 1) := by decide +kernel
theorem dX8_split_32 : decode cX8_split 32 = .ok (.iload_n 1, 1) := by decide +kernel
theorem dX8_split_33 : decode cX8_split 33 = .ok (.bipush 53, 2) := by decide +kernel
theorem dX8_split_35 : decode cX8_split 35 = .ok (.invokevirtual 106, 3) := by decide +kernel
theorem dX8_split_38 : decode cX8_split 38 = .ok (.iconst 1, 1) := by decide +kernel
theorem dX8_split_39 : decode cX8_split 39 = .ok (.isub, 1) := by decide +kernel
theorem dX8_split_40 : decode cX8_split 40 = .ok (.invokevirtual 159, 3) := by decide +kernel
theorem dX8_split_43 : decode cX8_split 43 = .ok (.bipush 54, 2) := by decide +kernel
theorem dX8_split_45 : decode cX8_split 45 = .ok (.iconst 4, 1) := by decide +kernel
theorem dX8_split_46 : decode cX8_split 46 = .ok (.aload_n 0, 1) := by decide +kernel
theorem dX8_split_47 : decode cX8_split 47 = .ok (.iload_n 1, 1) := by decide +kernel
theorem dX8_split_48 : decode cX8_split 48 = .ok (.bipush 53, 2) := by decide +kernel
theorem dX8_split_50 : decode cX8_split 50 = .ok (.invokevirtual 106, 3) := by decide +kernel
theorem dX8_split_53 : decode cX8_split 53 = .ok (.imul, 1) := by decide +kernel
theorem dX8_split_54 : decode cX8_split 54 = .ok (.iadd, 1) := by decide +kernel
theorem dX8_split_55 : decode cX8_split 55 = .ok (.istore_n 2, 1) := by decide +kernel
theorem dX8_split_56 : decode cX8_split 56 = .ok (.aload_n 0, 1) := by decide +kernel
theorem dX8_split_57 : decode cX8_split 57 = .ok (.iload_n 1, 1) := by decide +kernel
theorem dX8_split_58 : decode cX8_split 58 = .ok (.iload_n 2, 1) := by decide +kernel
theorem dX8_split_59 : decode cX8_split 59 = .ok (.invokevirtual 106, 3) := by decide +kernel
theorem dX8_split_62 : decode cX8_split 62 = .ok (.istore_n 3, 1) := by decide +kernel
theorem dX8_split_63 : decode cX8_split 63 = .ok (.aload_n 0, 1) := by decide +kernel
theorem dX8_split_64 : decode cX8_split 64 = .ok (.iload_n 1, 1) := by decide +kernel
theorem dX8_split_65 : decode cX8_split 65 = .ok (.iload_n 2, 1) := by decide +kernel
theorem dX8_split_66 : decode cX8_split 66 = .ok (.iconst 1, 1) := by decide +kernel
theorem dX8_split_67 : decode cX8_split 67 = .ok (.iadd, 1) := by decide +kernel
theorem dX8_split_68 : decode cX8_split 68 = .ok (.invokevirtual 106, 3) := by decide +kernel
theorem dX8_split_71 : decode cX8_split 71 = .ok (.istore 4, 2) := by decide +kernel
theorem dX8_split_73 : decode cX8_split 73 = .ok (.iconst 0, 1) := by decide +kernel
theorem dX8_split_74 : decode cX8_split 74 = .ok (.istore 5, 2) := by decide +kernel
theorem dX8_split_76 : decode cX8_split 76 = .ok (.iload 5, 2) := by decide +kernel
theorem dX8_split_78 : decode cX8_split 78 = .ok (.bipush 26, 2) := by decide +kernel
theorem dX8_split_80 : decode cX8_split 80 = .ok (.if_icmp .ge 146, 3) := by decide +kernel
theorem dX8_split_83 : decode cX8_split 83 = .ok (.aload_n 0, 1) := by decide +kernel
theorem dX8_split_84 : decode cX8_split 84 = .ok (.iload_n 1, 1) := by decide +kernel
theorem dX8_split_85 : decode cX8_split 85 = .ok (.iload_n 2, 1) := by decide +kernel
theorem dX8_split_86 : decode cX8_split 86 = .ok (.iconst 2, 1) := by decide +kernel
theorem dX8_split_87 : decode cX8_split 87 = .ok (.iadd, 1) := by decide +kernel
theorem dX8_split_88 : decode cX8_split 88 = .ok (.invokevirtual 106, 3) := by decide +kernel
theorem dX8_split_91 : decode cX8_split 91 = .ok (.iload 5, 2) := by decide +kernel
theorem dX8_split_93 : decode cX8_split 93 = .ok (.ishr, 1) := by decide +kernel
theorem dX8_split_94 : decode cX8_split 94 = .ok (.iconst 1, 1) := by decide +kernel
theorem dX8_split_95 : decode cX8_split 95 = .ok (.iand, 1) := by decide +kernel
theorem dX8_split_96 : decode cX8_split 96 = .ok (.iconst 1, 1) := by decide +kernel
theorem dX8_split_97 : decode cX8_split 97 = .ok (.if_icmp .ne 20, 3) := by decide +kernel
theorem dX8_split_100 : decode cX8_split 100 = .ok (.aload_n 0, 1) := by decide +kernel
theorem dX8_split_101 : decode cX8_split 101 = .ok (.iload_n 1, 1) := by decide +kernel
theorem dX8_split_102 : decode cX8_split 102 = .ok (.iconst 0, 1) := by decide +kernel
theorem dX8_split_103 : decode cX8_split 103 = .ok (.iload 5, 2) := by decide +kernel
theorem dX8_split_105 : decode cX8_split 105 = .ok (.iadd, 1) := by decide +kernel
theorem dX8_split_106 : decode cX8_split 106 = .ok (.invokevirtual 106, 3) := by decide +kernel
theorem dX8_split_109 : decode cX8_split 109 = .ok (.iload_n 3, 1) := by decide +kernel
theorem dX8_split_110 : decode cX8_split 110 = .ok (.if_icmp .ne 7, 3) := by decide +kernel
theorem dX8_split_113 : decode cX8_split 113 = .ok (.iconst 1, 1) := by decide +kernel
theorem dX8_split_114 : decode cX8_split 114 = .ok (.goto 4, 3) := by decide +kernel
theorem dX8_split_117 : decode cX8_split 117 = .ok (.iconst 0, 1) := by decide +kernel
theorem dX8_split_118 : decode cX8_split 118 = .ok (.istore 6, 2) := by decide +kernel
theorem dX8_split_120 : decode cX8_split 120 = .ok (.aload_n 0, 1) := by decide +kernel
theorem dX8_split_121 : decode cX8_split 121 = .ok (.iload_n 1, 1) := by decide +kernel
theorem dX8_split_122 : decode cX8_split 122 = .ok (.iload_n 2, 1) := by decide +kernel
theorem dX8_split_123 : decode cX8_split 123 = .ok (.iconst 3, 1) := by decide +kernel
theorem dX8_split_124 : decode cX8_split 124 = .ok (.iadd, 1) := by decide +kernel
theorem dX8_split_125 : decode cX8_split 125 = .ok (.invokevirtual 106, 3) := by decide +kernel
theorem dX8_split_128 : decode cX8_split 128 = .ok (.iload 5, 2) := by decide +kernel
theorem dX8_split_130 : decode cX8_split 130 = .ok (.ishr, 1) := by decide +kernel
theorem dX8_split_131 : decode cX8_split 131 = .ok (.iconst 1, 1) := by decide +kernel
theorem dX8_split_132 : decode cX8_split 132 = .ok (.iand, 1) := by decide +kernel
theorem dX8_split_133 : decode cX8_split 133 = .ok (.iconst 1, 1) := by decide +kernel
theorem dX8_split_134 : decode cX8_split 134 = .ok (.if_icmp .ne 23, 3) := by decide +kernel
theorem dX8_split_137 : decode cX8_split 137 = .ok (.aload_n 0, 1) := by decide +kernel
theorem dX8_split_138 : decode cX8_split 138 = .ok (.iload_n 1, 1) := by decide +kernel
theorem dX8_split_139 : decode cX8_split 139 = .ok (.bipush 26, 2) := by decide +kernel
theorem dX8_split_141 : decode cX8_split 141 = .ok (.iload 5, 2) := by decide +kernel
theorem dX8_split_143 : decode cX8_split 143 = .ok (.iadd, 1) := by decide +kernel
theorem dX8_split_144 : decode cX8_split 144 = .ok (.invokevirtual 106, 3) := by decide +kernel
theorem dX8_split_147 : decode cX8_split 147 = .ok (.iload_n 3, 1) := by decide +kernel
theorem dX8_split_148 : decode cX8_split 148 = .ok (.iconst 1, 1) := by decide +kernel
theorem dX8_split_149 : decode cX8_split 149 = .ok (.iadd, 1) := by decide +kernel
theorem dX8_split_150 : decode cX8_split 150 = .ok (.if_icmp .ne 7, 3) := by decide +kernel
theorem dX8_split_153 : decode cX8_split 153 = .ok (.iconst 1, 1) := by decide +kernel
theorem dX8_split_154 : decode cX8_split 154 = .ok (.goto 4, 3) := by decide +kernel
theorem dX8_split_157 : decode cX8_split 157 = .ok (.iconst 0, 1) := by decide +kernel
theorem dX8_split_158 : decode cX8_split 158 = .ok (.istore 7, 2) := by decide +kernel
theorem dX8_split_160 : decode cX8_split 160 = .ok (.aload_n 0, 1) := by decide +kernel
theorem dX8_split_161 : decode cX8_split 161 = .ok (.iload_n 1, 1) := by decide +kernel
theorem dX8_split_162 : decode cX8_split 162 = .ok (.iconst 0, 1) := by decide +kernel
theorem dX8_split_163 : decode cX8_split 163 = .ok (.iload 5, 2) := by decide +kernel
theorem dX8_split_165 : decode cX8_split 165 = .ok (.iadd, 1) := by decide +kernel
theorem dX8_split_166 : decode cX8_split 166 = .ok (.iload 6, 2) := by decide +kernel
theorem dX8_split_168 : decode cX8_split 168 = .ok (.ifCond .eq 8, 3) := by decide +kernel
theorem dX8_split_171 : decode cX8_split 171 = .ok (.iload 4, 2) := by decide +kernel
theorem dX8_split_173 : decode cX8_split 173 = .ok (.goto 12, 3) := by decide +kernel
theorem dX8_split_176 : decode cX8_split 176 = .ok (.aload_n 0, 1) := by decide +kernel
theorem dX8_split_177 : decode cX8_split 177 = .ok (.iload_n 1, 1) := by decide +kernel
theorem dX8_split_178 : decode cX8_split 178 = .ok (.iconst 0, 1) := by decide +kernel
theorem dX8_split_179 : decode cX8_split 179 = .ok (.iload 5, 2) := by decide +kernel
theorem dX8_split_181 : decode cX8_split 181 = .ok (.iadd, 1) := by decide +kernel
theorem dX8_split_182 : decode cX8_split 182 = .ok (.invokevirtual 106, 3) := by decide +kernel
theorem dX8_split_185 : decode cX8_split 185 = .ok (.invokevirtual 159, 3) := by decide +kernel
theorem dX8_split_188 : decode cX8_split 188 = .ok (.aload_n 0, 1) := by decide +kernel
theorem dX8_split_189 : decode cX8_split 189 = .ok (.iload_n 1, 1) := by decide +kernel
theorem dX8_split_190 : decode cX8_split 190 = .ok (.bipush 26, 2) := by decide +kernel
theorem dX8_split_192 : decode cX8_split 192 = .ok (.iload 5, 2) := by decide +kernel
theorem dX8_split_194 : decode cX8_split 194 = .ok (.iadd, 1) := by decide +kernel
theorem dX8_split_195 : decode cX8_split 195 = .ok (.iload 7, 2) := by decide +kernel
theorem dX8_split_197 : decode cX8_split 197 = .ok (.ifCond .eq 10, 3) := by decide +kernel
theorem dX8_split_200 : decode cX8_split 200 = .ok (.iload 4, 2) := by decide +kernel
theorem dX8_split_202 : decode cX8_split 202 = .ok (.iconst 1, 1) := by decide +kernel
theorem dX8_split_203 : decode cX8_split 203 = .ok (.iadd, 1) := by decide +kernel
theorem dX8_split_204 : decode cX8_split 204 = .ok (.goto 13, 3) := by decide +kernel
theorem dX8_split_207 : decode cX8_split 207 = .ok (.aload_n 0, 1) := by decide +kernel
theorem dX8_split_208 : decode cX8_split 208 = .ok (.iload_n 1, 1) := by decide +kernel
theorem dX8_split_209 : decode cX8_split 209 = .ok (.bipush 26, 2) := by decide +kernel
theorem dX8_split_211 : decode cX8_split 211 = .ok (.iload 5, 2) := by decide +kernel
theorem dX8_split_213 : decode cX8_split 213 = .ok (.iadd, 1) := by decide +kernel
theorem dX8_split_214 : decode cX8_split 214 = .ok (.invokevirtual 106, 3) := by decide +kernel
theorem dX8_split_217 : decode cX8_split 217 = .ok (.invokevirtual 159, 3) := by decide +kernel
theorem dX8_split_220 : decode cX8_split 220 = .ok (.iinc 5 1, 3) := by decide +kernel
theorem dX8_split_223 : decode cX8_split 223 = .ok (.goto (-147), 3) := by decide +kernel
theorem dX8_split_226 : decode cX8_split 226 = .ok (.aload_n 0, 1) := by decide +kernel
theorem dX8_split_227 : decode cX8_split 227 = .ok (.iload_n 1, 1) := by decide +kernel
theorem dX8_split_228 : decode cX8_split 228 = .ok (.invokevirtual 172, 3) := by decide +kernel
theorem dX8_split_231 : decode cX8_split 231 = .ok (.iload 4, 2) := by decide +kernel
theorem dX8_split_233 : decode cX8_split 233 = .ok (.ireturn, 1) := by decide +kernel
set_option maxRecDepth 20000 in
theorem ggX8_letterSet_X8_lengthOf : GoodIn wsX8_letterSet wsX8_lengthOf := goodIn_r _ [5, 6, 11, 12, 13, 14, 15, 16, 17, 18, 19, 20, 21, 22, 23, 24, 25, 26, 27, 28] (by decide +kernel) (by decide +kernel)
set_option maxRecDepth 20000 in
theorem gX8_letterSet_X8_lengthOf : GoodIn wsX8_letterSet (wsV RX8 78 RX8 yX8_lengthOf wsX8_lengthOf) := goodIn_app (goodIn_of _ (by decide +kernel)) ggX8_letterSet_X8_lengthOf
set_option maxRecDepth 20000 in
theorem ggX8_letterSet_X8_letterOf : GoodIn wsX8_letterSet wsX8_letterOf := goodIn_r _ [10, 6, 11, 12, 13, 14, 15, 16, 17, 18, 19, 20, 21, 22, 23, 24, 25, 26, 27, 28] (by decide +kernel) (by decide +kernel)
set_option maxRecDepth 20000 in
theorem gX8_letterSet_X8_letterOf : GoodIn wsX8_letterSet (wsV RX8 82 RX8 yX8_letterOf wsX8_letterOf) := goodIn_app (goodIn_of _ (by decide +kernel)) ggX8_letterSet_X8_letterOf
theorem dX8_letterSet_0 : decode cX8_letterSet 0 = .ok (.iconst 0, 1) := by decide +kernel
theorem dX8_letterSet_1 : decode cX8_letterSet 1 = .ok (.istore_n 2, 1) := by decide +kernel
theorem dX8_letterSet_2 : decode cX8_letterSet 2 = .ok (.iconst 0, 1) := by decide +kernel
theorem dX8_letterSet_3 : decode cX8_letterSet 3 = .ok (.istore_n 3, 1) := by decide +kernel
theorem dX8_letterSet_4 : decode cX8_letterSet 4 = .ok (.iload_n 3, 1) := by decide +kernel
theorem dX8_letterSet_5 : decode cX8_letterSet 5 = .ok (.aload_n 0, 1) := by decide +kernel
theorem dX8_letterSet_6 : decode cX8_letterSet 6 = .ok (.iload_n 1, 1) := by decide +kernel
theorem dX8_letterSet_7 : decode cX8_letterSet 7 = .ok (.invokevirtual 78, 3) := by decide +kernel
theorem dX8_letterSet_10 : decode cX8_letterSet 10 = .ok (.if_icmp .ge 20, 3) := by decide +kernel
theorem dX8_letterSet_13 : decode cX8_letterSet 13 = .ok (.iload_n 2, 1) := by decide +kernel
theorem dX8_letterSet_14 : decode cX8_letterSet 14 = .ok (.iconst 1, 1) := by decide +kernel
theorem dX8_letterSet_15 : decode cX8_letterSet 15 = .ok (.aload_n 0, 1) := by decide +kernel
theorem dX8_letterSet_16 : decode cX8_letterSet 16 = .ok (.iload_n 1, 1) := by decide +kernel
theorem dX8_letterSet_17 : decode cX8_letterSet 17 = .ok (.iload_n 3, 1) := by decide +kernel
theorem dX8_letterSet_18 : decode cX8_letterSet 18 = .ok (.invokevirtual 82, 3) := by decide +kernel
theorem dX8_letterSet_21 : decode cX8_letterSet 21 = .ok (.ishl, 1) := by decide +kernel
theorem dX8_letterSet_22 : decode cX8_letterSet 22 = .ok (.ior, 1) := by decide +kernel
theorem dX8_letterSet_23 : decode cX8_letterSet 23 = .ok (.istore_n 2, 1) := by decide +kernel
theorem dX8_letterSet_24 : decode cX8_letterSet 24 = .ok (.iinc 3 1, 3) := by decide +kernel
theorem dX8_letterSet_27 : decode cX8_letterSet 27 = .ok (.goto (-23), 3) := by decide +kernel
theorem dX8_letterSet_30 : decode cX8_letterSet 30 = .ok (.iload_n 2, 1) := by decide +kernel
theorem dX8_letterSet_31 : decode cX8_letterSet 31 = .ok (.ireturn, 1) := by decide +kernel
set_option maxRecDepth 20000 in
theorem ggX8_name_X8_isName : GoodIn wsX8_name wsX8_isName := goodIn_r _ [5, 6, 7, 8, 4, 9, 22, 23, 24, 25, 26, 27, 28, 29, 30, 31, 32, 33, 34, 35, 36, 37, 38, 39] (by decide +kernel) (by decide +kernel)
set_option maxRecDepth 20000 in
theorem gX8_name_X8_isName : GoodIn wsX8_name (wsV RX8 93 RX8 yX8_isName wsX8_isName) := goodIn_app (goodIn_of _ (by decide +kernel)) ggX8_name_X8_isName
set_option maxRecDepth 20000 in
theorem ggX8_name_X8_in : GoodIn wsX8_name wsX8_in := goodIn_r _ [9] (by decide +kernel) (by decide +kernel)
set_option maxRecDepth 20000 in
theorem gX8_name_X8_in : GoodIn wsX8_name (va_wsS RX8 51 yX8_in wsX8_in) := goodIn_app (goodIn_of _ (by decide +kernel)) ggX8_name_X8_in
set_option maxRecDepth 20000 in
theorem ggX8_name_X8_lengthOf : GoodIn wsX8_name wsX8_lengthOf := goodIn_r _ [13, 6, 22, 23, 24, 25, 26, 27, 28, 29, 30, 31, 32, 33, 34, 35, 36, 37, 38, 39] (by decide +kernel) (by decide +kernel)
set_option maxRecDepth 20000 in
theorem gX8_name_X8_lengthOf : GoodIn wsX8_name (wsV RX8 78 RX8 yX8_lengthOf wsX8_lengthOf) := goodIn_app (goodIn_of _ (by decide +kernel)) ggX8_name_X8_lengthOf
set_option maxRecDepth 20000 in
theorem ggX8_name_X8_letterSet : GoodIn wsX8_name wsX8_letterSet := goodIn_r _ [17, 10, 11, 12, 4, 13, 6, 18, 19, 20, 21, 22, 23, 24, 25, 26, 27, 28, 29, 30, 31, 32, 33, 34, 35, 36, 37, 38, 39] (by decide +kernel) (by decide +kernel)
set_option maxRecDepth 20000 in
theorem gX8_name_X8_letterSet : GoodIn wsX8_name (wsV RX8 190 RX8 yX8_letterSet wsX8_letterSet) := goodIn_app (goodIn_of _ (by decide +kernel)) ggX8_name_X8_letterSet
set_option maxRecDepth 20000 in
theorem ggX8_name_X8_letterOf : GoodIn wsX8_name wsX8_letterOf := goodIn_r _ [21, 6, 22, 23, 24, 25, 26, 27, 28, 29, 30, 31, 32, 33, 34, 35, 36, 37, 38, 39] (by decide +kernel) (by decide +kernel)
set_option maxRecDepth 20000 in
theorem gX8_name_X8_letterOf : GoodIn wsX8_name (wsV RX8 82 RX8 yX8_letterOf wsX8_letterOf) := goodIn_app (goodIn_of _ (by decide +kernel)) ggX8_name_X8_letterOf
theorem dX8_name_0 : decode cX8_name 0 = .ok (.aload_n 0, 1) := by decide +kernel
theorem dX8_name_1 : decode cX8_name 1 = .ok (.iload_n 1, 1) := by decide +kernel
theorem dX8_name_2 : decode cX8_name 2 = .ok (.invokevirtual 93, 3) := by decide +kernel
theorem dX8_name_5 : decode cX8_name 5 = .ok (.ifCond .ne 5, 3) := by decide +kernel
theorem dX8_name_8 : decode cX8_name 8 = .ok (.iconst (-1), 1) := by decide +kernel
theorem dX8_name_9 : decode cX8_name 9 = .ok (.ireturn, 1) := by decide +kernel
theorem dX8_name_10 : decode cX8_name 10 = .ok (.iload_n 2, 1) := by decide +kernel
theorem dX8_name_11 : decode cX8_name 11 = .ok (.iconst 0, 1) := by decide +kernel
theorem dX8_name_12 : decode cX8_name 12 = .ok (.bipush 11, 2) := by decide +kernel
theorem dX8_name_14 : decode cX8_name 14 = .ok (.invokestatic 51, 3) := by decide +kernel
theorem dX8_name_17 : decode cX8_name 17 = .ok (.ifCond .ne 6, 3) := by decide +kernel
theorem dX8_name_20 : decode cX8_name 20 = .ok (.bipush (-2), 2) := by decide +kernel
theorem dX8_name_22 : decode cX8_name 22 = .ok (.ireturn, 1) := by decide +kernel
theorem dX8_name_23 : decode cX8_name 23 = .ok (.iload_n 2, 1) := by decide +kernel
theorem dX8_name_24 : decode cX8_name 24 = .ok (.ifCond .ne 9, 3) := by decide +kernel
theorem dX8_name_27 : decode cX8_name 27 = .ok (.aload_n 0, 1) := by decide +kernel
theorem dX8_name_28 : decode cX8_name 28 = .ok (.iload_n 1, 1) := by decide +kernel
theorem dX8_name_29 : decode cX8_name 29 = .ok (.invokevirtual 78, 3) := by decide +kernel
theorem dX8_name_32 : decode cX8_name 32 = .ok (.ireturn, 1) := by decide +kernel
theorem dX8_name_33 : decode cX8_name 33 = .ok (.iload_n 2, 1) := by decide +kernel
theorem dX8_name_34 : decode cX8_name 34 = .ok (.bipush 11, 2) := by decide +kernel
theorem dX8_name_36 : decode cX8_name 36 = .ok (.if_icmp .ne 11, 3) := by decide +kernel
theorem dX8_name_39 : decode cX8_name 39 = .ok (.aload_n 0, 1) := by decide +kernel
theorem dX8_name_40 : decode cX8_name 40 = .ok (.iload_n 1, 1) := by decide +kernel
theorem dX8_name_41 : decode cX8_name 41 = .ok (.invokevirtual 190, 3) := by decide +kernel
theorem dX8_name_44 : decode cX8_name 44 = .ok (.goto 25, 3) := by decide +kernel
theorem dX8_name_47 : decode cX8_name 47 = .ok (.iload_n 2, 1) := by decide +kernel
theorem dX8_name_48 : decode cX8_name 48 = .ok (.aload_n 0, 1) := by decide +kernel
theorem dX8_name_49 : decode cX8_name 49 = .ok (.iload_n 1, 1) := by decide +kernel
theorem dX8_name_50 : decode cX8_name 50 = .ok (.invokevirtual 78, 3) := by decide +kernel
theorem dX8_name_53 : decode cX8_name 53 = .ok (.if_icmp .gt 14, 3) := by decide +kernel
theorem dX8_name_56 : decode cX8_name 56 = .ok (.aload_n 0, 1) := by decide +kernel
theorem dX8_name_57 : decode cX8_name 57 = .ok (.iload_n 1, 1) := by decide +kernel
theorem dX8_name_58 : decode cX8_name 58 = .ok (.iload_n 2, 1) := by decide +kernel
theorem dX8_name_59 : decode cX8_name 59 = .ok (.iconst 1, 1) := by decide +kernel
theorem dX8_name_60 : decode cX8_name 60 = .ok (.isub, 1) := by decide +kernel
theorem dX8_name_61 : decode cX8_name 61 = .ok (.invokevirtual 82, 3) := by decide +kernel
theorem dX8_name_64 : decode cX8_name 64 = .ok (.goto 5, 3) := by decide +kernel
theorem dX8_name_67 : decode cX8_name 67 = .ok (.bipush (-6), 2) := by decide +kernel
theorem dX8_name_69 : decode cX8_name 69 = .ok (.ireturn, 1) := by decide +kernel
set_option maxRecDepth 20000 in
theorem ggX8_of_X8_isEar : GoodIn wsX8_of wsX8_isEar := goodIn_r _ [5, 6, 7, 8, 4, 9, 25, 26, 27, 28, 29, 30, 31, 32, 33, 34, 35, 36, 37, 38, 39, 40, 41, 42] (by decide +kernel) (by decide +kernel)
set_option maxRecDepth 20000 in
theorem gX8_of_X8_isEar : GoodIn wsX8_of (wsV RX8 156 RX8 yX8_isEar wsX8_isEar) := goodIn_app (goodIn_of _ (by decide +kernel)) ggX8_of_X8_isEar
set_option maxRecDepth 20000 in
theorem ggX8_of_X8_isLetter : GoodIn wsX8_of wsX8_isLetter := goodIn_r _ [12, 7, 8, 4, 9] (by decide +kernel) (by decide +kernel)
set_option maxRecDepth 20000 in
theorem gX8_of_X8_isLetter : GoodIn wsX8_of (va_wsS RX8 166 yX8_isLetter wsX8_isLetter) := goodIn_app (goodIn_of _ (by decide +kernel)) ggX8_of_X8_isLetter
set_option maxRecDepth 20000 in
theorem ggX8_of_X8_at : GoodIn wsX8_of wsX8_at := goodIn_r _ [16, 6, 25, 26, 27, 28, 29, 30, 31, 32, 33, 34, 35, 36, 37, 38, 39, 40, 41, 42] (by decide +kernel) (by decide +kernel)
set_option maxRecDepth 20000 in
theorem gX8_of_X8_at : GoodIn wsX8_of (wsV RX8 106 RX8 yX8_at wsX8_at) := goodIn_app (goodIn_of _ (by decide +kernel)) ggX8_of_X8_at
set_option maxRecDepth 20000 in
theorem ggX8_of_X8_secondOf : GoodIn wsX8_of wsX8_secondOf := goodIn_r _ [20, 13, 14, 15, 4, 16, 6, 25, 26, 27, 28, 29, 30, 31, 32, 33, 34, 35, 36, 37, 38, 39, 40, 41, 42] (by decide +kernel) (by decide +kernel)
set_option maxRecDepth 20000 in
theorem gX8_of_X8_secondOf : GoodIn wsX8_of (wsV RX8 175 RX8 yX8_secondOf wsX8_secondOf) := goodIn_app (goodIn_of _ (by decide +kernel)) ggX8_of_X8_secondOf
set_option maxRecDepth 20000 in
theorem ggX8_of_X8_lettersOf : GoodIn wsX8_of wsX8_lettersOf := goodIn_r _ [24, 13, 14, 15, 4, 16, 6, 25, 26, 27, 28, 29, 30, 31, 32, 33, 34, 35, 36, 37, 38, 39, 40, 41, 42] (by decide +kernel) (by decide +kernel)
set_option maxRecDepth 20000 in
theorem gX8_of_X8_lettersOf : GoodIn wsX8_of (wsV RX8 178 RX8 yX8_lettersOf wsX8_lettersOf) := goodIn_app (goodIn_of _ (by decide +kernel)) ggX8_of_X8_lettersOf
theorem dX8_of_0 : decode cX8_of 0 = .ok (.aload_n 0, 1) := by decide +kernel
theorem dX8_of_1 : decode cX8_of 1 = .ok (.iload_n 1, 1) := by decide +kernel
theorem dX8_of_2 : decode cX8_of 2 = .ok (.invokevirtual 156, 3) := by decide +kernel
theorem dX8_of_5 : decode cX8_of 5 = .ok (.ifCond .eq 10, 3) := by decide +kernel
theorem dX8_of_8 : decode cX8_of 8 = .ok (.iload_n 2, 1) := by decide +kernel
theorem dX8_of_9 : decode cX8_of 9 = .ok (.invokestatic 166, 3) := by decide +kernel
theorem dX8_of_12 : decode cX8_of 12 = .ok (.ifCond .ne 5, 3) := by decide +kernel
theorem dX8_of_15 : decode cX8_of 15 = .ok (.iconst (-1), 1) := by decide +kernel
theorem dX8_of_16 : decode cX8_of 16 = .ok (.ireturn, 1) := by decide +kernel
theorem dX8_of_17 : decode cX8_of 17 = .ok (.aload_n 0, 1) := by decide +kernel
theorem dX8_of_18 : decode cX8_of 18 = .ok (.iload_n 1, 1) := by decide +kernel
theorem dX8_of_19 : decode cX8_of 19 = .ok (.iconst 0, 1) := by decide +kernel
theorem dX8_of_20 : decode cX8_of 20 = .ok (.iload_n 2, 1) := by decide +kernel
theorem dX8_of_21 : decode cX8_of 21 = .ok (.iadd, 1) := by decide +kernel
theorem dX8_of_22 : decode cX8_of 22 = .ok (.invokevirtual 106, 3) := by decide +kernel
theorem dX8_of_25 : decode cX8_of 25 = .ok (.istore 4, 2) := by decide +kernel
theorem dX8_of_27 : decode cX8_of 27 = .ok (.iload_n 3, 1) := by decide +kernel
theorem dX8_of_28 : decode cX8_of 28 = .ok (.ifCond .ne 8, 3) := by decide +kernel
theorem dX8_of_31 : decode cX8_of 31 = .ok (.iload 4, 2) := by decide +kernel
theorem dX8_of_33 : decode cX8_of 33 = .ok (.goto 34, 3) := by decide +kernel
theorem dX8_of_36 : decode cX8_of 36 = .ok (.iload_n 3, 1) := by decide +kernel
theorem dX8_of_37 : decode cX8_of 37 = .ok (.iconst 1, 1) := by decide +kernel
theorem dX8_of_38 : decode cX8_of 38 = .ok (.if_icmp .ne 12, 3) := by decide +kernel
theorem dX8_of_41 : decode cX8_of 41 = .ok (.aload_n 0, 1) := by decide +kernel
theorem dX8_of_42 : decode cX8_of 42 = .ok (.iload_n 1, 1) := by decide +kernel
theorem dX8_of_43 : decode cX8_of 43 = .ok (.iload_n 2, 1) := by decide +kernel
theorem dX8_of_44 : decode cX8_of 44 = .ok (.invokevirtual 175, 3) := by decide +kernel
theorem dX8_of_47 : decode cX8_of 47 = .ok (.goto 20, 3) := by decide +kernel
theorem dX8_of_50 : decode cX8_of 50 = .ok (.iload_n 3, 1) := by decide +kernel
theorem dX8_of_51 : decode cX8_of 51 = .ok (.iconst 2, 1) := by decide +kernel
theorem dX8_of_52 : decode cX8_of 52 = .ok (.if_icmp .ne 13, 3) := by decide +kernel
theorem dX8_of_55 : decode cX8_of 55 = .ok (.aload_n 0, 1) := by decide +kernel
theorem dX8_of_56 : decode cX8_of 56 = .ok (.iload_n 1, 1) := by decide +kernel
theorem dX8_of_57 : decode cX8_of 57 = .ok (.iload 4, 2) := by decide +kernel
theorem dX8_of_59 : decode cX8_of 59 = .ok (.invokevirtual 178, 3) := by decide +kernel
theorem dX8_of_62 : decode cX8_of 62 = .ok (.goto 5, 3) := by decide +kernel
theorem dX8_of_65 : decode cX8_of 65 = .ok (.bipush (-2), 2) := by decide +kernel
theorem dX8_of_67 : decode cX8_of 67 = .ok (.ireturn, 1) := by decide +kernel
set_option maxRecDepth 20000 in
theorem ggX8_fullest_X8_namesWith : GoodIn wsX8_fullest wsX8_namesWith := goodIn_r _ [7, 8, 9, 10, 11, 6, 12, 13, 14, 18, 19, 20, 21, 22, 23, 24, 25, 26, 27, 28, 29, 30, 31, 32, 33, 34, 35] (by decide +kernel) (by decide +kernel)
set_option maxRecDepth 20000 in
theorem gX8_fullest_X8_namesWith : GoodIn wsX8_fullest (wsV RX8 193 RX8 yX8_namesWith wsX8_namesWith) := goodIn_app (goodIn_of _ (by decide +kernel)) ggX8_fullest_X8_namesWith
set_option maxRecDepth 20000 in
theorem ggX8_fullest_X8_bits : GoodIn wsX8_fullest wsX8_bits := goodIn_r _ [17] (by decide +kernel) (by decide +kernel)
set_option maxRecDepth 20000 in
theorem gX8_fullest_X8_bits : GoodIn wsX8_fullest (va_wsS RX8 153 yX8_bits wsX8_bits) := goodIn_app (goodIn_of _ (by decide +kernel)) ggX8_fullest_X8_bits
theorem dX8_fullest_0 : decode cX8_fullest 0 = .ok (.iconst 0, 1) := by decide +kernel
theorem dX8_fullest_1 : decode cX8_fullest 1 = .ok (.istore_n 1, 1) := by decide +kernel
theorem dX8_fullest_2 : decode cX8_fullest 2 = .ok (.iconst 0, 1) := by decide +kernel
theorem dX8_fullest_3 : decode cX8_fullest 3 = .ok (.istore_n 2, 1) := by decide +kernel
theorem dX8_fullest_4 : decode cX8_fullest 4 = .ok (.iload_n 2, 1) := by decide +kernel
theorem dX8_fullest_5 : decode cX8_fullest 5 = .ok (.aload_n 0, 1) := by decide +kernel
theorem dX8_fullest_6 : decode cX8_fullest 6 = .ok (.getfield 130, 3) := by decide +kernel
theorem dX8_fullest_9 : decode cX8_fullest 9 = .ok (.if_icmp .ge 34, 3) := by decide +kernel
theorem dX8_fullest_12 : decode cX8_fullest 12 = .ok (.aload_n 0, 1) := by decide +kernel
theorem dX8_fullest_13 : decode cX8_fullest 13 = .ok (.aload_n 0, 1) := by decide +kernel
theorem dX8_fullest_14 : decode cX8_fullest 14 = .ok (.getfield 42, 3) := by decide +kernel
theorem dX8_fullest_17 : decode cX8_fullest 17 = .ok (.iload_n 2, 1) := by decide +kernel
theorem dX8_fullest_18 : decode cX8_fullest 18 = .ok (.laload, 1) := by decide +kernel
theorem dX8_fullest_19 : decode cX8_fullest 19 = .ok (.invokevirtual 193, 3) := by decide +kernel
theorem dX8_fullest_22 : decode cX8_fullest 22 = .ok (.invokestatic 153, 3) := by decide +kernel
theorem dX8_fullest_25 : decode cX8_fullest 25 = .ok (.istore_n 3, 1) := by decide +kernel
theorem dX8_fullest_26 : decode cX8_fullest 26 = .ok (.iload_n 3, 1) := by decide +kernel
theorem dX8_fullest_27 : decode cX8_fullest 27 = .ok (.iload_n 1, 1) := by decide +kernel
theorem dX8_fullest_28 : decode cX8_fullest 28 = .ok (.if_icmp .le 7, 3) := by decide +kernel
theorem dX8_fullest_31 : decode cX8_fullest 31 = .ok (.iload_n 3, 1) := by decide +kernel
theorem dX8_fullest_32 : decode cX8_fullest 32 = .ok (.goto 4, 3) := by decide +kernel
theorem dX8_fullest_35 : decode cX8_fullest 35 = .ok (.iload_n 1, 1) := by decide +kernel
theorem dX8_fullest_36 : decode cX8_fullest 36 = .ok (.istore_n 1, 1) := by decide +kernel
theorem dX8_fullest_37 : decode cX8_fullest 37 = .ok (.iinc 2 1, 3) := by decide +kernel
theorem dX8_fullest_40 : decode cX8_fullest 40 = .ok (.goto (-36), 3) := by decide +kernel
theorem dX8_fullest_43 : decode cX8_fullest 43 = .ok (.iload_n 1, 1) := by decide +kernel
theorem dX8_fullest_44 : decode cX8_fullest 44 = .ok (.ireturn, 1) := by decide +kernel
theorem dX8_namesInTwo_0 : decode cX8_namesInTwo 0 = .ok (.iconst 0, 1) := by decide +kernel
theorem dX8_namesInTwo_1 : decode cX8_namesInTwo 1 = .ok (.istore_n 1, 1) := by decide +kernel
theorem dX8_namesInTwo_2 : decode cX8_namesInTwo 2 = .ok (.iconst 0, 1) := by decide +kernel
theorem dX8_namesInTwo_3 : decode cX8_namesInTwo 3 = .ok (.istore_n 2, 1) := by decide +kernel
theorem dX8_namesInTwo_4 : decode cX8_namesInTwo 4 = .ok (.iload_n 2, 1) := by decide +kernel
theorem dX8_namesInTwo_5 : decode cX8_namesInTwo 5 = .ok (.aload_n 0, 1) := by decide +kernel
theorem dX8_namesInTwo_6 : decode cX8_namesInTwo 6 = .ok (.getfield 7, 3) := by decide +kernel
theorem dX8_namesInTwo_9 : decode cX8_namesInTwo 9 = .ok (.iconst 2, 1) := by decide +kernel
theorem dX8_namesInTwo_10 : decode cX8_namesInTwo 10 = .ok (.iaload, 1) := by decide +kernel
theorem dX8_namesInTwo_11 : decode cX8_namesInTwo 11 = .ok (.if_icmp .ge 29, 3) := by decide +kernel
theorem dX8_namesInTwo_14 : decode cX8_namesInTwo 14 = .ok (.iload_n 1, 1) := by decide +kernel
theorem dX8_namesInTwo_15 : decode cX8_namesInTwo 15 = .ok (.aload_n 0, 1) := by decide +kernel
theorem dX8_namesInTwo_16 : decode cX8_namesInTwo 16 = .ok (.getfield 39, 3) := by decide +kernel
theorem dX8_namesInTwo_19 : decode cX8_namesInTwo 19 = .ok (.iload_n 2, 1) := by decide +kernel
theorem dX8_namesInTwo_20 : decode cX8_namesInTwo 20 = .ok (.iaload, 1) := by decide +kernel
theorem dX8_namesInTwo_21 : decode cX8_namesInTwo 21 = .ok (.iconst 1, 1) := by decide +kernel
theorem dX8_namesInTwo_22 : decode cX8_namesInTwo 22 = .ok (.if_icmp .le 9, 3) := by decide +kernel
theorem dX8_namesInTwo_25 : decode cX8_namesInTwo 25 = .ok (.iconst 1, 1) := by decide +kernel
theorem dX8_namesInTwo_26 : decode cX8_namesInTwo 26 = .ok (.iload_n 2, 1) := by decide +kernel
theorem dX8_namesInTwo_27 : decode cX8_namesInTwo 27 = .ok (.ishl, 1) := by decide +kernel
theorem dX8_namesInTwo_28 : decode cX8_namesInTwo 28 = .ok (.goto 4, 3) := by decide +kernel
theorem dX8_namesInTwo_31 : decode cX8_namesInTwo 31 = .ok (.iconst 0, 1) := by decide +kernel
theorem dX8_namesInTwo_32 : decode cX8_namesInTwo 32 = .ok (.ior, 1) := by decide +kernel
theorem dX8_namesInTwo_33 : decode cX8_namesInTwo 33 = .ok (.istore_n 1, 1) := by decide +kernel
theorem dX8_namesInTwo_34 : decode cX8_namesInTwo 34 = .ok (.iinc 2 1, 3) := by decide +kernel
theorem dX8_namesInTwo_37 : decode cX8_namesInTwo 37 = .ok (.goto (-33), 3) := by decide +kernel
theorem dX8_namesInTwo_40 : decode cX8_namesInTwo 40 = .ok (.iload_n 1, 1) := by decide +kernel
theorem dX8_namesInTwo_41 : decode cX8_namesInTwo 41 = .ok (.ireturn, 1) := by decide +kernel
set_option maxRecDepth 20000 in
theorem ggX8_lettersWithSecond_X8_at : GoodIn wsX8_lettersWithSecond wsX8_at := goodIn_r _ [5, 6, 7, 8, 9, 10, 11, 12, 13, 14, 15, 16, 17, 18, 19, 20, 21, 22, 23, 24] (by decide +kernel) (by decide +kernel)
set_option maxRecDepth 20000 in
theorem gX8_lettersWithSecond_X8_at : GoodIn wsX8_lettersWithSecond (wsV RX8 106 RX8 yX8_at wsX8_at) := goodIn_app (goodIn_of _ (by decide +kernel)) ggX8_lettersWithSecond_X8_at
theorem dX8_lettersWithSecond_0 : decode cX8_lettersWithSecond 0 = .ok (.iconst 0, 1) := by decide +kernel
theorem dX8_lettersWithSecond_1 : decode cX8_lettersWithSecond 1 = .ok (.istore_n 2, 1) := by decide +kernel
theorem dX8_lettersWithSecond_2 : decode cX8_lettersWithSecond 2 = .ok (.iconst 0, 1) := by decide +kernel
theorem dX8_lettersWithSecond_3 : decode cX8_lettersWithSecond 3 = .ok (.istore_n 3, 1) := by decide +kernel
theorem dX8_lettersWithSecond_4 : decode cX8_lettersWithSecond 4 = .ok (.iload_n 3, 1) := by decide +kernel
theorem dX8_lettersWithSecond_5 : decode cX8_lettersWithSecond 5 = .ok (.bipush 26, 2) := by decide +kernel
theorem dX8_lettersWithSecond_7 : decode cX8_lettersWithSecond 7 = .ok (.if_icmp .ge 31, 3) := by decide +kernel
theorem dX8_lettersWithSecond_10 : decode cX8_lettersWithSecond 10 = .ok (.iload_n 2, 1) := by decide +kernel
theorem dX8_lettersWithSecond_11 : decode cX8_lettersWithSecond 11 = .ok (.aload_n 0, 1) := by decide +kernel
theorem dX8_lettersWithSecond_12 : decode cX8_lettersWithSecond 12 = .ok (.iload_n 1, 1) := by decide +kernel
theorem dX8_lettersWithSecond_13 : decode cX8_lettersWithSecond 13 = .ok (.bipush 26, 2) := by decide +kernel
theorem dX8_lettersWithSecond_15 : decode cX8_lettersWithSecond 15 = .ok (.iload_n 3, 1) := by decide +kernel
theorem dX8_lettersWithSecond_16 : decode cX8_lettersWithSecond 16 = .ok (.iadd, 1) := by decide +kernel
theorem dX8_lettersWithSecond_17 : decode cX8_lettersWithSecond 17 = .ok (.invokevirtual 106, 3) := by decide +kernel
theorem dX8_lettersWithSecond_20 : decode cX8_lettersWithSecond 20 = .ok (.ifCond .le 9, 3) := by decide +kernel
theorem dX8_lettersWithSecond_23 : decode cX8_lettersWithSecond 23 = .ok (.iconst 1, 1) := by decide +kernel
theorem dX8_lettersWithSecond_24 : decode cX8_lettersWithSecond 24 = .ok (.iload_n 3, 1) := by decide +kernel
theorem dX8_lettersWithSecond_25 : decode cX8_lettersWithSecond 25 = .ok (.ishl, 1) := by decide +kernel
theorem dX8_lettersWithSecond_26 : decode cX8_lettersWithSecond 26 = .ok (.goto 4, 3) := by decide +kernel
theorem dX8_lettersWithSecond_29 : decode cX8_lettersWithSecond 29 = .ok (.iconst 0, 1) := by decide +kernel
theorem dX8_lettersWithSecond_30 : decode cX8_lettersWithSecond 30 = .ok (.ior, 1) := by decide +kernel
theorem dX8_lettersWithSecond_31 : decode cX8_lettersWithSecond 31 = .ok (.istore_n 2, 1) := by decide +kernel
theorem dX8_lettersWithSecond_32 : decode cX8_lettersWithSecond 32 = .ok (.iinc 3 1, 3) := by decide +kernel
theorem dX8_lettersWithSecond_35 : decode cX8_lettersWithSecond 35 = .ok (.goto (-31), 3) := by decide +kernel
theorem dX8_lettersWithSecond_38 : decode cX8_lettersWithSecond 38 = .ok (.iload_n 2, 1) := by decide +kernel
theorem dX8_lettersWithSecond_39 : decode cX8_lettersWithSecond 39 = .ok (.ireturn, 1) := by decide +kernel
set_option maxRecDepth 20000 in
theorem ggX8_ofEar_X8_isEar : GoodIn wsX8_ofEar wsX8_isEar := goodIn_r _ [6, 7, 8, 9, 5, 10, 103, 104, 105, 106, 107, 108, 109, 110, 111, 112, 113, 114, 115, 116, 117, 118, 119, 120] (by decide +kernel) (by decide +kernel)
set_option maxRecDepth 20000 in
theorem gX8_ofEar_X8_isEar : GoodIn wsX8_ofEar (wsV RX8 156 RX8 yX8_isEar wsX8_isEar) := goodIn_app (goodIn_of _ (by decide +kernel)) ggX8_ofEar_X8_isEar
set_option maxRecDepth 20000 in
theorem ggX8_ofEar_X8_hearAll : GoodIn wsX8_ofEar wsX8_hearAll := goodIn_r _ [14, 1, 7, 15, 16, 17, 18, 19, 20, 21, 22, 5, 23, 24, 25, 26, 27, 28, 29, 30, 31, 32, 33, 34, 35, 36, 37, 38, 39, 40, 41, 42, 43, 44, 45, 46, 47, 48, 49, 50, 51, 52, 53, 54, 55, 56, 57, 58, 59, 60, 61, 62, 63, 103, 104, 105, 106, 107, 108, 109, 110, 111, 112, 113, 114, 115, 116, 117, 118, 119, 120] (by decide +kernel) (by decide +kernel)
set_option maxRecDepth 20000 in
theorem gX8_ofEar_X8_hearAll : GoodIn wsX8_ofEar (wsV RX8 147 RX8 yX8_hearAll wsX8_hearAll) := goodIn_app (goodIn_of _ (by decide +kernel)) ggX8_ofEar_X8_hearAll
set_option maxRecDepth 20000 in
theorem ggX8_ofEar_X8_at : GoodIn wsX8_ofEar wsX8_at := goodIn_r _ [55, 7, 103, 104, 105, 106, 107, 108, 109, 110, 111, 112, 113, 114, 115, 116, 117, 118, 119, 120] (by decide +kernel) (by decide +kernel)
set_option maxRecDepth 20000 in
theorem gX8_ofEar_X8_at : GoodIn wsX8_ofEar (wsV RX8 106 RX8 yX8_at wsX8_at) := goodIn_app (goodIn_of _ (by decide +kernel)) ggX8_ofEar_X8_at
set_option maxRecDepth 20000 in
theorem ggX8_ofEar_X8_fullest : GoodIn wsX8_ofEar wsX8_fullest := goodIn_r _ [67, 1, 19, 68, 69, 70, 5, 71, 7, 72, 73, 74, 75, 15, 17, 76, 77, 78, 103, 104, 105, 106, 107, 108, 109, 110, 111, 112, 113, 114, 115, 116, 117, 118, 119, 120] (by decide +kernel) (by decide +kernel)
set_option maxRecDepth 20000 in
theorem gX8_ofEar_X8_fullest : GoodIn wsX8_ofEar (wsV RX8 196 RX8 yX8_fullest wsX8_fullest) := goodIn_app (goodIn_of _ (by decide +kernel)) ggX8_ofEar_X8_fullest
set_option maxRecDepth 20000 in
theorem ggX8_ofEar_X8_namesInTwo : GoodIn wsX8_ofEar wsX8_namesInTwo := goodIn_r _ [82, 7, 15, 103, 104, 105, 106, 107, 108, 109, 110, 111, 112, 113, 114, 115, 116, 117, 118, 119, 120] (by decide +kernel) (by decide +kernel)
set_option maxRecDepth 20000 in
theorem gX8_ofEar_X8_namesInTwo : GoodIn wsX8_ofEar (wsV RX8 199 RX8 yX8_namesInTwo wsX8_namesInTwo) := goodIn_app (goodIn_of _ (by decide +kernel)) ggX8_ofEar_X8_namesInTwo
set_option maxRecDepth 20000 in
theorem ggX8_ofEar_X8_pairs : GoodIn wsX8_ofEar wsX8_pairs := goodIn_r _ [86, 7, 11, 12, 13, 5, 14, 1, 15, 16, 17, 18, 19, 20, 21, 22, 23, 24, 25, 26, 27, 28, 29, 30, 31, 32, 33, 34, 35, 36, 37, 38, 39, 40, 41, 42, 43, 44, 45, 46, 47, 48, 49, 50, 51, 52, 53, 54, 55, 56, 57, 58, 59, 60, 61, 62, 63, 87, 88, 89, 90, 91, 92, 93, 94, 72, 73, 74, 75, 76, 77, 78, 103, 104, 105, 106, 107, 108, 109, 110, 111, 112, 113, 114, 115, 116, 117, 118, 119, 120] (by decide +kernel) (by decide +kernel)
set_option maxRecDepth 20000 in
theorem gX8_ofEar_X8_pairs : GoodIn wsX8_ofEar (wsV RX8 202 RX8 yX8_pairs wsX8_pairs) := goodIn_app (goodIn_of _ (by decide +kernel)) ggX8_ofEar_X8_pairs
set_option maxRecDepth 20000 in
theorem ggX8_ofEar_X8_lettersWithSecond : GoodIn wsX8_ofEar wsX8_lettersWithSecond := goodIn_r _ [98, 52, 53, 54, 5, 55, 7, 103, 104, 105, 106, 107, 108, 109, 110, 111, 112, 113, 114, 115, 116, 117, 118, 119, 120] (by decide +kernel) (by decide +kernel)
set_option maxRecDepth 20000 in
theorem gX8_ofEar_X8_lettersWithSecond : GoodIn wsX8_ofEar (wsV RX8 205 RX8 yX8_lettersWithSecond wsX8_lettersWithSecond) := goodIn_app (goodIn_of _ (by decide +kernel)) ggX8_ofEar_X8_lettersWithSecond
set_option maxRecDepth 20000 in
theorem ggX8_ofEar_X8_lettersOf : GoodIn wsX8_ofEar wsX8_lettersOf := goodIn_r _ [102, 52, 53, 54, 5, 55, 7, 103, 104, 105, 106, 107, 108, 109, 110, 111, 112, 113, 114, 115, 116, 117, 118, 119, 120] (by decide +kernel) (by decide +kernel)
set_option maxRecDepth 20000 in
theorem gX8_ofEar_X8_lettersOf : GoodIn wsX8_ofEar (wsV RX8 178 RX8 yX8_lettersOf wsX8_lettersOf) := goodIn_app (goodIn_of _ (by decide +kernel)) ggX8_ofEar_X8_lettersOf
theorem dX8_ofEar_0 : decode cX8_ofEar 0 = .ok (.aload_n 0, 1) := by decide +kernel
theorem dX8_ofEar_1 : decode cX8_ofEar 1 = .ok (.iload_n 1, 1) := by decide +kernel
theorem dX8_ofEar_2 : decode cX8_ofEar 2 = .ok (.invokevirtual 156, 3) := by decide +kernel
theorem dX8_ofEar_5 : decode cX8_ofEar 5 = .ok (.ifCond .ne 5, 3) := by decide +kernel
theorem dX8_ofEar_8 : decode cX8_ofEar 8 = .ok (.iconst (-1), 1) := by decide +kernel
theorem dX8_ofEar_9 : decode cX8_ofEar 9 = .ok (.ireturn, 1) := by decide +kernel
theorem dX8_ofEar_10 : decode cX8_ofEar 10 = .ok (.aload_n 0, 1) := by decide +kernel
theorem dX8_ofEar_11 : decode cX8_ofEar 11 = .ok (.iload_n 1, 1) := by decide +kernel
theorem dX8_ofEar_12 : decode cX8_ofEar 12 = .ok (.invokevirtual 147, 3) := by decide +kernel
theorem dX8_ofEar_15 : decode cX8_ofEar 15 = .ok (.iload_n 2, 1) := by decide +kernel
theorem dX8_ofEar_16 : decode cX8_ofEar 16 = .ok (.tableswitch 98 0 7 #[48, 56, 64, 69, 74, 79, 85, 91], 48) := by decide +kernel
theorem dX8_ofEar_64 : decode cX8_ofEar 64 = .ok (.aload_n 0, 1) := by decide +kernel
theorem dX8_ofEar_65 : decode cX8_ofEar 65 = .ok (.iload_n 1, 1) := by decide +kernel
theorem dX8_ofEar_66 : decode cX8_ofEar 66 = .ok (.bipush 52, 2) := by decide +kernel
theorem dX8_ofEar_68 : decode cX8_ofEar 68 = .ok (.invokevirtual 106, 3) := by decide +kernel
theorem dX8_ofEar_71 : decode cX8_ofEar 71 = .ok (.ireturn, 1) := by decide +kernel
theorem dX8_ofEar_72 : decode cX8_ofEar 72 = .ok (.aload_n 0, 1) := by decide +kernel
theorem dX8_ofEar_73 : decode cX8_ofEar 73 = .ok (.iload_n 1, 1) := by decide +kernel
theorem dX8_ofEar_74 : decode cX8_ofEar 74 = .ok (.bipush 53, 2) := by decide +kernel
theorem dX8_ofEar_76 : decode cX8_ofEar 76 = .ok (.invokevirtual 106, 3) := by decide +kernel
theorem dX8_ofEar_79 : decode cX8_ofEar 79 = .ok (.ireturn, 1) := by decide +kernel
theorem dX8_ofEar_80 : decode cX8_ofEar 80 = .ok (.aload_n 0, 1) := by decide +kernel
theorem dX8_ofEar_81 : decode cX8_ofEar 81 = .ok (.getfield 130, 3) := by decide +kernel
theorem dX8_ofEar_84 : decode cX8_ofEar 84 = .ok (.ireturn, 1) := by decide +kernel
theorem dX8_ofEar_85 : decode cX8_ofEar 85 = .ok (.aload_n 0, 1) := by decide +kernel
theorem dX8_ofEar_86 : decode cX8_ofEar 86 = .ok (.invokevirtual 196, 3) := by decide +kernel
theorem dX8_ofEar_89 : decode cX8_ofEar 89 = .ok (.ireturn, 1) := by decide +kernel
theorem dX8_ofEar_90 : decode cX8_ofEar 90 = .ok (.aload_n 0, 1) := by decide +kernel
theorem dX8_ofEar_91 : decode cX8_ofEar 91 = .ok (.invokevirtual 199, 3) := by decide +kernel
theorem dX8_ofEar_94 : decode cX8_ofEar 94 = .ok (.ireturn, 1) := by decide +kernel
theorem dX8_ofEar_95 : decode cX8_ofEar 95 = .ok (.aload_n 0, 1) := by decide +kernel
theorem dX8_ofEar_96 : decode cX8_ofEar 96 = .ok (.iload_n 1, 1) := by decide +kernel
theorem dX8_ofEar_97 : decode cX8_ofEar 97 = .ok (.invokevirtual 202, 3) := by decide +kernel
theorem dX8_ofEar_100 : decode cX8_ofEar 100 = .ok (.ireturn, 1) := by decide +kernel
theorem dX8_ofEar_101 : decode cX8_ofEar 101 = .ok (.aload_n 0, 1) := by decide +kernel
theorem dX8_ofEar_102 : decode cX8_ofEar 102 = .ok (.iload_n 1, 1) := by decide +kernel
theorem dX8_ofEar_103 : decode cX8_ofEar 103 = .ok (.invokevirtual 205, 3) := by decide +kernel
theorem dX8_ofEar_106 : decode cX8_ofEar 106 = .ok (.ireturn, 1) := by decide +kernel
theorem dX8_ofEar_107 : decode cX8_ofEar 107 = .ok (.aload_n 0, 1) := by decide +kernel
theorem dX8_ofEar_108 : decode cX8_ofEar 108 = .ok (.iload_n 1, 1) := by decide +kernel
theorem dX8_ofEar_109 : decode cX8_ofEar 109 = .ok (.iconst 0, 1) := by decide +kernel
theorem dX8_ofEar_110 : decode cX8_ofEar 110 = .ok (.invokevirtual 178, 3) := by decide +kernel
theorem dX8_ofEar_113 : decode cX8_ofEar 113 = .ok (.ireturn, 1) := by decide +kernel
theorem dX8_ofEar_114 : decode cX8_ofEar 114 = .ok (.bipush (-2), 2) := by decide +kernel
theorem dX8_ofEar_116 : decode cX8_ofEar 116 = .ok (.ireturn, 1) := by decide +kernel
theorem dX8_lengthOfCode_0 : decode cX8_lengthOfCode 0 = .ok (.lload_n 0, 1) := by decide +kernel
theorem dX8_lengthOfCode_1 : decode cX8_lengthOfCode 1 = .ok (.ldc2_w 121, 3) := by decide +kernel
theorem dX8_lengthOfCode_4 : decode cX8_lengthOfCode 4 = .ok (.ldiv, 1) := by decide +kernel
theorem dX8_lengthOfCode_5 : decode cX8_lengthOfCode 5 = .ok (.l2i, 1) := by decide +kernel
theorem dX8_lengthOfCode_6 : decode cX8_lengthOfCode 6 = .ok (.ireturn, 1) := by decide +kernel
theorem dX8_numberOf_0 : decode cX8_numberOf 0 = .ok (.lload_n 0, 1) := by decide +kernel
theorem dX8_numberOf_1 : decode cX8_numberOf 1 = .ok (.bipush 6, 2) := by decide +kernel
theorem dX8_numberOf_3 : decode cX8_numberOf 3 = .ok (.iconst 4, 1) := by decide +kernel
theorem dX8_numberOf_4 : decode cX8_numberOf 4 = .ok (.iload_n 2, 1) := by decide +kernel
theorem dX8_numberOf_5 : decode cX8_numberOf 5 = .ok (.isub, 1) := by decide +kernel
theorem dX8_numberOf_6 : decode cX8_numberOf 6 = .ok (.imul, 1) := by decide +kernel
theorem dX8_numberOf_7 : decode cX8_numberOf 7 = .ok (.lshr, 1) := by decide +kernel
theorem dX8_numberOf_8 : decode cX8_numberOf 8 = .ok (.ldc2_w 208, 3) := by decide +kernel
theorem dX8_numberOf_11 : decode cX8_numberOf 11 = .ok (.land, 1) := by decide +kernel
theorem dX8_numberOf_12 : decode cX8_numberOf 12 = .ok (.l2i, 1) := by decide +kernel
theorem dX8_numberOf_13 : decode cX8_numberOf 13 = .ok (.ireturn, 1) := by decide +kernel
set_option maxRecDepth 20000 in
theorem ggX8_code_X8_isEar : GoodIn wsX8_code wsX8_isEar := goodIn_r _ [7, 8, 9, 10, 6, 11, 75, 76, 77, 78, 79, 80, 81, 82, 83, 84, 85, 86, 87, 88, 89, 90, 91, 92] (by decide +kernel) (by decide +kernel)
set_option maxRecDepth 20000 in
theorem gX8_code_X8_isEar : GoodIn wsX8_code (wsV RX8 156 RX8 yX8_isEar wsX8_isEar) := goodIn_app (goodIn_of _ (by decide +kernel)) ggX8_code_X8_isEar
set_option maxRecDepth 20000 in
theorem ggX8_code_X8_isName : GoodIn wsX8_code wsX8_isName := goodIn_r _ [15, 8, 9, 10, 6, 11, 75, 76, 77, 78, 79, 80, 81, 82, 83, 84, 85, 86, 87, 88, 89, 90, 91, 92] (by decide +kernel) (by decide +kernel)
set_option maxRecDepth 20000 in
theorem gX8_code_X8_isName : GoodIn wsX8_code (wsV RX8 93 RX8 yX8_isName wsX8_isName) := goodIn_app (goodIn_of _ (by decide +kernel)) ggX8_code_X8_isName
set_option maxRecDepth 20000 in
theorem ggX8_code_X8_hearAll : GoodIn wsX8_code wsX8_hearAll := goodIn_r _ [19, 20, 8, 1, 21, 2, 22, 23, 24, 25, 26, 6, 27, 28, 29, 30, 31, 32, 33, 34, 35, 36, 37, 38, 39, 40, 41, 42, 43, 44, 45, 46, 47, 48, 49, 50, 51, 52, 53, 54, 55, 56, 57, 58, 59, 60, 61, 62, 63, 64, 65, 66, 67, 75, 76, 77, 78, 79, 80, 81, 82, 83, 84, 85, 86, 87, 88, 89, 90, 91, 92] (by decide +kernel) (by decide +kernel)
set_option maxRecDepth 20000 in
theorem gX8_code_X8_hearAll : GoodIn wsX8_code (wsV RX8 147 RX8 yX8_hearAll wsX8_hearAll) := goodIn_app (goodIn_of _ (by decide +kernel)) ggX8_code_X8_hearAll
set_option maxRecDepth 20000 in
theorem ggX8_code_X8_in : GoodIn wsX8_code wsX8_in := goodIn_r _ [11] (by decide +kernel) (by decide +kernel)
set_option maxRecDepth 20000 in
theorem gX8_code_X8_in : GoodIn wsX8_code (va_wsS RX8 51 yX8_in wsX8_in) := goodIn_app (goodIn_of _ (by decide +kernel)) ggX8_code_X8_in
set_option maxRecDepth 20000 in
theorem ggX8_code_X8_drawerWith : GoodIn wsX8_code wsX8_drawerWith := goodIn_r _ [67, 20, 23, 75, 76, 77, 78, 79, 80, 81, 82, 83, 84, 85, 86, 87, 88, 89, 90, 91, 92] (by decide +kernel) (by decide +kernel)
set_option maxRecDepth 20000 in
theorem gX8_code_X8_drawerWith : GoodIn wsX8_code (wsV RX8 136 RX8 yX8_drawerWith wsX8_drawerWith) := goodIn_app (goodIn_of _ (by decide +kernel)) ggX8_code_X8_drawerWith
set_option maxRecDepth 20000 in
theorem ggX8_code_X8_lengthOfCode : GoodIn wsX8_code wsX8_lengthOfCode := goodIn_r _ [70, 47] (by decide +kernel) (by decide +kernel)
set_option maxRecDepth 20000 in
theorem gX8_code_X8_lengthOfCode : GoodIn wsX8_code (va_wsS RX8 210 yX8_lengthOfCode wsX8_lengthOfCode) := goodIn_app (goodIn_of _ (by decide +kernel)) ggX8_code_X8_lengthOfCode
set_option maxRecDepth 20000 in
theorem ggX8_code_X8_numberOf : GoodIn wsX8_code wsX8_numberOf := goodIn_r _ [73, 74] (by decide +kernel) (by decide +kernel)
set_option maxRecDepth 20000 in
theorem gX8_code_X8_numberOf : GoodIn wsX8_code (va_wsS RX8 213 yX8_numberOf wsX8_numberOf) := goodIn_app (goodIn_of _ (by decide +kernel)) ggX8_code_X8_numberOf
theorem dX8_code_0 : decode cX8_code 0 = .ok (.aload_n 0, 1) := by decide +kernel
theorem dX8_code_1 : decode cX8_code 1 = .ok (.iload_n 1, 1) := by decide +kernel
theorem dX8_code_2 : decode cX8_code 2 = .ok (.invokevirtual 156, 3) := by decide +kernel
theorem dX8_code_5 : decode cX8_code 5 = .ok (.ifCond .eq 11, 3) := by decide +kernel
theorem dX8_code_8 : decode cX8_code 8 = .ok (.aload_n 0, 1) := by decide +kernel
theorem dX8_code_9 : decode cX8_code 9 = .ok (.iload_n 2, 1) := by decide +kernel
theorem dX8_code_10 : decode cX8_code 10 = .ok (.invokevirtual 93, 3) := by decide +kernel
theorem dX8_code_13 : decode cX8_code 13 = .ok (.ifCond .ne 5, 3) := by decide +kernel
theorem dX8_code_16 : decode cX8_code 16 = .ok (.iconst (-1), 1) := by decide +kernel
theorem dX8_code_17 : decode cX8_code 17 = .ok (.ireturn, 1) := by decide +kernel
theorem dX8_code_18 : decode cX8_code 18 = .ok (.aload_n 0, 1) := by decide +kernel
theorem dX8_code_19 : decode cX8_code 19 = .ok (.iload_n 1, 1) := by decide +kernel
theorem dX8_code_20 : decode cX8_code 20 = .ok (.invokevirtual 147, 3) := by decide +kernel
theorem dX8_code_23 : decode cX8_code 23 = .ok (.iload_n 3, 1) := by decide +kernel
theorem dX8_code_24 : decode cX8_code 24 = .ok (.iconst 0, 1) := by decide +kernel
theorem dX8_code_25 : decode cX8_code 25 = .ok (.aload_n 0, 1) := by decide +kernel
theorem dX8_code_26 : decode cX8_code 26 = .ok (.getfield 39, 3) := by decide +kernel
theorem dX8_code_29 : decode cX8_code 29 = .ok (.iload_n 2, 1) := by decide +kernel
theorem dX8_code_30 : decode cX8_code 30 = .ok (.iaload, 1) := by decide +kernel
theorem dX8_code_31 : decode cX8_code 31 = .ok (.iconst 1, 1) := by decide +kernel
theorem dX8_code_32 : decode cX8_code 32 = .ok (.isub, 1) := by decide +kernel
theorem dX8_code_33 : decode cX8_code 33 = .ok (.invokestatic 51, 3) := by decide +kernel
theorem dX8_code_36 : decode cX8_code 36 = .ok (.ifCond .ne 5, 3) := by decide +kernel
theorem dX8_code_39 : decode cX8_code 39 = .ok (.iconst (-1), 1) := by decide +kernel
theorem dX8_code_40 : decode cX8_code 40 = .ok (.ireturn, 1) := by decide +kernel
theorem dX8_code_41 : decode cX8_code 41 = .ok (.iload 4, 2) := by decide +kernel
theorem dX8_code_43 : decode cX8_code 43 = .ok (.iconst 0, 1) := by decide +kernel
theorem dX8_code_44 : decode cX8_code 44 = .ok (.bipush 6, 2) := by decide +kernel
theorem dX8_code_46 : decode cX8_code 46 = .ok (.invokestatic 51, 3) := by decide +kernel
theorem dX8_code_49 : decode cX8_code 49 = .ok (.ifCond .ne 6, 3) := by decide +kernel
theorem dX8_code_52 : decode cX8_code 52 = .ok (.bipush (-2), 2) := by decide +kernel
theorem dX8_code_54 : decode cX8_code 54 = .ok (.ireturn, 1) := by decide +kernel
theorem dX8_code_55 : decode cX8_code 55 = .ok (.aload_n 0, 1) := by decide +kernel
theorem dX8_code_56 : decode cX8_code 56 = .ok (.getfield 36, 3) := by decide +kernel
theorem dX8_code_59 : decode cX8_code 59 = .ok (.iconst 4, 1) := by decide +kernel
theorem dX8_code_60 : decode cX8_code 60 = .ok (.iload_n 2, 1) := by decide +kernel
theorem dX8_code_61 : decode cX8_code 61 = .ok (.imul, 1) := by decide +kernel
theorem dX8_code_62 : decode cX8_code 62 = .ok (.iload_n 3, 1) := by decide +kernel
theorem dX8_code_63 : decode cX8_code 63 = .ok (.iadd, 1) := by decide +kernel
theorem dX8_code_64 : decode cX8_code 64 = .ok (.laload, 1) := by decide +kernel
theorem dX8_code_65 : decode cX8_code 65 = .ok (.lstore 5, 2) := by decide +kernel
theorem dX8_code_67 : decode cX8_code 67 = .ok (.iload 4, 2) := by decide +kernel
theorem dX8_code_69 : decode cX8_code 69 = .ok (.bipush 6, 2) := by decide +kernel
theorem dX8_code_71 : decode cX8_code 71 = .ok (.if_icmp .ne 10, 3) := by decide +kernel
theorem dX8_code_74 : decode cX8_code 74 = .ok (.aload_n 0, 1) := by decide +kernel
theorem dX8_code_75 : decode cX8_code 75 = .ok (.lload 5, 2) := by decide +kernel
theorem dX8_code_77 : decode cX8_code 77 = .ok (.invokevirtual 136, 3) := by decide +kernel
theorem dX8_code_80 : decode cX8_code 80 = .ok (.ireturn, 1) := by decide +kernel
theorem dX8_code_81 : decode cX8_code 81 = .ok (.iload 4, 2) := by decide +kernel
theorem dX8_code_83 : decode cX8_code 83 = .ok (.iconst 5, 1) := by decide +kernel
theorem dX8_code_84 : decode cX8_code 84 = .ok (.if_icmp .ne 11, 3) := by decide +kernel
theorem dX8_code_87 : decode cX8_code 87 = .ok (.lload 5, 2) := by decide +kernel
theorem dX8_code_89 : decode cX8_code 89 = .ok (.invokestatic 210, 3) := by decide +kernel
theorem dX8_code_92 : decode cX8_code 92 = .ok (.goto 25, 3) := by decide +kernel
theorem dX8_code_95 : decode cX8_code 95 = .ok (.iload 4, 2) := by decide +kernel
theorem dX8_code_97 : decode cX8_code 97 = .ok (.lload 5, 2) := by decide +kernel
theorem dX8_code_99 : decode cX8_code 99 = .ok (.invokestatic 210, 3) := by decide +kernel
theorem dX8_code_102 : decode cX8_code 102 = .ok (.if_icmp .ge 13, 3) := by decide +kernel
theorem dX8_code_105 : decode cX8_code 105 = .ok (.lload 5, 2) := by decide +kernel
theorem dX8_code_107 : decode cX8_code 107 = .ok (.iload 4, 2) := by decide +kernel
theorem dX8_code_109 : decode cX8_code 109 = .ok (.invokestatic 213, 3) := by decide +kernel
theorem dX8_code_112 : decode cX8_code 112 = .ok (.goto 5, 3) := by decide +kernel
theorem dX8_code_115 : decode cX8_code 115 = .ok (.bipush (-6), 2) := by decide +kernel
theorem dX8_code_117 : decode cX8_code 117 = .ok (.ireturn, 1) := by decide +kernel
theorem dX8_codeAt_0 : decode cX8_codeAt 0 = .ok (.lconst 0, 1) := by decide +kernel
theorem dX8_codeAt_1 : decode cX8_codeAt 1 = .ok (.lstore_n 2, 1) := by decide +kernel
theorem dX8_codeAt_2 : decode cX8_codeAt 2 = .ok (.iconst 0, 1) := by decide +kernel
theorem dX8_codeAt_3 : decode cX8_codeAt 3 = .ok (.istore 4, 2) := by decide +kernel
theorem dX8_codeAt_5 : decode cX8_codeAt 5 = .ok (.iload 4, 2) := by decide +kernel
theorem dX8_codeAt_7 : decode cX8_codeAt 7 = .ok (.aload_n 0, 1) := by decide +kernel
theorem dX8_codeAt_8 : decode cX8_codeAt 8 = .ok (.getfield 130, 3) := by decide +kernel
theorem dX8_codeAt_11 : decode cX8_codeAt 11 = .ok (.if_icmp .ge 76, 3) := by decide +kernel
theorem dX8_codeAt_14 : decode cX8_codeAt 14 = .ok (.iconst 0, 1) := by decide +kernel
theorem dX8_codeAt_15 : decode cX8_codeAt 15 = .ok (.istore 5, 2) := by decide +kernel
theorem dX8_codeAt_17 : decode cX8_codeAt 17 = .ok (.iconst 0, 1) := by decide +kernel
theorem dX8_codeAt_18 : decode cX8_codeAt 18 = .ok (.istore 6, 2) := by decide +kernel
theorem dX8_codeAt_20 : decode cX8_codeAt 20 = .ok (.iload 6, 2) := by decide +kernel
theorem dX8_codeAt_22 : decode cX8_codeAt 22 = .ok (.aload_n 0, 1) := by decide +kernel
theorem dX8_codeAt_23 : decode cX8_codeAt 23 = .ok (.getfield 130, 3) := by decide +kernel
theorem dX8_codeAt_26 : decode cX8_codeAt 26 = .ok (.if_icmp .ge 37, 3) := by decide +kernel
theorem dX8_codeAt_29 : decode cX8_codeAt 29 = .ok (.iload 5, 2) := by decide +kernel
theorem dX8_codeAt_31 : decode cX8_codeAt 31 = .ok (.aload_n 0, 1) := by decide +kernel
theorem dX8_codeAt_32 : decode cX8_codeAt 32 = .ok (.getfield 42, 3) := by decide +kernel
theorem dX8_codeAt_35 : decode cX8_codeAt 35 = .ok (.iload 6, 2) := by decide +kernel
theorem dX8_codeAt_37 : decode cX8_codeAt 37 = .ok (.laload, 1) := by decide +kernel
theorem dX8_codeAt_38 : decode cX8_codeAt 38 = .ok (.aload_n 0, 1) := by decide +kernel
theorem dX8_codeAt_39 : decode cX8_codeAt 39 = .ok (.getfield 42, 3) := by decide +kernel
theorem dX8_codeAt_42 : decode cX8_codeAt 42 = .ok (.iload 4, 2) := by decide +kernel
theorem dX8_codeAt_44 : decode cX8_codeAt 44 = .ok (.laload, 1) := by decide +kernel
theorem dX8_codeAt_45 : decode cX8_codeAt 45 = .ok (.lcmp, 1) := by decide +kernel
theorem dX8_codeAt_46 : decode cX8_codeAt 46 = .ok (.ifCond .ge 7, 3) := by decide +kernel
theorem dX8_codeAt_49 : decode cX8_codeAt 49 = .ok (.iconst 1, 1) := by decide +kernel
theorem dX8_codeAt_50 : decode cX8_codeAt 50 = .ok (.goto 4, 3) := by decide +kernel
theorem dX8_codeAt_53 : decode cX8_codeAt 53 = .ok (.iconst 0, 1) := by decide +kernel
theorem dX8_codeAt_54 : decode cX8_codeAt 54 = .ok (.iadd, 1) := by decide +kernel
theorem dX8_codeAt_55 : decode cX8_codeAt 55 = .ok (.istore 5, 2) := by decide +kernel
theorem dX8_codeAt_57 : decode cX8_codeAt 57 = .ok (.iinc 6 1, 3) := by decide +kernel
theorem dX8_codeAt_60 : decode cX8_codeAt 60 = .ok (.goto (-40), 3) := by decide +kernel
theorem dX8_codeAt_63 : decode cX8_codeAt 63 = .ok (.iload 5, 2) := by decide +kernel
theorem dX8_codeAt_65 : decode cX8_codeAt 65 = .ok (.iload_n 1, 1) := by decide +kernel
theorem dX8_codeAt_66 : decode cX8_codeAt 66 = .ok (.if_icmp .ne 13, 3) := by decide +kernel
theorem dX8_codeAt_69 : decode cX8_codeAt 69 = .ok (.aload_n 0, 1) := by decide +kernel
theorem dX8_codeAt_70 : decode cX8_codeAt 70 = .ok (.getfield 42, 3) := by decide +kernel
theorem dX8_codeAt_73 : decode cX8_codeAt 73 = .ok (.iload 4, 2) := by decide +kernel
theorem dX8_codeAt_75 : decode cX8_codeAt 75 = .ok (.laload, 1) := by decide +kernel
theorem dX8_codeAt_76 : decode cX8_codeAt 76 = .ok (.goto 4, 3) := by decide +kernel
theorem dX8_codeAt_79 : decode cX8_codeAt 79 = .ok (.lload_n 2, 1) := by decide +kernel
theorem dX8_codeAt_80 : decode cX8_codeAt 80 = .ok (.lstore_n 2, 1) := by decide +kernel
theorem dX8_codeAt_81 : decode cX8_codeAt 81 = .ok (.iinc 4 1, 3) := by decide +kernel
theorem dX8_codeAt_84 : decode cX8_codeAt 84 = .ok (.goto (-79), 3) := by decide +kernel
theorem dX8_codeAt_87 : decode cX8_codeAt 87 = .ok (.lload_n 2, 1) := by decide +kernel
theorem dX8_codeAt_88 : decode cX8_codeAt 88 = .ok (.lreturn, 1) := by decide +kernel
set_option maxRecDepth 20000 in
theorem ggX8_drawer_X8_isEar : GoodIn wsX8_drawer wsX8_isEar := goodIn_r _ [7, 8, 9, 10, 6, 11, 76, 77, 78, 79, 80, 81, 82, 83, 84, 85, 86, 87, 88, 89, 90, 91, 92, 93] (by decide +kernel) (by decide +kernel)
set_option maxRecDepth 20000 in
theorem gX8_drawer_X8_isEar : GoodIn wsX8_drawer (wsV RX8 156 RX8 yX8_isEar wsX8_isEar) := goodIn_app (goodIn_of _ (by decide +kernel)) ggX8_drawer_X8_isEar
set_option maxRecDepth 20000 in
theorem ggX8_drawer_X8_hearAll : GoodIn wsX8_drawer wsX8_hearAll := goodIn_r _ [15, 1, 8, 16, 17, 18, 19, 2, 20, 21, 22, 6, 23, 24, 25, 26, 27, 28, 29, 30, 31, 32, 33, 34, 35, 36, 37, 38, 39, 40, 41, 42, 43, 44, 45, 46, 47, 48, 49, 50, 51, 52, 53, 54, 55, 56, 57, 58, 59, 60, 61, 62, 63, 76, 77, 78, 79, 80, 81, 82, 83, 84, 85, 86, 87, 88, 89, 90, 91, 92, 93] (by decide +kernel) (by decide +kernel)
set_option maxRecDepth 20000 in
theorem gX8_drawer_X8_hearAll : GoodIn wsX8_drawer (wsV RX8 147 RX8 yX8_hearAll wsX8_hearAll) := goodIn_app (goodIn_of _ (by decide +kernel)) ggX8_drawer_X8_hearAll
set_option maxRecDepth 20000 in
theorem ggX8_drawer_X8_in : GoodIn wsX8_drawer wsX8_in := goodIn_r _ [11] (by decide +kernel) (by decide +kernel)
set_option maxRecDepth 20000 in
theorem gX8_drawer_X8_in : GoodIn wsX8_drawer (va_wsS RX8 51 yX8_in wsX8_in) := goodIn_app (goodIn_of _ (by decide +kernel)) ggX8_drawer_X8_in
set_option maxRecDepth 20000 in
theorem ggX8_drawer_X8_codeAt : GoodIn wsX8_drawer wsX8_codeAt := goodIn_r _ [67, 1, 2, 76, 77, 78, 79, 80, 81, 82, 83, 84, 85, 86, 87, 88, 89, 90, 91, 92, 93] (by decide +kernel) (by decide +kernel)
set_option maxRecDepth 20000 in
theorem gX8_drawer_X8_codeAt : GoodIn wsX8_drawer (wsV RX8 217 RX8 yX8_codeAt wsX8_codeAt) := goodIn_app (goodIn_of _ (by decide +kernel)) ggX8_drawer_X8_codeAt
set_option maxRecDepth 20000 in
theorem ggX8_drawer_X8_namesWith : GoodIn wsX8_drawer wsX8_namesWith := goodIn_r _ [71, 8, 72, 73, 74, 6, 75, 16, 18, 76, 77, 78, 79, 80, 81, 82, 83, 84, 85, 86, 87, 88, 89, 90, 91, 92, 93] (by decide +kernel) (by decide +kernel)
set_option maxRecDepth 20000 in
theorem gX8_drawer_X8_namesWith : GoodIn wsX8_drawer (wsV RX8 193 RX8 yX8_namesWith wsX8_namesWith) := goodIn_app (goodIn_of _ (by decide +kernel)) ggX8_drawer_X8_namesWith
theorem dX8_drawer_0 : decode cX8_drawer 0 = .ok (.aload_n 0, 1) := by decide +kernel
theorem dX8_drawer_1 : decode cX8_drawer 1 = .ok (.iload_n 1, 1) := by decide +kernel
theorem dX8_drawer_2 : decode cX8_drawer 2 = .ok (.invokevirtual 156, 3) := by decide +kernel
theorem dX8_drawer_5 : decode cX8_drawer 5 = .ok (.ifCond .ne 5, 3) := by decide +kernel
theorem dX8_drawer_8 : decode cX8_drawer 8 = .ok (.iconst (-1), 1) := by decide +kernel
theorem dX8_drawer_9 : decode cX8_drawer 9 = .ok (.ireturn, 1) := by decide +kernel
theorem dX8_drawer_10 : decode cX8_drawer 10 = .ok (.aload_n 0, 1) := by decide +kernel
theorem dX8_drawer_11 : decode cX8_drawer 11 = .ok (.iload_n 1, 1) := by decide +kernel
theorem dX8_drawer_12 : decode cX8_drawer 12 = .ok (.invokevirtual 147, 3) := by decide +kernel
theorem dX8_drawer_15 : decode cX8_drawer 15 = .ok (.iload_n 2, 1) := by decide +kernel
theorem dX8_drawer_16 : decode cX8_drawer 16 = .ok (.iconst 0, 1) := by decide +kernel
theorem dX8_drawer_17 : decode cX8_drawer 17 = .ok (.aload_n 0, 1) := by decide +kernel
theorem dX8_drawer_18 : decode cX8_drawer 18 = .ok (.getfield 130, 3) := by decide +kernel
theorem dX8_drawer_21 : decode cX8_drawer 21 = .ok (.iconst 1, 1) := by decide +kernel
theorem dX8_drawer_22 : decode cX8_drawer 22 = .ok (.isub, 1) := by decide +kernel
theorem dX8_drawer_23 : decode cX8_drawer 23 = .ok (.invokestatic 51, 3) := by decide +kernel
theorem dX8_drawer_26 : decode cX8_drawer 26 = .ok (.ifCond .ne 5, 3) := by decide +kernel
theorem dX8_drawer_29 : decode cX8_drawer 29 = .ok (.iconst (-1), 1) := by decide +kernel
theorem dX8_drawer_30 : decode cX8_drawer 30 = .ok (.ireturn, 1) := by decide +kernel
theorem dX8_drawer_31 : decode cX8_drawer 31 = .ok (.iload_n 3, 1) := by decide +kernel
theorem dX8_drawer_32 : decode cX8_drawer 32 = .ok (.iconst 0, 1) := by decide +kernel
theorem dX8_drawer_33 : decode cX8_drawer 33 = .ok (.iconst 1, 1) := by decide +kernel
theorem dX8_drawer_34 : decode cX8_drawer 34 = .ok (.invokestatic 51, 3) := by decide +kernel
theorem dX8_drawer_37 : decode cX8_drawer 37 = .ok (.ifCond .ne 6, 3) := by decide +kernel
theorem dX8_drawer_40 : decode cX8_drawer 40 = .ok (.bipush (-2), 2) := by decide +kernel
theorem dX8_drawer_42 : decode cX8_drawer 42 = .ok (.ireturn, 1) := by decide +kernel
theorem dX8_drawer_43 : decode cX8_drawer 43 = .ok (.aload_n 0, 1) := by decide +kernel
theorem dX8_drawer_44 : decode cX8_drawer 44 = .ok (.iload_n 3, 1) := by decide +kernel
theorem dX8_drawer_45 : decode cX8_drawer 45 = .ok (.ifCond .ne 12, 3) := by decide +kernel
theorem dX8_drawer_48 : decode cX8_drawer 48 = .ok (.aload_n 0, 1) := by decide +kernel
theorem dX8_drawer_49 : decode cX8_drawer 49 = .ok (.getfield 42, 3) := by decide +kernel
theorem dX8_drawer_52 : decode cX8_drawer 52 = .ok (.iload_n 2, 1) := by decide +kernel
theorem dX8_drawer_53 : decode cX8_drawer 53 = .ok (.laload, 1) := by decide +kernel
theorem dX8_drawer_54 : decode cX8_drawer 54 = .ok (.goto 8, 3) := by decide +kernel
theorem dX8_drawer_57 : decode cX8_drawer 57 = .ok (.aload_n 0, 1) := by decide +kernel
theorem dX8_drawer_58 : decode cX8_drawer 58 = .ok (.iload_n 2, 1) := by decide +kernel
theorem dX8_drawer_59 : decode cX8_drawer 59 = .ok (.invokevirtual 217, 3) := by decide +kernel
theorem dX8_drawer_62 : decode cX8_drawer 62 = .ok (.invokevirtual 193, 3) := by decide +kernel
theorem dX8_drawer_65 : decode cX8_drawer 65 = .ok (.ireturn, 1) := by decide +kernel
set_option maxRecDepth 20000 in
theorem ggX8_count_X8_letterSet : GoodIn wsX8_count wsX8_letterSet := goodIn_r _ [8, 9, 10, 11, 7, 12, 1, 13, 14, 15, 16, 17, 18, 19, 20, 21, 22, 23, 24, 25, 26, 27, 28, 29, 30, 31, 32, 33, 34] (by decide +kernel) (by decide +kernel)
set_option maxRecDepth 20000 in
theorem gX8_count_X8_letterSet : GoodIn wsX8_count (wsV RX8 190 RX8 yX8_letterSet wsX8_letterSet) := goodIn_app (goodIn_of _ (by decide +kernel)) ggX8_count_X8_letterSet
theorem dX8_count_0 : decode cX8_count 0 = .ok (.iconst 0, 1) := by decide +kernel
theorem dX8_count_1 : decode cX8_count 1 = .ok (.istore_n 2, 1) := by decide +kernel
theorem dX8_count_2 : decode cX8_count 2 = .ok (.iload_n 1, 1) := by decide +kernel
theorem dX8_count_3 : decode cX8_count 3 = .ok (.tableswitch 102 0 6 #[41, 48, 55, 55, 64, 69, 74], 41) := by decide +kernel
theorem dX8_count_44 : decode cX8_count 44 = .ok (.aload_n 0, 1) := by decide +kernel
theorem dX8_count_45 : decode cX8_count 45 = .ok (.getfield 7, 3) := by decide +kernel
theorem dX8_count_48 : decode cX8_count 48 = .ok (.iconst 2, 1) := by decide +kernel
theorem dX8_count_49 : decode cX8_count 49 = .ok (.iaload, 1) := by decide +kernel
theorem dX8_count_50 : decode cX8_count 50 = .ok (.ireturn, 1) := by decide +kernel
theorem dX8_count_51 : decode cX8_count 51 = .ok (.aload_n 0, 1) := by decide +kernel
theorem dX8_count_52 : decode cX8_count 52 = .ok (.getfield 7, 3) := by decide +kernel
theorem dX8_count_55 : decode cX8_count 55 = .ok (.iconst 3, 1) := by decide +kernel
theorem dX8_count_56 : decode cX8_count 56 = .ok (.iaload, 1) := by decide +kernel
theorem dX8_count_57 : decode cX8_count 57 = .ok (.ireturn, 1) := by decide +kernel
theorem dX8_count_58 : decode cX8_count 58 = .ok (.aload_n 0, 1) := by decide +kernel
theorem dX8_count_59 : decode cX8_count 59 = .ok (.getfield 7, 3) := by decide +kernel
theorem dX8_count_62 : decode cX8_count 62 = .ok (.iload_n 1, 1) := by decide +kernel
theorem dX8_count_63 : decode cX8_count 63 = .ok (.iconst 2, 1) := by decide +kernel
theorem dX8_count_64 : decode cX8_count 64 = .ok (.isub, 1) := by decide +kernel
theorem dX8_count_65 : decode cX8_count 65 = .ok (.iaload, 1) := by decide +kernel
theorem dX8_count_66 : decode cX8_count 66 = .ok (.ireturn, 1) := by decide +kernel
theorem dX8_count_67 : decode cX8_count 67 = .ok (.aload_n 0, 1) := by decide +kernel
theorem dX8_count_68 : decode cX8_count 68 = .ok (.getfield 68, 3) := by decide +kernel
theorem dX8_count_71 : decode cX8_count 71 = .ok (.ireturn, 1) := by decide +kernel
theorem dX8_count_72 : decode cX8_count 72 = .ok (.aload_n 0, 1) := by decide +kernel
theorem dX8_count_73 : decode cX8_count 73 = .ok (.getfield 55, 3) := by decide +kernel
theorem dX8_count_76 : decode cX8_count 76 = .ok (.ireturn, 1) := by decide +kernel
theorem dX8_count_77 : decode cX8_count 77 = .ok (.iconst 0, 1) := by decide +kernel
theorem dX8_count_78 : decode cX8_count 78 = .ok (.istore_n 3, 1) := by decide +kernel
theorem dX8_count_79 : decode cX8_count 79 = .ok (.iload_n 3, 1) := by decide +kernel
theorem dX8_count_80 : decode cX8_count 80 = .ok (.aload_n 0, 1) := by decide +kernel
theorem dX8_count_81 : decode cX8_count 81 = .ok (.getfield 7, 3) := by decide +kernel
theorem dX8_count_84 : decode cX8_count 84 = .ok (.iconst 2, 1) := by decide +kernel
theorem dX8_count_85 : decode cX8_count 85 = .ok (.iaload, 1) := by decide +kernel
theorem dX8_count_86 : decode cX8_count 86 = .ok (.if_icmp .ge 17, 3) := by decide +kernel
theorem dX8_count_89 : decode cX8_count 89 = .ok (.iload_n 2, 1) := by decide +kernel
theorem dX8_count_90 : decode cX8_count 90 = .ok (.aload_n 0, 1) := by decide +kernel
theorem dX8_count_91 : decode cX8_count 91 = .ok (.iload_n 3, 1) := by decide +kernel
theorem dX8_count_92 : decode cX8_count 92 = .ok (.invokevirtual 190, 3) := by decide +kernel
theorem dX8_count_95 : decode cX8_count 95 = .ok (.ior, 1) := by decide +kernel
theorem dX8_count_96 : decode cX8_count 96 = .ok (.istore_n 2, 1) := by decide +kernel
theorem dX8_count_97 : decode cX8_count 97 = .ok (.iinc 3 1, 3) := by decide +kernel
theorem dX8_count_100 : decode cX8_count 100 = .ok (.goto (-21), 3) := by decide +kernel
theorem dX8_count_103 : decode cX8_count 103 = .ok (.iload_n 2, 1) := by decide +kernel
theorem dX8_count_104 : decode cX8_count 104 = .ok (.ireturn, 1) := by decide +kernel
theorem dX8_count_105 : decode cX8_count 105 = .ok (.bipush (-2), 2) := by decide +kernel
theorem dX8_count_107 : decode cX8_count 107 = .ok (.ireturn, 1) := by decide +kernel
set_option maxRecDepth 20000 in
theorem ggX8_alike_X8_isEar : GoodIn wsX8_alike wsX8_isEar := goodIn_r _ [5, 6, 7, 8, 4, 9, 76, 77, 78, 79, 80, 81, 82, 83, 84, 85, 86, 87, 88, 89, 90, 91, 92, 93] (by decide +kernel) (by decide +kernel)
set_option maxRecDepth 20000 in
theorem gX8_alike_X8_isEar : GoodIn wsX8_alike (wsV RX8 156 RX8 yX8_isEar wsX8_isEar) := goodIn_app (goodIn_of _ (by decide +kernel)) ggX8_alike_X8_isEar
set_option maxRecDepth 20000 in
theorem ggX8_alike_X8_isName : GoodIn wsX8_alike wsX8_isName := goodIn_r _ [13, 6, 7, 8, 4, 9, 76, 77, 78, 79, 80, 81, 82, 83, 84, 85, 86, 87, 88, 89, 90, 91, 92, 93] (by decide +kernel) (by decide +kernel)
set_option maxRecDepth 20000 in
theorem gX8_alike_X8_isName : GoodIn wsX8_alike (wsV RX8 93 RX8 yX8_isName wsX8_isName) := goodIn_app (goodIn_of _ (by decide +kernel)) ggX8_alike_X8_isName
set_option maxRecDepth 20000 in
theorem ggX8_alike_X8_hearAll : GoodIn wsX8_alike wsX8_hearAll := goodIn_r _ [17, 18, 6, 19, 20, 21, 22, 23, 24, 25, 26, 4, 27, 28, 29, 30, 31, 32, 33, 34, 35, 36, 37, 38, 39, 40, 41, 42, 43, 44, 45, 46, 47, 48, 49, 50, 51, 52, 53, 54, 55, 56, 57, 58, 59, 60, 61, 62, 63, 64, 65, 66, 67, 76, 77, 78, 79, 80, 81, 82, 83, 84, 85, 86, 87, 88, 89, 90, 91, 92, 93] (by decide +kernel) (by decide +kernel)
set_option maxRecDepth 20000 in
theorem gX8_alike_X8_hearAll : GoodIn wsX8_alike (wsV RX8 147 RX8 yX8_hearAll wsX8_hearAll) := goodIn_app (goodIn_of _ (by decide +kernel)) ggX8_alike_X8_hearAll
set_option maxRecDepth 20000 in
theorem ggX8_alike_X8_haveCommon : GoodIn wsX8_alike wsX8_haveCommon := goodIn_r _ [71, 19, 21, 72, 73, 74, 4, 75, 76, 77, 78, 79, 80, 81, 82, 83, 84, 85, 86, 87, 88, 89, 90, 91, 92, 93] (by decide +kernel) (by decide +kernel)
set_option maxRecDepth 20000 in
theorem gX8_alike_X8_haveCommon : GoodIn wsX8_alike (wsV RX8 144 RX8 yX8_haveCommon wsX8_haveCommon) := goodIn_app (goodIn_of _ (by decide +kernel)) ggX8_alike_X8_haveCommon
theorem dX8_alike_0 : decode cX8_alike 0 = .ok (.aload_n 0, 1) := by decide +kernel
theorem dX8_alike_1 : decode cX8_alike 1 = .ok (.iload_n 1, 1) := by decide +kernel
theorem dX8_alike_2 : decode cX8_alike 2 = .ok (.invokevirtual 156, 3) := by decide +kernel
theorem dX8_alike_5 : decode cX8_alike 5 = .ok (.ifCond .eq 19, 3) := by decide +kernel
theorem dX8_alike_8 : decode cX8_alike 8 = .ok (.aload_n 0, 1) := by decide +kernel
theorem dX8_alike_9 : decode cX8_alike 9 = .ok (.iload_n 2, 1) := by decide +kernel
theorem dX8_alike_10 : decode cX8_alike 10 = .ok (.invokevirtual 93, 3) := by decide +kernel
theorem dX8_alike_13 : decode cX8_alike 13 = .ok (.ifCond .eq 11, 3) := by decide +kernel
theorem dX8_alike_16 : decode cX8_alike 16 = .ok (.aload_n 0, 1) := by decide +kernel
theorem dX8_alike_17 : decode cX8_alike 17 = .ok (.iload_n 3, 1) := by decide +kernel
theorem dX8_alike_18 : decode cX8_alike 18 = .ok (.invokevirtual 93, 3) := by decide +kernel
theorem dX8_alike_21 : decode cX8_alike 21 = .ok (.ifCond .ne 5, 3) := by decide +kernel
theorem dX8_alike_24 : decode cX8_alike 24 = .ok (.iconst (-1), 1) := by decide +kernel
theorem dX8_alike_25 : decode cX8_alike 25 = .ok (.ireturn, 1) := by decide +kernel
theorem dX8_alike_26 : decode cX8_alike 26 = .ok (.aload_n 0, 1) := by decide +kernel
theorem dX8_alike_27 : decode cX8_alike 27 = .ok (.iload_n 1, 1) := by decide +kernel
theorem dX8_alike_28 : decode cX8_alike 28 = .ok (.invokevirtual 147, 3) := by decide +kernel
theorem dX8_alike_31 : decode cX8_alike 31 = .ok (.aload_n 0, 1) := by decide +kernel
theorem dX8_alike_32 : decode cX8_alike 32 = .ok (.iload_n 2, 1) := by decide +kernel
theorem dX8_alike_33 : decode cX8_alike 33 = .ok (.iload_n 3, 1) := by decide +kernel
theorem dX8_alike_34 : decode cX8_alike 34 = .ok (.invokevirtual 144, 3) := by decide +kernel
theorem dX8_alike_37 : decode cX8_alike 37 = .ok (.ifCond .eq 7, 3) := by decide +kernel
theorem dX8_alike_40 : decode cX8_alike 40 = .ok (.iconst 1, 1) := by decide +kernel
theorem dX8_alike_41 : decode cX8_alike 41 = .ok (.goto 4, 3) := by decide +kernel
theorem dX8_alike_44 : decode cX8_alike 44 = .ok (.iconst 0, 1) := by decide +kernel
theorem dX8_alike_45 : decode cX8_alike 45 = .ok (.ireturn, 1) := by decide +kernel
set_option maxRecDepth 20000 in
theorem ggX8_isLikeWord_X8_hasCode : GoodIn wsX8_isLikeWord wsX8_hasCode := goodIn_r _ [7, 8, 9, 10, 11, 12, 13, 14, 15, 16, 17, 18, 19, 20, 21, 22, 23, 24, 25, 26, 27] (by decide +kernel) (by decide +kernel)
set_option maxRecDepth 20000 in
theorem gX8_isLikeWord_X8_hasCode : GoodIn wsX8_isLikeWord (wsV RX8 140 RX8 yX8_hasCode wsX8_hasCode) := goodIn_app (goodIn_of _ (by decide +kernel)) ggX8_isLikeWord_X8_hasCode
theorem dX8_isLikeWord_0 : decode cX8_isLikeWord 0 = .ok (.iconst 0, 1) := by decide +kernel
theorem dX8_isLikeWord_1 : decode cX8_isLikeWord 1 = .ok (.istore_n 2, 1) := by decide +kernel
theorem dX8_isLikeWord_2 : decode cX8_isLikeWord 2 = .ok (.iconst 0, 1) := by decide +kernel
theorem dX8_isLikeWord_3 : decode cX8_isLikeWord 3 = .ok (.istore_n 3, 1) := by decide +kernel
theorem dX8_isLikeWord_4 : decode cX8_isLikeWord 4 = .ok (.iload_n 3, 1) := by decide +kernel
theorem dX8_isLikeWord_5 : decode cX8_isLikeWord 5 = .ok (.aload_n 0, 1) := by decide +kernel
theorem dX8_isLikeWord_6 : decode cX8_isLikeWord 6 = .ok (.getfield 123, 3) := by decide +kernel
theorem dX8_isLikeWord_9 : decode cX8_isLikeWord 9 = .ok (.if_icmp .ge 33, 3) := by decide +kernel
theorem dX8_isLikeWord_12 : decode cX8_isLikeWord 12 = .ok (.iload_n 2, 1) := by decide +kernel
theorem dX8_isLikeWord_13 : decode cX8_isLikeWord 13 = .ok (.ifCond .ne 17, 3) := by decide +kernel
theorem dX8_isLikeWord_16 : decode cX8_isLikeWord 16 = .ok (.aload_n 0, 1) := by decide +kernel
theorem dX8_isLikeWord_17 : decode cX8_isLikeWord 17 = .ok (.iload_n 1, 1) := by decide +kernel
theorem dX8_isLikeWord_18 : decode cX8_isLikeWord 18 = .ok (.aload_n 0, 1) := by decide +kernel
theorem dX8_isLikeWord_19 : decode cX8_isLikeWord 19 = .ok (.getfield 32, 3) := by decide +kernel
theorem dX8_isLikeWord_22 : decode cX8_isLikeWord 22 = .ok (.iload_n 3, 1) := by decide +kernel
theorem dX8_isLikeWord_23 : decode cX8_isLikeWord 23 = .ok (.laload, 1) := by decide +kernel
theorem dX8_isLikeWord_24 : decode cX8_isLikeWord 24 = .ok (.invokevirtual 140, 3) := by decide +kernel
theorem dX8_isLikeWord_27 : decode cX8_isLikeWord 27 = .ok (.ifCond .eq 7, 3) := by decide +kernel
theorem dX8_isLikeWord_30 : decode cX8_isLikeWord 30 = .ok (.iconst 1, 1) := by decide +kernel
theorem dX8_isLikeWord_31 : decode cX8_isLikeWord 31 = .ok (.goto 4, 3) := by decide +kernel
theorem dX8_isLikeWord_34 : decode cX8_isLikeWord 34 = .ok (.iconst 0, 1) := by decide +kernel
theorem dX8_isLikeWord_35 : decode cX8_isLikeWord 35 = .ok (.istore_n 2, 1) := by decide +kernel
theorem dX8_isLikeWord_36 : decode cX8_isLikeWord 36 = .ok (.iinc 3 1, 3) := by decide +kernel
theorem dX8_isLikeWord_39 : decode cX8_isLikeWord 39 = .ok (.goto (-35), 3) := by decide +kernel
theorem dX8_isLikeWord_42 : decode cX8_isLikeWord 42 = .ok (.iload_n 2, 1) := by decide +kernel
theorem dX8_isLikeWord_43 : decode cX8_isLikeWord 43 = .ok (.ireturn, 1) := by decide +kernel
set_option maxRecDepth 20000 in
theorem ggX8_aheadOf_X8_distanceTo : GoodIn wsX8_aheadOf wsX8_distanceTo := goodIn_r _ [6, 7, 8, 9, 10, 11, 12, 5, 13, 1, 14, 15, 16, 17, 18, 19, 20, 33, 34, 35, 36, 37, 38, 39, 40, 41, 42, 43, 44, 45, 46, 47, 48, 49, 50] (by decide +kernel) (by decide +kernel)
set_option maxRecDepth 20000 in
theorem gX8_aheadOf_X8_distanceTo : GoodIn wsX8_aheadOf (wsV RX8 103 RX8 yX8_distanceTo wsX8_distanceTo) := goodIn_app (goodIn_of _ (by decide +kernel)) ggX8_aheadOf_X8_distanceTo
set_option maxRecDepth 20000 in
theorem ggX8_aheadOf_X8_isLikeWord : GoodIn wsX8_aheadOf wsX8_isLikeWord := goodIn_r _ [24, 25, 26, 27, 28, 29, 5, 30, 31, 32, 33, 34, 35, 36, 37, 38, 39, 40, 41, 42, 43, 44, 45, 46, 47, 48, 49, 50] (by decide +kernel) (by decide +kernel)
set_option maxRecDepth 20000 in
theorem gX8_aheadOf_X8_isLikeWord : GoodIn wsX8_aheadOf (wsV RX8 221 RX8 yX8_isLikeWord wsX8_isLikeWord) := goodIn_app (goodIn_of _ (by decide +kernel)) ggX8_aheadOf_X8_isLikeWord
theorem dX8_aheadOf_0 : decode cX8_aheadOf 0 = .ok (.aload_n 0, 1) := by decide +kernel
theorem dX8_aheadOf_1 : decode cX8_aheadOf 1 = .ok (.iload_n 1, 1) := by decide +kernel
theorem dX8_aheadOf_2 : decode cX8_aheadOf 2 = .ok (.invokevirtual 103, 3) := by decide +kernel
theorem dX8_aheadOf_5 : decode cX8_aheadOf 5 = .ok (.istore_n 2, 1) := by decide +kernel
theorem dX8_aheadOf_6 : decode cX8_aheadOf 6 = .ok (.iconst 0, 1) := by decide +kernel
theorem dX8_aheadOf_7 : decode cX8_aheadOf 7 = .ok (.istore_n 3, 1) := by decide +kernel
theorem dX8_aheadOf_8 : decode cX8_aheadOf 8 = .ok (.iconst 0, 1) := by decide +kernel
theorem dX8_aheadOf_9 : decode cX8_aheadOf 9 = .ok (.istore 4, 2) := by decide +kernel
theorem dX8_aheadOf_11 : decode cX8_aheadOf 11 = .ok (.iload 4, 2) := by decide +kernel
theorem dX8_aheadOf_13 : decode cX8_aheadOf 13 = .ok (.aload_n 0, 1) := by decide +kernel
theorem dX8_aheadOf_14 : decode cX8_aheadOf 14 = .ok (.getfield 7, 3) := by decide +kernel
theorem dX8_aheadOf_17 : decode cX8_aheadOf 17 = .ok (.iconst 2, 1) := by decide +kernel
theorem dX8_aheadOf_18 : decode cX8_aheadOf 18 = .ok (.iaload, 1) := by decide +kernel
theorem dX8_aheadOf_19 : decode cX8_aheadOf 19 = .ok (.if_icmp .ge 52, 3) := by decide +kernel
theorem dX8_aheadOf_22 : decode cX8_aheadOf 22 = .ok (.aload_n 0, 1) := by decide +kernel
theorem dX8_aheadOf_23 : decode cX8_aheadOf 23 = .ok (.iload 4, 2) := by decide +kernel
theorem dX8_aheadOf_25 : decode cX8_aheadOf 25 = .ok (.invokevirtual 103, 3) := by decide +kernel
theorem dX8_aheadOf_28 : decode cX8_aheadOf 28 = .ok (.istore 5, 2) := by decide +kernel
theorem dX8_aheadOf_30 : decode cX8_aheadOf 30 = .ok (.iload_n 3, 1) := by decide +kernel
theorem dX8_aheadOf_31 : decode cX8_aheadOf 31 = .ok (.aload_n 0, 1) := by decide +kernel
theorem dX8_aheadOf_32 : decode cX8_aheadOf 32 = .ok (.iload 4, 2) := by decide +kernel
theorem dX8_aheadOf_34 : decode cX8_aheadOf 34 = .ok (.invokevirtual 221, 3) := by decide +kernel
theorem dX8_aheadOf_37 : decode cX8_aheadOf 37 = .ok (.ifCond .eq 25, 3) := by decide +kernel
theorem dX8_aheadOf_40 : decode cX8_aheadOf 40 = .ok (.iload 5, 2) := by decide +kernel
theorem dX8_aheadOf_42 : decode cX8_aheadOf 42 = .ok (.iload_n 2, 1) := by decide +kernel
theorem dX8_aheadOf_43 : decode cX8_aheadOf 43 = .ok (.if_icmp .lt 15, 3) := by decide +kernel
theorem dX8_aheadOf_46 : decode cX8_aheadOf 46 = .ok (.iload 5, 2) := by decide +kernel
theorem dX8_aheadOf_48 : decode cX8_aheadOf 48 = .ok (.iload_n 2, 1) := by decide +kernel
theorem dX8_aheadOf_49 : decode cX8_aheadOf 49 = .ok (.if_icmp .ne 13, 3) := by decide +kernel
theorem dX8_aheadOf_52 : decode cX8_aheadOf 52 = .ok (.iload 4, 2) := by decide +kernel
theorem dX8_aheadOf_54 : decode cX8_aheadOf 54 = .ok (.iload_n 1, 1) := by decide +kernel
theorem dX8_aheadOf_55 : decode cX8_aheadOf 55 = .ok (.if_icmp .ge 7, 3) := by decide +kernel
theorem dX8_aheadOf_58 : decode cX8_aheadOf 58 = .ok (.iconst 1, 1) := by decide +kernel
theorem dX8_aheadOf_59 : decode cX8_aheadOf 59 = .ok (.goto 4, 3) := by decide +kernel
theorem dX8_aheadOf_62 : decode cX8_aheadOf 62 = .ok (.iconst 0, 1) := by decide +kernel
theorem dX8_aheadOf_63 : decode cX8_aheadOf 63 = .ok (.iadd, 1) := by decide +kernel
theorem dX8_aheadOf_64 : decode cX8_aheadOf 64 = .ok (.istore_n 3, 1) := by decide +kernel
theorem dX8_aheadOf_65 : decode cX8_aheadOf 65 = .ok (.iinc 4 1, 3) := by decide +kernel
theorem dX8_aheadOf_68 : decode cX8_aheadOf 68 = .ok (.goto (-57), 3) := by decide +kernel
theorem dX8_aheadOf_71 : decode cX8_aheadOf 71 = .ok (.iload_n 3, 1) := by decide +kernel
theorem dX8_aheadOf_72 : decode cX8_aheadOf 72 = .ok (.ireturn, 1) := by decide +kernel
set_option maxRecDepth 20000 in
theorem ggX8_find_X8_faultOf : GoodIn wsX8_find wsX8_faultOf := goodIn_r _ [6, 7, 8, 9, 10, 5, 11, 94, 95, 96, 97, 98, 99, 100, 101, 102, 103, 104, 105, 106, 107, 108, 109, 110, 111] (by decide +kernel) (by decide +kernel)
set_option maxRecDepth 20000 in
theorem gX8_find_X8_faultOf : GoodIn wsX8_find (wsV RX8 71 RX8 yX8_faultOf wsX8_faultOf) := goodIn_app (goodIn_of _ (by decide +kernel)) ggX8_find_X8_faultOf
set_option maxRecDepth 20000 in
theorem ggX8_find_X8_isEar : GoodIn wsX8_find wsX8_isEar := goodIn_r _ [15, 1, 9, 10, 5, 11, 94, 95, 96, 97, 98, 99, 100, 101, 102, 103, 104, 105, 106, 107, 108, 109, 110, 111] (by decide +kernel) (by decide +kernel)
set_option maxRecDepth 20000 in
theorem gX8_find_X8_isEar : GoodIn wsX8_find (wsV RX8 156 RX8 yX8_isEar wsX8_isEar) := goodIn_app (goodIn_of _ (by decide +kernel)) ggX8_find_X8_isEar
set_option maxRecDepth 20000 in
theorem ggX8_find_X8_hearAll : GoodIn wsX8_find wsX8_hearAll := goodIn_r _ [19, 20, 1, 21, 22, 23, 24, 25, 26, 27, 28, 5, 29, 30, 31, 32, 33, 34, 35, 36, 37, 38, 39, 40, 41, 42, 43, 44, 45, 46, 47, 48, 49, 50, 51, 52, 53, 54, 55, 56, 57, 58, 59, 60, 61, 62, 63, 64, 65, 66, 67, 68, 69, 94, 95, 96, 97, 98, 99, 100, 101, 102, 103, 104, 105, 106, 107, 108, 109, 110, 111] (by decide +kernel) (by decide +kernel)
set_option maxRecDepth 20000 in
theorem gX8_find_X8_hearAll : GoodIn wsX8_find (wsV RX8 147 RX8 yX8_hearAll wsX8_hearAll) := goodIn_app (goodIn_of _ (by decide +kernel)) ggX8_find_X8_hearAll
set_option maxRecDepth 20000 in
theorem ggX8_find_X8_takePad : GoodIn wsX8_find wsX8_takePad := goodIn_r _ [73, 7, 30, 31, 8, 94, 95, 96, 97, 98, 99, 100, 101, 102, 103, 104, 105, 106, 107, 108, 109, 110, 111] (by decide +kernel) (by decide +kernel)
set_option maxRecDepth 20000 in
theorem gX8_find_X8_takePad : GoodIn wsX8_find (wsV RX8 86 RX8 yX8_takePad wsX8_takePad) := goodIn_app (goodIn_of _ (by decide +kernel)) ggX8_find_X8_takePad
set_option maxRecDepth 20000 in
theorem ggX8_find_X8_hearWord : GoodIn wsX8_find wsX8_hearWord := goodIn_r _ [43, 22, 24, 44, 45, 46, 5, 47, 30, 31, 1, 48, 49, 50, 51, 52, 53, 54, 55, 56, 57, 58, 59, 60, 61, 62, 63, 64, 65, 94, 95, 96, 97, 98, 99, 100, 101, 102, 103, 104, 105, 106, 107, 108, 109, 110, 111] (by decide +kernel) (by decide +kernel)
set_option maxRecDepth 20000 in
theorem gX8_find_X8_hearWord : GoodIn wsX8_find (wsV RX8 133 RX8 yX8_hearWord wsX8_hearWord) := goodIn_app (goodIn_of _ (by decide +kernel)) ggX8_find_X8_hearWord
set_option maxRecDepth 20000 in
theorem ggX8_find_X8_isLikeWord : GoodIn wsX8_find wsX8_isLikeWord := goodIn_r _ [77, 22, 24, 78, 79, 80, 5, 81, 21, 23, 94, 95, 96, 97, 98, 99, 100, 101, 102, 103, 104, 105, 106, 107, 108, 109, 110, 111] (by decide +kernel) (by decide +kernel)
set_option maxRecDepth 20000 in
theorem gX8_find_X8_isLikeWord : GoodIn wsX8_find (wsV RX8 221 RX8 yX8_isLikeWord wsX8_isLikeWord) := goodIn_app (goodIn_of _ (by decide +kernel)) ggX8_find_X8_isLikeWord
set_option maxRecDepth 20000 in
theorem ggX8_find_X8_aheadOf : GoodIn wsX8_find wsX8_aheadOf := goodIn_r _ [85, 1, 86, 87, 88, 5, 89, 90, 30, 31, 32, 33, 34, 35, 36, 37, 38, 39, 91, 92, 93, 74, 75, 76, 77, 22, 24, 78, 79, 80, 81, 21, 23, 94, 95, 96, 97, 98, 99, 100, 101, 102, 103, 104, 105, 106, 107, 108, 109, 110, 111] (by decide +kernel) (by decide +kernel)
set_option maxRecDepth 20000 in
theorem gX8_find_X8_aheadOf : GoodIn wsX8_find (wsV RX8 224 RX8 yX8_aheadOf wsX8_aheadOf) := goodIn_app (goodIn_of _ (by decide +kernel)) ggX8_find_X8_aheadOf
set_option maxRecDepth 20000 in
theorem ggX8_find_X8_distanceTo : GoodIn wsX8_find wsX8_distanceTo := goodIn_r _ [89, 90, 30, 31, 32, 33, 34, 5, 35, 1, 36, 37, 38, 39, 91, 92, 93, 94, 95, 96, 97, 98, 99, 100, 101, 102, 103, 104, 105, 106, 107, 108, 109, 110, 111] (by decide +kernel) (by decide +kernel)
set_option maxRecDepth 20000 in
theorem gX8_find_X8_distanceTo : GoodIn wsX8_find (wsV RX8 103 RX8 yX8_distanceTo wsX8_distanceTo) := goodIn_app (goodIn_of _ (by decide +kernel)) ggX8_find_X8_distanceTo
theorem dX8_find_0 : decode cX8_find 0 = .ok (.aload_n 0, 1) := by decide +kernel
theorem dX8_find_1 : decode cX8_find 1 = .ok (.invokevirtual 71, 3) := by decide +kernel
theorem dX8_find_4 : decode cX8_find 4 = .ok (.bipush (-6), 2) := by decide +kernel
theorem dX8_find_6 : decode cX8_find 6 = .ok (.if_icmp .eq 6, 3) := by decide +kernel
theorem dX8_find_9 : decode cX8_find 9 = .ok (.bipush (-3), 2) := by decide +kernel
theorem dX8_find_11 : decode cX8_find 11 = .ok (.ireturn, 1) := by decide +kernel
theorem dX8_find_12 : decode cX8_find 12 = .ok (.aload_n 0, 1) := by decide +kernel
theorem dX8_find_13 : decode cX8_find 13 = .ok (.iload_n 1, 1) := by decide +kernel
theorem dX8_find_14 : decode cX8_find 14 = .ok (.invokevirtual 156, 3) := by decide +kernel
theorem dX8_find_17 : decode cX8_find 17 = .ok (.ifCond .ne 5, 3) := by decide +kernel
theorem dX8_find_20 : decode cX8_find 20 = .ok (.iconst (-1), 1) := by decide +kernel
theorem dX8_find_21 : decode cX8_find 21 = .ok (.ireturn, 1) := by decide +kernel
theorem dX8_find_22 : decode cX8_find 22 = .ok (.aload_n 0, 1) := by decide +kernel
theorem dX8_find_23 : decode cX8_find 23 = .ok (.iload_n 1, 1) := by decide +kernel
theorem dX8_find_24 : decode cX8_find 24 = .ok (.invokevirtual 147, 3) := by decide +kernel
theorem dX8_find_27 : decode cX8_find 27 = .ok (.aload_n 0, 1) := by decide +kernel
theorem dX8_find_28 : decode cX8_find 28 = .ok (.invokevirtual 86, 3) := by decide +kernel
theorem dX8_find_31 : decode cX8_find 31 = .ok (.aload_n 0, 1) := by decide +kernel
theorem dX8_find_32 : decode cX8_find 32 = .ok (.iload_n 1, 1) := by decide +kernel
theorem dX8_find_33 : decode cX8_find 33 = .ok (.invokevirtual 133, 3) := by decide +kernel
theorem dX8_find_36 : decode cX8_find 36 = .ok (.iconst (-1), 1) := by decide +kernel
theorem dX8_find_37 : decode cX8_find 37 = .ok (.istore 4, 2) := by decide +kernel
theorem dX8_find_39 : decode cX8_find 39 = .ok (.iconst 0, 1) := by decide +kernel
theorem dX8_find_40 : decode cX8_find 40 = .ok (.istore 5, 2) := by decide +kernel
theorem dX8_find_42 : decode cX8_find 42 = .ok (.iload 5, 2) := by decide +kernel
theorem dX8_find_44 : decode cX8_find 44 = .ok (.aload_n 0, 1) := by decide +kernel
theorem dX8_find_45 : decode cX8_find 45 = .ok (.getfield 7, 3) := by decide +kernel
theorem dX8_find_48 : decode cX8_find 48 = .ok (.iconst 2, 1) := by decide +kernel
theorem dX8_find_49 : decode cX8_find 49 = .ok (.iaload, 1) := by decide +kernel
theorem dX8_find_50 : decode cX8_find 50 = .ok (.if_icmp .ge 37, 3) := by decide +kernel
theorem dX8_find_53 : decode cX8_find 53 = .ok (.aload_n 0, 1) := by decide +kernel
theorem dX8_find_54 : decode cX8_find 54 = .ok (.iload 5, 2) := by decide +kernel
theorem dX8_find_56 : decode cX8_find 56 = .ok (.invokevirtual 221, 3) := by decide +kernel
theorem dX8_find_59 : decode cX8_find 59 = .ok (.ifCond .eq 18, 3) := by decide +kernel
theorem dX8_find_62 : decode cX8_find 62 = .ok (.aload_n 0, 1) := by decide +kernel
theorem dX8_find_63 : decode cX8_find 63 = .ok (.iload 5, 2) := by decide +kernel
theorem dX8_find_65 : decode cX8_find 65 = .ok (.invokevirtual 224, 3) := by decide +kernel
theorem dX8_find_68 : decode cX8_find 68 = .ok (.iload_n 2, 1) := by decide +kernel
theorem dX8_find_69 : decode cX8_find 69 = .ok (.if_icmp .ne 8, 3) := by decide +kernel
theorem dX8_find_72 : decode cX8_find 72 = .ok (.iload 5, 2) := by decide +kernel
theorem dX8_find_74 : decode cX8_find 74 = .ok (.goto 5, 3) := by decide +kernel
theorem dX8_find_77 : decode cX8_find 77 = .ok (.iload 4, 2) := by decide +kernel
theorem dX8_find_79 : decode cX8_find 79 = .ok (.istore 4, 2) := by decide +kernel
theorem dX8_find_81 : decode cX8_find 81 = .ok (.iinc 5 1, 3) := by decide +kernel
theorem dX8_find_84 : decode cX8_find 84 = .ok (.goto (-42), 3) := by decide +kernel
theorem dX8_find_87 : decode cX8_find 87 = .ok (.iload 4, 2) := by decide +kernel
theorem dX8_find_89 : decode cX8_find 89 = .ok (.iconst (-1), 1) := by decide +kernel
theorem dX8_find_90 : decode cX8_find 90 = .ok (.if_icmp .ne 5, 3) := by decide +kernel
theorem dX8_find_93 : decode cX8_find 93 = .ok (.iconst (-1), 1) := by decide +kernel
theorem dX8_find_94 : decode cX8_find 94 = .ok (.ireturn, 1) := by decide +kernel
theorem dX8_find_95 : decode cX8_find 95 = .ok (.iload_n 3, 1) := by decide +kernel
theorem dX8_find_96 : decode cX8_find 96 = .ok (.ifCond .ne 8, 3) := by decide +kernel
theorem dX8_find_99 : decode cX8_find 99 = .ok (.iload 4, 2) := by decide +kernel
theorem dX8_find_101 : decode cX8_find 101 = .ok (.goto 19, 3) := by decide +kernel
theorem dX8_find_104 : decode cX8_find 104 = .ok (.iload_n 3, 1) := by decide +kernel
theorem dX8_find_105 : decode cX8_find 105 = .ok (.iconst 1, 1) := by decide +kernel
theorem dX8_find_106 : decode cX8_find 106 = .ok (.if_icmp .ne 12, 3) := by decide +kernel
theorem dX8_find_109 : decode cX8_find 109 = .ok (.aload_n 0, 1) := by decide +kernel
theorem dX8_find_110 : decode cX8_find 110 = .ok (.iload 4, 2) := by decide +kernel
theorem dX8_find_112 : decode cX8_find 112 = .ok (.invokevirtual 103, 3) := by decide +kernel
theorem dX8_find_115 : decode cX8_find 115 = .ok (.goto 5, 3) := by decide +kernel
theorem dX8_find_118 : decode cX8_find 118 = .ok (.bipush (-2), 2) := by decide +kernel
theorem dX8_find_120 : decode cX8_find 120 = .ok (.ireturn, 1) := by decide +kernel
set_option maxRecDepth 20000 in
theorem ggX8_behindMerger_X8_copyState : GoodIn wsX8_behindMerger wsX8_copyState := goodIn_r _ [7] (by decide +kernel) (by decide +kernel)
set_option maxRecDepth 20000 in
theorem gX8_behindMerger_X8_copyState : GoodIn wsX8_behindMerger (va_wsS RX8 59 yX8_copyState wsX8_copyState) := goodIn_app (goodIn_of _ (by decide +kernel)) ggX8_behindMerger_X8_copyState
set_option maxRecDepth 20000 in
theorem ggX8_behindMerger_X8_mergeKinds : GoodIn wsX8_behindMerger wsX8_mergeKinds := goodIn_r _ [11, 12, 13, 14, 6, 15, 16, 17, 18, 19, 1, 20, 21, 22, 23, 24, 25, 26, 27, 28, 29, 30, 31, 100, 101, 102, 103, 104, 105, 106, 107, 108, 109, 110, 111, 112, 113, 114, 115, 116, 117] (by decide +kernel) (by decide +kernel)
set_option maxRecDepth 20000 in
theorem gX8_behindMerger_X8_mergeKinds : GoodIn wsX8_behindMerger (wsV RX8 187 RX8 yX8_mergeKinds wsX8_mergeKinds) := goodIn_app (goodIn_of _ (by decide +kernel)) ggX8_behindMerger_X8_mergeKinds
set_option maxRecDepth 20000 in
theorem ggX8_behindMerger_X8_pairs : GoodIn wsX8_behindMerger wsX8_pairs := goodIn_r _ [35, 1, 36, 37, 38, 6, 39, 3, 40, 41, 42, 43, 44, 45, 46, 47, 48, 49, 50, 51, 52, 53, 54, 55, 56, 57, 58, 59, 60, 61, 62, 63, 64, 65, 66, 67, 68, 69, 70, 71, 72, 73, 74, 75, 76, 16, 17, 18, 19, 77, 78, 79, 80, 81, 82, 83, 84, 85, 86, 87, 88, 89, 90, 91, 92, 93, 94, 95, 96, 97, 98, 99, 100, 101, 102, 103, 104, 105, 106, 107, 108, 109, 110, 111, 112, 113, 114, 115, 116, 117] (by decide +kernel) (by decide +kernel)
set_option maxRecDepth 20000 in
theorem gX8_behindMerger_X8_pairs : GoodIn wsX8_behindMerger (wsV RX8 202 RX8 yX8_pairs wsX8_pairs) := goodIn_app (goodIn_of _ (by decide +kernel)) ggX8_behindMerger_X8_pairs
theorem dX8_behindMerger_0 : decode cX8_behindMerger 0 = .ok (.aload_n 0, 1) := by decide +kernel
theorem dX8_behindMerger_1 : decode cX8_behindMerger 1 = .ok (.getfield 7, 3) := by decide +kernel
theorem dX8_behindMerger_4 : decode cX8_behindMerger 4 = .ok (.iconst 0, 1) := by decide +kernel
theorem dX8_behindMerger_5 : decode cX8_behindMerger 5 = .ok (.aload_n 0, 1) := by decide +kernel
theorem dX8_behindMerger_6 : decode cX8_behindMerger 6 = .ok (.getfield 13, 3) := by decide +kernel
theorem dX8_behindMerger_9 : decode cX8_behindMerger 9 = .ok (.iconst 0, 1) := by decide +kernel
theorem dX8_behindMerger_10 : decode cX8_behindMerger 10 = .ok (.invokestatic 59, 3) := by decide +kernel
theorem dX8_behindMerger_13 : decode cX8_behindMerger 13 = .ok (.aload_n 0, 1) := by decide +kernel
theorem dX8_behindMerger_14 : decode cX8_behindMerger 14 = .ok (.iload_n 1, 1) := by decide +kernel
theorem dX8_behindMerger_15 : decode cX8_behindMerger 15 = .ok (.iload_n 2, 1) := by decide +kernel
theorem dX8_behindMerger_16 : decode cX8_behindMerger 16 = .ok (.iload_n 3, 1) := by decide +kernel
theorem dX8_behindMerger_17 : decode cX8_behindMerger 17 = .ok (.invokevirtual 187, 3) := by decide +kernel
theorem dX8_behindMerger_20 : decode cX8_behindMerger 20 = .ok (.aload_n 0, 1) := by decide +kernel
theorem dX8_behindMerger_21 : decode cX8_behindMerger 21 = .ok (.iload_n 1, 1) := by decide +kernel
theorem dX8_behindMerger_22 : decode cX8_behindMerger 22 = .ok (.invokevirtual 202, 3) := by decide +kernel
theorem dX8_behindMerger_25 : decode cX8_behindMerger 25 = .ok (.istore 5, 2) := by decide +kernel
theorem dX8_behindMerger_27 : decode cX8_behindMerger 27 = .ok (.aload_n 0, 1) := by decide +kernel
theorem dX8_behindMerger_28 : decode cX8_behindMerger 28 = .ok (.getfield 13, 3) := by decide +kernel
theorem dX8_behindMerger_31 : decode cX8_behindMerger 31 = .ok (.iconst 0, 1) := by decide +kernel
theorem dX8_behindMerger_32 : decode cX8_behindMerger 32 = .ok (.aload_n 0, 1) := by decide +kernel
theorem dX8_behindMerger_33 : decode cX8_behindMerger 33 = .ok (.getfield 7, 3) := by decide +kernel
theorem dX8_behindMerger_36 : decode cX8_behindMerger 36 = .ok (.iconst 0, 1) := by decide +kernel
theorem dX8_behindMerger_37 : decode cX8_behindMerger 37 = .ok (.invokestatic 59, 3) := by decide +kernel
theorem dX8_behindMerger_40 : decode cX8_behindMerger 40 = .ok (.iload 4, 2) := by decide +kernel
theorem dX8_behindMerger_42 : decode cX8_behindMerger 42 = .ok (.ifCond .eq 8, 3) := by decide +kernel
theorem dX8_behindMerger_45 : decode cX8_behindMerger 45 = .ok (.iload 5, 2) := by decide +kernel
