theorem dX2_lettersOf_7 : decode cX2_lettersOf 7 = .ok (.if_icmp .ge 25, 3) := by decide +kernel
theorem dX2_lettersOf_10 : decode cX2_lettersOf 10 = .ok (.aload_n 0, 1) := by decide +kernel
theorem dX2_lettersOf_11 : decode cX2_lettersOf 11 = .ok (.getfield 9, 3) := by decide +kernel
theorem dX2_lettersOf_14 : decode cX2_lettersOf 14 = .ok (.iload_n 3, 1) := by decide +kernel
theorem dX2_lettersOf_15 : decode cX2_lettersOf 15 = .ok (.iaload, 1) := by decide +kernel
theorem dX2_lettersOf_16 : decode cX2_lettersOf 16 = .ok (.iload_n 1, 1) := by decide +kernel
theorem dX2_lettersOf_17 : decode cX2_lettersOf 17 = .ok (.if_icmp .ne 9, 3) := by decide +kernel
theorem dX2_lettersOf_20 : decode cX2_lettersOf 20 = .ok (.iload_n 2, 1) := by decide +kernel
theorem dX2_lettersOf_21 : decode cX2_lettersOf 21 = .ok (.iconst 1, 1) := by decide +kernel
theorem dX2_lettersOf_22 : decode cX2_lettersOf 22 = .ok (.iload_n 3, 1) := by decide +kernel
theorem dX2_lettersOf_23 : decode cX2_lettersOf 23 = .ok (.ishl, 1) := by decide +kernel
theorem dX2_lettersOf_24 : decode cX2_lettersOf 24 = .ok (.ior, 1) := by decide +kernel
theorem dX2_lettersOf_25 : decode cX2_lettersOf 25 = .ok (.istore_n 2, 1) := by decide +kernel
theorem dX2_lettersOf_26 : decode cX2_lettersOf 26 = .ok (.iinc 3 1, 3) := by decide +kernel
theorem dX2_lettersOf_29 : decode cX2_lettersOf 29 = .ok (.goto (-25), 3) := by decide +kernel
theorem dX2_lettersOf_32 : decode cX2_lettersOf 32 = .ok (.iload_n 2, 1) := by decide +kernel
theorem dX2_lettersOf_33 : decode cX2_lettersOf 33 = .ok (.ireturn, 1) := by decide +kernel
theorem dX2_lettersWithSecond_0 : decode cX2_lettersWithSecond 0 = .ok (.iconst 0, 1) := by decide +kernel
theorem dX2_lettersWithSecond_1 : decode cX2_lettersWithSecond 1 = .ok (.istore_n 1, 1) := by decide +kernel
theorem dX2_lettersWithSecond_2 : decode cX2_lettersWithSecond 2 = .ok (.iconst 0, 1) := by decide +kernel
theorem dX2_lettersWithSecond_3 : decode cX2_lettersWithSecond 3 = .ok (.istore_n 2, 1) := by decide +kernel
theorem dX2_lettersWithSecond_4 : decode cX2_lettersWithSecond 4 = .ok (.iload_n 2, 1) := by decide +kernel
theorem dX2_lettersWithSecond_5 : decode cX2_lettersWithSecond 5 = .ok (.bipush 26, 2) := by decide +kernel
theorem dX2_lettersWithSecond_7 : decode cX2_lettersWithSecond 7 = .ok (.if_icmp .ge 26, 3) := by decide +kernel
theorem dX2_lettersWithSecond_10 : decode cX2_lettersWithSecond 10 = .ok (.aload_n 0, 1) := by decide +kernel
theorem dX2_lettersWithSecond_11 : decode cX2_lettersWithSecond 11 = .ok (.getfield 15, 3) := by decide +kernel
theorem dX2_lettersWithSecond_14 : decode cX2_lettersWithSecond 14 = .ok (.iload_n 2, 1) := by decide +kernel
theorem dX2_lettersWithSecond_15 : decode cX2_lettersWithSecond 15 = .ok (.iaload, 1) := by decide +kernel
theorem dX2_lettersWithSecond_16 : decode cX2_lettersWithSecond 16 = .ok (.bipush (-6), 2) := by decide +kernel
theorem dX2_lettersWithSecond_18 : decode cX2_lettersWithSecond 18 = .ok (.if_icmp .eq 9, 3) := by decide +kernel
theorem dX2_lettersWithSecond_21 : decode cX2_lettersWithSecond 21 = .ok (.iload_n 1, 1) := by decide +kernel
theorem dX2_lettersWithSecond_22 : decode cX2_lettersWithSecond 22 = .ok (.iconst 1, 1) := by decide +kernel
theorem dX2_lettersWithSecond_23 : decode cX2_lettersWithSecond 23 = .ok (.iload_n 2, 1) := by decide +kernel
theorem dX2_lettersWithSecond_24 : decode cX2_lettersWithSecond 24 = .ok (.ishl, 1) := by decide +kernel
theorem dX2_lettersWithSecond_25 : decode cX2_lettersWithSecond 25 = .ok (.ior, 1) := by decide +kernel
theorem dX2_lettersWithSecond_26 : decode cX2_lettersWithSecond 26 = .ok (.istore_n 1, 1) := by decide +kernel
theorem dX2_lettersWithSecond_27 : decode cX2_lettersWithSecond 27 = .ok (.iinc 2 1, 3) := by decide +kernel
theorem dX2_lettersWithSecond_30 : decode cX2_lettersWithSecond 30 = .ok (.goto (-26), 3) := by decide +kernel
theorem dX2_lettersWithSecond_33 : decode cX2_lettersWithSecond 33 = .ok (.iload_n 1, 1) := by decide +kernel
theorem dX2_lettersWithSecond_34 : decode cX2_lettersWithSecond 34 = .ok (.ireturn, 1) := by decide +kernel
set_option maxRecDepth 20000 in
theorem ggX2_mergeClasses_X2_loseSameSecond : GoodIn wsX2_mergeClasses wsX2_loseSameSecond := goodIn_r _ [7, 2, 1, 25, 26, 27, 28, 29, 30, 31, 32] (by decide +kernel) (by decide +kernel)
set_option maxRecDepth 20000 in
theorem gX2_mergeClasses_X2_loseSameSecond : GoodIn wsX2_mergeClasses (wsV RX2 49 RX2 yX2_loseSameSecond wsX2_loseSameSecond) := goodIn_app (goodIn_of _ (by decide +kernel)) ggX2_mergeClasses_X2_loseSameSecond
set_option maxRecDepth 20000 in
theorem ggX2_mergeClasses_X2_remember : GoodIn wsX2_mergeClasses wsX2_remember := goodIn_r _ [11, 12, 13, 14, 15, 16, 17, 18, 19, 6, 20, 21, 22, 23, 24, 25, 26, 27, 28, 29, 30, 31, 32] (by decide +kernel) (by decide +kernel)
set_option maxRecDepth 20000 in
theorem gX2_mergeClasses_X2_remember : GoodIn wsX2_mergeClasses (wsV RX2 53 RX2 yX2_remember wsX2_remember) := goodIn_app (goodIn_of _ (by decide +kernel)) ggX2_mergeClasses_X2_remember
theorem dX2_mergeClasses_0 : decode cX2_mergeClasses 0 = .ok (.iconst 0, 1) := by decide +kernel
theorem dX2_mergeClasses_1 : decode cX2_mergeClasses 1 = .ok (.istore_n 3, 1) := by decide +kernel
theorem dX2_mergeClasses_2 : decode cX2_mergeClasses 2 = .ok (.iconst 0, 1) := by decide +kernel
theorem dX2_mergeClasses_3 : decode cX2_mergeClasses 3 = .ok (.istore 4, 2) := by decide +kernel
theorem dX2_mergeClasses_5 : decode cX2_mergeClasses 5 = .ok (.iconst 0, 1) := by decide +kernel
theorem dX2_mergeClasses_6 : decode cX2_mergeClasses 6 = .ok (.istore 5, 2) := by decide +kernel
theorem dX2_mergeClasses_8 : decode cX2_mergeClasses 8 = .ok (.iload 5, 2) := by decide +kernel
theorem dX2_mergeClasses_10 : decode cX2_mergeClasses 10 = .ok (.bipush 26, 2) := by decide +kernel
theorem dX2_mergeClasses_12 : decode cX2_mergeClasses 12 = .ok (.if_icmp .ge 97, 3) := by decide +kernel
theorem dX2_mergeClasses_15 : decode cX2_mergeClasses 15 = .ok (.aload_n 0, 1) := by decide +kernel
theorem dX2_mergeClasses_16 : decode cX2_mergeClasses 16 = .ok (.getfield 9, 3) := by decide +kernel
theorem dX2_mergeClasses_19 : decode cX2_mergeClasses 19 = .ok (.iload 5, 2) := by decide +kernel
theorem dX2_mergeClasses_21 : decode cX2_mergeClasses 21 = .ok (.iaload, 1) := by decide +kernel
theorem dX2_mergeClasses_22 : decode cX2_mergeClasses 22 = .ok (.iload_n 2, 1) := by decide +kernel
theorem dX2_mergeClasses_23 : decode cX2_mergeClasses 23 = .ok (.if_icmp .ne 18, 3) := by decide +kernel
theorem dX2_mergeClasses_26 : decode cX2_mergeClasses 26 = .ok (.aload_n 0, 1) := by decide +kernel
theorem dX2_mergeClasses_27 : decode cX2_mergeClasses 27 = .ok (.getfield 9, 3) := by decide +kernel
theorem dX2_mergeClasses_30 : decode cX2_mergeClasses 30 = .ok (.iload 5, 2) := by decide +kernel
theorem dX2_mergeClasses_32 : decode cX2_mergeClasses 32 = .ok (.iload_n 1, 1) := by decide +kernel
theorem dX2_mergeClasses_33 : decode cX2_mergeClasses 33 = .ok (.iastore, 1) := by decide +kernel
theorem dX2_mergeClasses_34 : decode cX2_mergeClasses 34 = .ok (.iload_n 3, 1) := by decide +kernel
theorem dX2_mergeClasses_35 : decode cX2_mergeClasses 35 = .ok (.iconst 1, 1) := by decide +kernel
theorem dX2_mergeClasses_36 : decode cX2_mergeClasses 36 = .ok (.iload 5, 2) := by decide +kernel
theorem dX2_mergeClasses_38 : decode cX2_mergeClasses 38 = .ok (.ishl, 1) := by decide +kernel
theorem dX2_mergeClasses_39 : decode cX2_mergeClasses 39 = .ok (.ior, 1) := by decide +kernel
theorem dX2_mergeClasses_40 : decode cX2_mergeClasses 40 = .ok (.istore_n 3, 1) := by decide +kernel
theorem dX2_mergeClasses_41 : decode cX2_mergeClasses 41 = .ok (.aload_n 0, 1) := by decide +kernel
theorem dX2_mergeClasses_42 : decode cX2_mergeClasses 42 = .ok (.getfield 15, 3) := by decide +kernel
theorem dX2_mergeClasses_45 : decode cX2_mergeClasses 45 = .ok (.iload 5, 2) := by decide +kernel
theorem dX2_mergeClasses_47 : decode cX2_mergeClasses 47 = .ok (.iaload, 1) := by decide +kernel
theorem dX2_mergeClasses_48 : decode cX2_mergeClasses 48 = .ok (.iload_n 2, 1) := by decide +kernel
theorem dX2_mergeClasses_49 : decode cX2_mergeClasses 49 = .ok (.if_icmp .ne 7, 3) := by decide +kernel
theorem dX2_mergeClasses_52 : decode cX2_mergeClasses 52 = .ok (.iconst 1, 1) := by decide +kernel
theorem dX2_mergeClasses_53 : decode cX2_mergeClasses 53 = .ok (.goto 4, 3) := by decide +kernel
theorem dX2_mergeClasses_56 : decode cX2_mergeClasses 56 = .ok (.iconst 0, 1) := by decide +kernel
theorem dX2_mergeClasses_57 : decode cX2_mergeClasses 57 = .ok (.istore 6, 2) := by decide +kernel
theorem dX2_mergeClasses_59 : decode cX2_mergeClasses 59 = .ok (.iload 6, 2) := by decide +kernel
theorem dX2_mergeClasses_61 : decode cX2_mergeClasses 61 = .ok (.ifCond .eq 11, 3) := by decide +kernel
theorem dX2_mergeClasses_64 : decode cX2_mergeClasses 64 = .ok (.aload_n 0, 1) := by decide +kernel
theorem dX2_mergeClasses_65 : decode cX2_mergeClasses 65 = .ok (.getfield 15, 3) := by decide +kernel
theorem dX2_mergeClasses_68 : decode cX2_mergeClasses 68 = .ok (.iload 5, 2) := by decide +kernel
theorem dX2_mergeClasses_70 : decode cX2_mergeClasses 70 = .ok (.iload_n 1, 1) := by decide +kernel
theorem dX2_mergeClasses_71 : decode cX2_mergeClasses 71 = .ok (.iastore, 1) := by decide +kernel
theorem dX2_mergeClasses_72 : decode cX2_mergeClasses 72 = .ok (.aload_n 0, 1) := by decide +kernel
theorem dX2_mergeClasses_73 : decode cX2_mergeClasses 73 = .ok (.iload 5, 2) := by decide +kernel
theorem dX2_mergeClasses_75 : decode cX2_mergeClasses 75 = .ok (.invokevirtual 49, 3) := by decide +kernel
theorem dX2_mergeClasses_78 : decode cX2_mergeClasses 78 = .ok (.iload 6, 2) := by decide +kernel
theorem dX2_mergeClasses_80 : decode cX2_mergeClasses 80 = .ok (.ifCond .eq 23, 3) := by decide +kernel
theorem dX2_mergeClasses_83 : decode cX2_mergeClasses 83 = .ok (.aload_n 0, 1) := by decide +kernel
theorem dX2_mergeClasses_84 : decode cX2_mergeClasses 84 = .ok (.getfield 15, 3) := by decide +kernel
theorem dX2_mergeClasses_87 : decode cX2_mergeClasses 87 = .ok (.iload 5, 2) := by decide +kernel
theorem dX2_mergeClasses_89 : decode cX2_mergeClasses 89 = .ok (.iaload, 1) := by decide +kernel
theorem dX2_mergeClasses_90 : decode cX2_mergeClasses 90 = .ok (.iload_n 1, 1) := by decide +kernel
theorem dX2_mergeClasses_91 : decode cX2_mergeClasses 91 = .ok (.if_icmp .ne 12, 3) := by decide +kernel
theorem dX2_mergeClasses_94 : decode cX2_mergeClasses 94 = .ok (.iload 4, 2) := by decide +kernel
theorem dX2_mergeClasses_96 : decode cX2_mergeClasses 96 = .ok (.iconst 1, 1) := by decide +kernel
theorem dX2_mergeClasses_97 : decode cX2_mergeClasses 97 = .ok (.iload 5, 2) := by decide +kernel
theorem dX2_mergeClasses_99 : decode cX2_mergeClasses 99 = .ok (.ishl, 1) := by decide +kernel
theorem dX2_mergeClasses_100 : decode cX2_mergeClasses 100 = .ok (.ior, 1) := by decide +kernel
theorem dX2_mergeClasses_101 : decode cX2_mergeClasses 101 = .ok (.istore 4, 2) := by decide +kernel
theorem dX2_mergeClasses_103 : decode cX2_mergeClasses 103 = .ok (.iinc 5 1, 3) := by decide +kernel
theorem dX2_mergeClasses_106 : decode cX2_mergeClasses 106 = .ok (.goto (-98), 3) := by decide +kernel
theorem dX2_mergeClasses_109 : decode cX2_mergeClasses 109 = .ok (.aload_n 0, 1) := by decide +kernel
theorem dX2_mergeClasses_110 : decode cX2_mergeClasses 110 = .ok (.iload_n 1, 1) := by decide +kernel
theorem dX2_mergeClasses_111 : decode cX2_mergeClasses 111 = .ok (.iload_n 2, 1) := by decide +kernel
theorem dX2_mergeClasses_112 : decode cX2_mergeClasses 112 = .ok (.iload_n 3, 1) := by decide +kernel
theorem dX2_mergeClasses_113 : decode cX2_mergeClasses 113 = .ok (.iload 4, 2) := by decide +kernel
theorem dX2_mergeClasses_115 : decode cX2_mergeClasses 115 = .ok (.invokevirtual 53, 3) := by decide +kernel
theorem dX2_mergeClasses_118 : decode cX2_mergeClasses 118 = .ok (.return_, 1) := by decide +kernel
set_option maxRecDepth 20000 in
theorem ggX2_remember_X2_forgetOldest : GoodIn wsX2_remember wsX2_forgetOldest := goodIn_r _ [10, 1, 2, 11, 12, 13, 14, 3, 4, 5, 15, 16, 17, 18, 19, 20, 21, 22] (by decide +kernel) (by decide +kernel)
set_option maxRecDepth 20000 in
theorem gX2_remember_X2_forgetOldest : GoodIn wsX2_remember (wsV RX2 57 RX2 yX2_forgetOldest wsX2_forgetOldest) := goodIn_app (goodIn_of _ (by decide +kernel)) ggX2_remember_X2_forgetOldest
theorem dX2_remember_0 : decode cX2_remember 0 = .ok (.aload_n 0, 1) := by decide +kernel
theorem dX2_remember_1 : decode cX2_remember 1 = .ok (.getfield 40, 3) := by decide +kernel
theorem dX2_remember_4 : decode cX2_remember 4 = .ok (.bipush 6, 2) := by decide +kernel
theorem dX2_remember_6 : decode cX2_remember 6 = .ok (.if_icmp .lt 7, 3) := by decide +kernel
theorem dX2_remember_9 : decode cX2_remember 9 = .ok (.aload_n 0, 1) := by decide +kernel
theorem dX2_remember_10 : decode cX2_remember 10 = .ok (.invokevirtual 57, 3) := by decide +kernel
theorem dX2_remember_13 : decode cX2_remember 13 = .ok (.aload_n 0, 1) := by decide +kernel
theorem dX2_remember_14 : decode cX2_remember 14 = .ok (.getfield 18, 3) := by decide +kernel
theorem dX2_remember_17 : decode cX2_remember 17 = .ok (.aload_n 0, 1) := by decide +kernel
theorem dX2_remember_18 : decode cX2_remember 18 = .ok (.getfield 40, 3) := by decide +kernel
theorem dX2_remember_21 : decode cX2_remember 21 = .ok (.iload_n 1, 1) := by decide +kernel
theorem dX2_remember_22 : decode cX2_remember 22 = .ok (.iastore, 1) := by decide +kernel
theorem dX2_remember_23 : decode cX2_remember 23 = .ok (.aload_n 0, 1) := by decide +kernel
theorem dX2_remember_24 : decode cX2_remember 24 = .ok (.getfield 21, 3) := by decide +kernel
theorem dX2_remember_27 : decode cX2_remember 27 = .ok (.aload_n 0, 1) := by decide +kernel
theorem dX2_remember_28 : decode cX2_remember 28 = .ok (.getfield 40, 3) := by decide +kernel
theorem dX2_remember_31 : decode cX2_remember 31 = .ok (.iload_n 2, 1) := by decide +kernel
theorem dX2_remember_32 : decode cX2_remember 32 = .ok (.iastore, 1) := by decide +kernel
theorem dX2_remember_33 : decode cX2_remember 33 = .ok (.aload_n 0, 1) := by decide +kernel
theorem dX2_remember_34 : decode cX2_remember 34 = .ok (.getfield 24, 3) := by decide +kernel
theorem dX2_remember_37 : decode cX2_remember 37 = .ok (.aload_n 0, 1) := by decide +kernel
theorem dX2_remember_38 : decode cX2_remember 38 = .ok (.getfield 40, 3) := by decide +kernel
theorem dX2_remember_41 : decode cX2_remember 41 = .ok (.iload_n 3, 1) := by decide +kernel
theorem dX2_remember_42 : decode cX2_remember 42 = .ok (.iastore, 1) := by decide +kernel
theorem dX2_remember_43 : decode cX2_remember 43 = .ok (.aload_n 0, 1) := by decide +kernel
theorem dX2_remember_44 : decode cX2_remember 44 = .ok (.getfield 27, 3) := by decide +kernel
theorem dX2_remember_47 : decode cX2_remember 47 = .ok (.aload_n 0, 1) := by decide +kernel
theorem dX2_remember_48 : decode cX2_remember 48 = .ok (.getfield 40, 3) := by decide +kernel
theorem dX2_remember_51 : decode cX2_remember 51 = .ok (.iload 4, 2) := by decide +kernel
theorem dX2_remember_53 : decode cX2_remember 53 = .ok (.iastore, 1) := by decide +kernel
theorem dX2_remember_54 : decode cX2_remember 54 = .ok (.aload_n 0, 1) := by decide +kernel
theorem dX2_remember_55 : decode cX2_remember 55 = .ok (.dup, 1) := by decide +kernel
theorem dX2_remember_56 : decode cX2_remember 56 = .ok (.getfield 40, 3) := by decide +kernel
theorem dX2_remember_59 : decode cX2_remember 59 = .ok (.iconst 1, 1) := by decide +kernel
theorem dX2_remember_60 : decode cX2_remember 60 = .ok (.iadd, 1) := by decide +kernel
theorem dX2_remember_61 : decode cX2_remember 61 = .ok (.putfield 40, 3) := by decide +kernel
theorem dX2_remember_64 : decode cX2_remember 64 = .ok (.return_, 1) := by decide +kernel
theorem dX2_forgetOldest_0 : decode cX2_forgetOldest 0 = .ok (.aload_n 0, 1) := by decide +kernel
theorem dX2_forgetOldest_1 : decode cX2_forgetOldest 1 = .ok (.iconst 5, 1) := by decide +kernel
theorem dX2_forgetOldest_2 : decode cX2_forgetOldest 2 = .ok (.putfield 40, 3) := by decide +kernel
theorem dX2_forgetOldest_5 : decode cX2_forgetOldest 5 = .ok (.aload_n 0, 1) := by decide +kernel
theorem dX2_forgetOldest_6 : decode cX2_forgetOldest 6 = .ok (.getfield 18, 3) := by decide +kernel
theorem dX2_forgetOldest_9 : decode cX2_forgetOldest 9 = .ok (.iconst 1, 1) := by decide +kernel
theorem dX2_forgetOldest_10 : decode cX2_forgetOldest 10 = .ok (.aload_n 0, 1) := by decide +kernel
theorem dX2_forgetOldest_11 : decode cX2_forgetOldest 11 = .ok (.getfield 18, 3) := by decide +kernel
theorem dX2_forgetOldest_14 : decode cX2_forgetOldest 14 = .ok (.iconst 0, 1) := by decide +kernel
theorem dX2_forgetOldest_15 : decode cX2_forgetOldest 15 = .ok (.aload_n 0, 1) := by decide +kernel
theorem dX2_forgetOldest_16 : decode cX2_forgetOldest 16 = .ok (.getfield 40, 3) := by decide +kernel
theorem dX2_forgetOldest_19 : decode cX2_forgetOldest 19 = .ok (.invokestatic 43, 3) := by decide +kernel
theorem dX2_forgetOldest_22 : decode cX2_forgetOldest 22 = .ok (.aload_n 0, 1) := by decide +kernel
theorem dX2_forgetOldest_23 : decode cX2_forgetOldest 23 = .ok (.getfield 21, 3) := by decide +kernel
theorem dX2_forgetOldest_26 : decode cX2_forgetOldest 26 = .ok (.iconst 1, 1) := by decide +kernel
theorem dX2_forgetOldest_27 : decode cX2_forgetOldest 27 = .ok (.aload_n 0, 1) := by decide +kernel
theorem dX2_forgetOldest_28 : decode cX2_forgetOldest 28 = .ok (.getfield 21, 3) := by decide +kernel
theorem dX2_forgetOldest_31 : decode cX2_forgetOldest 31 = .ok (.iconst 0, 1) := by decide +kernel
theorem dX2_forgetOldest_32 : decode cX2_forgetOldest 32 = .ok (.aload_n 0, 1) := by decide +kernel
theorem dX2_forgetOldest_33 : decode cX2_forgetOldest 33 = .ok (.getfield 40, 3) := by decide +kernel
theorem dX2_forgetOldest_36 : decode cX2_forgetOldest 36 = .ok (.invokestatic 43, 3) := by decide +kernel
theorem dX2_forgetOldest_39 : decode cX2_forgetOldest 39 = .ok (.aload_n 0, 1) := by decide +kernel
theorem dX2_forgetOldest_40 : decode cX2_forgetOldest 40 = .ok (.getfield 24, 3) := by decide +kernel
theorem dX2_forgetOldest_43 : decode cX2_forgetOldest 43 = .ok (.iconst 1, 1) := by decide +kernel
theorem dX2_forgetOldest_44 : decode cX2_forgetOldest 44 = .ok (.aload_n 0, 1) := by decide +kernel
theorem dX2_forgetOldest_45 : decode cX2_forgetOldest 45 = .ok (.getfield 24, 3) := by decide +kernel
theorem dX2_forgetOldest_48 : decode cX2_forgetOldest 48 = .ok (.iconst 0, 1) := by decide +kernel
theorem dX2_forgetOldest_49 : decode cX2_forgetOldest 49 = .ok (.aload_n 0, 1) := by decide +kernel
theorem dX2_forgetOldest_50 : decode cX2_forgetOldest 50 = .ok (.getfield 40, 3) := by decide +kernel
theorem dX2_forgetOldest_53 : decode cX2_forgetOldest 53 = .ok (.invokestatic 43, 3) := by decide +kernel
theorem dX2_forgetOldest_56 : decode cX2_forgetOldest 56 = .ok (.aload_n 0, 1) := by decide +kernel
theorem dX2_forgetOldest_57 : decode cX2_forgetOldest 57 = .ok (.getfield 27, 3) := by decide +kernel
theorem dX2_forgetOldest_60 : decode cX2_forgetOldest 60 = .ok (.iconst 1, 1) := by decide +kernel
theorem dX2_forgetOldest_61 : decode cX2_forgetOldest 61 = .ok (.aload_n 0, 1) := by decide +kernel
theorem dX2_forgetOldest_62 : decode cX2_forgetOldest 62 = .ok (.getfield 27, 3) := by decide +kernel
theorem dX2_forgetOldest_65 : decode cX2_forgetOldest 65 = .ok (.iconst 0, 1) := by decide +kernel
theorem dX2_forgetOldest_66 : decode cX2_forgetOldest 66 = .ok (.aload_n 0, 1) := by decide +kernel
theorem dX2_forgetOldest_67 : decode cX2_forgetOldest 67 = .ok (.getfield 40, 3) := by decide +kernel
theorem dX2_forgetOldest_70 : decode cX2_forgetOldest 70 = .ok (.invokestatic 43, 3) := by decide +kernel
theorem dX2_forgetOldest_73 : decode cX2_forgetOldest 73 = .ok (.return_, 1) := by decide +kernel
set_option maxRecDepth 20000 in
theorem ggX2_splitLatest_X2_loseSameSecond : GoodIn wsX2_splitLatest wsX2_loseSameSecond := goodIn_r _ [12, 7, 5, 13, 14, 15, 16, 17, 18, 19, 20] (by decide +kernel) (by decide +kernel)
set_option maxRecDepth 20000 in
theorem gX2_splitLatest_X2_loseSameSecond : GoodIn wsX2_splitLatest (wsV RX2 49 RX2 yX2_loseSameSecond wsX2_loseSameSecond) := goodIn_app (goodIn_of _ (by decide +kernel)) ggX2_splitLatest_X2_loseSameSecond
theorem dX2_splitLatest_0 : decode cX2_splitLatest 0 = .ok (.aload_n 0, 1) := by decide +kernel
theorem dX2_splitLatest_1 : decode cX2_splitLatest 1 = .ok (.getfield 40, 3) := by decide +kernel
theorem dX2_splitLatest_4 : decode cX2_splitLatest 4 = .ok (.ifCond .le 12, 3) := by decide +kernel
theorem dX2_splitLatest_7 : decode cX2_splitLatest 7 = .ok (.aload_n 0, 1) := by decide +kernel
theorem dX2_splitLatest_8 : decode cX2_splitLatest 8 = .ok (.getfield 40, 3) := by decide +kernel
theorem dX2_splitLatest_11 : decode cX2_splitLatest 11 = .ok (.bipush 6, 2) := by decide +kernel
theorem dX2_splitLatest_13 : decode cX2_splitLatest 13 = .ok (.if_icmp .le 6, 3) := by decide +kernel
theorem dX2_splitLatest_16 : decode cX2_splitLatest 16 = .ok (.bipush (-5), 2) := by decide +kernel
theorem dX2_splitLatest_18 : decode cX2_splitLatest 18 = .ok (.ireturn, 1) := by decide +kernel
theorem dX2_splitLatest_19 : decode cX2_splitLatest 19 = .ok (.aload_n 0, 1) := by decide +kernel
theorem dX2_splitLatest_20 : decode cX2_splitLatest 20 = .ok (.dup, 1) := by decide +kernel
theorem dX2_splitLatest_21 : decode cX2_splitLatest 21 = .ok (.getfield 40, 3) := by decide +kernel
theorem dX2_splitLatest_24 : decode cX2_splitLatest 24 = .ok (.iconst 1, 1) := by decide +kernel
theorem dX2_splitLatest_25 : decode cX2_splitLatest 25 = .ok (.isub, 1) := by decide +kernel
theorem dX2_splitLatest_26 : decode cX2_splitLatest 26 = .ok (.putfield 40, 3) := by decide +kernel
theorem dX2_splitLatest_29 : decode cX2_splitLatest 29 = .ok (.aload_n 0, 1) := by decide +kernel
theorem dX2_splitLatest_30 : decode cX2_splitLatest 30 = .ok (.getfield 18, 3) := by decide +kernel
theorem dX2_splitLatest_33 : decode cX2_splitLatest 33 = .ok (.aload_n 0, 1) := by decide +kernel
theorem dX2_splitLatest_34 : decode cX2_splitLatest 34 = .ok (.getfield 40, 3) := by decide +kernel
theorem dX2_splitLatest_37 : decode cX2_splitLatest 37 = .ok (.iaload, 1) := by decide +kernel
theorem dX2_splitLatest_38 : decode cX2_splitLatest 38 = .ok (.istore_n 1, 1) := by decide +kernel
theorem dX2_splitLatest_39 : decode cX2_splitLatest 39 = .ok (.aload_n 0, 1) := by decide +kernel
theorem dX2_splitLatest_40 : decode cX2_splitLatest 40 = .ok (.getfield 21, 3) := by decide +kernel
theorem dX2_splitLatest_43 : decode cX2_splitLatest 43 = .ok (.aload_n 0, 1) := by decide +kernel
theorem dX2_splitLatest_44 : decode cX2_splitLatest 44 = .ok (.getfield 40, 3) := by decide +kernel
theorem dX2_splitLatest_47 : decode cX2_splitLatest 47 = .ok (.iaload, 1) := by decide +kernel
theorem dX2_splitLatest_48 : decode cX2_splitLatest 48 = .ok (.istore_n 2, 1) := by decide +kernel
theorem dX2_splitLatest_49 : decode cX2_splitLatest 49 = .ok (.iconst 0, 1) := by decide +kernel
theorem dX2_splitLatest_50 : decode cX2_splitLatest 50 = .ok (.istore_n 3, 1) := by decide +kernel
theorem dX2_splitLatest_51 : decode cX2_splitLatest 51 = .ok (.iload_n 3, 1) := by decide +kernel
theorem dX2_splitLatest_52 : decode cX2_splitLatest 52 = .ok (.bipush 26, 2) := by decide +kernel
theorem dX2_splitLatest_54 : decode cX2_splitLatest 54 = .ok (.if_icmp .ge 83, 3) := by decide +kernel
theorem dX2_splitLatest_57 : decode cX2_splitLatest 57 = .ok (.iconst 1, 1) := by decide +kernel
theorem dX2_splitLatest_58 : decode cX2_splitLatest 58 = .ok (.iload_n 3, 1) := by decide +kernel
theorem dX2_splitLatest_59 : decode cX2_splitLatest 59 = .ok (.ishl, 1) := by decide +kernel
theorem dX2_splitLatest_60 : decode cX2_splitLatest 60 = .ok (.istore 4, 2) := by decide +kernel
theorem dX2_splitLatest_62 : decode cX2_splitLatest 62 = .ok (.aload_n 0, 1) := by decide +kernel
theorem dX2_splitLatest_63 : decode cX2_splitLatest 63 = .ok (.getfield 24, 3) := by decide +kernel
theorem dX2_splitLatest_66 : decode cX2_splitLatest 66 = .ok (.aload_n 0, 1) := by decide +kernel
theorem dX2_splitLatest_67 : decode cX2_splitLatest 67 = .ok (.getfield 40, 3) := by decide +kernel
theorem dX2_splitLatest_70 : decode cX2_splitLatest 70 = .ok (.iaload, 1) := by decide +kernel
theorem dX2_splitLatest_71 : decode cX2_splitLatest 71 = .ok (.iload 4, 2) := by decide +kernel
theorem dX2_splitLatest_73 : decode cX2_splitLatest 73 = .ok (.iand, 1) := by decide +kernel
theorem dX2_splitLatest_74 : decode cX2_splitLatest 74 = .ok (.ifCond .eq 20, 3) := by decide +kernel
theorem dX2_splitLatest_77 : decode cX2_splitLatest 77 = .ok (.aload_n 0, 1) := by decide +kernel
theorem dX2_splitLatest_78 : decode cX2_splitLatest 78 = .ok (.getfield 9, 3) := by decide +kernel
theorem dX2_splitLatest_81 : decode cX2_splitLatest 81 = .ok (.iload_n 3, 1) := by decide +kernel
theorem dX2_splitLatest_82 : decode cX2_splitLatest 82 = .ok (.iaload, 1) := by decide +kernel
theorem dX2_splitLatest_83 : decode cX2_splitLatest 83 = .ok (.iload_n 1, 1) := by decide +kernel
theorem dX2_splitLatest_84 : decode cX2_splitLatest 84 = .ok (.if_icmp .ne 10, 3) := by decide +kernel
theorem dX2_splitLatest_87 : decode cX2_splitLatest 87 = .ok (.aload_n 0, 1) := by decide +kernel
theorem dX2_splitLatest_88 : decode cX2_splitLatest 88 = .ok (.getfield 9, 3) := by decide +kernel
theorem dX2_splitLatest_91 : decode cX2_splitLatest 91 = .ok (.iload_n 3, 1) := by decide +kernel
theorem dX2_splitLatest_92 : decode cX2_splitLatest 92 = .ok (.iload_n 2, 1) := by decide +kernel
theorem dX2_splitLatest_93 : decode cX2_splitLatest 93 = .ok (.iastore, 1) := by decide +kernel
theorem dX2_splitLatest_94 : decode cX2_splitLatest 94 = .ok (.aload_n 0, 1) := by decide +kernel
theorem dX2_splitLatest_95 : decode cX2_splitLatest 95 = .ok (.getfield 27, 3) := by decide +kernel
theorem dX2_splitLatest_98 : decode cX2_splitLatest 98 = .ok (.aload_n 0, 1) := by decide +kernel
theorem dX2_splitLatest_99 : decode cX2_splitLatest 99 = .ok (.getfield 40, 3) := by decide +kernel
theorem dX2_splitLatest_102 : decode cX2_splitLatest 102 = .ok (.iaload, 1) := by decide +kernel
theorem dX2_splitLatest_103 : decode cX2_splitLatest 103 = .ok (.iload 4, 2) := by decide +kernel
theorem dX2_splitLatest_105 : decode cX2_splitLatest 105 = .ok (.iand, 1) := by decide +kernel
theorem dX2_splitLatest_106 : decode cX2_splitLatest 106 = .ok (.ifCond .eq 20, 3) := by decide +kernel
theorem dX2_splitLatest_109 : decode cX2_splitLatest 109 = .ok (.aload_n 0, 1) := by decide +kernel
theorem dX2_splitLatest_110 : decode cX2_splitLatest 110 = .ok (.getfield 15, 3) := by decide +kernel
theorem dX2_splitLatest_113 : decode cX2_splitLatest 113 = .ok (.iload_n 3, 1) := by decide +kernel
theorem dX2_splitLatest_114 : decode cX2_splitLatest 114 = .ok (.iaload, 1) := by decide +kernel
theorem dX2_splitLatest_115 : decode cX2_splitLatest 115 = .ok (.iload_n 1, 1) := by decide +kernel
theorem dX2_splitLatest_116 : decode cX2_splitLatest 116 = .ok (.if_icmp .ne 10, 3) := by decide +kernel
theorem dX2_splitLatest_119 : decode cX2_splitLatest 119 = .ok (.aload_n 0, 1) := by decide +kernel
theorem dX2_splitLatest_120 : decode cX2_splitLatest 120 = .ok (.getfield 15, 3) := by decide +kernel
theorem dX2_splitLatest_123 : decode cX2_splitLatest 123 = .ok (.iload_n 3, 1) := by decide +kernel
theorem dX2_splitLatest_124 : decode cX2_splitLatest 124 = .ok (.iload_n 2, 1) := by decide +kernel
theorem dX2_splitLatest_125 : decode cX2_splitLatest 125 = .ok (.iastore, 1) := by decide +kernel
theorem dX2_splitLatest_126 : decode cX2_splitLatest 126 = .ok (.aload_n 0, 1) := by decide +kernel
theorem dX2_splitLatest_127 : decode cX2_splitLatest 127 = .ok (.iload_n 3, 1) := by decide +kernel
theorem dX2_splitLatest_128 : decode cX2_splitLatest 128 = .ok (.invokevirtual 49, 3) := by decide +kernel
theorem dX2_splitLatest_131 : decode cX2_splitLatest 131 = .ok (.iinc 3 1, 3) := by decide +kernel
theorem dX2_splitLatest_134 : decode cX2_splitLatest 134 = .ok (.goto (-83), 3) := by decide +kernel
theorem dX2_splitLatest_137 : decode cX2_splitLatest 137 = .ok (.iload_n 2, 1) := by decide +kernel
theorem dX2_splitLatest_138 : decode cX2_splitLatest 138 = .ok (.ireturn, 1) := by decide +kernel
set_option maxRecDepth 20000 in
theorem ggX2_writeCodes_X2_waysToHear : GoodIn wsX2_writeCodes wsX2_waysToHear := goodIn_r _ [5, 6, 7, 8, 9, 10, 11, 12, 13, 14, 15, 16, 17, 4, 18, 19, 29, 30, 31, 32, 33, 34, 35, 36] (by decide +kernel) (by decide +kernel)
set_option maxRecDepth 20000 in
theorem gX2_writeCodes_X2_waysToHear : GoodIn wsX2_writeCodes (wsV RX2 60 RX2 yX2_waysToHear wsX2_waysToHear) := goodIn_app (goodIn_of _ (by decide +kernel)) ggX2_writeCodes_X2_waysToHear
set_option maxRecDepth 20000 in
theorem ggX2_writeCodes_X2_codeByWay : GoodIn wsX2_writeCodes wsX2_codeByWay := goodIn_r _ [23, 6, 24, 7, 8, 9, 10, 11, 12, 13, 14, 15, 16, 17, 4, 18, 19, 25, 26, 27, 28, 29, 30, 31, 32, 33, 34, 35, 36] (by decide +kernel) (by decide +kernel)
set_option maxRecDepth 20000 in
theorem gX2_writeCodes_X2_codeByWay : GoodIn wsX2_writeCodes (wsV RX2 64 RX2 yX2_codeByWay wsX2_codeByWay) := goodIn_app (goodIn_of _ (by decide +kernel)) ggX2_writeCodes_X2_codeByWay
theorem dX2_writeCodes_0 : decode cX2_writeCodes 0 = .ok (.aload_n 0, 1) := by decide +kernel
theorem dX2_writeCodes_1 : decode cX2_writeCodes 1 = .ok (.lload_n 1, 1) := by decide +kernel
theorem dX2_writeCodes_2 : decode cX2_writeCodes 2 = .ok (.invokevirtual 60, 3) := by decide +kernel
theorem dX2_writeCodes_5 : decode cX2_writeCodes 5 = .ok (.istore 5, 2) := by decide +kernel
theorem dX2_writeCodes_7 : decode cX2_writeCodes 7 = .ok (.iconst 0, 1) := by decide +kernel
theorem dX2_writeCodes_8 : decode cX2_writeCodes 8 = .ok (.istore 6, 2) := by decide +kernel
theorem dX2_writeCodes_10 : decode cX2_writeCodes 10 = .ok (.iconst 0, 1) := by decide +kernel
theorem dX2_writeCodes_11 : decode cX2_writeCodes 11 = .ok (.istore 7, 2) := by decide +kernel
theorem dX2_writeCodes_13 : decode cX2_writeCodes 13 = .ok (.iload 7, 2) := by decide +kernel
theorem dX2_writeCodes_15 : decode cX2_writeCodes 15 = .ok (.iload 5, 2) := by decide +kernel
theorem dX2_writeCodes_17 : decode cX2_writeCodes 17 = .ok (.if_icmp .ge 82, 3) := by decide +kernel
theorem dX2_writeCodes_20 : decode cX2_writeCodes 20 = .ok (.aload_n 0, 1) := by decide +kernel
theorem dX2_writeCodes_21 : decode cX2_writeCodes 21 = .ok (.lload_n 1, 1) := by decide +kernel
theorem dX2_writeCodes_22 : decode cX2_writeCodes 22 = .ok (.iload_n 3, 1) := by decide +kernel
theorem dX2_writeCodes_23 : decode cX2_writeCodes 23 = .ok (.iload 7, 2) := by decide +kernel
theorem dX2_writeCodes_25 : decode cX2_writeCodes 25 = .ok (.invokevirtual 64, 3) := by decide +kernel
theorem dX2_writeCodes_28 : decode cX2_writeCodes 28 = .ok (.istore 8, 2) := by decide +kernel
theorem dX2_writeCodes_30 : decode cX2_writeCodes 30 = .ok (.iconst 1, 1) := by decide +kernel
theorem dX2_writeCodes_31 : decode cX2_writeCodes 31 = .ok (.istore 9, 2) := by decide +kernel
theorem dX2_writeCodes_33 : decode cX2_writeCodes 33 = .ok (.iconst 0, 1) := by decide +kernel
theorem dX2_writeCodes_34 : decode cX2_writeCodes 34 = .ok (.istore 10, 2) := by decide +kernel
theorem dX2_writeCodes_36 : decode cX2_writeCodes 36 = .ok (.iload 10, 2) := by decide +kernel
theorem dX2_writeCodes_38 : decode cX2_writeCodes 38 = .ok (.iload 6, 2) := by decide +kernel
theorem dX2_writeCodes_40 : decode cX2_writeCodes 40 = .ok (.if_icmp .ge 30, 3) := by decide +kernel
theorem dX2_writeCodes_43 : decode cX2_writeCodes 43 = .ok (.iload 10, 2) := by decide +kernel
theorem dX2_writeCodes_45 : decode cX2_writeCodes 45 = .ok (.aload 4, 2) := by decide +kernel
theorem dX2_writeCodes_47 : decode cX2_writeCodes 47 = .ok (.arraylength, 1) := by decide +kernel
theorem dX2_writeCodes_48 : decode cX2_writeCodes 48 = .ok (.if_icmp .ge 22, 3) := by decide +kernel
theorem dX2_writeCodes_51 : decode cX2_writeCodes 51 = .ok (.aload 4, 2) := by decide +kernel
theorem dX2_writeCodes_53 : decode cX2_writeCodes 53 = .ok (.iload 10, 2) := by decide +kernel
theorem dX2_writeCodes_55 : decode cX2_writeCodes 55 = .ok (.iaload, 1) := by decide +kernel
theorem dX2_writeCodes_56 : decode cX2_writeCodes 56 = .ok (.iload 8, 2) := by decide +kernel
theorem dX2_writeCodes_58 : decode cX2_writeCodes 58 = .ok (.if_icmp .ne 6, 3) := by decide +kernel
theorem dX2_writeCodes_61 : decode cX2_writeCodes 61 = .ok (.iconst 0, 1) := by decide +kernel
theorem dX2_writeCodes_62 : decode cX2_writeCodes 62 = .ok (.istore 9, 2) := by decide +kernel
theorem dX2_writeCodes_64 : decode cX2_writeCodes 64 = .ok (.iinc 10 1, 3) := by decide +kernel
theorem dX2_writeCodes_67 : decode cX2_writeCodes 67 = .ok (.goto (-31), 3) := by decide +kernel
theorem dX2_writeCodes_70 : decode cX2_writeCodes 70 = .ok (.iload 9, 2) := by decide +kernel
theorem dX2_writeCodes_72 : decode cX2_writeCodes 72 = .ok (.ifCond .eq 21, 3) := by decide +kernel
theorem dX2_writeCodes_75 : decode cX2_writeCodes 75 = .ok (.iload 6, 2) := by decide +kernel
theorem dX2_writeCodes_77 : decode cX2_writeCodes 77 = .ok (.aload 4, 2) := by decide +kernel
theorem dX2_writeCodes_79 : decode cX2_writeCodes 79 = .ok (.arraylength, 1) := by decide +kernel
theorem dX2_writeCodes_80 : decode cX2_writeCodes 80 = .ok (.if_icmp .ge 13, 3) := by decide +kernel
theorem dX2_writeCodes_83 : decode cX2_writeCodes 83 = .ok (.aload 4, 2) := by decide +kernel
theorem dX2_writeCodes_85 : decode cX2_writeCodes 85 = .ok (.iload 6, 2) := by decide +kernel
theorem dX2_writeCodes_87 : decode cX2_writeCodes 87 = .ok (.iload 8, 2) := by decide +kernel
theorem dX2_writeCodes_89 : decode cX2_writeCodes 89 = .ok (.iastore, 1) := by decide +kernel
theorem dX2_writeCodes_90 : decode cX2_writeCodes 90 = .ok (.iinc 6 1, 3) := by decide +kernel
theorem dX2_writeCodes_93 : decode cX2_writeCodes 93 = .ok (.iinc 7 1, 3) := by decide +kernel
theorem dX2_writeCodes_96 : decode cX2_writeCodes 96 = .ok (.goto (-83), 3) := by decide +kernel
theorem dX2_writeCodes_99 : decode cX2_writeCodes 99 = .ok (.iload 6, 2) := by decide +kernel
theorem dX2_writeCodes_101 : decode cX2_writeCodes 101 = .ok (.ireturn, 1) := by decide +kernel
set_option maxRecDepth 20000 in
theorem ggX2_waysToHear_X6_letterAt : GoodIn wsX2_waysToHear wsX6_letterAt := goodIn_r _ [5, 6] (by decide +kernel) (by decide +kernel)
set_option maxRecDepth 20000 in
theorem gX2_waysToHear_X6_letterAt : GoodIn wsX2_waysToHear (va_wsS RX2 68 yX6_letterAt wsX6_letterAt) := goodIn_app (goodIn_of _ (by decide +kernel)) ggX2_waysToHear_X6_letterAt
set_option maxRecDepth 20000 in
theorem ggX2_waysToHear_X6_isLetter : GoodIn wsX2_waysToHear wsX6_isLetter := goodIn_r _ [9] (by decide +kernel) (by decide +kernel)
set_option maxRecDepth 20000 in
theorem gX2_waysToHear_X6_isLetter : GoodIn wsX2_waysToHear (va_wsS RX2 74 yX6_isLetter wsX6_isLetter) := goodIn_app (goodIn_of _ (by decide +kernel)) ggX2_waysToHear_X6_isLetter
set_option maxRecDepth 20000 in
theorem ggX2_waysToHear_X2_byHabit : GoodIn wsX2_waysToHear wsX2_byHabit := goodIn_r _ [14, 15, 2, 3, 4, 5, 6, 16, 17, 18, 19, 20, 21, 22, 23] (by decide +kernel) (by decide +kernel)
set_option maxRecDepth 20000 in
theorem gX2_waysToHear_X2_byHabit : GoodIn wsX2_waysToHear (wsV RX2 78 RX2 yX2_byHabit wsX2_byHabit) := goodIn_app (goodIn_of _ (by decide +kernel)) ggX2_waysToHear_X2_byHabit
theorem dX2_waysToHear_0 : decode cX2_waysToHear 0 = .ok (.iconst 1, 1) := by decide +kernel
theorem dX2_waysToHear_1 : decode cX2_waysToHear 1 = .ok (.istore_n 3, 1) := by decide +kernel
theorem dX2_waysToHear_2 : decode cX2_waysToHear 2 = .ok (.iconst 0, 1) := by decide +kernel
theorem dX2_waysToHear_3 : decode cX2_waysToHear 3 = .ok (.istore 4, 2) := by decide +kernel
theorem dX2_waysToHear_5 : decode cX2_waysToHear 5 = .ok (.iload 4, 2) := by decide +kernel
theorem dX2_waysToHear_7 : decode cX2_waysToHear 7 = .ok (.bipush 10, 2) := by decide +kernel
theorem dX2_waysToHear_9 : decode cX2_waysToHear 9 = .ok (.if_icmp .ge 60, 3) := by decide +kernel
theorem dX2_waysToHear_12 : decode cX2_waysToHear 12 = .ok (.iload_n 3, 1) := by decide +kernel
theorem dX2_waysToHear_13 : decode cX2_waysToHear 13 = .ok (.iconst 4, 1) := by decide +kernel
theorem dX2_waysToHear_14 : decode cX2_waysToHear 14 = .ok (.if_icmp .ge 55, 3) := by decide +kernel
theorem dX2_waysToHear_17 : decode cX2_waysToHear 17 = .ok (.lload_n 1, 1) := by decide +kernel
theorem dX2_waysToHear_18 : decode cX2_waysToHear 18 = .ok (.iload 4, 2) := by decide +kernel
theorem dX2_waysToHear_20 : decode cX2_waysToHear 20 = .ok (.invokestatic 68, 3) := by decide +kernel
theorem dX2_waysToHear_23 : decode cX2_waysToHear 23 = .ok (.istore 5, 2) := by decide +kernel
theorem dX2_waysToHear_25 : decode cX2_waysToHear 25 = .ok (.iload 5, 2) := by decide +kernel
theorem dX2_waysToHear_27 : decode cX2_waysToHear 27 = .ok (.invokestatic 74, 3) := by decide +kernel
theorem dX2_waysToHear_30 : decode cX2_waysToHear 30 = .ok (.ifCond .ne 6, 3) := by decide +kernel
theorem dX2_waysToHear_33 : decode cX2_waysToHear 33 = .ok (.goto 36, 3) := by decide +kernel
theorem dX2_waysToHear_36 : decode cX2_waysToHear 36 = .ok (.aload_n 0, 1) := by decide +kernel
theorem dX2_waysToHear_37 : decode cX2_waysToHear 37 = .ok (.getfield 15, 3) := by decide +kernel
theorem dX2_waysToHear_40 : decode cX2_waysToHear 40 = .ok (.iload 5, 2) := by decide +kernel
theorem dX2_waysToHear_42 : decode cX2_waysToHear 42 = .ok (.iaload, 1) := by decide +kernel
theorem dX2_waysToHear_43 : decode cX2_waysToHear 43 = .ok (.bipush (-6), 2) := by decide +kernel
theorem dX2_waysToHear_45 : decode cX2_waysToHear 45 = .ok (.if_icmp .eq 18, 3) := by decide +kernel
theorem dX2_waysToHear_48 : decode cX2_waysToHear 48 = .ok (.aload_n 0, 1) := by decide +kernel
theorem dX2_waysToHear_49 : decode cX2_waysToHear 49 = .ok (.lload_n 1, 1) := by decide +kernel
theorem dX2_waysToHear_50 : decode cX2_waysToHear 50 = .ok (.iload 4, 2) := by decide +kernel
theorem dX2_waysToHear_52 : decode cX2_waysToHear 52 = .ok (.invokevirtual 78, 3) := by decide +kernel
theorem dX2_waysToHear_55 : decode cX2_waysToHear 55 = .ok (.iconst (-1), 1) := by decide +kernel
theorem dX2_waysToHear_56 : decode cX2_waysToHear 56 = .ok (.if_icmp .ne 7, 3) := by decide +kernel
theorem dX2_waysToHear_59 : decode cX2_waysToHear 59 = .ok (.iload_n 3, 1) := by decide +kernel
theorem dX2_waysToHear_60 : decode cX2_waysToHear 60 = .ok (.iconst 2, 1) := by decide +kernel
theorem dX2_waysToHear_61 : decode cX2_waysToHear 61 = .ok (.imul, 1) := by decide +kernel
theorem dX2_waysToHear_62 : decode cX2_waysToHear 62 = .ok (.istore_n 3, 1) := by decide +kernel
theorem dX2_waysToHear_63 : decode cX2_waysToHear 63 = .ok (.iinc 4 1, 3) := by decide +kernel
theorem dX2_waysToHear_66 : decode cX2_waysToHear 66 = .ok (.goto (-61), 3) := by decide +kernel
theorem dX2_waysToHear_69 : decode cX2_waysToHear 69 = .ok (.iload_n 3, 1) := by decide +kernel
theorem dX2_waysToHear_70 : decode cX2_waysToHear 70 = .ok (.ireturn, 1) := by decide +kernel
set_option maxRecDepth 20000 in
theorem ggX2_codeByWay_X6_letterAt : GoodIn wsX2_codeByWay wsX6_letterAt := goodIn_r _ [6, 7] (by decide +kernel) (by decide +kernel)
set_option maxRecDepth 20000 in
theorem gX2_codeByWay_X6_letterAt : GoodIn wsX2_codeByWay (va_wsS RX2 68 yX6_letterAt wsX6_letterAt) := goodIn_app (goodIn_of _ (by decide +kernel)) ggX2_codeByWay_X6_letterAt
set_option maxRecDepth 20000 in
theorem ggX2_codeByWay_X6_isLetter : GoodIn wsX2_codeByWay wsX6_isLetter := goodIn_r _ [10] (by decide +kernel) (by decide +kernel)
set_option maxRecDepth 20000 in
theorem gX2_codeByWay_X6_isLetter : GoodIn wsX2_codeByWay (va_wsS RX2 74 yX6_isLetter wsX6_isLetter) := goodIn_app (goodIn_of _ (by decide +kernel)) ggX2_codeByWay_X6_isLetter
set_option maxRecDepth 20000 in
theorem ggX2_codeByWay_X2_byHabit : GoodIn wsX2_codeByWay wsX2_byHabit := goodIn_r _ [15, 16, 3, 4, 5, 6, 7, 21, 22, 23, 24, 25, 26, 27, 28] (by decide +kernel) (by decide +kernel)
set_option maxRecDepth 20000 in
theorem gX2_codeByWay_X2_byHabit : GoodIn wsX2_codeByWay (wsV RX2 78 RX2 yX2_byHabit wsX2_byHabit) := goodIn_app (goodIn_of _ (by decide +kernel)) ggX2_codeByWay_X2_byHabit
set_option maxRecDepth 20000 in
theorem ggX2_codeByWay_X0_with : GoodIn wsX2_codeByWay wsX0_with := goodIn_r _ [20] (by decide +kernel) (by decide +kernel)
set_option maxRecDepth 20000 in
theorem gX2_codeByWay_X0_with : GoodIn wsX2_codeByWay (va_wsS RX2 81 yX0_with wsX0_with) := goodIn_app (goodIn_of _ (by decide +kernel)) ggX2_codeByWay_X0_with
theorem dX2_codeByWay_0 : decode cX2_codeByWay 0 = .ok (.iconst 0, 1) := by decide +kernel
theorem dX2_codeByWay_1 : decode cX2_codeByWay 1 = .ok (.istore 5, 2) := by decide +kernel
theorem dX2_codeByWay_3 : decode cX2_codeByWay 3 = .ok (.iconst 0, 1) := by decide +kernel
theorem dX2_codeByWay_4 : decode cX2_codeByWay 4 = .ok (.istore 6, 2) := by decide +kernel
theorem dX2_codeByWay_6 : decode cX2_codeByWay 6 = .ok (.iconst 0, 1) := by decide +kernel
theorem dX2_codeByWay_7 : decode cX2_codeByWay 7 = .ok (.istore 7, 2) := by decide +kernel
theorem dX2_codeByWay_9 : decode cX2_codeByWay 9 = .ok (.iload 4, 2) := by decide +kernel
theorem dX2_codeByWay_11 : decode cX2_codeByWay 11 = .ok (.istore 8, 2) := by decide +kernel
theorem dX2_codeByWay_13 : decode cX2_codeByWay 13 = .ok (.iconst 0, 1) := by decide +kernel
theorem dX2_codeByWay_14 : decode cX2_codeByWay 14 = .ok (.istore 9, 2) := by decide +kernel
theorem dX2_codeByWay_16 : decode cX2_codeByWay 16 = .ok (.iload 9, 2) := by decide +kernel
theorem dX2_codeByWay_18 : decode cX2_codeByWay 18 = .ok (.bipush 10, 2) := by decide +kernel
theorem dX2_codeByWay_20 : decode cX2_codeByWay 20 = .ok (.if_icmp .ge 138, 3) := by decide +kernel
theorem dX2_codeByWay_23 : decode cX2_codeByWay 23 = .ok (.iload 6, 2) := by decide +kernel
theorem dX2_codeByWay_25 : decode cX2_codeByWay 25 = .ok (.iload_n 3, 1) := by decide +kernel
theorem dX2_codeByWay_26 : decode cX2_codeByWay 26 = .ok (.if_icmp .ge 132, 3) := by decide +kernel
theorem dX2_codeByWay_29 : decode cX2_codeByWay 29 = .ok (.lload_n 1, 1) := by decide +kernel
theorem dX2_codeByWay_30 : decode cX2_codeByWay 30 = .ok (.iload 9, 2) := by decide +kernel
theorem dX2_codeByWay_32 : decode cX2_codeByWay 32 = .ok (.invokestatic 68, 3) := by decide +kernel
theorem dX2_codeByWay_35 : decode cX2_codeByWay 35 = .ok (.istore 10, 2) := by decide +kernel
theorem dX2_codeByWay_37 : decode cX2_codeByWay 37 = .ok (.iload 10, 2) := by decide +kernel
theorem dX2_codeByWay_39 : decode cX2_codeByWay 39 = .ok (.invokestatic 74, 3) := by decide +kernel
theorem dX2_codeByWay_42 : decode cX2_codeByWay 42 = .ok (.ifCond .ne 6, 3) := by decide +kernel
theorem dX2_codeByWay_45 : decode cX2_codeByWay 45 = .ok (.goto 113, 3) := by decide +kernel
theorem dX2_codeByWay_48 : decode cX2_codeByWay 48 = .ok (.aload_n 0, 1) := by decide +kernel
theorem dX2_codeByWay_49 : decode cX2_codeByWay 49 = .ok (.lload_n 1, 1) := by decide +kernel
theorem dX2_codeByWay_50 : decode cX2_codeByWay 50 = .ok (.iload 9, 2) := by decide +kernel
theorem dX2_codeByWay_52 : decode cX2_codeByWay 52 = .ok (.invokevirtual 78, 3) := by decide +kernel
theorem dX2_codeByWay_55 : decode cX2_codeByWay 55 = .ok (.istore 11, 2) := by decide +kernel
theorem dX2_codeByWay_57 : decode cX2_codeByWay 57 = .ok (.iload 11, 2) := by decide +kernel
theorem dX2_codeByWay_59 : decode cX2_codeByWay 59 = .ok (.iconst (-1), 1) := by decide +kernel
theorem dX2_codeByWay_60 : decode cX2_codeByWay 60 = .ok (.if_icmp .ne 64, 3) := by decide +kernel
theorem dX2_codeByWay_63 : decode cX2_codeByWay 63 = .ok (.aload_n 0, 1) := by decide +kernel
theorem dX2_codeByWay_64 : decode cX2_codeByWay 64 = .ok (.getfield 15, 3) := by decide +kernel
theorem dX2_codeByWay_67 : decode cX2_codeByWay 67 = .ok (.iload 10, 2) := by decide +kernel
theorem dX2_codeByWay_69 : decode cX2_codeByWay 69 = .ok (.iaload, 1) := by decide +kernel
theorem dX2_codeByWay_70 : decode cX2_codeByWay 70 = .ok (.bipush (-6), 2) := by decide +kernel
theorem dX2_codeByWay_72 : decode cX2_codeByWay 72 = .ok (.if_icmp .eq 7, 3) := by decide +kernel
theorem dX2_codeByWay_75 : decode cX2_codeByWay 75 = .ok (.iconst 1, 1) := by decide +kernel
theorem dX2_codeByWay_76 : decode cX2_codeByWay 76 = .ok (.goto 4, 3) := by decide +kernel
theorem dX2_codeByWay_79 : decode cX2_codeByWay 79 = .ok (.iconst 0, 1) := by decide +kernel
theorem dX2_codeByWay_80 : decode cX2_codeByWay 80 = .ok (.istore 12, 2) := by decide +kernel
theorem dX2_codeByWay_82 : decode cX2_codeByWay 82 = .ok (.iload 12, 2) := by decide +kernel
theorem dX2_codeByWay_84 : decode cX2_codeByWay 84 = .ok (.ifCond .eq 20, 3) := by decide +kernel
theorem dX2_codeByWay_87 : decode cX2_codeByWay 87 = .ok (.iload 8, 2) := by decide +kernel
theorem dX2_codeByWay_89 : decode cX2_codeByWay 89 = .ok (.iconst 1, 1) := by decide +kernel
theorem dX2_codeByWay_90 : decode cX2_codeByWay 90 = .ok (.iand, 1) := by decide +kernel
theorem dX2_codeByWay_91 : decode cX2_codeByWay 91 = .ok (.ifCond .eq 13, 3) := by decide +kernel
theorem dX2_codeByWay_94 : decode cX2_codeByWay 94 = .ok (.aload_n 0, 1) := by decide +kernel
theorem dX2_codeByWay_95 : decode cX2_codeByWay 95 = .ok (.getfield 15, 3) := by decide +kernel
theorem dX2_codeByWay_98 : decode cX2_codeByWay 98 = .ok (.iload 10, 2) := by decide +kernel
theorem dX2_codeByWay_100 : decode cX2_codeByWay 100 = .ok (.iaload, 1) := by decide +kernel
theorem dX2_codeByWay_101 : decode cX2_codeByWay 101 = .ok (.goto 10, 3) := by decide +kernel
theorem dX2_codeByWay_104 : decode cX2_codeByWay 104 = .ok (.aload_n 0, 1) := by decide +kernel
theorem dX2_codeByWay_105 : decode cX2_codeByWay 105 = .ok (.getfield 9, 3) := by decide +kernel
theorem dX2_codeByWay_108 : decode cX2_codeByWay 108 = .ok (.iload 10, 2) := by decide +kernel
theorem dX2_codeByWay_110 : decode cX2_codeByWay 110 = .ok (.iaload, 1) := by decide +kernel
theorem dX2_codeByWay_111 : decode cX2_codeByWay 111 = .ok (.istore 11, 2) := by decide +kernel
theorem dX2_codeByWay_113 : decode cX2_codeByWay 113 = .ok (.iload 12, 2) := by decide +kernel
theorem dX2_codeByWay_115 : decode cX2_codeByWay 115 = .ok (.ifCond .eq 9, 3) := by decide +kernel
theorem dX2_codeByWay_118 : decode cX2_codeByWay 118 = .ok (.iload 8, 2) := by decide +kernel
theorem dX2_codeByWay_120 : decode cX2_codeByWay 120 = .ok (.iconst 1, 1) := by decide +kernel
theorem dX2_codeByWay_121 : decode cX2_codeByWay 121 = .ok (.iushr, 1) := by decide +kernel
theorem dX2_codeByWay_122 : decode cX2_codeByWay 122 = .ok (.istore 8, 2) := by decide +kernel
theorem dX2_codeByWay_124 : decode cX2_codeByWay 124 = .ok (.iload 11, 2) := by decide +kernel
theorem dX2_codeByWay_126 : decode cX2_codeByWay 126 = .ok (.ifCond .eq 22, 3) := by decide +kernel
theorem dX2_codeByWay_129 : decode cX2_codeByWay 129 = .ok (.iload 11, 2) := by decide +kernel
theorem dX2_codeByWay_131 : decode cX2_codeByWay 131 = .ok (.iload 7, 2) := by decide +kernel
theorem dX2_codeByWay_133 : decode cX2_codeByWay 133 = .ok (.if_icmp .eq 15, 3) := by decide +kernel
theorem dX2_codeByWay_136 : decode cX2_codeByWay 136 = .ok (.iload 5, 2) := by decide +kernel
theorem dX2_codeByWay_138 : decode cX2_codeByWay 138 = .ok (.iload 11, 2) := by decide +kernel
theorem dX2_codeByWay_140 : decode cX2_codeByWay 140 = .ok (.invokestatic 81, 3) := by decide +kernel
theorem dX2_codeByWay_143 : decode cX2_codeByWay 143 = .ok (.istore 5, 2) := by decide +kernel
theorem dX2_codeByWay_145 : decode cX2_codeByWay 145 = .ok (.iinc 6 1, 3) := by decide +kernel
theorem dX2_codeByWay_148 : decode cX2_codeByWay 148 = .ok (.iload 11, 2) := by decide +kernel
theorem dX2_codeByWay_150 : decode cX2_codeByWay 150 = .ok (.istore 7, 2) := by decide +kernel
theorem dX2_codeByWay_152 : decode cX2_codeByWay 152 = .ok (.iinc 9 1, 3) := by decide +kernel
theorem dX2_codeByWay_155 : decode cX2_codeByWay 155 = .ok (.goto (-139), 3) := by decide +kernel
theorem dX2_codeByWay_158 : decode cX2_codeByWay 158 = .ok (.iload 5, 2) := by decide +kernel
theorem dX2_codeByWay_160 : decode cX2_codeByWay 160 = .ok (.ireturn, 1) := by decide +kernel
set_option maxRecDepth 20000 in
theorem ggX2_byHabit_X6_letterAt : GoodIn wsX2_byHabit wsX6_letterAt := goodIn_r _ [5, 6] (by decide +kernel) (by decide +kernel)
set_option maxRecDepth 20000 in
theorem gX2_byHabit_X6_letterAt : GoodIn wsX2_byHabit (va_wsS RX2 68 yX6_letterAt wsX6_letterAt) := goodIn_app (goodIn_of _ (by decide +kernel)) ggX2_byHabit_X6_letterAt
theorem dX2_byHabit_0 : decode cX2_byHabit 0 = .ok (.aload_n 0, 1) := by decide +kernel
theorem dX2_byHabit_1 : decode cX2_byHabit 1 = .ok (.getfield 36, 3) := by decide +kernel
theorem dX2_byHabit_4 : decode cX2_byHabit 4 = .ok (.ifCond .ne 5, 3) := by decide +kernel
theorem dX2_byHabit_7 : decode cX2_byHabit 7 = .ok (.iconst (-1), 1) := by decide +kernel
theorem dX2_byHabit_8 : decode cX2_byHabit 8 = .ok (.ireturn, 1) := by decide +kernel
theorem dX2_byHabit_9 : decode cX2_byHabit 9 = .ok (.lload_n 1, 1) := by decide +kernel
theorem dX2_byHabit_10 : decode cX2_byHabit 10 = .ok (.iload_n 3, 1) := by decide +kernel
theorem dX2_byHabit_11 : decode cX2_byHabit 11 = .ok (.invokestatic 68, 3) := by decide +kernel
theorem dX2_byHabit_14 : decode cX2_byHabit 14 = .ok (.istore 4, 2) := by decide +kernel
theorem dX2_byHabit_16 : decode cX2_byHabit 16 = .ok (.iload_n 3, 1) := by decide +kernel
theorem dX2_byHabit_17 : decode cX2_byHabit 17 = .ok (.ifCond .ne 22, 3) := by decide +kernel
theorem dX2_byHabit_20 : decode cX2_byHabit 20 = .ok (.aload_n 0, 1) := by decide +kernel
theorem dX2_byHabit_21 : decode cX2_byHabit 21 = .ok (.getfield 36, 3) := by decide +kernel
theorem dX2_byHabit_24 : decode cX2_byHabit 24 = .ok (.iconst 4, 1) := by decide +kernel
theorem dX2_byHabit_25 : decode cX2_byHabit 25 = .ok (.iand, 1) := by decide +kernel
theorem dX2_byHabit_26 : decode cX2_byHabit 26 = .ok (.ifCond .eq 11, 3) := by decide +kernel
theorem dX2_byHabit_29 : decode cX2_byHabit 29 = .ok (.bipush 10, 2) := by decide +kernel
theorem dX2_byHabit_31 : decode cX2_byHabit 31 = .ok (.iload 4, 2) := by decide +kernel
theorem dX2_byHabit_33 : decode cX2_byHabit 33 = .ok (.iadd, 1) := by decide +kernel
theorem dX2_byHabit_34 : decode cX2_byHabit 34 = .ok (.goto 4, 3) := by decide +kernel
theorem dX2_byHabit_37 : decode cX2_byHabit 37 = .ok (.iconst (-1), 1) := by decide +kernel
theorem dX2_byHabit_38 : decode cX2_byHabit 38 = .ok (.ireturn, 1) := by decide +kernel
theorem dX2_byHabit_39 : decode cX2_byHabit 39 = .ok (.iload 4, 2) := by decide +kernel
theorem dX2_byHabit_41 : decode cX2_byHabit 41 = .ok (.bipush 7, 2) := by decide +kernel
theorem dX2_byHabit_43 : decode cX2_byHabit 43 = .ok (.if_icmp .ne 50, 3) := by decide +kernel
theorem dX2_byHabit_46 : decode cX2_byHabit 46 = .ok (.aload_n 0, 1) := by decide +kernel
theorem dX2_byHabit_47 : decode cX2_byHabit 47 = .ok (.getfield 36, 3) := by decide +kernel
theorem dX2_byHabit_50 : decode cX2_byHabit 50 = .ok (.iconst 1, 1) := by decide +kernel
theorem dX2_byHabit_51 : decode cX2_byHabit 51 = .ok (.iand, 1) := by decide +kernel
theorem dX2_byHabit_52 : decode cX2_byHabit 52 = .ok (.ifCond .eq 41, 3) := by decide +kernel
theorem dX2_byHabit_55 : decode cX2_byHabit 55 = .ok (.lload_n 1, 1) := by decide +kernel
theorem dX2_byHabit_56 : decode cX2_byHabit 56 = .ok (.iload_n 3, 1) := by decide +kernel
theorem dX2_byHabit_57 : decode cX2_byHabit 57 = .ok (.iconst 1, 1) := by decide +kernel
theorem dX2_byHabit_58 : decode cX2_byHabit 58 = .ok (.isub, 1) := by decide +kernel
theorem dX2_byHabit_59 : decode cX2_byHabit 59 = .ok (.invokestatic 68, 3) := by decide +kernel
theorem dX2_byHabit_62 : decode cX2_byHabit 62 = .ok (.istore 5, 2) := by decide +kernel
theorem dX2_byHabit_64 : decode cX2_byHabit 64 = .ok (.iload 5, 2) := by decide +kernel
theorem dX2_byHabit_66 : decode cX2_byHabit 66 = .ok (.iconst 2, 1) := by decide +kernel
theorem dX2_byHabit_67 : decode cX2_byHabit 67 = .ok (.if_icmp .eq 24, 3) := by decide +kernel
theorem dX2_byHabit_70 : decode cX2_byHabit 70 = .ok (.iload 5, 2) := by decide +kernel
theorem dX2_byHabit_72 : decode cX2_byHabit 72 = .ok (.bipush 15, 2) := by decide +kernel
theorem dX2_byHabit_74 : decode cX2_byHabit 74 = .ok (.if_icmp .eq 17, 3) := by decide +kernel
theorem dX2_byHabit_77 : decode cX2_byHabit 77 = .ok (.iload 5, 2) := by decide +kernel
theorem dX2_byHabit_79 : decode cX2_byHabit 79 = .ok (.bipush 18, 2) := by decide +kernel
theorem dX2_byHabit_81 : decode cX2_byHabit 81 = .ok (.if_icmp .eq 10, 3) := by decide +kernel
theorem dX2_byHabit_84 : decode cX2_byHabit 84 = .ok (.iload 5, 2) := by decide +kernel
theorem dX2_byHabit_86 : decode cX2_byHabit 86 = .ok (.bipush 19, 2) := by decide +kernel
theorem dX2_byHabit_88 : decode cX2_byHabit 88 = .ok (.if_icmp .ne 5, 3) := by decide +kernel
theorem dX2_byHabit_91 : decode cX2_byHabit 91 = .ok (.iconst 0, 1) := by decide +kernel
theorem dX2_byHabit_92 : decode cX2_byHabit 92 = .ok (.ireturn, 1) := by decide +kernel
theorem dX2_byHabit_93 : decode cX2_byHabit 93 = .ok (.iload 4, 2) := by decide +kernel
theorem dX2_byHabit_95 : decode cX2_byHabit 95 = .ok (.bipush 18, 2) := by decide +kernel
theorem dX2_byHabit_97 : decode cX2_byHabit 97 = .ok (.if_icmp .ne 25, 3) := by decide +kernel
theorem dX2_byHabit_100 : decode cX2_byHabit 100 = .ok (.aload_n 0, 1) := by decide +kernel
theorem dX2_byHabit_101 : decode cX2_byHabit 101 = .ok (.getfield 36, 3) := by decide +kernel
theorem dX2_byHabit_104 : decode cX2_byHabit 104 = .ok (.iconst 2, 1) := by decide +kernel
theorem dX2_byHabit_105 : decode cX2_byHabit 105 = .ok (.iand, 1) := by decide +kernel
theorem dX2_byHabit_106 : decode cX2_byHabit 106 = .ok (.ifCond .eq 16, 3) := by decide +kernel
theorem dX2_byHabit_109 : decode cX2_byHabit 109 = .ok (.lload_n 1, 1) := by decide +kernel
theorem dX2_byHabit_110 : decode cX2_byHabit 110 = .ok (.iload_n 3, 1) := by decide +kernel
theorem dX2_byHabit_111 : decode cX2_byHabit 111 = .ok (.iconst 1, 1) := by decide +kernel
theorem dX2_byHabit_112 : decode cX2_byHabit 112 = .ok (.iadd, 1) := by decide +kernel
theorem dX2_byHabit_113 : decode cX2_byHabit 113 = .ok (.invokestatic 68, 3) := by decide +kernel
theorem dX2_byHabit_116 : decode cX2_byHabit 116 = .ok (.iconst (-1), 1) := by decide +kernel
theorem dX2_byHabit_117 : decode cX2_byHabit 117 = .ok (.if_icmp .ne 5, 3) := by decide +kernel
theorem dX2_byHabit_120 : decode cX2_byHabit 120 = .ok (.iconst 0, 1) := by decide +kernel
theorem dX2_byHabit_121 : decode cX2_byHabit 121 = .ok (.ireturn, 1) := by decide +kernel
theorem dX2_byHabit_122 : decode cX2_byHabit 122 = .ok (.iconst (-1), 1) := by decide +kernel
theorem dX2_byHabit_123 : decode cX2_byHabit 123 = .ok (.ireturn, 1) := by decide +kernel
theorem dX3_init_0 : decode cX3_init 0 = .ok (.aload_n 0, 1) := by decide +kernel
theorem dX3_init_1 : decode cX3_init 1 = .ok (.invokespecial 3, 3) := by decide +kernel
theorem dX3_init_4 : decode cX3_init 4 = .ok (.aload_n 0, 1) := by decide +kernel
theorem dX3_init_5 : decode cX3_init 5 = .ok (.bipush 11, 2) := by decide +kernel
theorem dX3_init_7 : decode cX3_init 7 = .ok (.newarray .int, 2) := by decide +kernel
theorem dX3_init_9 : decode cX3_init 9 = .ok (.putfield 9, 3) := by decide +kernel
theorem dX3_init_12 : decode cX3_init 12 = .ok (.aload_n 0, 1) := by decide +kernel
theorem dX3_init_13 : decode cX3_init 13 = .ok (.bipush 24, 2) := by decide +kernel
theorem dX3_init_15 : decode cX3_init 15 = .ok (.newarray .int, 2) := by decide +kernel
theorem dX3_init_17 : decode cX3_init 17 = .ok (.putfield 15, 3) := by decide +kernel
theorem dX3_init_20 : decode cX3_init 20 = .ok (.return_, 1) := by decide +kernel
set_option maxRecDepth 20000 in
theorem ggX3_between_X6_size : GoodIn wsX3_between wsX6_size := goodIn_r _ [9, 10, 11, 8, 12, 13] (by decide +kernel) (by decide +kernel)
set_option maxRecDepth 20000 in
theorem gX3_between_X6_size : GoodIn wsX3_between (va_wsS RX3 18 yX6_size wsX6_size) := goodIn_app (goodIn_of _ (by decide +kernel)) ggX3_between_X6_size
set_option maxRecDepth 20000 in
theorem ggX3_between_X6_letterAt : GoodIn wsX3_between wsX6_letterAt := goodIn_r _ [12, 13] (by decide +kernel) (by decide +kernel)
set_option maxRecDepth 20000 in
theorem gX3_between_X6_letterAt : GoodIn wsX3_between (va_wsS RX3 24 yX6_letterAt wsX6_letterAt) := goodIn_app (goodIn_of _ (by decide +kernel)) ggX3_between_X6_letterAt
theorem dX3_between_0 : decode cX3_between 0 = .ok (.lload_n 1, 1) := by decide +kernel
theorem dX3_between_1 : decode cX3_between 1 = .ok (.invokestatic 18, 3) := by decide +kernel
theorem dX3_between_4 : decode cX3_between 4 = .ok (.istore 5, 2) := by decide +kernel
theorem dX3_between_6 : decode cX3_between 6 = .ok (.lload_n 3, 1) := by decide +kernel
theorem dX3_between_7 : decode cX3_between 7 = .ok (.invokestatic 18, 3) := by decide +kernel
theorem dX3_between_10 : decode cX3_between 10 = .ok (.istore 6, 2) := by decide +kernel
