set_option maxRecDepth 20000 in
theorem ggX7_drawer_X1_byCode : GoodIn wsX7_drawer wsX1_byCode := goodIn_r _ [73, 18, 61, 84, 85, 86, 87, 88, 89, 90] (by decide +kernel) (by decide +kernel)
set_option maxRecDepth 20000 in
theorem gX7_drawer_X1_byCode : GoodIn wsX7_drawer (wsV RX7 216 RX1 yX1_byCode wsX1_byCode) := goodIn_app (goodIn_of _ (by decide +kernel)) ggX7_drawer_X1_byCode
theorem dX7_drawer_0 : decode cX7_drawer 0 = .ok (.aload_n 0, 1) := by decide +kernel
theorem dX7_drawer_1 : decode cX7_drawer 1 = .ok (.getfield 10, 3) := by decide +kernel
theorem dX7_drawer_4 : decode cX7_drawer 4 = .ok (.iload_n 1, 1) := by decide +kernel
theorem dX7_drawer_5 : decode cX7_drawer 5 = .ok (.invokevirtual 105, 3) := by decide +kernel
theorem dX7_drawer_8 : decode cX7_drawer 8 = .ok (.astore 4, 2) := by decide +kernel
theorem dX7_drawer_10 : decode cX7_drawer 10 = .ok (.aload 4, 2) := by decide +kernel
theorem dX7_drawer_12 : decode cX7_drawer 12 = .ok (.ifnonnull 5, 3) := by decide +kernel
theorem dX7_drawer_15 : decode cX7_drawer 15 = .ok (.iconst (-1), 1) := by decide +kernel
theorem dX7_drawer_16 : decode cX7_drawer 16 = .ok (.ireturn, 1) := by decide +kernel
theorem dX7_drawer_17 : decode cX7_drawer 17 = .ok (.aload_n 0, 1) := by decide +kernel
theorem dX7_drawer_18 : decode cX7_drawer 18 = .ok (.getfield 41, 3) := by decide +kernel
theorem dX7_drawer_21 : decode cX7_drawer 21 = .ok (.aload_n 0, 1) := by decide +kernel
theorem dX7_drawer_22 : decode cX7_drawer 22 = .ok (.getfield 10, 3) := by decide +kernel
theorem dX7_drawer_25 : decode cX7_drawer 25 = .ok (.aload 4, 2) := by decide +kernel
theorem dX7_drawer_27 : decode cX7_drawer 27 = .ok (.invokevirtual 177, 3) := by decide +kernel
theorem dX7_drawer_30 : decode cX7_drawer 30 = .ok (.iload_n 2, 1) := by decide +kernel
theorem dX7_drawer_31 : decode cX7_drawer 31 = .ok (.iconst 0, 1) := by decide +kernel
theorem dX7_drawer_32 : decode cX7_drawer 32 = .ok (.aload_n 0, 1) := by decide +kernel
theorem dX7_drawer_33 : decode cX7_drawer 33 = .ok (.getfield 41, 3) := by decide +kernel
theorem dX7_drawer_36 : decode cX7_drawer 36 = .ok (.getfield 181, 3) := by decide +kernel
theorem dX7_drawer_39 : decode cX7_drawer 39 = .ok (.iconst 1, 1) := by decide +kernel
theorem dX7_drawer_40 : decode cX7_drawer 40 = .ok (.isub, 1) := by decide +kernel
theorem dX7_drawer_41 : decode cX7_drawer 41 = .ok (.invokestatic 62, 3) := by decide +kernel
theorem dX7_drawer_44 : decode cX7_drawer 44 = .ok (.ifCond .ne 5, 3) := by decide +kernel
theorem dX7_drawer_47 : decode cX7_drawer 47 = .ok (.iconst (-1), 1) := by decide +kernel
theorem dX7_drawer_48 : decode cX7_drawer 48 = .ok (.ireturn, 1) := by decide +kernel
theorem dX7_drawer_49 : decode cX7_drawer 49 = .ok (.iload_n 3, 1) := by decide +kernel
theorem dX7_drawer_50 : decode cX7_drawer 50 = .ok (.lookupswitch 51 #[(0, 26), (1, 35)], 26) := by decide +kernel
theorem dX7_drawer_76 : decode cX7_drawer 76 = .ok (.aload_n 0, 1) := by decide +kernel
theorem dX7_drawer_77 : decode cX7_drawer 77 = .ok (.getfield 41, 3) := by decide +kernel
theorem dX7_drawer_80 : decode cX7_drawer 80 = .ok (.iload_n 2, 1) := by decide +kernel
theorem dX7_drawer_81 : decode cX7_drawer 81 = .ok (.invokevirtual 213, 3) := by decide +kernel
theorem dX7_drawer_84 : decode cX7_drawer 84 = .ok (.ireturn, 1) := by decide +kernel
theorem dX7_drawer_85 : decode cX7_drawer 85 = .ok (.aload_n 0, 1) := by decide +kernel
theorem dX7_drawer_86 : decode cX7_drawer 86 = .ok (.getfield 41, 3) := by decide +kernel
theorem dX7_drawer_89 : decode cX7_drawer 89 = .ok (.aload_n 0, 1) := by decide +kernel
theorem dX7_drawer_90 : decode cX7_drawer 90 = .ok (.getfield 41, 3) := by decide +kernel
theorem dX7_drawer_93 : decode cX7_drawer 93 = .ok (.iload_n 2, 1) := by decide +kernel
theorem dX7_drawer_94 : decode cX7_drawer 94 = .ok (.invokevirtual 216, 3) := by decide +kernel
theorem dX7_drawer_97 : decode cX7_drawer 97 = .ok (.invokevirtual 213, 3) := by decide +kernel
theorem dX7_drawer_100 : decode cX7_drawer 100 = .ok (.ireturn, 1) := by decide +kernel
theorem dX7_drawer_101 : decode cX7_drawer 101 = .ok (.bipush (-2), 2) := by decide +kernel
theorem dX7_drawer_103 : decode cX7_drawer 103 = .ok (.ireturn, 1) := by decide +kernel
set_option maxRecDepth 20000 in
theorem ggX7_count_X5_lettersInNames : GoodIn wsX7_count wsX5_lettersInNames := goodIn_r _ [13, 14, 15, 16, 17, 18, 19, 20, 21, 22, 23, 24, 25, 26, 37, 38, 39, 40, 41, 42] (by decide +kernel) (by decide +kernel)
set_option maxRecDepth 20000 in
theorem gX7_count_X5_lettersInNames : GoodIn wsX7_count (wsV RX7 219 RX5 yX5_lettersInNames wsX5_lettersInNames) := goodIn_app (goodIn_of _ (by decide +kernel)) ggX7_count_X5_lettersInNames
theorem dX7_count_0 : decode cX7_count 0 = .ok (.iload_n 1, 1) := by decide +kernel
theorem dX7_count_1 : decode cX7_count 1 = .ok (.tableswitch 96 0 6 #[43, 51, 59, 67, 75, 83, 88], 43) := by decide +kernel
theorem dX7_count_44 : decode cX7_count 44 = .ok (.aload_n 0, 1) := by decide +kernel
theorem dX7_count_45 : decode cX7_count 45 = .ok (.getfield 10, 3) := by decide +kernel
theorem dX7_count_48 : decode cX7_count 48 = .ok (.getfield 87, 3) := by decide +kernel
theorem dX7_count_51 : decode cX7_count 51 = .ok (.ireturn, 1) := by decide +kernel
theorem dX7_count_52 : decode cX7_count 52 = .ok (.aload_n 0, 1) := by decide +kernel
theorem dX7_count_53 : decode cX7_count 53 = .ok (.getfield 10, 3) := by decide +kernel
theorem dX7_count_56 : decode cX7_count 56 = .ok (.getfield 109, 3) := by decide +kernel
theorem dX7_count_59 : decode cX7_count 59 = .ok (.ireturn, 1) := by decide +kernel
theorem dX7_count_60 : decode cX7_count 60 = .ok (.aload_n 0, 1) := by decide +kernel
theorem dX7_count_61 : decode cX7_count 61 = .ok (.getfield 10, 3) := by decide +kernel
theorem dX7_count_64 : decode cX7_count 64 = .ok (.getfield 66, 3) := by decide +kernel
theorem dX7_count_67 : decode cX7_count 67 = .ok (.ireturn, 1) := by decide +kernel
theorem dX7_count_68 : decode cX7_count 68 = .ok (.aload_n 0, 1) := by decide +kernel
theorem dX7_count_69 : decode cX7_count 69 = .ok (.getfield 10, 3) := by decide +kernel
theorem dX7_count_72 : decode cX7_count 72 = .ok (.getfield 72, 3) := by decide +kernel
theorem dX7_count_75 : decode cX7_count 75 = .ok (.ireturn, 1) := by decide +kernel
theorem dX7_count_76 : decode cX7_count 76 = .ok (.aload_n 0, 1) := by decide +kernel
theorem dX7_count_77 : decode cX7_count 77 = .ok (.getfield 34, 3) := by decide +kernel
theorem dX7_count_80 : decode cX7_count 80 = .ok (.getfield 94, 3) := by decide +kernel
theorem dX7_count_83 : decode cX7_count 83 = .ok (.ireturn, 1) := by decide +kernel
theorem dX7_count_84 : decode cX7_count 84 = .ok (.aload_n 0, 1) := by decide +kernel
theorem dX7_count_85 : decode cX7_count 85 = .ok (.getfield 20, 3) := by decide +kernel
theorem dX7_count_88 : decode cX7_count 88 = .ok (.ireturn, 1) := by decide +kernel
theorem dX7_count_89 : decode cX7_count 89 = .ok (.aload_n 0, 1) := by decide +kernel
theorem dX7_count_90 : decode cX7_count 90 = .ok (.getfield 10, 3) := by decide +kernel
theorem dX7_count_93 : decode cX7_count 93 = .ok (.invokevirtual 219, 3) := by decide +kernel
theorem dX7_count_96 : decode cX7_count 96 = .ok (.ireturn, 1) := by decide +kernel
theorem dX7_count_97 : decode cX7_count 97 = .ok (.bipush (-2), 2) := by decide +kernel
theorem dX7_count_99 : decode cX7_count 99 = .ok (.ireturn, 1) := by decide +kernel
set_option maxRecDepth 20000 in
theorem ggX7_alike_X5_earAt : GoodIn wsX7_alike wsX5_earAt := goodIn_r _ [7, 8, 9, 92, 93, 94, 95, 96, 97] (by decide +kernel) (by decide +kernel)
set_option maxRecDepth 20000 in
theorem gX7_alike_X5_earAt : GoodIn wsX7_alike (wsV RX7 105 RX5 yX5_earAt wsX5_earAt) := goodIn_app (goodIn_of _ (by decide +kernel)) ggX7_alike_X5_earAt
set_option maxRecDepth 20000 in
theorem ggX7_alike_X5_hasName : GoodIn wsX7_alike wsX5_hasName := goodIn_r _ [13, 14, 92, 93, 94, 95, 96, 97] (by decide +kernel) (by decide +kernel)
set_option maxRecDepth 20000 in
theorem gX7_alike_X5_hasName : GoodIn wsX7_alike (wsV RX7 97 RX5 yX5_hasName wsX5_hasName) := goodIn_app (goodIn_of _ (by decide +kernel)) ggX7_alike_X5_hasName
set_option maxRecDepth 20000 in
theorem ggX7_alike_X1_fill : GoodIn wsX7_alike wsX1_fill := goodIn_r _ [19, 20, 21, 22, 23, 24, 25, 26, 27, 28, 29, 30, 31, 32, 33, 34, 35, 36, 37, 38, 39, 40, 41, 42, 43, 44, 45, 46, 47, 48, 49, 50, 51, 52, 53, 54, 55, 56, 57, 58, 59, 60, 61, 62, 63, 18, 64, 65, 92, 93, 94, 95, 96, 97, 98, 99, 100, 101, 102, 103, 104, 105, 106, 107, 108, 109, 110, 111, 112] (by decide +kernel) (by decide +kernel)
set_option maxRecDepth 20000 in
theorem gX7_alike_X1_fill : GoodIn wsX7_alike (wsV RX7 177 RX1 yX1_fill wsX1_fill) := goodIn_app (goodIn_of _ (by decide +kernel)) ggX7_alike_X1_fill
set_option maxRecDepth 20000 in
theorem ggX7_alike_X1_namesLike : GoodIn wsX7_alike wsX1_namesLike := goodIn_r _ [69, 70, 71, 72, 18, 73, 21, 26, 74, 75, 76, 77, 28, 78, 79, 80, 81, 22, 27, 98, 99, 100, 101, 102, 103, 104] (by decide +kernel) (by decide +kernel)
set_option maxRecDepth 20000 in
theorem gX7_alike_X1_namesLike : GoodIn wsX7_alike (wsV RX7 222 RX1 yX1_namesLike wsX1_namesLike) := goodIn_app (goodIn_of _ (by decide +kernel)) ggX7_alike_X1_namesLike
theorem dX7_alike_0 : decode cX7_alike 0 = .ok (.aload_n 0, 1) := by decide +kernel
theorem dX7_alike_1 : decode cX7_alike 1 = .ok (.getfield 10, 3) := by decide +kernel
theorem dX7_alike_4 : decode cX7_alike 4 = .ok (.iload_n 1, 1) := by decide +kernel
theorem dX7_alike_5 : decode cX7_alike 5 = .ok (.invokevirtual 105, 3) := by decide +kernel
theorem dX7_alike_8 : decode cX7_alike 8 = .ok (.astore 4, 2) := by decide +kernel
theorem dX7_alike_10 : decode cX7_alike 10 = .ok (.aload 4, 2) := by decide +kernel
theorem dX7_alike_12 : decode cX7_alike 12 = .ok (.ifnull 25, 3) := by decide +kernel
theorem dX7_alike_15 : decode cX7_alike 15 = .ok (.aload_n 0, 1) := by decide +kernel
theorem dX7_alike_16 : decode cX7_alike 16 = .ok (.getfield 10, 3) := by decide +kernel
theorem dX7_alike_19 : decode cX7_alike 19 = .ok (.iload_n 2, 1) := by decide +kernel
theorem dX7_alike_20 : decode cX7_alike 20 = .ok (.invokevirtual 97, 3) := by decide +kernel
theorem dX7_alike_23 : decode cX7_alike 23 = .ok (.ifCond .eq 14, 3) := by decide +kernel
theorem dX7_alike_26 : decode cX7_alike 26 = .ok (.aload_n 0, 1) := by decide +kernel
theorem dX7_alike_27 : decode cX7_alike 27 = .ok (.getfield 10, 3) := by decide +kernel
theorem dX7_alike_30 : decode cX7_alike 30 = .ok (.iload_n 3, 1) := by decide +kernel
theorem dX7_alike_31 : decode cX7_alike 31 = .ok (.invokevirtual 97, 3) := by decide +kernel
theorem dX7_alike_34 : decode cX7_alike 34 = .ok (.ifCond .ne 5, 3) := by decide +kernel
theorem dX7_alike_37 : decode cX7_alike 37 = .ok (.iconst (-1), 1) := by decide +kernel
theorem dX7_alike_38 : decode cX7_alike 38 = .ok (.ireturn, 1) := by decide +kernel
theorem dX7_alike_39 : decode cX7_alike 39 = .ok (.aload_n 0, 1) := by decide +kernel
theorem dX7_alike_40 : decode cX7_alike 40 = .ok (.getfield 41, 3) := by decide +kernel
theorem dX7_alike_43 : decode cX7_alike 43 = .ok (.aload_n 0, 1) := by decide +kernel
theorem dX7_alike_44 : decode cX7_alike 44 = .ok (.getfield 10, 3) := by decide +kernel
theorem dX7_alike_47 : decode cX7_alike 47 = .ok (.aload 4, 2) := by decide +kernel
theorem dX7_alike_49 : decode cX7_alike 49 = .ok (.invokevirtual 177, 3) := by decide +kernel
theorem dX7_alike_52 : decode cX7_alike 52 = .ok (.aload_n 0, 1) := by decide +kernel
theorem dX7_alike_53 : decode cX7_alike 53 = .ok (.getfield 41, 3) := by decide +kernel
theorem dX7_alike_56 : decode cX7_alike 56 = .ok (.iload_n 2, 1) := by decide +kernel
theorem dX7_alike_57 : decode cX7_alike 57 = .ok (.invokevirtual 222, 3) := by decide +kernel
theorem dX7_alike_60 : decode cX7_alike 60 = .ok (.iconst 1, 1) := by decide +kernel
theorem dX7_alike_61 : decode cX7_alike 61 = .ok (.iload_n 3, 1) := by decide +kernel
theorem dX7_alike_62 : decode cX7_alike 62 = .ok (.ishl, 1) := by decide +kernel
theorem dX7_alike_63 : decode cX7_alike 63 = .ok (.iand, 1) := by decide +kernel
theorem dX7_alike_64 : decode cX7_alike 64 = .ok (.ifCond .eq 7, 3) := by decide +kernel
theorem dX7_alike_67 : decode cX7_alike 67 = .ok (.iconst 1, 1) := by decide +kernel
theorem dX7_alike_68 : decode cX7_alike 68 = .ok (.goto 4, 3) := by decide +kernel
theorem dX7_alike_71 : decode cX7_alike 71 = .ok (.iconst 0, 1) := by decide +kernel
theorem dX7_alike_72 : decode cX7_alike 72 = .ok (.ireturn, 1) := by decide +kernel
set_option maxRecDepth 20000 in
theorem ggX7_distance_X5_hasName : GoodIn wsX7_distance wsX5_hasName := goodIn_r _ [8, 9, 39, 40, 41, 42, 43, 44] (by decide +kernel) (by decide +kernel)
set_option maxRecDepth 20000 in
theorem gX7_distance_X5_hasName : GoodIn wsX7_distance (wsV RX7 97 RX5 yX5_hasName wsX5_hasName) := goodIn_app (goodIn_of _ (by decide +kernel)) ggX7_distance_X5_hasName
set_option maxRecDepth 20000 in
theorem ggX7_distance_X3_between : GoodIn wsX7_distance wsX3_between := goodIn_r _ [14, 15, 16, 17, 18, 19, 20, 21, 22, 23, 24, 25, 26, 27, 28, 45, 46] (by decide +kernel) (by decide +kernel)
set_option maxRecDepth 20000 in
theorem gX7_distance_X3_between : GoodIn wsX7_distance (wsV RX7 225 RX3 yX3_between wsX3_between) := goodIn_app (goodIn_of _ (by decide +kernel)) ggX7_distance_X3_between
theorem dX7_distance_0 : decode cX7_distance 0 = .ok (.aload_n 0, 1) := by decide +kernel
theorem dX7_distance_1 : decode cX7_distance 1 = .ok (.getfield 10, 3) := by decide +kernel
theorem dX7_distance_4 : decode cX7_distance 4 = .ok (.iload_n 1, 1) := by decide +kernel
theorem dX7_distance_5 : decode cX7_distance 5 = .ok (.invokevirtual 97, 3) := by decide +kernel
theorem dX7_distance_8 : decode cX7_distance 8 = .ok (.ifCond .eq 14, 3) := by decide +kernel
theorem dX7_distance_11 : decode cX7_distance 11 = .ok (.aload_n 0, 1) := by decide +kernel
theorem dX7_distance_12 : decode cX7_distance 12 = .ok (.getfield 10, 3) := by decide +kernel
theorem dX7_distance_15 : decode cX7_distance 15 = .ok (.iload_n 2, 1) := by decide +kernel
theorem dX7_distance_16 : decode cX7_distance 16 = .ok (.invokevirtual 97, 3) := by decide +kernel
theorem dX7_distance_19 : decode cX7_distance 19 = .ok (.ifCond .ne 5, 3) := by decide +kernel
theorem dX7_distance_22 : decode cX7_distance 22 = .ok (.iconst (-1), 1) := by decide +kernel
theorem dX7_distance_23 : decode cX7_distance 23 = .ok (.ireturn, 1) := by decide +kernel
theorem dX7_distance_24 : decode cX7_distance 24 = .ok (.aload_n 0, 1) := by decide +kernel
theorem dX7_distance_25 : decode cX7_distance 25 = .ok (.getfield 58, 3) := by decide +kernel
theorem dX7_distance_28 : decode cX7_distance 28 = .ok (.aload_n 0, 1) := by decide +kernel
theorem dX7_distance_29 : decode cX7_distance 29 = .ok (.getfield 10, 3) := by decide +kernel
theorem dX7_distance_32 : decode cX7_distance 32 = .ok (.getfield 90, 3) := by decide +kernel
theorem dX7_distance_35 : decode cX7_distance 35 = .ok (.iload_n 1, 1) := by decide +kernel
theorem dX7_distance_36 : decode cX7_distance 36 = .ok (.laload, 1) := by decide +kernel
theorem dX7_distance_37 : decode cX7_distance 37 = .ok (.aload_n 0, 1) := by decide +kernel
theorem dX7_distance_38 : decode cX7_distance 38 = .ok (.getfield 10, 3) := by decide +kernel
theorem dX7_distance_41 : decode cX7_distance 41 = .ok (.getfield 90, 3) := by decide +kernel
theorem dX7_distance_44 : decode cX7_distance 44 = .ok (.iload_n 2, 1) := by decide +kernel
theorem dX7_distance_45 : decode cX7_distance 45 = .ok (.laload, 1) := by decide +kernel
theorem dX7_distance_46 : decode cX7_distance 46 = .ok (.invokevirtual 225, 3) := by decide +kernel
theorem dX7_distance_49 : decode cX7_distance 49 = .ok (.ireturn, 1) := by decide +kernel
set_option maxRecDepth 20000 in
theorem ggX7_find_X4_firstFault : GoodIn wsX7_find wsX4_firstFault := goodIn_r _ [10, 11, 12, 130, 131] (by decide +kernel) (by decide +kernel)
set_option maxRecDepth 20000 in
theorem gX7_find_X4_firstFault : GoodIn wsX7_find (wsV RX7 75 RX4 yX4_firstFault wsX4_firstFault) := goodIn_app (goodIn_of _ (by decide +kernel)) ggX7_find_X4_firstFault
set_option maxRecDepth 20000 in
theorem ggX7_find_X5_earAt : GoodIn wsX7_find wsX5_earAt := goodIn_r _ [17, 18, 19, 124, 125, 126, 127, 128, 129] (by decide +kernel) (by decide +kernel)
set_option maxRecDepth 20000 in
theorem gX7_find_X5_earAt : GoodIn wsX7_find (wsV RX7 105 RX5 yX5_earAt wsX5_earAt) := goodIn_app (goodIn_of _ (by decide +kernel)) ggX7_find_X5_earAt
set_option maxRecDepth 20000 in
theorem ggX7_find_X4_asWord : GoodIn wsX7_find wsX4_asWord := goodIn_r _ [23, 11, 12, 24, 25, 26, 27, 130, 131] (by decide +kernel) (by decide +kernel)
set_option maxRecDepth 20000 in
theorem gX7_find_X4_asWord : GoodIn wsX7_find (wsV RX7 79 RX4 yX4_asWord wsX4_asWord) := goodIn_app (goodIn_of _ (by decide +kernel)) ggX7_find_X4_asWord
set_option maxRecDepth 20000 in
theorem ggX7_find_X1_fill : GoodIn wsX7_find wsX1_fill := goodIn_r _ [32, 33, 34, 35, 36, 37, 38, 39, 40, 41, 42, 43, 44, 45, 46, 47, 48, 49, 50, 51, 52, 53, 26, 54, 55, 56, 57, 58, 59, 60, 61, 62, 63, 64, 65, 66, 67, 68, 69, 70, 71, 72, 73, 74, 75, 31, 76, 77, 124, 125, 126, 127, 128, 129, 132, 133, 134, 135, 136, 137, 138, 139, 140, 141, 142, 143, 144, 145, 146] (by decide +kernel) (by decide +kernel)
set_option maxRecDepth 20000 in
theorem gX7_find_X1_fill : GoodIn wsX7_find (wsV RX7 177 RX1 yX1_fill wsX1_fill) := goodIn_app (goodIn_of _ (by decide +kernel)) ggX7_find_X1_fill
set_option maxRecDepth 20000 in
theorem ggX7_find_X1_namesHeardLike : GoodIn wsX7_find wsX1_namesHeardLike := goodIn_r _ [81, 37, 38, 35, 77, 40, 42, 43, 44, 45, 46, 47, 48, 49, 50, 51, 52, 53, 26, 54, 55, 56, 57, 58, 59, 60, 61, 62, 63, 64, 65, 66, 67, 68, 69, 70, 71, 72, 124, 125, 126, 127, 128, 129, 132, 133, 134, 135, 136, 137, 138, 139, 140, 141, 142, 143, 144, 145, 146] (by decide +kernel) (by decide +kernel)
set_option maxRecDepth 20000 in
theorem gX7_find_X1_namesHeardLike : GoodIn wsX7_find (wsV RX7 229 RX1 yX1_namesHeardLike wsX1_namesHeardLike) := goodIn_app (goodIn_of _ (by decide +kernel)) ggX7_find_X1_namesHeardLike
set_option maxRecDepth 20000 in
theorem ggX7_find_X3_ranked : GoodIn wsX7_find wsX3_ranked := goodIn_r _ [86, 87, 88, 89, 90, 91, 92, 85, 93, 94, 95, 96, 97, 98, 99, 100, 26, 101, 102, 53, 54, 55, 103, 104, 105, 106, 107, 124, 125, 126, 127, 128, 129, 147, 148] (by decide +kernel) (by decide +kernel)
set_option maxRecDepth 20000 in
theorem gX7_find_X3_ranked : GoodIn wsX7_find (wsV RX7 233 RX3 yX3_ranked wsX3_ranked) := goodIn_app (goodIn_of _ (by decide +kernel)) ggX7_find_X3_ranked
set_option maxRecDepth 20000 in
theorem ggX7_find_X5_hasName : GoodIn wsX7_find wsX5_hasName := goodIn_r _ [111, 112, 124, 125, 126, 127, 128, 129] (by decide +kernel) (by decide +kernel)
set_option maxRecDepth 20000 in
theorem gX7_find_X5_hasName : GoodIn wsX7_find (wsV RX7 97 RX5 yX5_hasName wsX5_hasName) := goodIn_app (goodIn_of _ (by decide +kernel)) ggX7_find_X5_hasName
set_option maxRecDepth 20000 in
theorem ggX7_find_X3_between : GoodIn wsX7_find wsX3_between := goodIn_r _ [93, 94, 95, 96, 97, 98, 99, 100, 26, 101, 102, 53, 54, 55, 103, 147, 148] (by decide +kernel) (by decide +kernel)
set_option maxRecDepth 20000 in
theorem gX7_find_X3_between : GoodIn wsX7_find (wsV RX7 225 RX3 yX3_between wsX3_between) := goodIn_app (goodIn_of _ (by decide +kernel)) ggX7_find_X3_between
theorem dX7_find_0 : decode cX7_find 0 = .ok (.aload_n 0, 1) := by decide +kernel
theorem dX7_find_1 : decode cX7_find 1 = .ok (.getfield 34, 3) := by decide +kernel
theorem dX7_find_4 : decode cX7_find 4 = .ok (.invokevirtual 75, 3) := by decide +kernel
theorem dX7_find_7 : decode cX7_find 7 = .ok (.bipush (-6), 2) := by decide +kernel
theorem dX7_find_9 : decode cX7_find 9 = .ok (.if_icmp .eq 6, 3) := by decide +kernel
theorem dX7_find_12 : decode cX7_find 12 = .ok (.bipush (-3), 2) := by decide +kernel
theorem dX7_find_14 : decode cX7_find 14 = .ok (.ireturn, 1) := by decide +kernel
theorem dX7_find_15 : decode cX7_find 15 = .ok (.aload_n 0, 1) := by decide +kernel
theorem dX7_find_16 : decode cX7_find 16 = .ok (.getfield 10, 3) := by decide +kernel
theorem dX7_find_19 : decode cX7_find 19 = .ok (.iload_n 1, 1) := by decide +kernel
theorem dX7_find_20 : decode cX7_find 20 = .ok (.invokevirtual 105, 3) := by decide +kernel
theorem dX7_find_23 : decode cX7_find 23 = .ok (.astore 4, 2) := by decide +kernel
theorem dX7_find_25 : decode cX7_find 25 = .ok (.aload 4, 2) := by decide +kernel
theorem dX7_find_27 : decode cX7_find 27 = .ok (.ifnonnull 5, 3) := by decide +kernel
theorem dX7_find_30 : decode cX7_find 30 = .ok (.iconst (-1), 1) := by decide +kernel
theorem dX7_find_31 : decode cX7_find 31 = .ok (.ireturn, 1) := by decide +kernel
theorem dX7_find_32 : decode cX7_find 32 = .ok (.aload_n 0, 1) := by decide +kernel
theorem dX7_find_33 : decode cX7_find 33 = .ok (.getfield 34, 3) := by decide +kernel
theorem dX7_find_36 : decode cX7_find 36 = .ok (.invokevirtual 79, 3) := by decide +kernel
theorem dX7_find_39 : decode cX7_find 39 = .ok (.lstore 5, 2) := by decide +kernel
theorem dX7_find_41 : decode cX7_find 41 = .ok (.aload_n 0, 1) := by decide +kernel
theorem dX7_find_42 : decode cX7_find 42 = .ok (.getfield 41, 3) := by decide +kernel
theorem dX7_find_45 : decode cX7_find 45 = .ok (.aload_n 0, 1) := by decide +kernel
theorem dX7_find_46 : decode cX7_find 46 = .ok (.getfield 10, 3) := by decide +kernel
theorem dX7_find_49 : decode cX7_find 49 = .ok (.aload 4, 2) := by decide +kernel
theorem dX7_find_51 : decode cX7_find 51 = .ok (.invokevirtual 177, 3) := by decide +kernel
theorem dX7_find_54 : decode cX7_find 54 = .ok (.aload_n 0, 1) := by decide +kernel
theorem dX7_find_55 : decode cX7_find 55 = .ok (.getfield 58, 3) := by decide +kernel
theorem dX7_find_58 : decode cX7_find 58 = .ok (.aload_n 0, 1) := by decide +kernel
theorem dX7_find_59 : decode cX7_find 59 = .ok (.getfield 10, 3) := by decide +kernel
theorem dX7_find_62 : decode cX7_find 62 = .ok (.lload 5, 2) := by decide +kernel
theorem dX7_find_64 : decode cX7_find 64 = .ok (.aload_n 0, 1) := by decide +kernel
theorem dX7_find_65 : decode cX7_find 65 = .ok (.getfield 41, 3) := by decide +kernel
theorem dX7_find_68 : decode cX7_find 68 = .ok (.lload 5, 2) := by decide +kernel
theorem dX7_find_70 : decode cX7_find 70 = .ok (.aload_n 0, 1) := by decide +kernel
theorem dX7_find_71 : decode cX7_find 71 = .ok (.getfield 10, 3) := by decide +kernel
theorem dX7_find_74 : decode cX7_find 74 = .ok (.aload 4, 2) := by decide +kernel
theorem dX7_find_76 : decode cX7_find 76 = .ok (.invokevirtual 229, 3) := by decide +kernel
theorem dX7_find_79 : decode cX7_find 79 = .ok (.iload_n 2, 1) := by decide +kernel
theorem dX7_find_80 : decode cX7_find 80 = .ok (.invokevirtual 233, 3) := by decide +kernel
theorem dX7_find_83 : decode cX7_find 83 = .ok (.istore 7, 2) := by decide +kernel
theorem dX7_find_85 : decode cX7_find 85 = .ok (.aload_n 0, 1) := by decide +kernel
theorem dX7_find_86 : decode cX7_find 86 = .ok (.getfield 10, 3) := by decide +kernel
theorem dX7_find_89 : decode cX7_find 89 = .ok (.iload 7, 2) := by decide +kernel
theorem dX7_find_91 : decode cX7_find 91 = .ok (.invokevirtual 97, 3) := by decide +kernel
theorem dX7_find_94 : decode cX7_find 94 = .ok (.ifCond .ne 5, 3) := by decide +kernel
theorem dX7_find_97 : decode cX7_find 97 = .ok (.iconst (-1), 1) := by decide +kernel
theorem dX7_find_98 : decode cX7_find 98 = .ok (.ireturn, 1) := by decide +kernel
theorem dX7_find_99 : decode cX7_find 99 = .ok (.iload_n 3, 1) := by decide +kernel
theorem dX7_find_100 : decode cX7_find 100 = .ok (.lookupswitch 51 #[(0, 28), (1, 31)], 28) := by decide +kernel
theorem dX7_find_128 : decode cX7_find 128 = .ok (.iload 7, 2) := by decide +kernel
theorem dX7_find_130 : decode cX7_find 130 = .ok (.ireturn, 1) := by decide +kernel
theorem dX7_find_131 : decode cX7_find 131 = .ok (.aload_n 0, 1) := by decide +kernel
theorem dX7_find_132 : decode cX7_find 132 = .ok (.getfield 58, 3) := by decide +kernel
theorem dX7_find_135 : decode cX7_find 135 = .ok (.lload 5, 2) := by decide +kernel
theorem dX7_find_137 : decode cX7_find 137 = .ok (.aload_n 0, 1) := by decide +kernel
theorem dX7_find_138 : decode cX7_find 138 = .ok (.getfield 10, 3) := by decide +kernel
theorem dX7_find_141 : decode cX7_find 141 = .ok (.getfield 90, 3) := by decide +kernel
theorem dX7_find_144 : decode cX7_find 144 = .ok (.iload 7, 2) := by decide +kernel
theorem dX7_find_146 : decode cX7_find 146 = .ok (.laload, 1) := by decide +kernel
theorem dX7_find_147 : decode cX7_find 147 = .ok (.invokevirtual 225, 3) := by decide +kernel
theorem dX7_find_150 : decode cX7_find 150 = .ok (.ireturn, 1) := by decide +kernel
theorem dX7_find_151 : decode cX7_find 151 = .ok (.bipush (-2), 2) := by decide +kernel
theorem dX7_find_153 : decode cX7_find 153 = .ok (.ireturn, 1) := by decide +kernel
set_option maxRecDepth 20000 in
theorem ggX7_ifMerged_X5_earAt : GoodIn wsX7_ifMerged wsX5_earAt := goodIn_r _ [8, 9, 10, 150, 151, 152, 153, 154, 155] (by decide +kernel) (by decide +kernel)
set_option maxRecDepth 20000 in
theorem gX7_ifMerged_X5_earAt : GoodIn wsX7_ifMerged (wsV RX7 105 RX5 yX5_earAt wsX5_earAt) := goodIn_app (goodIn_of _ (by decide +kernel)) ggX7_ifMerged_X5_earAt
set_option maxRecDepth 20000 in
theorem ggX7_ifMerged_X7_canMerge : GoodIn wsX7_ifMerged wsX7_canMerge := goodIn_r _ [14, 15, 16, 13, 17, 18, 19, 20] (by decide +kernel) (by decide +kernel)
set_option maxRecDepth 20000 in
theorem gX7_ifMerged_X7_canMerge : GoodIn wsX7_ifMerged (va_wsS RX7 144 yX7_canMerge wsX7_canMerge) := goodIn_app (goodIn_of _ (by decide +kernel)) ggX7_ifMerged_X7_canMerge
set_option maxRecDepth 20000 in
theorem ggX7_ifMerged_X7_isWithin : GoodIn wsX7_ifMerged wsX7_isWithin := goodIn_r _ [20] (by decide +kernel) (by decide +kernel)
set_option maxRecDepth 20000 in
theorem gX7_ifMerged_X7_isWithin : GoodIn wsX7_ifMerged (va_wsS RX7 62 yX7_isWithin wsX7_isWithin) := goodIn_app (goodIn_of _ (by decide +kernel)) ggX7_ifMerged_X7_isWithin
set_option maxRecDepth 20000 in
theorem ggX7_ifMerged_X7_fillAsIfMerged : GoodIn wsX7_ifMerged wsX7_fillAsIfMerged := goodIn_r _ [24, 25, 2, 1, 26, 27, 28, 29, 30, 31, 32, 33, 34, 35, 36, 37, 38, 39, 40, 41, 42, 43, 44, 45, 46, 47, 48, 49, 50, 51, 52, 53, 54, 55, 56, 57, 58, 59, 60, 61, 62, 63, 64, 65, 66, 67, 68, 69, 70, 71, 72, 73, 74, 75, 76, 77, 78, 79, 80, 81, 82, 83, 84, 85, 86, 87, 88, 89, 90, 91, 92, 93, 94, 95, 96, 97, 98, 99, 100, 101, 102, 103, 104, 105, 133, 134, 135, 136, 137, 138, 139, 140, 141, 142, 156, 157, 158, 159, 160, 161, 162, 163, 150, 151, 152, 153, 154, 155, 143, 144, 145, 146, 147, 148, 149] (by decide +kernel) (by decide +kernel)
set_option maxRecDepth 20000 in
theorem gX7_ifMerged_X7_fillAsIfMerged : GoodIn wsX7_ifMerged (wsV RX7 237 RX7 yX7_fillAsIfMerged wsX7_fillAsIfMerged) := goodIn_app (goodIn_of _ (by decide +kernel)) ggX7_ifMerged_X7_fillAsIfMerged
set_option maxRecDepth 20000 in
theorem ggX7_ifMerged_X1_alikePairs : GoodIn wsX7_ifMerged wsX1_alikePairs := goodIn_r _ [109, 65, 110, 111, 112, 62, 113, 114, 115, 116, 117, 70, 118, 119, 120, 121, 72, 122, 123, 124, 125, 66, 71, 126, 127, 128, 129, 130, 131, 132, 143, 144, 145, 146, 147, 148, 149] (by decide +kernel) (by decide +kernel)
set_option maxRecDepth 20000 in
theorem gX7_ifMerged_X1_alikePairs : GoodIn wsX7_ifMerged (wsV RX7 190 RX1 yX1_alikePairs wsX1_alikePairs) := goodIn_app (goodIn_of _ (by decide +kernel)) ggX7_ifMerged_X1_alikePairs
theorem dX7_ifMerged_0 : decode cX7_ifMerged 0 = .ok (.aload_n 0, 1) := by decide +kernel
theorem dX7_ifMerged_1 : decode cX7_ifMerged 1 = .ok (.getfield 10, 3) := by decide +kernel
theorem dX7_ifMerged_4 : decode cX7_ifMerged 4 = .ok (.iload_n 1, 1) := by decide +kernel
theorem dX7_ifMerged_5 : decode cX7_ifMerged 5 = .ok (.invokevirtual 105, 3) := by decide +kernel
theorem dX7_ifMerged_8 : decode cX7_ifMerged 8 = .ok (.astore 5, 2) := by decide +kernel
theorem dX7_ifMerged_10 : decode cX7_ifMerged 10 = .ok (.aload 5, 2) := by decide +kernel
theorem dX7_ifMerged_12 : decode cX7_ifMerged 12 = .ok (.ifnonnull 5, 3) := by decide +kernel
theorem dX7_ifMerged_15 : decode cX7_ifMerged 15 = .ok (.iconst (-1), 1) := by decide +kernel
theorem dX7_ifMerged_16 : decode cX7_ifMerged 16 = .ok (.ireturn, 1) := by decide +kernel
theorem dX7_ifMerged_17 : decode cX7_ifMerged 17 = .ok (.iload_n 2, 1) := by decide +kernel
theorem dX7_ifMerged_18 : decode cX7_ifMerged 18 = .ok (.iload_n 3, 1) := by decide +kernel
theorem dX7_ifMerged_19 : decode cX7_ifMerged 19 = .ok (.invokestatic 144, 3) := by decide +kernel
theorem dX7_ifMerged_22 : decode cX7_ifMerged 22 = .ok (.ifCond .eq 13, 3) := by decide +kernel
theorem dX7_ifMerged_25 : decode cX7_ifMerged 25 = .ok (.iload 4, 2) := by decide +kernel
theorem dX7_ifMerged_27 : decode cX7_ifMerged 27 = .ok (.iconst 0, 1) := by decide +kernel
theorem dX7_ifMerged_28 : decode cX7_ifMerged 28 = .ok (.iconst 1, 1) := by decide +kernel
theorem dX7_ifMerged_29 : decode cX7_ifMerged 29 = .ok (.invokestatic 62, 3) := by decide +kernel
theorem dX7_ifMerged_32 : decode cX7_ifMerged 32 = .ok (.ifCond .ne 6, 3) := by decide +kernel
theorem dX7_ifMerged_35 : decode cX7_ifMerged 35 = .ok (.bipush (-2), 2) := by decide +kernel
theorem dX7_ifMerged_37 : decode cX7_ifMerged 37 = .ok (.ireturn, 1) := by decide +kernel
theorem dX7_ifMerged_38 : decode cX7_ifMerged 38 = .ok (.aload_n 0, 1) := by decide +kernel
theorem dX7_ifMerged_39 : decode cX7_ifMerged 39 = .ok (.aload 5, 2) := by decide +kernel
theorem dX7_ifMerged_41 : decode cX7_ifMerged 41 = .ok (.iload_n 2, 1) := by decide +kernel
theorem dX7_ifMerged_42 : decode cX7_ifMerged 42 = .ok (.iload_n 3, 1) := by decide +kernel
theorem dX7_ifMerged_43 : decode cX7_ifMerged 43 = .ok (.invokevirtual 237, 3) := by decide +kernel
theorem dX7_ifMerged_46 : decode cX7_ifMerged 46 = .ok (.iload 4, 2) := by decide +kernel
theorem dX7_ifMerged_48 : decode cX7_ifMerged 48 = .ok (.ifCond .ne 13, 3) := by decide +kernel
theorem dX7_ifMerged_51 : decode cX7_ifMerged 51 = .ok (.aload_n 0, 1) := by decide +kernel
theorem dX7_ifMerged_52 : decode cX7_ifMerged 52 = .ok (.getfield 41, 3) := by decide +kernel
theorem dX7_ifMerged_55 : decode cX7_ifMerged 55 = .ok (.getfield 181, 3) := by decide +kernel
theorem dX7_ifMerged_58 : decode cX7_ifMerged 58 = .ok (.goto 10, 3) := by decide +kernel
theorem dX7_ifMerged_61 : decode cX7_ifMerged 61 = .ok (.aload_n 0, 1) := by decide +kernel
theorem dX7_ifMerged_62 : decode cX7_ifMerged 62 = .ok (.getfield 41, 3) := by decide +kernel
theorem dX7_ifMerged_65 : decode cX7_ifMerged 65 = .ok (.invokevirtual 190, 3) := by decide +kernel
theorem dX7_ifMerged_68 : decode cX7_ifMerged 68 = .ok (.ireturn, 1) := by decide +kernel
set_option maxRecDepth 20000 in
theorem ggX7_bestMerger_X5_earAt : GoodIn wsX7_bestMerger wsX5_earAt := goodIn_r _ [7, 8, 9, 140, 141, 142, 143, 144, 145] (by decide +kernel) (by decide +kernel)
set_option maxRecDepth 20000 in
theorem gX7_bestMerger_X5_earAt : GoodIn wsX7_bestMerger (wsV RX7 105 RX5 yX5_earAt wsX5_earAt) := goodIn_app (goodIn_of _ (by decide +kernel)) ggX7_bestMerger_X5_earAt
set_option maxRecDepth 20000 in
theorem ggX7_bestMerger_X7_isWithin : GoodIn wsX7_bestMerger wsX7_isWithin := goodIn_r _ [13] (by decide +kernel) (by decide +kernel)
set_option maxRecDepth 20000 in
theorem gX7_bestMerger_X7_isWithin : GoodIn wsX7_bestMerger (va_wsS RX7 62 yX7_isWithin wsX7_isWithin) := goodIn_app (goodIn_of _ (by decide +kernel)) ggX7_bestMerger_X7_isWithin
set_option maxRecDepth 20000 in
theorem ggX7_bestMerger_X2_lettersOf : GoodIn wsX7_bestMerger wsX2_lettersOf := goodIn_r _ [18, 19, 146, 147, 148, 149, 150, 151, 152, 153] (by decide +kernel) (by decide +kernel)
set_option maxRecDepth 20000 in
theorem gX7_bestMerger_X2_lettersOf : GoodIn wsX7_bestMerger (wsV RX7 152 RX2 yX2_lettersOf wsX2_lettersOf) := goodIn_app (goodIn_of _ (by decide +kernel)) ggX7_bestMerger_X2_lettersOf
set_option maxRecDepth 20000 in
theorem ggX7_bestMerger_X7_fillAsIfMerged : GoodIn wsX7_bestMerger wsX7_fillAsIfMerged := goodIn_r _ [23, 24, 2, 1, 25, 26, 27, 17, 28, 19, 29, 30, 31, 32, 33, 34, 35, 36, 37, 38, 39, 40, 41, 42, 43, 44, 45, 46, 47, 48, 49, 50, 51, 52, 53, 54, 55, 56, 57, 58, 59, 60, 61, 62, 63, 64, 65, 66, 67, 68, 69, 70, 71, 72, 73, 74, 75, 76, 77, 78, 79, 80, 81, 82, 83, 84, 85, 86, 87, 88, 89, 90, 91, 92, 93, 94, 95, 96, 97, 98, 99, 100, 101, 102, 130, 131, 132, 133, 134, 135, 136, 137, 138, 139, 146, 147, 148, 149, 150, 151, 152, 153, 140, 141, 142, 143, 144, 145, 154, 155, 156, 157, 158, 159, 160] (by decide +kernel) (by decide +kernel)
set_option maxRecDepth 20000 in
theorem gX7_bestMerger_X7_fillAsIfMerged : GoodIn wsX7_bestMerger (wsV RX7 237 RX7 yX7_fillAsIfMerged wsX7_fillAsIfMerged) := goodIn_app (goodIn_of _ (by decide +kernel)) ggX7_bestMerger_X7_fillAsIfMerged
set_option maxRecDepth 20000 in
theorem ggX7_bestMerger_X1_alikePairs : GoodIn wsX7_bestMerger wsX1_alikePairs := goodIn_r _ [106, 62, 107, 108, 109, 59, 110, 111, 112, 113, 114, 67, 115, 116, 117, 118, 69, 119, 120, 121, 122, 63, 68, 123, 124, 125, 126, 127, 128, 129, 154, 155, 156, 157, 158, 159, 160] (by decide +kernel) (by decide +kernel)
set_option maxRecDepth 20000 in
theorem gX7_bestMerger_X1_alikePairs : GoodIn wsX7_bestMerger (wsV RX7 190 RX1 yX1_alikePairs wsX1_alikePairs) := goodIn_app (goodIn_of _ (by decide +kernel)) ggX7_bestMerger_X1_alikePairs
theorem dX7_bestMerger_0 : decode cX7_bestMerger 0 = .ok (.aload_n 0, 1) := by decide +kernel
theorem dX7_bestMerger_1 : decode cX7_bestMerger 1 = .ok (.getfield 10, 3) := by decide +kernel
theorem dX7_bestMerger_4 : decode cX7_bestMerger 4 = .ok (.iload_n 1, 1) := by decide +kernel
theorem dX7_bestMerger_5 : decode cX7_bestMerger 5 = .ok (.invokevirtual 105, 3) := by decide +kernel
theorem dX7_bestMerger_8 : decode cX7_bestMerger 8 = .ok (.astore_n 3, 1) := by decide +kernel
theorem dX7_bestMerger_9 : decode cX7_bestMerger 9 = .ok (.aload_n 3, 1) := by decide +kernel
theorem dX7_bestMerger_10 : decode cX7_bestMerger 10 = .ok (.ifnonnull 5, 3) := by decide +kernel
theorem dX7_bestMerger_13 : decode cX7_bestMerger 13 = .ok (.iconst (-1), 1) := by decide +kernel
theorem dX7_bestMerger_14 : decode cX7_bestMerger 14 = .ok (.ireturn, 1) := by decide +kernel
theorem dX7_bestMerger_15 : decode cX7_bestMerger 15 = .ok (.iload_n 2, 1) := by decide +kernel
theorem dX7_bestMerger_16 : decode cX7_bestMerger 16 = .ok (.iconst 0, 1) := by decide +kernel
theorem dX7_bestMerger_17 : decode cX7_bestMerger 17 = .ok (.iconst 2, 1) := by decide +kernel
theorem dX7_bestMerger_18 : decode cX7_bestMerger 18 = .ok (.invokestatic 62, 3) := by decide +kernel
theorem dX7_bestMerger_21 : decode cX7_bestMerger 21 = .ok (.ifCond .ne 6, 3) := by decide +kernel
theorem dX7_bestMerger_24 : decode cX7_bestMerger 24 = .ok (.bipush (-2), 2) := by decide +kernel
theorem dX7_bestMerger_26 : decode cX7_bestMerger 26 = .ok (.ireturn, 1) := by decide +kernel
theorem dX7_bestMerger_27 : decode cX7_bestMerger 27 = .ok (.bipush (-6), 2) := by decide +kernel
theorem dX7_bestMerger_29 : decode cX7_bestMerger 29 = .ok (.istore 4, 2) := by decide +kernel
theorem dX7_bestMerger_31 : decode cX7_bestMerger 31 = .ok (.bipush (-6), 2) := by decide +kernel
theorem dX7_bestMerger_33 : decode cX7_bestMerger 33 = .ok (.istore 5, 2) := by decide +kernel
theorem dX7_bestMerger_35 : decode cX7_bestMerger 35 = .ok (.bipush (-6), 2) := by decide +kernel
theorem dX7_bestMerger_37 : decode cX7_bestMerger 37 = .ok (.istore 6, 2) := by decide +kernel
theorem dX7_bestMerger_39 : decode cX7_bestMerger 39 = .ok (.iconst 1, 1) := by decide +kernel
theorem dX7_bestMerger_40 : decode cX7_bestMerger 40 = .ok (.istore 7, 2) := by decide +kernel
theorem dX7_bestMerger_42 : decode cX7_bestMerger 42 = .ok (.iload 7, 2) := by decide +kernel
theorem dX7_bestMerger_44 : decode cX7_bestMerger 44 = .ok (.bipush 10, 2) := by decide +kernel
theorem dX7_bestMerger_46 : decode cX7_bestMerger 46 = .ok (.if_icmp .ge 99, 3) := by decide +kernel
theorem dX7_bestMerger_49 : decode cX7_bestMerger 49 = .ok (.aload_n 3, 1) := by decide +kernel
theorem dX7_bestMerger_50 : decode cX7_bestMerger 50 = .ok (.iload 7, 2) := by decide +kernel
theorem dX7_bestMerger_52 : decode cX7_bestMerger 52 = .ok (.invokevirtual 152, 3) := by decide +kernel
theorem dX7_bestMerger_55 : decode cX7_bestMerger 55 = .ok (.ifCond .ne 6, 3) := by decide +kernel
theorem dX7_bestMerger_58 : decode cX7_bestMerger 58 = .ok (.goto 81, 3) := by decide +kernel
theorem dX7_bestMerger_61 : decode cX7_bestMerger 61 = .ok (.iload 7, 2) := by decide +kernel
theorem dX7_bestMerger_63 : decode cX7_bestMerger 63 = .ok (.iconst 1, 1) := by decide +kernel
theorem dX7_bestMerger_64 : decode cX7_bestMerger 64 = .ok (.iadd, 1) := by decide +kernel
theorem dX7_bestMerger_65 : decode cX7_bestMerger 65 = .ok (.istore 8, 2) := by decide +kernel
theorem dX7_bestMerger_67 : decode cX7_bestMerger 67 = .ok (.iload 8, 2) := by decide +kernel
theorem dX7_bestMerger_69 : decode cX7_bestMerger 69 = .ok (.bipush 10, 2) := by decide +kernel
theorem dX7_bestMerger_71 : decode cX7_bestMerger 71 = .ok (.if_icmp .ge 68, 3) := by decide +kernel
theorem dX7_bestMerger_74 : decode cX7_bestMerger 74 = .ok (.aload_n 3, 1) := by decide +kernel
theorem dX7_bestMerger_75 : decode cX7_bestMerger 75 = .ok (.iload 8, 2) := by decide +kernel
theorem dX7_bestMerger_77 : decode cX7_bestMerger 77 = .ok (.invokevirtual 152, 3) := by decide +kernel
theorem dX7_bestMerger_80 : decode cX7_bestMerger 80 = .ok (.ifCond .ne 6, 3) := by decide +kernel
theorem dX7_bestMerger_83 : decode cX7_bestMerger 83 = .ok (.goto 50, 3) := by decide +kernel
theorem dX7_bestMerger_86 : decode cX7_bestMerger 86 = .ok (.aload_n 0, 1) := by decide +kernel
theorem dX7_bestMerger_87 : decode cX7_bestMerger 87 = .ok (.aload_n 3, 1) := by decide +kernel
theorem dX7_bestMerger_88 : decode cX7_bestMerger 88 = .ok (.iload 7, 2) := by decide +kernel
theorem dX7_bestMerger_90 : decode cX7_bestMerger 90 = .ok (.iload 8, 2) := by decide +kernel
theorem dX7_bestMerger_92 : decode cX7_bestMerger 92 = .ok (.invokevirtual 237, 3) := by decide +kernel
theorem dX7_bestMerger_95 : decode cX7_bestMerger 95 = .ok (.aload_n 0, 1) := by decide +kernel
theorem dX7_bestMerger_96 : decode cX7_bestMerger 96 = .ok (.getfield 41, 3) := by decide +kernel
theorem dX7_bestMerger_99 : decode cX7_bestMerger 99 = .ok (.invokevirtual 190, 3) := by decide +kernel
theorem dX7_bestMerger_102 : decode cX7_bestMerger 102 = .ok (.istore 9, 2) := by decide +kernel
theorem dX7_bestMerger_104 : decode cX7_bestMerger 104 = .ok (.iload 6, 2) := by decide +kernel
theorem dX7_bestMerger_106 : decode cX7_bestMerger 106 = .ok (.bipush (-6), 2) := by decide +kernel
theorem dX7_bestMerger_108 : decode cX7_bestMerger 108 = .ok (.if_icmp .eq 13, 3) := by decide +kernel
theorem dX7_bestMerger_111 : decode cX7_bestMerger 111 = .ok (.iload 9, 2) := by decide +kernel
theorem dX7_bestMerger_113 : decode cX7_bestMerger 113 = .ok (.iload 6, 2) := by decide +kernel
theorem dX7_bestMerger_115 : decode cX7_bestMerger 115 = .ok (.if_icmp .lt 6, 3) := by decide +kernel
theorem dX7_bestMerger_118 : decode cX7_bestMerger 118 = .ok (.goto 15, 3) := by decide +kernel
theorem dX7_bestMerger_121 : decode cX7_bestMerger 121 = .ok (.iload 7, 2) := by decide +kernel
theorem dX7_bestMerger_123 : decode cX7_bestMerger 123 = .ok (.istore 4, 2) := by decide +kernel
theorem dX7_bestMerger_125 : decode cX7_bestMerger 125 = .ok (.iload 8, 2) := by decide +kernel
theorem dX7_bestMerger_127 : decode cX7_bestMerger 127 = .ok (.istore 5, 2) := by decide +kernel
theorem dX7_bestMerger_129 : decode cX7_bestMerger 129 = .ok (.iload 9, 2) := by decide +kernel
theorem dX7_bestMerger_131 : decode cX7_bestMerger 131 = .ok (.istore 6, 2) := by decide +kernel
theorem dX7_bestMerger_133 : decode cX7_bestMerger 133 = .ok (.iinc 8 1, 3) := by decide +kernel
theorem dX7_bestMerger_136 : decode cX7_bestMerger 136 = .ok (.goto (-69), 3) := by decide +kernel
theorem dX7_bestMerger_139 : decode cX7_bestMerger 139 = .ok (.iinc 7 1, 3) := by decide +kernel
theorem dX7_bestMerger_142 : decode cX7_bestMerger 142 = .ok (.goto (-100), 3) := by decide +kernel
theorem dX7_bestMerger_145 : decode cX7_bestMerger 145 = .ok (.iload_n 2, 1) := by decide +kernel
theorem dX7_bestMerger_146 : decode cX7_bestMerger 146 = .ok (.lookupswitch 32 #[(0, 26), (1, 29)], 26) := by decide +kernel
theorem dX7_bestMerger_172 : decode cX7_bestMerger 172 = .ok (.iload 4, 2) := by decide +kernel
theorem dX7_bestMerger_174 : decode cX7_bestMerger 174 = .ok (.ireturn, 1) := by decide +kernel
theorem dX7_bestMerger_175 : decode cX7_bestMerger 175 = .ok (.iload 5, 2) := by decide +kernel
theorem dX7_bestMerger_177 : decode cX7_bestMerger 177 = .ok (.ireturn, 1) := by decide +kernel
theorem dX7_bestMerger_178 : decode cX7_bestMerger 178 = .ok (.iload 6, 2) := by decide +kernel
theorem dX7_bestMerger_180 : decode cX7_bestMerger 180 = .ok (.ireturn, 1) := by decide +kernel
set_option maxRecDepth 20000 in
theorem ggX7_quarrel_X5_earAt : GoodIn wsX7_quarrel wsX5_earAt := goodIn_r _ [9, 10, 11, 96, 97, 98, 99, 100, 101] (by decide +kernel) (by decide +kernel)
set_option maxRecDepth 20000 in
theorem gX7_quarrel_X5_earAt : GoodIn wsX7_quarrel (wsV RX7 105 RX5 yX5_earAt wsX5_earAt) := goodIn_app (goodIn_of _ (by decide +kernel)) ggX7_quarrel_X5_earAt
set_option maxRecDepth 20000 in
theorem ggX7_quarrel_X1_fill : GoodIn wsX7_quarrel wsX1_fill := goodIn_r _ [16, 17, 18, 19, 20, 21, 22, 23, 24, 25, 26, 27, 28, 29, 30, 31, 32, 33, 34, 35, 36, 37, 38, 39, 40, 41, 42, 43, 44, 45, 46, 47, 48, 49, 50, 51, 52, 53, 54, 55, 56, 57, 58, 59, 60, 15, 61, 62, 96, 97, 98, 99, 100, 101, 102, 103, 104, 105, 106, 107, 108, 109, 110, 111, 112, 113, 114, 115, 116] (by decide +kernel) (by decide +kernel)
set_option maxRecDepth 20000 in
theorem gX7_quarrel_X1_fill : GoodIn wsX7_quarrel (wsV RX7 177 RX1 yX1_fill wsX1_fill) := goodIn_app (goodIn_of _ (by decide +kernel)) ggX7_quarrel_X1_fill
set_option maxRecDepth 20000 in
theorem ggX7_quarrel_X1_namesLike : GoodIn wsX7_quarrel wsX1_namesLike := goodIn_r _ [66, 67, 68, 69, 15, 70, 18, 23, 71, 72, 73, 74, 25, 75, 76, 77, 78, 19, 24, 102, 103, 104, 105, 106, 107, 108] (by decide +kernel) (by decide +kernel)
set_option maxRecDepth 20000 in
theorem gX7_quarrel_X1_namesLike : GoodIn wsX7_quarrel (wsV RX7 222 RX1 yX1_namesLike wsX1_namesLike) := goodIn_app (goodIn_of _ (by decide +kernel)) ggX7_quarrel_X1_namesLike
set_option maxRecDepth 20000 in
theorem ggX7_quarrel_J6_bitCount_0f7a4 : GoodIn wsX7_quarrel wsJ6_bitCount_0f7a4 := goodIn_r _ [82, 83, 84, 85] (by decide +kernel) (by decide +kernel)
set_option maxRecDepth 20000 in
theorem gX7_quarrel_J6_bitCount_0f7a4 : GoodIn wsX7_quarrel (va_wsS RX7 156 yJ6_bitCount_0f7a4 wsJ6_bitCount_0f7a4) := goodIn_app (goodIn_of _ (by decide +kernel)) ggX7_quarrel_J6_bitCount_0f7a4
theorem dX7_quarrel_0 : decode cX7_quarrel 0 = .ok (.aload_n 0, 1) := by decide +kernel
theorem dX7_quarrel_1 : decode cX7_quarrel 1 = .ok (.getfield 10, 3) := by decide +kernel
theorem dX7_quarrel_4 : decode cX7_quarrel 4 = .ok (.iload_n 1, 1) := by decide +kernel
theorem dX7_quarrel_5 : decode cX7_quarrel 5 = .ok (.invokevirtual 105, 3) := by decide +kernel
theorem dX7_quarrel_8 : decode cX7_quarrel 8 = .ok (.astore_n 3, 1) := by decide +kernel
theorem dX7_quarrel_9 : decode cX7_quarrel 9 = .ok (.aload_n 0, 1) := by decide +kernel
theorem dX7_quarrel_10 : decode cX7_quarrel 10 = .ok (.getfield 10, 3) := by decide +kernel
theorem dX7_quarrel_13 : decode cX7_quarrel 13 = .ok (.iload_n 2, 1) := by decide +kernel
theorem dX7_quarrel_14 : decode cX7_quarrel 14 = .ok (.invokevirtual 105, 3) := by decide +kernel
theorem dX7_quarrel_17 : decode cX7_quarrel 17 = .ok (.astore 4, 2) := by decide +kernel
theorem dX7_quarrel_19 : decode cX7_quarrel 19 = .ok (.aload_n 3, 1) := by decide +kernel
theorem dX7_quarrel_20 : decode cX7_quarrel 20 = .ok (.ifnull 8, 3) := by decide +kernel
theorem dX7_quarrel_23 : decode cX7_quarrel 23 = .ok (.aload 4, 2) := by decide +kernel
theorem dX7_quarrel_25 : decode cX7_quarrel 25 = .ok (.ifnonnull 5, 3) := by decide +kernel
theorem dX7_quarrel_28 : decode cX7_quarrel 28 = .ok (.iconst (-1), 1) := by decide +kernel
theorem dX7_quarrel_29 : decode cX7_quarrel 29 = .ok (.ireturn, 1) := by decide +kernel
theorem dX7_quarrel_30 : decode cX7_quarrel 30 = .ok (.aload_n 0, 1) := by decide +kernel
theorem dX7_quarrel_31 : decode cX7_quarrel 31 = .ok (.getfield 41, 3) := by decide +kernel
theorem dX7_quarrel_34 : decode cX7_quarrel 34 = .ok (.aload_n 0, 1) := by decide +kernel
theorem dX7_quarrel_35 : decode cX7_quarrel 35 = .ok (.getfield 10, 3) := by decide +kernel
theorem dX7_quarrel_38 : decode cX7_quarrel 38 = .ok (.aload_n 3, 1) := by decide +kernel
theorem dX7_quarrel_39 : decode cX7_quarrel 39 = .ok (.invokevirtual 177, 3) := by decide +kernel
theorem dX7_quarrel_42 : decode cX7_quarrel 42 = .ok (.aload_n 0, 1) := by decide +kernel
theorem dX7_quarrel_43 : decode cX7_quarrel 43 = .ok (.getfield 45, 3) := by decide +kernel
theorem dX7_quarrel_46 : decode cX7_quarrel 46 = .ok (.aload_n 0, 1) := by decide +kernel
theorem dX7_quarrel_47 : decode cX7_quarrel 47 = .ok (.getfield 10, 3) := by decide +kernel
theorem dX7_quarrel_50 : decode cX7_quarrel 50 = .ok (.aload 4, 2) := by decide +kernel
theorem dX7_quarrel_52 : decode cX7_quarrel 52 = .ok (.invokevirtual 177, 3) := by decide +kernel
theorem dX7_quarrel_55 : decode cX7_quarrel 55 = .ok (.iconst 0, 1) := by decide +kernel
theorem dX7_quarrel_56 : decode cX7_quarrel 56 = .ok (.istore 5, 2) := by decide +kernel
theorem dX7_quarrel_58 : decode cX7_quarrel 58 = .ok (.iconst 0, 1) := by decide +kernel
theorem dX7_quarrel_59 : decode cX7_quarrel 59 = .ok (.istore 6, 2) := by decide +kernel
theorem dX7_quarrel_61 : decode cX7_quarrel 61 = .ok (.iload 6, 2) := by decide +kernel
theorem dX7_quarrel_63 : decode cX7_quarrel 63 = .ok (.aload_n 0, 1) := by decide +kernel
theorem dX7_quarrel_64 : decode cX7_quarrel 64 = .ok (.getfield 10, 3) := by decide +kernel
theorem dX7_quarrel_67 : decode cX7_quarrel 67 = .ok (.getfield 87, 3) := by decide +kernel
theorem dX7_quarrel_70 : decode cX7_quarrel 70 = .ok (.if_icmp .ge 38, 3) := by decide +kernel
theorem dX7_quarrel_73 : decode cX7_quarrel 73 = .ok (.iload 5, 2) := by decide +kernel
theorem dX7_quarrel_75 : decode cX7_quarrel 75 = .ok (.aload_n 0, 1) := by decide +kernel
theorem dX7_quarrel_76 : decode cX7_quarrel 76 = .ok (.getfield 41, 3) := by decide +kernel
theorem dX7_quarrel_79 : decode cX7_quarrel 79 = .ok (.iload 6, 2) := by decide +kernel
theorem dX7_quarrel_81 : decode cX7_quarrel 81 = .ok (.invokevirtual 222, 3) := by decide +kernel
theorem dX7_quarrel_84 : decode cX7_quarrel 84 = .ok (.aload_n 0, 1) := by decide +kernel
theorem dX7_quarrel_85 : decode cX7_quarrel 85 = .ok (.getfield 45, 3) := by decide +kernel
theorem dX7_quarrel_88 : decode cX7_quarrel 88 = .ok (.iload 6, 2) := by decide +kernel
theorem dX7_quarrel_90 : decode cX7_quarrel 90 = .ok (.invokevirtual 222, 3) := by decide +kernel
theorem dX7_quarrel_93 : decode cX7_quarrel 93 = .ok (.iconst (-1), 1) := by decide +kernel
theorem dX7_quarrel_94 : decode cX7_quarrel 94 = .ok (.ixor, 1) := by decide +kernel
theorem dX7_quarrel_95 : decode cX7_quarrel 95 = .ok (.iand, 1) := by decide +kernel
theorem dX7_quarrel_96 : decode cX7_quarrel 96 = .ok (.invokestatic 156, 3) := by decide +kernel
theorem dX7_quarrel_99 : decode cX7_quarrel 99 = .ok (.iadd, 1) := by decide +kernel
theorem dX7_quarrel_100 : decode cX7_quarrel 100 = .ok (.istore 5, 2) := by decide +kernel
theorem dX7_quarrel_102 : decode cX7_quarrel 102 = .ok (.iinc 6 1, 3) := by decide +kernel
theorem dX7_quarrel_105 : decode cX7_quarrel 105 = .ok (.goto (-44), 3) := by decide +kernel
theorem dX7_quarrel_108 : decode cX7_quarrel 108 = .ok (.iload 5, 2) := by decide +kernel
theorem dX7_quarrel_110 : decode cX7_quarrel 110 = .ok (.iconst 2, 1) := by decide +kernel
theorem dX7_quarrel_111 : decode cX7_quarrel 111 = .ok (.idiv, 1) := by decide +kernel
theorem dX7_quarrel_112 : decode cX7_quarrel 112 = .ok (.ireturn, 1) := by decide +kernel
set_option maxRecDepth 20000 in
theorem ggX7_deafest_X5_earAt : GoodIn wsX7_deafest wsX5_earAt := goodIn_r _ [8, 9, 10, 99, 100, 101, 102, 103, 104] (by decide +kernel) (by decide +kernel)
set_option maxRecDepth 20000 in
theorem gX7_deafest_X5_earAt : GoodIn wsX7_deafest (wsV RX7 105 RX5 yX5_earAt wsX5_earAt) := goodIn_app (goodIn_of _ (by decide +kernel)) ggX7_deafest_X5_earAt
set_option maxRecDepth 20000 in
theorem ggX7_deafest_X1_fill : GoodIn wsX7_deafest wsX1_fill := goodIn_r _ [15, 16, 17, 18, 19, 20, 21, 22, 23, 24, 25, 26, 27, 28, 29, 30, 31, 32, 33, 34, 35, 36, 37, 38, 39, 40, 41, 42, 43, 44, 45, 46, 47, 48, 49, 50, 51, 52, 53, 54, 55, 56, 57, 58, 59, 14, 60, 61, 99, 100, 101, 102, 103, 104, 105, 106, 107, 108, 109, 110, 111, 112, 113, 114, 115, 116, 117, 118, 119] (by decide +kernel) (by decide +kernel)
set_option maxRecDepth 20000 in
theorem gX7_deafest_X1_fill : GoodIn wsX7_deafest (wsV RX7 177 RX1 yX1_fill wsX1_fill) := goodIn_app (goodIn_of _ (by decide +kernel)) ggX7_deafest_X1_fill
set_option maxRecDepth 20000 in
theorem ggX7_deafest_X1_alikePairs : GoodIn wsX7_deafest wsX1_alikePairs := goodIn_r _ [65, 17, 66, 67, 68, 14, 69, 70, 71, 72, 73, 22, 74, 75, 76, 77, 24, 78, 79, 80, 81, 18, 23, 82, 83, 84, 85, 86, 87, 88, 105, 106, 107, 108, 109, 110, 111] (by decide +kernel) (by decide +kernel)
set_option maxRecDepth 20000 in
theorem gX7_deafest_X1_alikePairs : GoodIn wsX7_deafest (wsV RX7 190 RX1 yX1_alikePairs wsX1_alikePairs) := goodIn_app (goodIn_of _ (by decide +kernel)) ggX7_deafest_X1_alikePairs
theorem dX7_deafest_0 : decode cX7_deafest 0 = .ok (.bipush (-6), 2) := by decide +kernel
theorem dX7_deafest_2 : decode cX7_deafest 2 = .ok (.istore_n 1, 1) := by decide +kernel
theorem dX7_deafest_3 : decode cX7_deafest 3 = .ok (.bipush (-6), 2) := by decide +kernel
theorem dX7_deafest_5 : decode cX7_deafest 5 = .ok (.istore_n 2, 1) := by decide +kernel
theorem dX7_deafest_6 : decode cX7_deafest 6 = .ok (.iconst 0, 1) := by decide +kernel
theorem dX7_deafest_7 : decode cX7_deafest 7 = .ok (.istore_n 3, 1) := by decide +kernel
theorem dX7_deafest_8 : decode cX7_deafest 8 = .ok (.iload_n 3, 1) := by decide +kernel
theorem dX7_deafest_9 : decode cX7_deafest 9 = .ok (.aload_n 0, 1) := by decide +kernel
theorem dX7_deafest_10 : decode cX7_deafest 10 = .ok (.getfield 10, 3) := by decide +kernel
theorem dX7_deafest_13 : decode cX7_deafest 13 = .ok (.getfield 109, 3) := by decide +kernel
theorem dX7_deafest_16 : decode cX7_deafest 16 = .ok (.if_icmp .ge 60, 3) := by decide +kernel
theorem dX7_deafest_19 : decode cX7_deafest 19 = .ok (.aload_n 0, 1) := by decide +kernel
theorem dX7_deafest_20 : decode cX7_deafest 20 = .ok (.getfield 10, 3) := by decide +kernel
theorem dX7_deafest_23 : decode cX7_deafest 23 = .ok (.iload_n 3, 1) := by decide +kernel
theorem dX7_deafest_24 : decode cX7_deafest 24 = .ok (.invokevirtual 105, 3) := by decide +kernel
theorem dX7_deafest_27 : decode cX7_deafest 27 = .ok (.astore 4, 2) := by decide +kernel
theorem dX7_deafest_29 : decode cX7_deafest 29 = .ok (.aload 4, 2) := by decide +kernel
theorem dX7_deafest_31 : decode cX7_deafest 31 = .ok (.ifnonnull 6, 3) := by decide +kernel
theorem dX7_deafest_34 : decode cX7_deafest 34 = .ok (.goto 36, 3) := by decide +kernel
theorem dX7_deafest_37 : decode cX7_deafest 37 = .ok (.aload_n 0, 1) := by decide +kernel
theorem dX7_deafest_38 : decode cX7_deafest 38 = .ok (.getfield 41, 3) := by decide +kernel
theorem dX7_deafest_41 : decode cX7_deafest 41 = .ok (.aload_n 0, 1) := by decide +kernel
theorem dX7_deafest_42 : decode cX7_deafest 42 = .ok (.getfield 10, 3) := by decide +kernel
theorem dX7_deafest_45 : decode cX7_deafest 45 = .ok (.aload 4, 2) := by decide +kernel
theorem dX7_deafest_47 : decode cX7_deafest 47 = .ok (.invokevirtual 177, 3) := by decide +kernel
theorem dX7_deafest_50 : decode cX7_deafest 50 = .ok (.aload_n 0, 1) := by decide +kernel
theorem dX7_deafest_51 : decode cX7_deafest 51 = .ok (.getfield 41, 3) := by decide +kernel
theorem dX7_deafest_54 : decode cX7_deafest 54 = .ok (.invokevirtual 190, 3) := by decide +kernel
theorem dX7_deafest_57 : decode cX7_deafest 57 = .ok (.istore 5, 2) := by decide +kernel
theorem dX7_deafest_59 : decode cX7_deafest 59 = .ok (.iload 5, 2) := by decide +kernel
theorem dX7_deafest_61 : decode cX7_deafest 61 = .ok (.iload_n 2, 1) := by decide +kernel
theorem dX7_deafest_62 : decode cX7_deafest 62 = .ok (.if_icmp .le 8, 3) := by decide +kernel
theorem dX7_deafest_65 : decode cX7_deafest 65 = .ok (.iload_n 3, 1) := by decide +kernel
theorem dX7_deafest_66 : decode cX7_deafest 66 = .ok (.istore_n 1, 1) := by decide +kernel
theorem dX7_deafest_67 : decode cX7_deafest 67 = .ok (.iload 5, 2) := by decide +kernel
theorem dX7_deafest_69 : decode cX7_deafest 69 = .ok (.istore_n 2, 1) := by decide +kernel
theorem dX7_deafest_70 : decode cX7_deafest 70 = .ok (.iinc 3 1, 3) := by decide +kernel
theorem dX7_deafest_73 : decode cX7_deafest 73 = .ok (.goto (-65), 3) := by decide +kernel
theorem dX7_deafest_76 : decode cX7_deafest 76 = .ok (.iload_n 1, 1) := by decide +kernel
theorem dX7_deafest_77 : decode cX7_deafest 77 = .ok (.ireturn, 1) := by decide +kernel
set_option maxRecDepth 20000 in
theorem ggX7_put_X4_charactersIn : GoodIn wsX7_put wsX4_charactersIn := goodIn_r _ [6, 7, 8, 9] (by decide +kernel) (by decide +kernel)
set_option maxRecDepth 20000 in
theorem gX7_put_X4_charactersIn : GoodIn wsX7_put (va_wsS RX7 241 yX4_charactersIn wsX4_charactersIn) := goodIn_app (goodIn_of _ (by decide +kernel)) ggX7_put_X4_charactersIn
set_option maxRecDepth 20000 in
theorem ggX7_put_X4_append : GoodIn wsX7_put wsX4_append := goodIn_r _ [13, 14, 15, 7, 26, 27] (by decide +kernel) (by decide +kernel)
set_option maxRecDepth 20000 in
theorem gX7_put_X4_append : GoodIn wsX7_put (wsV RX7 244 RX4 yX4_append wsX4_append) := goodIn_app (goodIn_of _ (by decide +kernel)) ggX7_put_X4_append
theorem dX7_put_0 : decode cX7_put 0 = .ok (.lload_n 1, 1) := by decide +kernel
theorem dX7_put_1 : decode cX7_put 1 = .ok (.invokestatic 241, 3) := by decide +kernel
theorem dX7_put_4 : decode cX7_put 4 = .ok (.istore_n 3, 1) := by decide +kernel
theorem dX7_put_5 : decode cX7_put 5 = .ok (.iload_n 3, 1) := by decide +kernel
theorem dX7_put_6 : decode cX7_put 6 = .ok (.ifCond .ne 6, 3) := by decide +kernel
theorem dX7_put_9 : decode cX7_put 9 = .ok (.bipush (-2), 2) := by decide +kernel
theorem dX7_put_11 : decode cX7_put 11 = .ok (.ireturn, 1) := by decide +kernel
theorem dX7_put_12 : decode cX7_put 12 = .ok (.aload_n 0, 1) := by decide +kernel
theorem dX7_put_13 : decode cX7_put 13 = .ok (.getfield 34, 3) := by decide +kernel
theorem dX7_put_16 : decode cX7_put 16 = .ok (.getfield 94, 3) := by decide +kernel
theorem dX7_put_19 : decode cX7_put 19 = .ok (.iload_n 3, 1) := by decide +kernel
theorem dX7_put_20 : decode cX7_put 20 = .ok (.iadd, 1) := by decide +kernel
theorem dX7_put_21 : decode cX7_put 21 = .ok (.bipush 80, 2) := by decide +kernel
theorem dX7_put_23 : decode cX7_put 23 = .ok (.if_icmp .le 6, 3) := by decide +kernel
theorem dX7_put_26 : decode cX7_put 26 = .ok (.bipush (-4), 2) := by decide +kernel
theorem dX7_put_28 : decode cX7_put 28 = .ok (.ireturn, 1) := by decide +kernel
theorem dX7_put_29 : decode cX7_put 29 = .ok (.aload_n 0, 1) := by decide +kernel
theorem dX7_put_30 : decode cX7_put 30 = .ok (.getfield 34, 3) := by decide +kernel
theorem dX7_put_33 : decode cX7_put 33 = .ok (.lload_n 1, 1) := by decide +kernel
theorem dX7_put_34 : decode cX7_put 34 = .ok (.iload_n 3, 1) := by decide +kernel
theorem dX7_put_35 : decode cX7_put 35 = .ok (.invokevirtual 244, 3) := by decide +kernel
theorem dX7_put_38 : decode cX7_put 38 = .ok (.aload_n 0, 1) := by decide +kernel
theorem dX7_put_39 : decode cX7_put 39 = .ok (.getfield 34, 3) := by decide +kernel
theorem dX7_put_42 : decode cX7_put 42 = .ok (.getfield 94, 3) := by decide +kernel
theorem dX7_put_45 : decode cX7_put 45 = .ok (.ireturn, 1) := by decide +kernel
theorem dX7_wipe_0 : decode cX7_wipe 0 = .ok (.aload_n 0, 1) := by decide +kernel
theorem dX7_wipe_1 : decode cX7_wipe 1 = .ok (.getfield 34, 3) := by decide +kernel
theorem dX7_wipe_4 : decode cX7_wipe 4 = .ok (.getfield 94, 3) := by decide +kernel
theorem dX7_wipe_7 : decode cX7_wipe 7 = .ok (.istore_n 1, 1) := by decide +kernel
theorem dX7_wipe_8 : decode cX7_wipe 8 = .ok (.aload_n 0, 1) := by decide +kernel
theorem dX7_wipe_9 : decode cX7_wipe 9 = .ok (.getfield 34, 3) := by decide +kernel
theorem dX7_wipe_12 : decode cX7_wipe 12 = .ok (.iconst 0, 1) := by decide +kernel
theorem dX7_wipe_13 : decode cX7_wipe 13 = .ok (.putfield 94, 3) := by decide +kernel
theorem dX7_wipe_16 : decode cX7_wipe 16 = .ok (.iload_n 1, 1) := by decide +kernel
theorem dX7_wipe_17 : decode cX7_wipe 17 = .ok (.ireturn, 1) := by decide +kernel
set_option maxRecDepth 20000 in
theorem ggX7_fault_X4_firstFault : GoodIn wsX7_fault wsX4_firstFault := goodIn_r _ [6, 7, 8, 19, 20] (by decide +kernel) (by decide +kernel)
set_option maxRecDepth 20000 in
theorem gX7_fault_X4_firstFault : GoodIn wsX7_fault (wsV RX7 75 RX4 yX4_firstFault wsX4_firstFault) := goodIn_app (goodIn_of _ (by decide +kernel)) ggX7_fault_X4_firstFault
theorem dX7_fault_0 : decode cX7_fault 0 = .ok (.aload_n 0, 1) := by decide +kernel
theorem dX7_fault_1 : decode cX7_fault 1 = .ok (.getfield 34, 3) := by decide +kernel
theorem dX7_fault_4 : decode cX7_fault 4 = .ok (.invokevirtual 75, 3) := by decide +kernel
theorem dX7_fault_7 : decode cX7_fault 7 = .ok (.ireturn, 1) := by decide +kernel
set_option maxRecDepth 20000 in
theorem ggX7_undo_X5_beAs : GoodIn wsX7_undo wsX5_beAs := goodIn_r _ [8, 9, 10, 11, 12, 13, 14, 15, 16, 17, 18, 19, 20, 21, 22, 23, 24, 25, 26, 27, 28, 29, 30, 31, 32, 43, 44, 45, 46, 47, 48, 49, 50, 51, 52, 53, 54, 55, 56] (by decide +kernel) (by decide +kernel)
set_option maxRecDepth 20000 in
theorem gX7_undo_X5_beAs : GoodIn wsX7_undo (wsV RX7 248 RX5 yX5_beAs wsX5_beAs) := goodIn_app (goodIn_of _ (by decide +kernel)) ggX7_undo_X5_beAs
theorem dX7_undo_0 : decode cX7_undo 0 = .ok (.aload_n 0, 1) := by decide +kernel
theorem dX7_undo_1 : decode cX7_undo 1 = .ok (.getfield 20, 3) := by decide +kernel
theorem dX7_undo_4 : decode cX7_undo 4 = .ok (.ifCond .le 15, 3) := by decide +kernel
theorem dX7_undo_7 : decode cX7_undo 7 = .ok (.aload_n 0, 1) := by decide +kernel
theorem dX7_undo_8 : decode cX7_undo 8 = .ok (.getfield 20, 3) := by decide +kernel
theorem dX7_undo_11 : decode cX7_undo 11 = .ok (.aload_n 0, 1) := by decide +kernel
theorem dX7_undo_12 : decode cX7_undo 12 = .ok (.getfield 16, 3) := by decide +kernel
theorem dX7_undo_15 : decode cX7_undo 15 = .ok (.arraylength, 1) := by decide +kernel
theorem dX7_undo_16 : decode cX7_undo 16 = .ok (.if_icmp .le 6, 3) := by decide +kernel
theorem dX7_undo_19 : decode cX7_undo 19 = .ok (.bipush (-5), 2) := by decide +kernel
theorem dX7_undo_21 : decode cX7_undo 21 = .ok (.ireturn, 1) := by decide +kernel
theorem dX7_undo_22 : decode cX7_undo 22 = .ok (.aload_n 0, 1) := by decide +kernel
theorem dX7_undo_23 : decode cX7_undo 23 = .ok (.dup, 1) := by decide +kernel
theorem dX7_undo_24 : decode cX7_undo 24 = .ok (.getfield 20, 3) := by decide +kernel
theorem dX7_undo_27 : decode cX7_undo 27 = .ok (.iconst 1, 1) := by decide +kernel
theorem dX7_undo_28 : decode cX7_undo 28 = .ok (.isub, 1) := by decide +kernel
theorem dX7_undo_29 : decode cX7_undo 29 = .ok (.putfield 20, 3) := by decide +kernel
theorem dX7_undo_32 : decode cX7_undo 32 = .ok (.aload_n 0, 1) := by decide +kernel
theorem dX7_undo_33 : decode cX7_undo 33 = .ok (.getfield 10, 3) := by decide +kernel
theorem dX7_undo_36 : decode cX7_undo 36 = .ok (.aload_n 0, 1) := by decide +kernel
theorem dX7_undo_37 : decode cX7_undo 37 = .ok (.getfield 16, 3) := by decide +kernel
theorem dX7_undo_40 : decode cX7_undo 40 = .ok (.aload_n 0, 1) := by decide +kernel
theorem dX7_undo_41 : decode cX7_undo 41 = .ok (.getfield 20, 3) := by decide +kernel
theorem dX7_undo_44 : decode cX7_undo 44 = .ok (.aaload, 1) := by decide +kernel
theorem dX7_undo_45 : decode cX7_undo 45 = .ok (.invokevirtual 248, 3) := by decide +kernel
theorem dX7_undo_48 : decode cX7_undo 48 = .ok (.aload_n 0, 1) := by decide +kernel
theorem dX7_undo_49 : decode cX7_undo 49 = .ok (.getfield 20, 3) := by decide +kernel
theorem dX7_undo_52 : decode cX7_undo 52 = .ok (.ireturn, 1) := by decide +kernel
set_option maxRecDepth 20000 in
theorem ggX7_save_X7_isWithin : GoodIn wsX7_save wsX7_isWithin := goodIn_r _ [8] (by decide +kernel) (by decide +kernel)
set_option maxRecDepth 20000 in
theorem gX7_save_X7_isWithin : GoodIn wsX7_save (va_wsS RX7 62 yX7_isWithin wsX7_isWithin) := goodIn_app (goodIn_of _ (by decide +kernel)) ggX7_save_X7_isWithin
set_option maxRecDepth 20000 in
theorem ggX7_save_X5_beAs : GoodIn wsX7_save wsX5_beAs := goodIn_r _ [13, 14, 15, 16, 17, 18, 19, 20, 21, 22, 23, 24, 25, 26, 27, 28, 29, 30, 31, 32, 33, 34, 35, 36, 37, 48, 49, 50, 51, 52, 53, 54, 55, 56, 57, 58, 59, 60, 61] (by decide +kernel) (by decide +kernel)
set_option maxRecDepth 20000 in
theorem gX7_save_X5_beAs : GoodIn wsX7_save (wsV RX7 248 RX5 yX5_beAs wsX5_beAs) := goodIn_app (goodIn_of _ (by decide +kernel)) ggX7_save_X5_beAs
theorem dX7_save_0 : decode cX7_save 0 = .ok (.iload_n 1, 1) := by decide +kernel
theorem dX7_save_1 : decode cX7_save 1 = .ok (.iconst 0, 1) := by decide +kernel
theorem dX7_save_2 : decode cX7_save 2 = .ok (.iconst 1, 1) := by decide +kernel
theorem dX7_save_3 : decode cX7_save 3 = .ok (.invokestatic 62, 3) := by decide +kernel
theorem dX7_save_6 : decode cX7_save 6 = .ok (.ifCond .ne 6, 3) := by decide +kernel
theorem dX7_save_9 : decode cX7_save 9 = .ok (.bipush (-2), 2) := by decide +kernel
theorem dX7_save_11 : decode cX7_save 11 = .ok (.ireturn, 1) := by decide +kernel
theorem dX7_save_12 : decode cX7_save 12 = .ok (.aload_n 0, 1) := by decide +kernel
theorem dX7_save_13 : decode cX7_save 13 = .ok (.getfield 24, 3) := by decide +kernel
theorem dX7_save_16 : decode cX7_save 16 = .ok (.iload_n 1, 1) := by decide +kernel
theorem dX7_save_17 : decode cX7_save 17 = .ok (.aaload, 1) := by decide +kernel
theorem dX7_save_18 : decode cX7_save 18 = .ok (.aload_n 0, 1) := by decide +kernel
theorem dX7_save_19 : decode cX7_save 19 = .ok (.getfield 10, 3) := by decide +kernel
theorem dX7_save_22 : decode cX7_save 22 = .ok (.invokevirtual 248, 3) := by decide +kernel
theorem dX7_save_25 : decode cX7_save 25 = .ok (.aload_n 0, 1) := by decide +kernel
theorem dX7_save_26 : decode cX7_save 26 = .ok (.getfield 27, 3) := by decide +kernel
theorem dX7_save_29 : decode cX7_save 29 = .ok (.iload_n 1, 1) := by decide +kernel
theorem dX7_save_30 : decode cX7_save 30 = .ok (.iconst 1, 1) := by decide +kernel
theorem dX7_save_31 : decode cX7_save 31 = .ok (.bastore, 1) := by decide +kernel
theorem dX7_save_32 : decode cX7_save 32 = .ok (.aload_n 0, 1) := by decide +kernel
theorem dX7_save_33 : decode cX7_save 33 = .ok (.getfield 10, 3) := by decide +kernel
theorem dX7_save_36 : decode cX7_save 36 = .ok (.getfield 87, 3) := by decide +kernel
theorem dX7_save_39 : decode cX7_save 39 = .ok (.ireturn, 1) := by decide +kernel
set_option maxRecDepth 20000 in
theorem ggX7_restore_X7_isWithin : GoodIn wsX7_restore wsX7_isWithin := goodIn_r _ [8] (by decide +kernel) (by decide +kernel)
set_option maxRecDepth 20000 in
theorem gX7_restore_X7_isWithin : GoodIn wsX7_restore (va_wsS RX7 62 yX7_isWithin wsX7_isWithin) := goodIn_app (goodIn_of _ (by decide +kernel)) ggX7_restore_X7_isWithin
set_option maxRecDepth 20000 in
theorem ggX7_restore_X7_recordChange : GoodIn wsX7_restore wsX7_recordChange := goodIn_r _ [12, 13, 14, 2, 15, 16, 17, 18, 19, 20, 21, 22, 23, 24, 25, 26, 27, 28, 29, 30, 31, 32, 33, 34, 35, 36, 37, 38, 39, 40, 41, 42, 43, 44, 45, 46, 47, 48, 49, 50, 51, 52, 53, 54, 55, 56, 57, 58, 59, 60, 61, 62, 63, 64, 65, 66, 67] (by decide +kernel) (by decide +kernel)
set_option maxRecDepth 20000 in
theorem gX7_restore_X7_recordChange : GoodIn wsX7_restore (wsV RX7 69 RX7 yX7_recordChange wsX7_recordChange) := goodIn_app (goodIn_of _ (by decide +kernel)) ggX7_restore_X7_recordChange
set_option maxRecDepth 20000 in
theorem ggX7_restore_X5_beAs : GoodIn wsX7_restore wsX5_beAs := goodIn_r _ [19, 20, 21, 22, 23, 24, 25, 26, 27, 28, 29, 30, 31, 32, 33, 34, 35, 36, 37, 38, 39, 40, 41, 42, 43, 54, 55, 56, 57, 58, 59, 60, 61, 62, 63, 64, 65, 66, 67] (by decide +kernel) (by decide +kernel)
set_option maxRecDepth 20000 in
theorem gX7_restore_X5_beAs : GoodIn wsX7_restore (wsV RX7 248 RX5 yX5_beAs wsX5_beAs) := goodIn_app (goodIn_of _ (by decide +kernel)) ggX7_restore_X5_beAs
theorem dX7_restore_0 : decode cX7_restore 0 = .ok (.iload_n 1, 1) := by decide +kernel
theorem dX7_restore_1 : decode cX7_restore 1 = .ok (.iconst 0, 1) := by decide +kernel
theorem dX7_restore_2 : decode cX7_restore 2 = .ok (.iconst 1, 1) := by decide +kernel
theorem dX7_restore_3 : decode cX7_restore 3 = .ok (.invokestatic 62, 3) := by decide +kernel
theorem dX7_restore_6 : decode cX7_restore 6 = .ok (.ifCond .ne 6, 3) := by decide +kernel
theorem dX7_restore_9 : decode cX7_restore 9 = .ok (.bipush (-2), 2) := by decide +kernel
theorem dX7_restore_11 : decode cX7_restore 11 = .ok (.ireturn, 1) := by decide +kernel
theorem dX7_restore_12 : decode cX7_restore 12 = .ok (.aload_n 0, 1) := by decide +kernel
theorem dX7_restore_13 : decode cX7_restore 13 = .ok (.getfield 27, 3) := by decide +kernel
theorem dX7_restore_16 : decode cX7_restore 16 = .ok (.iload_n 1, 1) := by decide +kernel
theorem dX7_restore_17 : decode cX7_restore 17 = .ok (.baload, 1) := by decide +kernel
theorem dX7_restore_18 : decode cX7_restore 18 = .ok (.ifCond .ne 6, 3) := by decide +kernel
theorem dX7_restore_21 : decode cX7_restore 21 = .ok (.bipush (-5), 2) := by decide +kernel
theorem dX7_restore_23 : decode cX7_restore 23 = .ok (.ireturn, 1) := by decide +kernel
theorem dX7_restore_24 : decode cX7_restore 24 = .ok (.aload_n 0, 1) := by decide +kernel
theorem dX7_restore_25 : decode cX7_restore 25 = .ok (.invokevirtual 69, 3) := by decide +kernel
theorem dX7_restore_28 : decode cX7_restore 28 = .ok (.aload_n 0, 1) := by decide +kernel
theorem dX7_restore_29 : decode cX7_restore 29 = .ok (.getfield 10, 3) := by decide +kernel
theorem dX7_restore_32 : decode cX7_restore 32 = .ok (.aload_n 0, 1) := by decide +kernel
theorem dX7_restore_33 : decode cX7_restore 33 = .ok (.getfield 24, 3) := by decide +kernel
theorem dX7_restore_36 : decode cX7_restore 36 = .ok (.iload_n 1, 1) := by decide +kernel
theorem dX7_restore_37 : decode cX7_restore 37 = .ok (.aaload, 1) := by decide +kernel
theorem dX7_restore_38 : decode cX7_restore 38 = .ok (.invokevirtual 248, 3) := by decide +kernel
theorem dX7_restore_41 : decode cX7_restore 41 = .ok (.aload_n 0, 1) := by decide +kernel
theorem dX7_restore_42 : decode cX7_restore 42 = .ok (.getfield 10, 3) := by decide +kernel
theorem dX7_restore_45 : decode cX7_restore 45 = .ok (.getfield 87, 3) := by decide +kernel
theorem dX7_restore_48 : decode cX7_restore 48 = .ok (.ireturn, 1) := by decide +kernel
theorem dX7_isWithin_0 : decode cX7_isWithin 0 = .ok (.iload_n 0, 1) := by decide +kernel
theorem dX7_isWithin_1 : decode cX7_isWithin 1 = .ok (.iload_n 1, 1) := by decide +kernel
theorem dX7_isWithin_2 : decode cX7_isWithin 2 = .ok (.if_icmp .lt 12, 3) := by decide +kernel
theorem dX7_isWithin_5 : decode cX7_isWithin 5 = .ok (.iload_n 0, 1) := by decide +kernel
theorem dX7_isWithin_6 : decode cX7_isWithin 6 = .ok (.iload_n 2, 1) := by decide +kernel
theorem dX7_isWithin_7 : decode cX7_isWithin 7 = .ok (.if_icmp .gt 7, 3) := by decide +kernel
theorem dX7_isWithin_10 : decode cX7_isWithin 10 = .ok (.iconst 1, 1) := by decide +kernel
theorem dX7_isWithin_11 : decode cX7_isWithin 11 = .ok (.goto 4, 3) := by decide +kernel
theorem dX7_isWithin_14 : decode cX7_isWithin 14 = .ok (.iconst 0, 1) := by decide +kernel
theorem dX7_isWithin_15 : decode cX7_isWithin 15 = .ok (.ireturn, 1) := by decide +kernel
set_option maxRecDepth 20000 in
theorem ggX7_isClass_X7_isWithin : GoodIn wsX7_isClass wsX7_isWithin := goodIn_r _ [4] (by decide +kernel) (by decide +kernel)
set_option maxRecDepth 20000 in
theorem gX7_isClass_X7_isWithin : GoodIn wsX7_isClass (va_wsS RX7 62 yX7_isWithin wsX7_isWithin) := goodIn_app (goodIn_of _ (by decide +kernel)) ggX7_isClass_X7_isWithin
theorem dX7_isClass_0 : decode cX7_isClass 0 = .ok (.iload_n 0, 1) := by decide +kernel
theorem dX7_isClass_1 : decode cX7_isClass 1 = .ok (.iconst 0, 1) := by decide +kernel
theorem dX7_isClass_2 : decode cX7_isClass 2 = .ok (.bipush 9, 2) := by decide +kernel
theorem dX7_isClass_4 : decode cX7_isClass 4 = .ok (.invokestatic 62, 3) := by decide +kernel
theorem dX7_isClass_7 : decode cX7_isClass 7 = .ok (.ireturn, 1) := by decide +kernel
set_option maxRecDepth 20000 in
theorem ggX7_canMerge_X7_isClass : GoodIn wsX7_canMerge wsX7_isClass := goodIn_r _ [4, 5, 6, 3, 7] (by decide +kernel) (by decide +kernel)
set_option maxRecDepth 20000 in
theorem gX7_canMerge_X7_isClass : GoodIn wsX7_canMerge (va_wsS RX7 128 yX7_isClass wsX7_isClass) := goodIn_app (goodIn_of _ (by decide +kernel)) ggX7_canMerge_X7_isClass
theorem dX7_canMerge_0 : decode cX7_canMerge 0 = .ok (.iload_n 0, 1) := by decide +kernel
theorem dX7_canMerge_1 : decode cX7_canMerge 1 = .ok (.invokestatic 128, 3) := by decide +kernel
theorem dX7_canMerge_4 : decode cX7_canMerge 4 = .ok (.ifCond .eq 19, 3) := by decide +kernel
theorem dX7_canMerge_7 : decode cX7_canMerge 7 = .ok (.iload_n 1, 1) := by decide +kernel
theorem dX7_canMerge_8 : decode cX7_canMerge 8 = .ok (.invokestatic 128, 3) := by decide +kernel
theorem dX7_canMerge_11 : decode cX7_canMerge 11 = .ok (.ifCond .eq 12, 3) := by decide +kernel
theorem dX7_canMerge_14 : decode cX7_canMerge 14 = .ok (.iload_n 0, 1) := by decide +kernel
theorem dX7_canMerge_15 : decode cX7_canMerge 15 = .ok (.iload_n 1, 1) := by decide +kernel
theorem dX7_canMerge_16 : decode cX7_canMerge 16 = .ok (.if_icmp .eq 7, 3) := by decide +kernel
theorem dX7_canMerge_19 : decode cX7_canMerge 19 = .ok (.iconst 1, 1) := by decide +kernel
theorem dX7_canMerge_20 : decode cX7_canMerge 20 = .ok (.goto 4, 3) := by decide +kernel
theorem dX7_canMerge_23 : decode cX7_canMerge 23 = .ok (.iconst 0, 1) := by decide +kernel
theorem dX7_canMerge_24 : decode cX7_canMerge 24 = .ok (.ireturn, 1) := by decide +kernel
set_option maxRecDepth 20000 in
theorem ggX7_recordChange_X5_beAs : GoodIn wsX7_recordChange wsX5_beAs := goodIn_r _ [8, 9, 10, 11, 12, 13, 14, 15, 16, 17, 18, 19, 20, 21, 22, 23, 24, 25, 26, 27, 28, 29, 30, 31, 32, 43, 44, 45, 46, 47, 48, 49, 50, 51, 52, 53, 54, 55, 56] (by decide +kernel) (by decide +kernel)
set_option maxRecDepth 20000 in
theorem gX7_recordChange_X5_beAs : GoodIn wsX7_recordChange (wsV RX7 248 RX5 yX5_beAs wsX5_beAs) := goodIn_app (goodIn_of _ (by decide +kernel)) ggX7_recordChange_X5_beAs
theorem dX7_recordChange_0 : decode cX7_recordChange 0 = .ok (.aload_n 0, 1) := by decide +kernel
theorem dX7_recordChange_1 : decode cX7_recordChange 1 = .ok (.getfield 20, 3) := by decide +kernel
theorem dX7_recordChange_4 : decode cX7_recordChange 4 = .ok (.aload_n 0, 1) := by decide +kernel
theorem dX7_recordChange_5 : decode cX7_recordChange 5 = .ok (.getfield 16, 3) := by decide +kernel
theorem dX7_recordChange_8 : decode cX7_recordChange 8 = .ok (.arraylength, 1) := by decide +kernel
theorem dX7_recordChange_9 : decode cX7_recordChange 9 = .ok (.if_icmp .lt 65, 3) := by decide +kernel
theorem dX7_recordChange_12 : decode cX7_recordChange 12 = .ok (.aload_n 0, 1) := by decide +kernel
theorem dX7_recordChange_13 : decode cX7_recordChange 13 = .ok (.getfield 16, 3) := by decide +kernel
theorem dX7_recordChange_16 : decode cX7_recordChange 16 = .ok (.iconst 0, 1) := by decide +kernel
theorem dX7_recordChange_17 : decode cX7_recordChange 17 = .ok (.aaload, 1) := by decide +kernel
theorem dX7_recordChange_18 : decode cX7_recordChange 18 = .ok (.astore_n 1, 1) := by decide +kernel
theorem dX7_recordChange_19 : decode cX7_recordChange 19 = .ok (.iconst 1, 1) := by decide +kernel
theorem dX7_recordChange_20 : decode cX7_recordChange 20 = .ok (.istore_n 2, 1) := by decide +kernel
theorem dX7_recordChange_21 : decode cX7_recordChange 21 = .ok (.iload_n 2, 1) := by decide +kernel
theorem dX7_recordChange_22 : decode cX7_recordChange 22 = .ok (.aload_n 0, 1) := by decide +kernel
theorem dX7_recordChange_23 : decode cX7_recordChange 23 = .ok (.getfield 16, 3) := by decide +kernel
theorem dX7_recordChange_26 : decode cX7_recordChange 26 = .ok (.arraylength, 1) := by decide +kernel
theorem dX7_recordChange_27 : decode cX7_recordChange 27 = .ok (.if_icmp .ge 23, 3) := by decide +kernel
theorem dX7_recordChange_30 : decode cX7_recordChange 30 = .ok (.aload_n 0, 1) := by decide +kernel
theorem dX7_recordChange_31 : decode cX7_recordChange 31 = .ok (.getfield 16, 3) := by decide +kernel
theorem dX7_recordChange_34 : decode cX7_recordChange 34 = .ok (.iload_n 2, 1) := by decide +kernel
theorem dX7_recordChange_35 : decode cX7_recordChange 35 = .ok (.iconst 1, 1) := by decide +kernel
theorem dX7_recordChange_36 : decode cX7_recordChange 36 = .ok (.isub, 1) := by decide +kernel
theorem dX7_recordChange_37 : decode cX7_recordChange 37 = .ok (.aload_n 0, 1) := by decide +kernel
theorem dX7_recordChange_38 : decode cX7_recordChange 38 = .ok (.getfield 16, 3) := by decide +kernel
theorem dX7_recordChange_41 : decode cX7_recordChange 41 = .ok (.iload_n 2, 1) := by decide +kernel
theorem dX7_recordChange_42 : decode cX7_recordChange 42 = .ok (.aaload, 1) := by decide +kernel
theorem dX7_recordChange_43 : decode cX7_recordChange 43 = .ok (.aastore, 1) := by decide +kernel
theorem dX7_recordChange_44 : decode cX7_recordChange 44 = .ok (.iinc 2 1, 3) := by decide +kernel
theorem dX7_recordChange_47 : decode cX7_recordChange 47 = .ok (.goto (-26), 3) := by decide +kernel
theorem dX7_recordChange_50 : decode cX7_recordChange 50 = .ok (.aload_n 0, 1) := by decide +kernel
theorem dX7_recordChange_51 : decode cX7_recordChange 51 = .ok (.getfield 16, 3) := by decide +kernel
theorem dX7_recordChange_54 : decode cX7_recordChange 54 = .ok (.aload_n 0, 1) := by decide +kernel
theorem dX7_recordChange_55 : decode cX7_recordChange 55 = .ok (.getfield 16, 3) := by decide +kernel
theorem dX7_recordChange_58 : decode cX7_recordChange 58 = .ok (.arraylength, 1) := by decide +kernel
theorem dX7_recordChange_59 : decode cX7_recordChange 59 = .ok (.iconst 1, 1) := by decide +kernel
theorem dX7_recordChange_60 : decode cX7_recordChange 60 = .ok (.isub, 1) := by decide +kernel
theorem dX7_recordChange_61 : decode cX7_recordChange 61 = .ok (.aload_n 1, 1) := by decide +kernel
theorem dX7_recordChange_62 : decode cX7_recordChange 62 = .ok (.aastore, 1) := by decide +kernel
theorem dX7_recordChange_63 : decode cX7_recordChange 63 = .ok (.aload_n 0, 1) := by decide +kernel
theorem dX7_recordChange_64 : decode cX7_recordChange 64 = .ok (.aload_n 0, 1) := by decide +kernel
theorem dX7_recordChange_65 : decode cX7_recordChange 65 = .ok (.getfield 16, 3) := by decide +kernel
theorem dX7_recordChange_68 : decode cX7_recordChange 68 = .ok (.arraylength, 1) := by decide +kernel
theorem dX7_recordChange_69 : decode cX7_recordChange 69 = .ok (.iconst 1, 1) := by decide +kernel
theorem dX7_recordChange_70 : decode cX7_recordChange 70 = .ok (.isub, 1) := by decide +kernel
theorem dX7_recordChange_71 : decode cX7_recordChange 71 = .ok (.putfield 20, 3) := by decide +kernel
theorem dX7_recordChange_74 : decode cX7_recordChange 74 = .ok (.aload_n 0, 1) := by decide +kernel
theorem dX7_recordChange_75 : decode cX7_recordChange 75 = .ok (.getfield 16, 3) := by decide +kernel
theorem dX7_recordChange_78 : decode cX7_recordChange 78 = .ok (.aload_n 0, 1) := by decide +kernel
theorem dX7_recordChange_79 : decode cX7_recordChange 79 = .ok (.getfield 20, 3) := by decide +kernel
theorem dX7_recordChange_82 : decode cX7_recordChange 82 = .ok (.aaload, 1) := by decide +kernel
theorem dX7_recordChange_83 : decode cX7_recordChange 83 = .ok (.aload_n 0, 1) := by decide +kernel
theorem dX7_recordChange_84 : decode cX7_recordChange 84 = .ok (.getfield 10, 3) := by decide +kernel
theorem dX7_recordChange_87 : decode cX7_recordChange 87 = .ok (.invokevirtual 248, 3) := by decide +kernel
theorem dX7_recordChange_90 : decode cX7_recordChange 90 = .ok (.aload_n 0, 1) := by decide +kernel
theorem dX7_recordChange_91 : decode cX7_recordChange 91 = .ok (.dup, 1) := by decide +kernel
theorem dX7_recordChange_92 : decode cX7_recordChange 92 = .ok (.getfield 20, 3) := by decide +kernel
theorem dX7_recordChange_95 : decode cX7_recordChange 95 = .ok (.iconst 1, 1) := by decide +kernel
theorem dX7_recordChange_96 : decode cX7_recordChange 96 = .ok (.iadd, 1) := by decide +kernel
theorem dX7_recordChange_97 : decode cX7_recordChange 97 = .ok (.putfield 20, 3) := by decide +kernel
theorem dX7_recordChange_100 : decode cX7_recordChange 100 = .ok (.return_, 1) := by decide +kernel
set_option maxRecDepth 20000 in
theorem ggX7_fillAsIfMerged_X2_beAs : GoodIn wsX7_fillAsIfMerged wsX2_beAs := goodIn_r _ [8, 9, 10, 11, 12, 13, 14, 15, 16, 17, 18, 19, 20, 94, 95, 96, 97, 98, 99, 100, 101] (by decide +kernel) (by decide +kernel)
set_option maxRecDepth 20000 in
theorem gX7_fillAsIfMerged_X2_beAs : GoodIn wsX7_fillAsIfMerged (wsV RX7 119 RX2 yX2_beAs wsX2_beAs) := goodIn_app (goodIn_of _ (by decide +kernel)) ggX7_fillAsIfMerged_X2_beAs
set_option maxRecDepth 20000 in
theorem ggX7_fillAsIfMerged_X2_mergeClasses : GoodIn wsX7_fillAsIfMerged wsX2_mergeClasses := goodIn_r _ [24, 9, 14, 25, 26, 27, 7, 28, 29, 30, 31, 32, 16, 17, 18, 19, 20, 33, 34, 35, 36, 10, 11, 12, 13, 94, 95, 96, 97, 98, 99, 100, 101] (by decide +kernel) (by decide +kernel)
set_option maxRecDepth 20000 in
theorem gX7_fillAsIfMerged_X2_mergeClasses : GoodIn wsX7_fillAsIfMerged (wsV RX7 148 RX2 yX2_mergeClasses wsX2_mergeClasses) := goodIn_app (goodIn_of _ (by decide +kernel)) ggX7_fillAsIfMerged_X2_mergeClasses
set_option maxRecDepth 20000 in
theorem ggX7_fillAsIfMerged_X1_fill : GoodIn wsX7_fillAsIfMerged wsX1_fill := goodIn_r _ [41, 42, 43, 44, 45, 46, 47, 48, 49, 50, 51, 52, 53, 7, 54, 55, 56, 57, 58, 14, 59, 60, 61, 62, 63, 64, 65, 66, 67, 68, 69, 70, 15, 71, 72, 73, 74, 9, 75, 76, 77, 78, 79, 80, 81, 40, 82, 83, 102, 103, 104, 105, 106, 107, 108, 109, 110, 111, 112, 113, 114, 94, 95, 96, 97, 98, 99, 100, 101] (by decide +kernel) (by decide +kernel)
set_option maxRecDepth 20000 in
theorem gX7_fillAsIfMerged_X1_fill : GoodIn wsX7_fillAsIfMerged (wsV RX7 177 RX1 yX1_fill wsX1_fill) := goodIn_app (goodIn_of _ (by decide +kernel)) ggX7_fillAsIfMerged_X1_fill
theorem dX7_fillAsIfMerged_0 : decode cX7_fillAsIfMerged 0 = .ok (.aload_n 0, 1) := by decide +kernel
theorem dX7_fillAsIfMerged_1 : decode cX7_fillAsIfMerged 1 = .ok (.getfield 51, 3) := by decide +kernel
theorem dX7_fillAsIfMerged_4 : decode cX7_fillAsIfMerged 4 = .ok (.aload_n 1, 1) := by decide +kernel
theorem dX7_fillAsIfMerged_5 : decode cX7_fillAsIfMerged 5 = .ok (.invokevirtual 119, 3) := by decide +kernel
theorem dX7_fillAsIfMerged_8 : decode cX7_fillAsIfMerged 8 = .ok (.aload_n 0, 1) := by decide +kernel
theorem dX7_fillAsIfMerged_9 : decode cX7_fillAsIfMerged 9 = .ok (.getfield 51, 3) := by decide +kernel
theorem dX7_fillAsIfMerged_12 : decode cX7_fillAsIfMerged 12 = .ok (.iload_n 2, 1) := by decide +kernel
theorem dX7_fillAsIfMerged_13 : decode cX7_fillAsIfMerged 13 = .ok (.iload_n 3, 1) := by decide +kernel
theorem dX7_fillAsIfMerged_14 : decode cX7_fillAsIfMerged 14 = .ok (.invokevirtual 148, 3) := by decide +kernel
theorem dX7_fillAsIfMerged_17 : decode cX7_fillAsIfMerged 17 = .ok (.aload_n 0, 1) := by decide +kernel
theorem dX7_fillAsIfMerged_18 : decode cX7_fillAsIfMerged 18 = .ok (.getfield 41, 3) := by decide +kernel
theorem dX7_fillAsIfMerged_21 : decode cX7_fillAsIfMerged 21 = .ok (.aload_n 0, 1) := by decide +kernel
theorem dX7_fillAsIfMerged_22 : decode cX7_fillAsIfMerged 22 = .ok (.getfield 10, 3) := by decide +kernel
theorem dX7_fillAsIfMerged_25 : decode cX7_fillAsIfMerged 25 = .ok (.aload_n 0, 1) := by decide +kernel
theorem dX7_fillAsIfMerged_26 : decode cX7_fillAsIfMerged 26 = .ok (.getfield 51, 3) := by decide +kernel
theorem dX7_fillAsIfMerged_29 : decode cX7_fillAsIfMerged 29 = .ok (.invokevirtual 177, 3) := by decide +kernel
theorem dX7_fillAsIfMerged_32 : decode cX7_fillAsIfMerged 32 = .ok (.return_, 1) := by decide +kernel
theorem dX8_init_0 : decode cX8_init 0 = .ok (.aload_n 0, 1) := by decide +kernel
theorem dX8_init_1 : decode cX8_init 1 = .ok (.invokespecial 1, 3) := by decide +kernel
theorem dX8_init_4 : decode cX8_init 4 = .ok (.aload_n 0, 1) := by decide +kernel
theorem dX8_init_5 : decode cX8_init 5 = .ok (.sipush 580, 3) := by decide +kernel
theorem dX8_init_8 : decode cX8_init 8 = .ok (.newarray .int, 2) := by decide +kernel
theorem dX8_init_10 : decode cX8_init 10 = .ok (.putfield 7, 3) := by decide +kernel
theorem dX8_init_13 : decode cX8_init 13 = .ok (.aload_n 0, 1) := by decide +kernel
theorem dX8_init_14 : decode cX8_init 14 = .ok (.sipush 580, 3) := by decide +kernel
theorem dX8_init_17 : decode cX8_init 17 = .ok (.newarray .int, 2) := by decide +kernel
theorem dX8_init_19 : decode cX8_init 19 = .ok (.putfield 13, 3) := by decide +kernel
theorem dX8_init_22 : decode cX8_init 22 = .ok (.aload_n 0, 1) := by decide +kernel
theorem dX8_init_23 : decode cX8_init 23 = .ok (.sipush 3480, 3) := by decide +kernel
theorem dX8_init_26 : decode cX8_init 26 = .ok (.newarray .int, 2) := by decide +kernel
theorem dX8_init_28 : decode cX8_init 28 = .ok (.putfield 16, 3) := by decide +kernel
theorem dX8_init_31 : decode cX8_init 31 = .ok (.aload_n 0, 1) := by decide +kernel
theorem dX8_init_32 : decode cX8_init 32 = .ok (.sipush 1160, 3) := by decide +kernel
theorem dX8_init_35 : decode cX8_init 35 = .ok (.newarray .int, 2) := by decide +kernel
theorem dX8_init_37 : decode cX8_init 37 = .ok (.putfield 19, 3) := by decide +kernel
theorem dX8_init_40 : decode cX8_init 40 = .ok (.aload_n 0, 1) := by decide +kernel
theorem dX8_init_41 : decode cX8_init 41 = .ok (.iconst 2, 1) := by decide +kernel
theorem dX8_init_42 : decode cX8_init 42 = .ok (.newarray .boolean, 2) := by decide +kernel
theorem dX8_init_44 : decode cX8_init 44 = .ok (.putfield 22, 3) := by decide +kernel
theorem dX8_init_47 : decode cX8_init 47 = .ok (.aload_n 0, 1) := by decide +kernel
theorem dX8_init_48 : decode cX8_init 48 = .ok (.bipush 80, 2) := by decide +kernel
theorem dX8_init_50 : decode cX8_init 50 = .ok (.newarray .int, 2) := by decide +kernel
theorem dX8_init_52 : decode cX8_init 52 = .ok (.putfield 26, 3) := by decide +kernel
theorem dX8_init_55 : decode cX8_init 55 = .ok (.aload_n 0, 1) := by decide +kernel
theorem dX8_init_56 : decode cX8_init 56 = .ok (.bipush 10, 2) := by decide +kernel
theorem dX8_init_58 : decode cX8_init 58 = .ok (.newarray .int, 2) := by decide +kernel
theorem dX8_init_60 : decode cX8_init 60 = .ok (.putfield 29, 3) := by decide +kernel
theorem dX8_init_63 : decode cX8_init 63 = .ok (.aload_n 0, 1) := by decide +kernel
theorem dX8_init_64 : decode cX8_init 64 = .ok (.iconst 4, 1) := by decide +kernel
theorem dX8_init_65 : decode cX8_init 65 = .ok (.newarray .long, 2) := by decide +kernel
theorem dX8_init_67 : decode cX8_init 67 = .ok (.putfield 32, 3) := by decide +kernel
theorem dX8_init_70 : decode cX8_init 70 = .ok (.aload_n 0, 1) := by decide +kernel
theorem dX8_init_71 : decode cX8_init 71 = .ok (.bipush 96, 2) := by decide +kernel
theorem dX8_init_73 : decode cX8_init 73 = .ok (.newarray .long, 2) := by decide +kernel
theorem dX8_init_75 : decode cX8_init 75 = .ok (.putfield 36, 3) := by decide +kernel
theorem dX8_init_78 : decode cX8_init 78 = .ok (.aload_n 0, 1) := by decide +kernel
theorem dX8_init_79 : decode cX8_init 79 = .ok (.bipush 24, 2) := by decide +kernel
theorem dX8_init_81 : decode cX8_init 81 = .ok (.newarray .int, 2) := by decide +kernel
theorem dX8_init_83 : decode cX8_init 83 = .ok (.putfield 39, 3) := by decide +kernel
theorem dX8_init_86 : decode cX8_init 86 = .ok (.aload_n 0, 1) := by decide +kernel
theorem dX8_init_87 : decode cX8_init 87 = .ok (.bipush 96, 2) := by decide +kernel
theorem dX8_init_89 : decode cX8_init 89 = .ok (.newarray .long, 2) := by decide +kernel
theorem dX8_init_91 : decode cX8_init 91 = .ok (.putfield 42, 3) := by decide +kernel
theorem dX8_init_94 : decode cX8_init 94 = .ok (.aload_n 0, 1) := by decide +kernel
theorem dX8_init_95 : decode cX8_init 95 = .ok (.bipush 11, 2) := by decide +kernel
theorem dX8_init_97 : decode cX8_init 97 = .ok (.newarray .int, 2) := by decide +kernel
theorem dX8_init_99 : decode cX8_init 99 = .ok (.putfield 45, 3) := by decide +kernel
theorem dX8_init_102 : decode cX8_init 102 = .ok (.aload_n 0, 1) := by decide +kernel
theorem dX8_init_103 : decode cX8_init 103 = .ok (.bipush 24, 2) := by decide +kernel
theorem dX8_init_105 : decode cX8_init 105 = .ok (.newarray .int, 2) := by decide +kernel
theorem dX8_init_107 : decode cX8_init 107 = .ok (.putfield 48, 3) := by decide +kernel
theorem dX8_init_110 : decode cX8_init 110 = .ok (.aload_n 0, 1) := by decide +kernel
theorem dX8_init_111 : decode cX8_init 111 = .ok (.getfield 7, 3) := by decide +kernel
theorem dX8_init_114 : decode cX8_init 114 = .ok (.iconst 0, 1) := by decide +kernel
theorem dX8_init_115 : decode cX8_init 115 = .ok (.iconst 4, 1) := by decide +kernel
theorem dX8_init_116 : decode cX8_init 116 = .ok (.iastore, 1) := by decide +kernel
theorem dX8_init_117 : decode cX8_init 117 = .ok (.aload_n 0, 1) := by decide +kernel
theorem dX8_init_118 : decode cX8_init 118 = .ok (.getfield 7, 3) := by decide +kernel
theorem dX8_init_121 : decode cX8_init 121 = .ok (.iconst 1, 1) := by decide +kernel
theorem dX8_init_122 : decode cX8_init 122 = .ok (.bipush 24, 2) := by decide +kernel
theorem dX8_init_124 : decode cX8_init 124 = .ok (.iastore, 1) := by decide +kernel
theorem dX8_init_125 : decode cX8_init 125 = .ok (.return_, 1) := by decide +kernel
theorem dX8_in_0 : decode cX8_in 0 = .ok (.iload_n 0, 1) := by decide +kernel
theorem dX8_in_1 : decode cX8_in 1 = .ok (.iload_n 1, 1) := by decide +kernel
theorem dX8_in_2 : decode cX8_in 2 = .ok (.if_icmp .lt 12, 3) := by decide +kernel
theorem dX8_in_5 : decode cX8_in 5 = .ok (.iload_n 0, 1) := by decide +kernel
theorem dX8_in_6 : decode cX8_in 6 = .ok (.iload_n 2, 1) := by decide +kernel
theorem dX8_in_7 : decode cX8_in 7 = .ok (.if_icmp .gt 7, 3) := by decide +kernel
theorem dX8_in_10 : decode cX8_in 10 = .ok (.iconst 1, 1) := by decide +kernel
theorem dX8_in_11 : decode cX8_in 11 = .ok (.goto 4, 3) := by decide +kernel
theorem dX8_in_14 : decode cX8_in 14 = .ok (.iconst 0, 1) := by decide +kernel
theorem dX8_in_15 : decode cX8_in 15 = .ok (.ireturn, 1) := by decide +kernel
set_option maxRecDepth 20000 in
theorem ggX8_isName_X8_in : GoodIn wsX8_isName wsX8_in := goodIn_r _ [5] (by decide +kernel) (by decide +kernel)
set_option maxRecDepth 20000 in
theorem gX8_isName_X8_in : GoodIn wsX8_isName (va_wsS RX8 51 yX8_in wsX8_in) := goodIn_app (goodIn_of _ (by decide +kernel)) ggX8_isName_X8_in
theorem dX8_isName_0 : decode cX8_isName 0 = .ok (.iload_n 1, 1) := by decide +kernel
theorem dX8_isName_1 : decode cX8_isName 1 = .ok (.iconst 0, 1) := by decide +kernel
theorem dX8_isName_2 : decode cX8_isName 2 = .ok (.aload_n 0, 1) := by decide +kernel
theorem dX8_isName_3 : decode cX8_isName 3 = .ok (.getfield 7, 3) := by decide +kernel
theorem dX8_isName_6 : decode cX8_isName 6 = .ok (.iconst 2, 1) := by decide +kernel
theorem dX8_isName_7 : decode cX8_isName 7 = .ok (.iaload, 1) := by decide +kernel
theorem dX8_isName_8 : decode cX8_isName 8 = .ok (.iconst 1, 1) := by decide +kernel
theorem dX8_isName_9 : decode cX8_isName 9 = .ok (.isub, 1) := by decide +kernel
theorem dX8_isName_10 : decode cX8_isName 10 = .ok (.invokestatic 51, 3) := by decide +kernel
theorem dX8_isName_13 : decode cX8_isName 13 = .ok (.ireturn, 1) := by decide +kernel
set_option maxRecDepth 20000 in
theorem ggX8_isEar_X8_in : GoodIn wsX8_isEar wsX8_in := goodIn_r _ [5] (by decide +kernel) (by decide +kernel)
set_option maxRecDepth 20000 in
theorem gX8_isEar_X8_in : GoodIn wsX8_isEar (va_wsS RX8 51 yX8_in wsX8_in) := goodIn_app (goodIn_of _ (by decide +kernel)) ggX8_isEar_X8_in
theorem dX8_isEar_0 : decode cX8_isEar 0 = .ok (.iload_n 1, 1) := by decide +kernel
theorem dX8_isEar_1 : decode cX8_isEar 1 = .ok (.iconst 0, 1) := by decide +kernel
theorem dX8_isEar_2 : decode cX8_isEar 2 = .ok (.aload_n 0, 1) := by decide +kernel
theorem dX8_isEar_3 : decode cX8_isEar 3 = .ok (.getfield 7, 3) := by decide +kernel
theorem dX8_isEar_6 : decode cX8_isEar 6 = .ok (.iconst 3, 1) := by decide +kernel
theorem dX8_isEar_7 : decode cX8_isEar 7 = .ok (.iaload, 1) := by decide +kernel
theorem dX8_isEar_8 : decode cX8_isEar 8 = .ok (.iconst 1, 1) := by decide +kernel
theorem dX8_isEar_9 : decode cX8_isEar 9 = .ok (.isub, 1) := by decide +kernel
theorem dX8_isEar_10 : decode cX8_isEar 10 = .ok (.invokestatic 51, 3) := by decide +kernel
theorem dX8_isEar_13 : decode cX8_isEar 13 = .ok (.ireturn, 1) := by decide +kernel
set_option maxRecDepth 20000 in
theorem ggX8_isLetter_X8_in : GoodIn wsX8_isLetter wsX8_in := goodIn_r _ [4] (by decide +kernel) (by decide +kernel)
set_option maxRecDepth 20000 in
theorem gX8_isLetter_X8_in : GoodIn wsX8_isLetter (va_wsS RX8 51 yX8_in wsX8_in) := goodIn_app (goodIn_of _ (by decide +kernel)) ggX8_isLetter_X8_in
theorem dX8_isLetter_0 : decode cX8_isLetter 0 = .ok (.iload_n 0, 1) := by decide +kernel
theorem dX8_isLetter_1 : decode cX8_isLetter 1 = .ok (.iconst 0, 1) := by decide +kernel
theorem dX8_isLetter_2 : decode cX8_isLetter 2 = .ok (.bipush 25, 2) := by decide +kernel
theorem dX8_isLetter_4 : decode cX8_isLetter 4 = .ok (.invokestatic 51, 3) := by decide +kernel
theorem dX8_isLetter_7 : decode cX8_isLetter 7 = .ok (.ireturn, 1) := by decide +kernel
set_option maxRecDepth 20000 in
theorem ggX8_isKind_X8_in : GoodIn wsX8_isKind wsX8_in := goodIn_r _ [4] (by decide +kernel) (by decide +kernel)
set_option maxRecDepth 20000 in
theorem gX8_isKind_X8_in : GoodIn wsX8_isKind (va_wsS RX8 51 yX8_in wsX8_in) := goodIn_app (goodIn_of _ (by decide +kernel)) ggX8_isKind_X8_in
theorem dX8_isKind_0 : decode cX8_isKind 0 = .ok (.iload_n 0, 1) := by decide +kernel
theorem dX8_isKind_1 : decode cX8_isKind 1 = .ok (.iconst 0, 1) := by decide +kernel
theorem dX8_isKind_2 : decode cX8_isKind 2 = .ok (.bipush 9, 2) := by decide +kernel
theorem dX8_isKind_4 : decode cX8_isKind 4 = .ok (.invokestatic 51, 3) := by decide +kernel
theorem dX8_isKind_7 : decode cX8_isKind 7 = .ok (.ireturn, 1) := by decide +kernel
theorem dX8_letterOf_0 : decode cX8_letterOf 0 = .ok (.aload_n 0, 1) := by decide +kernel
theorem dX8_letterOf_1 : decode cX8_letterOf 1 = .ok (.getfield 7, 3) := by decide +kernel
theorem dX8_letterOf_4 : decode cX8_letterOf 4 = .ok (.iconst 4, 1) := by decide +kernel
theorem dX8_letterOf_5 : decode cX8_letterOf 5 = .ok (.bipush 11, 2) := by decide +kernel
theorem dX8_letterOf_7 : decode cX8_letterOf 7 = .ok (.iload_n 1, 1) := by decide +kernel
theorem dX8_letterOf_8 : decode cX8_letterOf 8 = .ok (.imul, 1) := by decide +kernel
theorem dX8_letterOf_9 : decode cX8_letterOf 9 = .ok (.iadd, 1) := by decide +kernel
theorem dX8_letterOf_10 : decode cX8_letterOf 10 = .ok (.iconst 1, 1) := by decide +kernel
theorem dX8_letterOf_11 : decode cX8_letterOf 11 = .ok (.iadd, 1) := by decide +kernel
theorem dX8_letterOf_12 : decode cX8_letterOf 12 = .ok (.iload_n 2, 1) := by decide +kernel
theorem dX8_letterOf_13 : decode cX8_letterOf 13 = .ok (.iadd, 1) := by decide +kernel
theorem dX8_letterOf_14 : decode cX8_letterOf 14 = .ok (.iaload, 1) := by decide +kernel
theorem dX8_letterOf_15 : decode cX8_letterOf 15 = .ok (.ireturn, 1) := by decide +kernel
theorem dX8_lengthOf_0 : decode cX8_lengthOf 0 = .ok (.aload_n 0, 1) := by decide +kernel
theorem dX8_lengthOf_1 : decode cX8_lengthOf 1 = .ok (.getfield 7, 3) := by decide +kernel
theorem dX8_lengthOf_4 : decode cX8_lengthOf 4 = .ok (.iconst 4, 1) := by decide +kernel
theorem dX8_lengthOf_5 : decode cX8_lengthOf 5 = .ok (.bipush 11, 2) := by decide +kernel
theorem dX8_lengthOf_7 : decode cX8_lengthOf 7 = .ok (.iload_n 1, 1) := by decide +kernel
theorem dX8_lengthOf_8 : decode cX8_lengthOf 8 = .ok (.imul, 1) := by decide +kernel
theorem dX8_lengthOf_9 : decode cX8_lengthOf 9 = .ok (.iadd, 1) := by decide +kernel
theorem dX8_lengthOf_10 : decode cX8_lengthOf 10 = .ok (.iaload, 1) := by decide +kernel
theorem dX8_lengthOf_11 : decode cX8_lengthOf 11 = .ok (.ireturn, 1) := by decide +kernel
theorem dX8_at_0 : decode cX8_at 0 = .ok (.aload_n 0, 1) := by decide +kernel
theorem dX8_at_1 : decode cX8_at 1 = .ok (.getfield 7, 3) := by decide +kernel
theorem dX8_at_4 : decode cX8_at 4 = .ok (.sipush 268, 3) := by decide +kernel
theorem dX8_at_7 : decode cX8_at 7 = .ok (.bipush 78, 2) := by decide +kernel
theorem dX8_at_9 : decode cX8_at 9 = .ok (.iload_n 1, 1) := by decide +kernel
theorem dX8_at_10 : decode cX8_at 10 = .ok (.imul, 1) := by decide +kernel
theorem dX8_at_11 : decode cX8_at 11 = .ok (.iadd, 1) := by decide +kernel
theorem dX8_at_12 : decode cX8_at 12 = .ok (.iload_n 2, 1) := by decide +kernel
theorem dX8_at_13 : decode cX8_at 13 = .ok (.iadd, 1) := by decide +kernel
theorem dX8_at_14 : decode cX8_at 14 = .ok (.iaload, 1) := by decide +kernel
theorem dX8_at_15 : decode cX8_at 15 = .ok (.ireturn, 1) := by decide +kernel
theorem dX8_lay_0 : decode cX8_lay 0 = .ok (.aload_n 0, 1) := by decide +kernel
theorem dX8_lay_1 : decode cX8_lay 1 = .ok (.getfield 7, 3) := by decide +kernel
theorem dX8_lay_4 : decode cX8_lay 4 = .ok (.sipush 268, 3) := by decide +kernel
theorem dX8_lay_7 : decode cX8_lay 7 = .ok (.bipush 78, 2) := by decide +kernel
theorem dX8_lay_9 : decode cX8_lay 9 = .ok (.iload_n 1, 1) := by decide +kernel
theorem dX8_lay_10 : decode cX8_lay 10 = .ok (.imul, 1) := by decide +kernel
theorem dX8_lay_11 : decode cX8_lay 11 = .ok (.iadd, 1) := by decide +kernel
theorem dX8_lay_12 : decode cX8_lay 12 = .ok (.iload_n 2, 1) := by decide +kernel
theorem dX8_lay_13 : decode cX8_lay 13 = .ok (.iadd, 1) := by decide +kernel
theorem dX8_lay_14 : decode cX8_lay 14 = .ok (.iload_n 3, 1) := by decide +kernel
theorem dX8_lay_15 : decode cX8_lay 15 = .ok (.iastore, 1) := by decide +kernel
theorem dX8_lay_16 : decode cX8_lay 16 = .ok (.return_, 1) := by decide +kernel
theorem dX8_copyState_0 : decode cX8_copyState 0 = .ok (.iconst 0, 1) := by decide +kernel
theorem dX8_copyState_1 : decode cX8_copyState 1 = .ok (.istore 4, 2) := by decide +kernel
theorem dX8_copyState_3 : decode cX8_copyState 3 = .ok (.iload 4, 2) := by decide +kernel
theorem dX8_copyState_5 : decode cX8_copyState 5 = .ok (.sipush 580, 3) := by decide +kernel
theorem dX8_copyState_8 : decode cX8_copyState 8 = .ok (.if_icmp .ge 21, 3) := by decide +kernel
theorem dX8_copyState_11 : decode cX8_copyState 11 = .ok (.aload_n 2, 1) := by decide +kernel
theorem dX8_copyState_12 : decode cX8_copyState 12 = .ok (.iload_n 3, 1) := by decide +kernel
theorem dX8_copyState_13 : decode cX8_copyState 13 = .ok (.iload 4, 2) := by decide +kernel
theorem dX8_copyState_15 : decode cX8_copyState 15 = .ok (.iadd, 1) := by decide +kernel
theorem dX8_copyState_16 : decode cX8_copyState 16 = .ok (.aload_n 0, 1) := by decide +kernel
theorem dX8_copyState_17 : decode cX8_copyState 17 = .ok (.iload_n 1, 1) := by decide +kernel
theorem dX8_copyState_18 : decode cX8_copyState 18 = .ok (.iload 4, 2) := by decide +kernel
theorem dX8_copyState_20 : decode cX8_copyState 20 = .ok (.iadd, 1) := by decide +kernel
theorem dX8_copyState_21 : decode cX8_copyState 21 = .ok (.iaload, 1) := by decide +kernel
theorem dX8_copyState_22 : decode cX8_copyState 22 = .ok (.iastore, 1) := by decide +kernel
theorem dX8_copyState_23 : decode cX8_copyState 23 = .ok (.iinc 4 1, 3) := by decide +kernel
theorem dX8_copyState_26 : decode cX8_copyState 26 = .ok (.goto (-23), 3) := by decide +kernel
theorem dX8_copyState_29 : decode cX8_copyState 29 = .ok (.return_, 1) := by decide +kernel
set_option maxRecDepth 20000 in
theorem ggX8_record_X8_copyState : GoodIn wsX8_record wsX8_copyState := goodIn_r _ [7] (by decide +kernel) (by decide +kernel)
set_option maxRecDepth 20000 in
theorem gX8_record_X8_copyState : GoodIn wsX8_record (va_wsS RX8 59 yX8_copyState wsX8_copyState) := goodIn_app (goodIn_of _ (by decide +kernel)) ggX8_record_X8_copyState
theorem dX8_record_0 : decode cX8_record 0 = .ok (.aload_n 0, 1) := by decide +kernel
theorem dX8_record_1 : decode cX8_record 1 = .ok (.getfield 55, 3) := by decide +kernel
theorem dX8_record_4 : decode cX8_record 4 = .ok (.bipush 6, 2) := by decide +kernel
theorem dX8_record_6 : decode cX8_record 6 = .ok (.if_icmp .ne 44, 3) := by decide +kernel
theorem dX8_record_9 : decode cX8_record 9 = .ok (.iconst 0, 1) := by decide +kernel
theorem dX8_record_10 : decode cX8_record 10 = .ok (.istore_n 1, 1) := by decide +kernel
theorem dX8_record_11 : decode cX8_record 11 = .ok (.iload_n 1, 1) := by decide +kernel
theorem dX8_record_12 : decode cX8_record 12 = .ok (.sipush 2900, 3) := by decide +kernel
theorem dX8_record_15 : decode cX8_record 15 = .ok (.if_icmp .ge 25, 3) := by decide +kernel
theorem dX8_record_18 : decode cX8_record 18 = .ok (.aload_n 0, 1) := by decide +kernel
theorem dX8_record_19 : decode cX8_record 19 = .ok (.getfield 16, 3) := by decide +kernel
theorem dX8_record_22 : decode cX8_record 22 = .ok (.iload_n 1, 1) := by decide +kernel
theorem dX8_record_23 : decode cX8_record 23 = .ok (.aload_n 0, 1) := by decide +kernel
theorem dX8_record_24 : decode cX8_record 24 = .ok (.getfield 16, 3) := by decide +kernel
theorem dX8_record_27 : decode cX8_record 27 = .ok (.iload_n 1, 1) := by decide +kernel
theorem dX8_record_28 : decode cX8_record 28 = .ok (.sipush 580, 3) := by decide +kernel
theorem dX8_record_31 : decode cX8_record 31 = .ok (.iadd, 1) := by decide +kernel
theorem dX8_record_32 : decode cX8_record 32 = .ok (.iaload, 1) := by decide +kernel
theorem dX8_record_33 : decode cX8_record 33 = .ok (.iastore, 1) := by decide +kernel
theorem dX8_record_34 : decode cX8_record 34 = .ok (.iinc 1 1, 3) := by decide +kernel
theorem dX8_record_37 : decode cX8_record 37 = .ok (.goto (-26), 3) := by decide +kernel
theorem dX8_record_40 : decode cX8_record 40 = .ok (.aload_n 0, 1) := by decide +kernel
theorem dX8_record_41 : decode cX8_record 41 = .ok (.dup, 1) := by decide +kernel
theorem dX8_record_42 : decode cX8_record 42 = .ok (.getfield 55, 3) := by decide +kernel
theorem dX8_record_45 : decode cX8_record 45 = .ok (.iconst 1, 1) := by decide +kernel
theorem dX8_record_46 : decode cX8_record 46 = .ok (.isub, 1) := by decide +kernel
theorem dX8_record_47 : decode cX8_record 47 = .ok (.putfield 55, 3) := by decide +kernel
theorem dX8_record_50 : decode cX8_record 50 = .ok (.aload_n 0, 1) := by decide +kernel
theorem dX8_record_51 : decode cX8_record 51 = .ok (.getfield 7, 3) := by decide +kernel
theorem dX8_record_54 : decode cX8_record 54 = .ok (.iconst 0, 1) := by decide +kernel
theorem dX8_record_55 : decode cX8_record 55 = .ok (.aload_n 0, 1) := by decide +kernel
theorem dX8_record_56 : decode cX8_record 56 = .ok (.getfield 16, 3) := by decide +kernel
theorem dX8_record_59 : decode cX8_record 59 = .ok (.sipush 580, 3) := by decide +kernel
theorem dX8_record_62 : decode cX8_record 62 = .ok (.aload_n 0, 1) := by decide +kernel
theorem dX8_record_63 : decode cX8_record 63 = .ok (.getfield 55, 3) := by decide +kernel
theorem dX8_record_66 : decode cX8_record 66 = .ok (.imul, 1) := by decide +kernel
theorem dX8_record_67 : decode cX8_record 67 = .ok (.invokestatic 59, 3) := by decide +kernel
theorem dX8_record_70 : decode cX8_record 70 = .ok (.aload_n 0, 1) := by decide +kernel
theorem dX8_record_71 : decode cX8_record 71 = .ok (.dup, 1) := by decide +kernel
theorem dX8_record_72 : decode cX8_record 72 = .ok (.getfield 55, 3) := by decide +kernel
theorem dX8_record_75 : decode cX8_record 75 = .ok (.iconst 1, 1) := by decide +kernel
theorem dX8_record_76 : decode cX8_record 76 = .ok (.iadd, 1) := by decide +kernel
theorem dX8_record_77 : decode cX8_record 77 = .ok (.putfield 55, 3) := by decide +kernel
theorem dX8_record_80 : decode cX8_record 80 = .ok (.return_, 1) := by decide +kernel
set_option maxRecDepth 20000 in
theorem ggX8_undo_X8_copyState : GoodIn wsX8_undo wsX8_copyState := goodIn_r _ [7] (by decide +kernel) (by decide +kernel)
set_option maxRecDepth 20000 in
theorem gX8_undo_X8_copyState : GoodIn wsX8_undo (va_wsS RX8 59 yX8_copyState wsX8_copyState) := goodIn_app (goodIn_of _ (by decide +kernel)) ggX8_undo_X8_copyState
theorem dX8_undo_0 : decode cX8_undo 0 = .ok (.aload_n 0, 1) := by decide +kernel
theorem dX8_undo_1 : decode cX8_undo 1 = .ok (.getfield 55, 3) := by decide +kernel
theorem dX8_undo_4 : decode cX8_undo 4 = .ok (.ifCond .ne 6, 3) := by decide +kernel
theorem dX8_undo_7 : decode cX8_undo 7 = .ok (.bipush (-5), 2) := by decide +kernel
theorem dX8_undo_9 : decode cX8_undo 9 = .ok (.ireturn, 1) := by decide +kernel
theorem dX8_undo_10 : decode cX8_undo 10 = .ok (.aload_n 0, 1) := by decide +kernel
theorem dX8_undo_11 : decode cX8_undo 11 = .ok (.dup, 1) := by decide +kernel
theorem dX8_undo_12 : decode cX8_undo 12 = .ok (.getfield 55, 3) := by decide +kernel
theorem dX8_undo_15 : decode cX8_undo 15 = .ok (.iconst 1, 1) := by decide +kernel
theorem dX8_undo_16 : decode cX8_undo 16 = .ok (.isub, 1) := by decide +kernel
theorem dX8_undo_17 : decode cX8_undo 17 = .ok (.putfield 55, 3) := by decide +kernel
theorem dX8_undo_20 : decode cX8_undo 20 = .ok (.aload_n 0, 1) := by decide +kernel
theorem dX8_undo_21 : decode cX8_undo 21 = .ok (.getfield 16, 3) := by decide +kernel
theorem dX8_undo_24 : decode cX8_undo 24 = .ok (.sipush 580, 3) := by decide +kernel
theorem dX8_undo_27 : decode cX8_undo 27 = .ok (.aload_n 0, 1) := by decide +kernel
theorem dX8_undo_28 : decode cX8_undo 28 = .ok (.getfield 55, 3) := by decide +kernel
theorem dX8_undo_31 : decode cX8_undo 31 = .ok (.imul, 1) := by decide +kernel
theorem dX8_undo_32 : decode cX8_undo 32 = .ok (.aload_n 0, 1) := by decide +kernel
theorem dX8_undo_33 : decode cX8_undo 33 = .ok (.getfield 7, 3) := by decide +kernel
theorem dX8_undo_36 : decode cX8_undo 36 = .ok (.iconst 0, 1) := by decide +kernel
theorem dX8_undo_37 : decode cX8_undo 37 = .ok (.invokestatic 59, 3) := by decide +kernel
theorem dX8_undo_40 : decode cX8_undo 40 = .ok (.aload_n 0, 1) := by decide +kernel
theorem dX8_undo_41 : decode cX8_undo 41 = .ok (.getfield 55, 3) := by decide +kernel
theorem dX8_undo_44 : decode cX8_undo 44 = .ok (.ireturn, 1) := by decide +kernel
set_option maxRecDepth 20000 in
theorem ggX8_save_X8_in : GoodIn wsX8_save wsX8_in := goodIn_r _ [7] (by decide +kernel) (by decide +kernel)
set_option maxRecDepth 20000 in
theorem gX8_save_X8_in : GoodIn wsX8_save (va_wsS RX8 51 yX8_in wsX8_in) := goodIn_app (goodIn_of _ (by decide +kernel)) ggX8_save_X8_in
set_option maxRecDepth 20000 in
theorem ggX8_save_X8_copyState : GoodIn wsX8_save wsX8_copyState := goodIn_r _ [10] (by decide +kernel) (by decide +kernel)
set_option maxRecDepth 20000 in
theorem gX8_save_X8_copyState : GoodIn wsX8_save (va_wsS RX8 59 yX8_copyState wsX8_copyState) := goodIn_app (goodIn_of _ (by decide +kernel)) ggX8_save_X8_copyState
theorem dX8_save_0 : decode cX8_save 0 = .ok (.iload_n 1, 1) := by decide +kernel
theorem dX8_save_1 : decode cX8_save 1 = .ok (.iconst 0, 1) := by decide +kernel
theorem dX8_save_2 : decode cX8_save 2 = .ok (.iconst 1, 1) := by decide +kernel
theorem dX8_save_3 : decode cX8_save 3 = .ok (.invokestatic 51, 3) := by decide +kernel
theorem dX8_save_6 : decode cX8_save 6 = .ok (.ifCond .ne 6, 3) := by decide +kernel
theorem dX8_save_9 : decode cX8_save 9 = .ok (.bipush (-2), 2) := by decide +kernel
theorem dX8_save_11 : decode cX8_save 11 = .ok (.ireturn, 1) := by decide +kernel
theorem dX8_save_12 : decode cX8_save 12 = .ok (.aload_n 0, 1) := by decide +kernel
theorem dX8_save_13 : decode cX8_save 13 = .ok (.getfield 7, 3) := by decide +kernel
theorem dX8_save_16 : decode cX8_save 16 = .ok (.iconst 0, 1) := by decide +kernel
theorem dX8_save_17 : decode cX8_save 17 = .ok (.aload_n 0, 1) := by decide +kernel
theorem dX8_save_18 : decode cX8_save 18 = .ok (.getfield 19, 3) := by decide +kernel
theorem dX8_save_21 : decode cX8_save 21 = .ok (.sipush 580, 3) := by decide +kernel
theorem dX8_save_24 : decode cX8_save 24 = .ok (.iload_n 1, 1) := by decide +kernel
theorem dX8_save_25 : decode cX8_save 25 = .ok (.imul, 1) := by decide +kernel
theorem dX8_save_26 : decode cX8_save 26 = .ok (.invokestatic 59, 3) := by decide +kernel
theorem dX8_save_29 : decode cX8_save 29 = .ok (.aload_n 0, 1) := by decide +kernel
theorem dX8_save_30 : decode cX8_save 30 = .ok (.getfield 22, 3) := by decide +kernel
theorem dX8_save_33 : decode cX8_save 33 = .ok (.iload_n 1, 1) := by decide +kernel
theorem dX8_save_34 : decode cX8_save 34 = .ok (.iconst 1, 1) := by decide +kernel
theorem dX8_save_35 : decode cX8_save 35 = .ok (.bastore, 1) := by decide +kernel
theorem dX8_save_36 : decode cX8_save 36 = .ok (.aload_n 0, 1) := by decide +kernel
theorem dX8_save_37 : decode cX8_save 37 = .ok (.getfield 7, 3) := by decide +kernel
theorem dX8_save_40 : decode cX8_save 40 = .ok (.iconst 2, 1) := by decide +kernel
theorem dX8_save_41 : decode cX8_save 41 = .ok (.iaload, 1) := by decide +kernel
theorem dX8_save_42 : decode cX8_save 42 = .ok (.ireturn, 1) := by decide +kernel
set_option maxRecDepth 20000 in
theorem ggX8_restore_X8_in : GoodIn wsX8_restore wsX8_in := goodIn_r _ [7] (by decide +kernel) (by decide +kernel)
set_option maxRecDepth 20000 in
theorem gX8_restore_X8_in : GoodIn wsX8_restore (va_wsS RX8 51 yX8_in wsX8_in) := goodIn_app (goodIn_of _ (by decide +kernel)) ggX8_restore_X8_in
set_option maxRecDepth 20000 in
theorem ggX8_restore_X8_record : GoodIn wsX8_restore wsX8_record := goodIn_r _ [11, 12, 13, 3, 14, 15, 6, 16, 17, 18, 19, 20, 21, 22, 23, 24, 25, 26, 27, 28, 29, 30, 31, 32, 33, 34] (by decide +kernel) (by decide +kernel)
set_option maxRecDepth 20000 in
theorem gX8_restore_X8_record : GoodIn wsX8_restore (wsV RX8 63 RX8 yX8_record wsX8_record) := goodIn_app (goodIn_of _ (by decide +kernel)) ggX8_restore_X8_record
set_option maxRecDepth 20000 in
theorem ggX8_restore_X8_copyState : GoodIn wsX8_restore wsX8_copyState := goodIn_r _ [16] (by decide +kernel) (by decide +kernel)
set_option maxRecDepth 20000 in
theorem gX8_restore_X8_copyState : GoodIn wsX8_restore (va_wsS RX8 59 yX8_copyState wsX8_copyState) := goodIn_app (goodIn_of _ (by decide +kernel)) ggX8_restore_X8_copyState
theorem dX8_restore_0 : decode cX8_restore 0 = .ok (.iload_n 1, 1) := by decide +kernel
theorem dX8_restore_1 : decode cX8_restore 1 = .ok (.iconst 0, 1) := by decide +kernel
theorem dX8_restore_2 : decode cX8_restore 2 = .ok (.iconst 1, 1) := by decide +kernel
theorem dX8_restore_3 : decode cX8_restore 3 = .ok (.invokestatic 51, 3) := by decide +kernel
theorem dX8_restore_6 : decode cX8_restore 6 = .ok (.ifCond .ne 6, 3) := by decide +kernel
theorem dX8_restore_9 : decode cX8_restore 9 = .ok (.bipush (-2), 2) := by decide +kernel
theorem dX8_restore_11 : decode cX8_restore 11 = .ok (.ireturn, 1) := by decide +kernel
theorem dX8_restore_12 : decode cX8_restore 12 = .ok (.aload_n 0, 1) := by decide +kernel
theorem dX8_restore_13 : decode cX8_restore 13 = .ok (.getfield 22, 3) := by decide +kernel
theorem dX8_restore_16 : decode cX8_restore 16 = .ok (.iload_n 1, 1) := by decide +kernel
theorem dX8_restore_17 : decode cX8_restore 17 = .ok (.baload, 1) := by decide +kernel
theorem dX8_restore_18 : decode cX8_restore 18 = .ok (.ifCond .ne 6, 3) := by decide +kernel
theorem dX8_restore_21 : decode cX8_restore 21 = .ok (.bipush (-5), 2) := by decide +kernel
theorem dX8_restore_23 : decode cX8_restore 23 = .ok (.ireturn, 1) := by decide +kernel
theorem dX8_restore_24 : decode cX8_restore 24 = .ok (.aload_n 0, 1) := by decide +kernel
theorem dX8_restore_25 : decode cX8_restore 25 = .ok (.invokevirtual 63, 3) := by decide +kernel
theorem dX8_restore_28 : decode cX8_restore 28 = .ok (.aload_n 0, 1) := by decide +kernel
theorem dX8_restore_29 : decode cX8_restore 29 = .ok (.getfield 19, 3) := by decide +kernel
theorem dX8_restore_32 : decode cX8_restore 32 = .ok (.sipush 580, 3) := by decide +kernel
theorem dX8_restore_35 : decode cX8_restore 35 = .ok (.iload_n 1, 1) := by decide +kernel
theorem dX8_restore_36 : decode cX8_restore 36 = .ok (.imul, 1) := by decide +kernel
theorem dX8_restore_37 : decode cX8_restore 37 = .ok (.aload_n 0, 1) := by decide +kernel
theorem dX8_restore_38 : decode cX8_restore 38 = .ok (.getfield 7, 3) := by decide +kernel
theorem dX8_restore_41 : decode cX8_restore 41 = .ok (.iconst 0, 1) := by decide +kernel
theorem dX8_restore_42 : decode cX8_restore 42 = .ok (.invokestatic 59, 3) := by decide +kernel
theorem dX8_restore_45 : decode cX8_restore 45 = .ok (.aload_n 0, 1) := by decide +kernel
theorem dX8_restore_46 : decode cX8_restore 46 = .ok (.getfield 7, 3) := by decide +kernel
theorem dX8_restore_49 : decode cX8_restore 49 = .ok (.iconst 2, 1) := by decide +kernel
theorem dX8_restore_50 : decode cX8_restore 50 = .ok (.iaload, 1) := by decide +kernel
theorem dX8_restore_51 : decode cX8_restore 51 = .ok (.ireturn, 1) := by decide +kernel
set_option maxRecDepth 20000 in
theorem ggX8_set_X8_in : GoodIn wsX8_set wsX8_in := goodIn_r _ [5] (by decide +kernel) (by decide +kernel)
set_option maxRecDepth 20000 in
theorem gX8_set_X8_in : GoodIn wsX8_set (va_wsS RX8 51 yX8_in wsX8_in) := goodIn_app (goodIn_of _ (by decide +kernel)) ggX8_set_X8_in
set_option maxRecDepth 20000 in
theorem ggX8_set_X8_record : GoodIn wsX8_set wsX8_record := goodIn_r _ [9, 10, 11, 1, 12, 13, 4, 14, 15, 16, 17, 18, 19, 20, 21, 22, 23, 24, 25, 26, 27, 28, 29, 30, 31, 32] (by decide +kernel) (by decide +kernel)
set_option maxRecDepth 20000 in
theorem gX8_set_X8_record : GoodIn wsX8_set (wsV RX8 63 RX8 yX8_record wsX8_record) := goodIn_app (goodIn_of _ (by decide +kernel)) ggX8_set_X8_record
theorem dX8_set_0 : decode cX8_set 0 = .ok (.iload_n 1, 1) := by decide +kernel
theorem dX8_set_1 : decode cX8_set 1 = .ok (.iconst 0, 1) := by decide +kernel
theorem dX8_set_2 : decode cX8_set 2 = .ok (.iconst 1, 1) := by decide +kernel
theorem dX8_set_3 : decode cX8_set 3 = .ok (.invokestatic 51, 3) := by decide +kernel
theorem dX8_set_6 : decode cX8_set 6 = .ok (.ifCond .eq 21, 3) := by decide +kernel
theorem dX8_set_9 : decode cX8_set 9 = .ok (.iload_n 2, 1) := by decide +kernel
theorem dX8_set_10 : decode cX8_set 10 = .ok (.iconst 1, 1) := by decide +kernel
theorem dX8_set_11 : decode cX8_set 11 = .ok (.iload_n 1, 1) := by decide +kernel
theorem dX8_set_12 : decode cX8_set 12 = .ok (.ifCond .ne 7, 3) := by decide +kernel
theorem dX8_set_15 : decode cX8_set 15 = .ok (.iconst 5, 1) := by decide +kernel
theorem dX8_set_16 : decode cX8_set 16 = .ok (.goto 5, 3) := by decide +kernel
theorem dX8_set_19 : decode cX8_set 19 = .ok (.bipush 24, 2) := by decide +kernel
theorem dX8_set_21 : decode cX8_set 21 = .ok (.invokestatic 51, 3) := by decide +kernel
theorem dX8_set_24 : decode cX8_set 24 = .ok (.ifCond .ne 6, 3) := by decide +kernel
theorem dX8_set_27 : decode cX8_set 27 = .ok (.bipush (-2), 2) := by decide +kernel
theorem dX8_set_29 : decode cX8_set 29 = .ok (.ireturn, 1) := by decide +kernel
theorem dX8_set_30 : decode cX8_set 30 = .ok (.aload_n 0, 1) := by decide +kernel
theorem dX8_set_31 : decode cX8_set 31 = .ok (.invokevirtual 63, 3) := by decide +kernel
theorem dX8_set_34 : decode cX8_set 34 = .ok (.aload_n 0, 1) := by decide +kernel
theorem dX8_set_35 : decode cX8_set 35 = .ok (.getfield 7, 3) := by decide +kernel
theorem dX8_set_38 : decode cX8_set 38 = .ok (.iload_n 1, 1) := by decide +kernel
theorem dX8_set_39 : decode cX8_set 39 = .ok (.iaload, 1) := by decide +kernel
theorem dX8_set_40 : decode cX8_set 40 = .ok (.istore_n 3, 1) := by decide +kernel
theorem dX8_set_41 : decode cX8_set 41 = .ok (.aload_n 0, 1) := by decide +kernel
theorem dX8_set_42 : decode cX8_set 42 = .ok (.getfield 7, 3) := by decide +kernel
theorem dX8_set_45 : decode cX8_set 45 = .ok (.iload_n 1, 1) := by decide +kernel
theorem dX8_set_46 : decode cX8_set 46 = .ok (.iload_n 2, 1) := by decide +kernel
theorem dX8_set_47 : decode cX8_set 47 = .ok (.iastore, 1) := by decide +kernel
theorem dX8_set_48 : decode cX8_set 48 = .ok (.iload_n 3, 1) := by decide +kernel
theorem dX8_set_49 : decode cX8_set 49 = .ok (.ireturn, 1) := by decide +kernel
set_option maxRecDepth 20000 in
theorem ggX8_put_X8_in : GoodIn wsX8_put wsX8_in := goodIn_r _ [7] (by decide +kernel) (by decide +kernel)
set_option maxRecDepth 20000 in
theorem gX8_put_X8_in : GoodIn wsX8_put (va_wsS RX8 51 yX8_in wsX8_in) := goodIn_app (goodIn_of _ (by decide +kernel)) ggX8_put_X8_in
theorem dX8_put_0 : decode cX8_put 0 = .ok (.lload_n 1, 1) := by decide +kernel
theorem dX8_put_1 : decode cX8_put 1 = .ok (.lstore_n 3, 1) := by decide +kernel
theorem dX8_put_2 : decode cX8_put 2 = .ok (.iconst 0, 1) := by decide +kernel
theorem dX8_put_3 : decode cX8_put 3 = .ok (.istore 5, 2) := by decide +kernel
theorem dX8_put_5 : decode cX8_put 5 = .ok (.lload_n 3, 1) := by decide +kernel
theorem dX8_put_6 : decode cX8_put 6 = .ok (.lconst 0, 1) := by decide +kernel
theorem dX8_put_7 : decode cX8_put 7 = .ok (.lcmp, 1) := by decide +kernel
theorem dX8_put_8 : decode cX8_put 8 = .ok (.ifCond .eq 44, 3) := by decide +kernel
theorem dX8_put_11 : decode cX8_put 11 = .ok (.iload 5, 2) := by decide +kernel
theorem dX8_put_13 : decode cX8_put 13 = .ok (.bipush 8, 2) := by decide +kernel
theorem dX8_put_15 : decode cX8_put 15 = .ok (.if_icmp .ge 37, 3) := by decide +kernel
theorem dX8_put_18 : decode cX8_put 18 = .ok (.lload_n 3, 1) := by decide +kernel
theorem dX8_put_19 : decode cX8_put 19 = .ok (.ldc2_w 66, 3) := by decide +kernel
theorem dX8_put_22 : decode cX8_put 22 = .ok (.land, 1) := by decide +kernel
theorem dX8_put_23 : decode cX8_put 23 = .ok (.l2i, 1) := by decide +kernel
theorem dX8_put_24 : decode cX8_put 24 = .ok (.istore 6, 2) := by decide +kernel
theorem dX8_put_26 : decode cX8_put 26 = .ok (.iload 6, 2) := by decide +kernel
theorem dX8_put_28 : decode cX8_put 28 = .ok (.bipush 33, 2) := by decide +kernel
theorem dX8_put_30 : decode cX8_put 30 = .ok (.bipush 126, 2) := by decide +kernel
theorem dX8_put_32 : decode cX8_put 32 = .ok (.invokestatic 51, 3) := by decide +kernel
theorem dX8_put_35 : decode cX8_put 35 = .ok (.ifCond .ne 6, 3) := by decide +kernel
theorem dX8_put_38 : decode cX8_put 38 = .ok (.bipush (-2), 2) := by decide +kernel
theorem dX8_put_40 : decode cX8_put 40 = .ok (.ireturn, 1) := by decide +kernel
theorem dX8_put_41 : decode cX8_put 41 = .ok (.lload_n 3, 1) := by decide +kernel
theorem dX8_put_42 : decode cX8_put 42 = .ok (.bipush 8, 2) := by decide +kernel
theorem dX8_put_44 : decode cX8_put 44 = .ok (.lushr, 1) := by decide +kernel
theorem dX8_put_45 : decode cX8_put 45 = .ok (.lstore_n 3, 1) := by decide +kernel
theorem dX8_put_46 : decode cX8_put 46 = .ok (.iinc 5 1, 3) := by decide +kernel
theorem dX8_put_49 : decode cX8_put 49 = .ok (.goto (-44), 3) := by decide +kernel
theorem dX8_put_52 : decode cX8_put 52 = .ok (.iload 5, 2) := by decide +kernel
theorem dX8_put_54 : decode cX8_put 54 = .ok (.ifCond .ne 6, 3) := by decide +kernel
theorem dX8_put_57 : decode cX8_put 57 = .ok (.bipush (-2), 2) := by decide +kernel
theorem dX8_put_59 : decode cX8_put 59 = .ok (.ireturn, 1) := by decide +kernel
theorem dX8_put_60 : decode cX8_put 60 = .ok (.aload_n 0, 1) := by decide +kernel
theorem dX8_put_61 : decode cX8_put 61 = .ok (.getfield 68, 3) := by decide +kernel
theorem dX8_put_64 : decode cX8_put 64 = .ok (.iload 5, 2) := by decide +kernel
theorem dX8_put_66 : decode cX8_put 66 = .ok (.iadd, 1) := by decide +kernel
theorem dX8_put_67 : decode cX8_put 67 = .ok (.bipush 80, 2) := by decide +kernel
theorem dX8_put_69 : decode cX8_put 69 = .ok (.if_icmp .le 6, 3) := by decide +kernel
theorem dX8_put_72 : decode cX8_put 72 = .ok (.bipush (-4), 2) := by decide +kernel
theorem dX8_put_74 : decode cX8_put 74 = .ok (.ireturn, 1) := by decide +kernel
theorem dX8_put_75 : decode cX8_put 75 = .ok (.iload 5, 2) := by decide +kernel
theorem dX8_put_77 : decode cX8_put 77 = .ok (.iconst 1, 1) := by decide +kernel
theorem dX8_put_78 : decode cX8_put 78 = .ok (.isub, 1) := by decide +kernel
theorem dX8_put_79 : decode cX8_put 79 = .ok (.istore 6, 2) := by decide +kernel
theorem dX8_put_81 : decode cX8_put 81 = .ok (.iload 6, 2) := by decide +kernel
theorem dX8_put_83 : decode cX8_put 83 = .ok (.ifCond .lt 40, 3) := by decide +kernel
theorem dX8_put_86 : decode cX8_put 86 = .ok (.aload_n 0, 1) := by decide +kernel
theorem dX8_put_87 : decode cX8_put 87 = .ok (.getfield 26, 3) := by decide +kernel
theorem dX8_put_90 : decode cX8_put 90 = .ok (.aload_n 0, 1) := by decide +kernel
theorem dX8_put_91 : decode cX8_put 91 = .ok (.getfield 68, 3) := by decide +kernel
theorem dX8_put_94 : decode cX8_put 94 = .ok (.lload_n 1, 1) := by decide +kernel
theorem dX8_put_95 : decode cX8_put 95 = .ok (.bipush 8, 2) := by decide +kernel
theorem dX8_put_97 : decode cX8_put 97 = .ok (.iload 6, 2) := by decide +kernel
theorem dX8_put_99 : decode cX8_put 99 = .ok (.imul, 1) := by decide +kernel
theorem dX8_put_100 : decode cX8_put 100 = .ok (.lushr, 1) := by decide +kernel
theorem dX8_put_101 : decode cX8_put 101 = .ok (.ldc2_w 66, 3) := by decide +kernel
theorem dX8_put_104 : decode cX8_put 104 = .ok (.land, 1) := by decide +kernel
theorem dX8_put_105 : decode cX8_put 105 = .ok (.l2i, 1) := by decide +kernel
theorem dX8_put_106 : decode cX8_put 106 = .ok (.iastore, 1) := by decide +kernel
theorem dX8_put_107 : decode cX8_put 107 = .ok (.aload_n 0, 1) := by decide +kernel
theorem dX8_put_108 : decode cX8_put 108 = .ok (.dup, 1) := by decide +kernel
theorem dX8_put_109 : decode cX8_put 109 = .ok (.getfield 68, 3) := by decide +kernel
theorem dX8_put_112 : decode cX8_put 112 = .ok (.iconst 1, 1) := by decide +kernel
theorem dX8_put_113 : decode cX8_put 113 = .ok (.iadd, 1) := by decide +kernel
theorem dX8_put_114 : decode cX8_put 114 = .ok (.putfield 68, 3) := by decide +kernel
theorem dX8_put_117 : decode cX8_put 117 = .ok (.iinc 6 (-1), 3) := by decide +kernel
theorem dX8_put_120 : decode cX8_put 120 = .ok (.goto (-39), 3) := by decide +kernel
theorem dX8_put_123 : decode cX8_put 123 = .ok (.aload_n 0, 1) := by decide +kernel
theorem dX8_put_124 : decode cX8_put 124 = .ok (.getfield 68, 3) := by decide +kernel
theorem dX8_put_127 : decode cX8_put 127 = .ok (.ireturn, 1) := by decide +kernel
theorem dX8_wipe_0 : decode cX8_wipe 0 = .ok (.aload_n 0, 1) := by decide +kernel
theorem dX8_wipe_1 : decode cX8_wipe 1 = .ok (.getfield 68, 3) := by decide +kernel
theorem dX8_wipe_4 : decode cX8_wipe 4 = .ok (.istore_n 1, 1) := by decide +kernel
theorem dX8_wipe_5 : decode cX8_wipe 5 = .ok (.aload_n 0, 1) := by decide +kernel
theorem dX8_wipe_6 : decode cX8_wipe 6 = .ok (.iconst 0, 1) := by decide +kernel
theorem dX8_wipe_7 : decode cX8_wipe 7 = .ok (.putfield 68, 3) := by decide +kernel
theorem dX8_wipe_10 : decode cX8_wipe 10 = .ok (.iload_n 1, 1) := by decide +kernel
theorem dX8_wipe_11 : decode cX8_wipe 11 = .ok (.ireturn, 1) := by decide +kernel
set_option maxRecDepth 20000 in
theorem ggX8_faultOf_X8_in : GoodIn wsX8_faultOf wsX8_in := goodIn_r _ [6] (by decide +kernel) (by decide +kernel)
set_option maxRecDepth 20000 in
theorem gX8_faultOf_X8_in : GoodIn wsX8_faultOf (va_wsS RX8 51 yX8_in wsX8_in) := goodIn_app (goodIn_of _ (by decide +kernel)) ggX8_faultOf_X8_in
theorem dX8_faultOf_0 : decode cX8_faultOf 0 = .ok (.iconst 0, 1) := by decide +kernel
theorem dX8_faultOf_1 : decode cX8_faultOf 1 = .ok (.istore_n 1, 1) := by decide +kernel
theorem dX8_faultOf_2 : decode cX8_faultOf 2 = .ok (.iload_n 1, 1) := by decide +kernel
theorem dX8_faultOf_3 : decode cX8_faultOf 3 = .ok (.aload_n 0, 1) := by decide +kernel
theorem dX8_faultOf_4 : decode cX8_faultOf 4 = .ok (.getfield 68, 3) := by decide +kernel
theorem dX8_faultOf_7 : decode cX8_faultOf 7 = .ok (.if_icmp .ge 31, 3) := by decide +kernel
theorem dX8_faultOf_10 : decode cX8_faultOf 10 = .ok (.iload_n 1, 1) := by decide +kernel
theorem dX8_faultOf_11 : decode cX8_faultOf 11 = .ok (.bipush 10, 2) := by decide +kernel
theorem dX8_faultOf_13 : decode cX8_faultOf 13 = .ok (.if_icmp .ge 25, 3) := by decide +kernel
theorem dX8_faultOf_16 : decode cX8_faultOf 16 = .ok (.aload_n 0, 1) := by decide +kernel
theorem dX8_faultOf_17 : decode cX8_faultOf 17 = .ok (.getfield 26, 3) := by decide +kernel
theorem dX8_faultOf_20 : decode cX8_faultOf 20 = .ok (.iload_n 1, 1) := by decide +kernel
theorem dX8_faultOf_21 : decode cX8_faultOf 21 = .ok (.iaload, 1) := by decide +kernel
theorem dX8_faultOf_22 : decode cX8_faultOf 22 = .ok (.bipush 97, 2) := by decide +kernel
theorem dX8_faultOf_24 : decode cX8_faultOf 24 = .ok (.bipush 122, 2) := by decide +kernel
theorem dX8_faultOf_26 : decode cX8_faultOf 26 = .ok (.invokestatic 51, 3) := by decide +kernel
theorem dX8_faultOf_29 : decode cX8_faultOf 29 = .ok (.ifCond .eq 9, 3) := by decide +kernel
theorem dX8_faultOf_32 : decode cX8_faultOf 32 = .ok (.iinc 1 1, 3) := by decide +kernel
theorem dX8_faultOf_35 : decode cX8_faultOf 35 = .ok (.goto (-33), 3) := by decide +kernel
theorem dX8_faultOf_38 : decode cX8_faultOf 38 = .ok (.iload_n 1, 1) := by decide +kernel
theorem dX8_faultOf_39 : decode cX8_faultOf 39 = .ok (.aload_n 0, 1) := by decide +kernel
theorem dX8_faultOf_40 : decode cX8_faultOf 40 = .ok (.getfield 68, 3) := by decide +kernel
theorem dX8_faultOf_43 : decode cX8_faultOf 43 = .ok (.if_icmp .ne 15, 3) := by decide +kernel
theorem dX8_faultOf_46 : decode cX8_faultOf 46 = .ok (.aload_n 0, 1) := by decide +kernel
theorem dX8_faultOf_47 : decode cX8_faultOf 47 = .ok (.getfield 68, 3) := by decide +kernel
theorem dX8_faultOf_50 : decode cX8_faultOf 50 = .ok (.ifCond .le 8, 3) := by decide +kernel
theorem dX8_faultOf_53 : decode cX8_faultOf 53 = .ok (.bipush (-6), 2) := by decide +kernel
theorem dX8_faultOf_55 : decode cX8_faultOf 55 = .ok (.goto 4, 3) := by decide +kernel
