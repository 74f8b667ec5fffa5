theorem dL_cell_0 : decode cL_cell 0 = .ok (.iload_n 1, 1) := by decide +kernel
theorem dL_cell_1 : decode cL_cell 1 = .ok (.aload_n 0, 1) := by decide +kernel
theorem dL_cell_2 : decode cL_cell 2 = .ok (.arraylength, 1) := by decide +kernel
theorem dL_cell_3 : decode cL_cell 3 = .ok (.if_icmp .ge 9, 3) := by decide +kernel
theorem dL_cell_6 : decode cL_cell 6 = .ok (.aload_n 0, 1) := by decide +kernel
theorem dL_cell_7 : decode cL_cell 7 = .ok (.iload_n 1, 1) := by decide +kernel
theorem dL_cell_8 : decode cL_cell 8 = .ok (.iaload, 1) := by decide +kernel
theorem dL_cell_9 : decode cL_cell 9 = .ok (.goto 14, 3) := by decide +kernel
theorem dL_cell_12 : decode cL_cell 12 = .ok (.ldc 7, 2) := by decide +kernel
theorem dL_cell_14 : decode cL_cell 14 = .ok (.iload_n 1, 1) := by decide +kernel
theorem dL_cell_15 : decode cL_cell 15 = .ok (.bipush 29, 2) := by decide +kernel
theorem dL_cell_17 : decode cL_cell 17 = .ok (.iadd, 1) := by decide +kernel
theorem dL_cell_18 : decode cL_cell 18 = .ok (.imul, 1) := by decide +kernel
theorem dL_cell_19 : decode cL_cell 19 = .ok (.sipush 5021, 3) := by decide +kernel
theorem dL_cell_22 : decode cL_cell 22 = .ok (.iadd, 1) := by decide +kernel
theorem dL_cell_23 : decode cL_cell 23 = .ok (.ldc 8, 2) := by decide +kernel
theorem dL_cell_25 : decode cL_cell 25 = .ok (.iand, 1) := by decide +kernel
theorem dL_cell_26 : decode cL_cell 26 = .ok (.ireturn, 1) := by decide +kernel
theorem dL_many_0 : decode cL_many 0 = .ok (.lload_n 0, 1) := by decide +kernel
theorem dL_many_1 : decode cL_many 1 = .ok (.bipush 50, 2) := by decide +kernel
theorem dL_many_3 : decode cL_many 3 = .ok (.lshr, 1) := by decide +kernel
theorem dL_many_4 : decode cL_many 4 = .ok (.l2i, 1) := by decide +kernel
theorem dL_many_5 : decode cL_many 5 = .ok (.ireturn, 1) := by decide +kernel
theorem dL_letter_0 : decode cL_letter 0 = .ok (.lload_n 0, 1) := by decide +kernel
theorem dL_letter_1 : decode cL_letter 1 = .ok (.iconst 5, 1) := by decide +kernel
theorem dL_letter_2 : decode cL_letter 2 = .ok (.iload_n 2, 1) := by decide +kernel
theorem dL_letter_3 : decode cL_letter 3 = .ok (.imul, 1) := by decide +kernel
theorem dL_letter_4 : decode cL_letter 4 = .ok (.lshr, 1) := by decide +kernel
theorem dL_letter_5 : decode cL_letter 5 = .ok (.ldc2_w 9, 3) := by decide +kernel
theorem dL_letter_8 : decode cL_letter 8 = .ok (.land, 1) := by decide +kernel
theorem dL_letter_9 : decode cL_letter 9 = .ok (.l2i, 1) := by decide +kernel
theorem dL_letter_10 : decode cL_letter 10 = .ok (.ireturn, 1) := by decide +kernel
theorem dL_draw_0 : decode cL_draw 0 = .ok (.iconst 1, 1) := by decide +kernel
theorem dL_draw_1 : decode cL_draw 1 = .ok (.iload_n 0, 1) := by decide +kernel
theorem dL_draw_2 : decode cL_draw 2 = .ok (.iload_n 1, 1) := by decide +kernel
theorem dL_draw_3 : decode cL_draw 3 = .ok (.iconst 3, 1) := by decide +kernel
theorem dL_draw_4 : decode cL_draw 4 = .ok (.irem, 1) := by decide +kernel
theorem dL_draw_5 : decode cL_draw 5 = .ok (.ifCond .ne 8, 3) := by decide +kernel
theorem dL_draw_8 : decode cL_draw 8 = .ok (.bipush 10, 2) := by decide +kernel
theorem dL_draw_10 : decode cL_draw 10 = .ok (.goto 4, 3) := by decide +kernel
theorem dL_draw_13 : decode cL_draw 13 = .ok (.iconst 4, 1) := by decide +kernel
theorem dL_draw_14 : decode cL_draw 14 = .ok (.irem, 1) := by decide +kernel
theorem dL_draw_15 : decode cL_draw 15 = .ok (.iadd, 1) := by decide +kernel
theorem dL_draw_16 : decode cL_draw 16 = .ok (.istore_n 2, 1) := by decide +kernel
theorem dL_draw_17 : decode cL_draw 17 = .ok (.iload_n 2, 1) := by decide +kernel
theorem dL_draw_18 : decode cL_draw 18 = .ok (.i2l, 1) := by decide +kernel
theorem dL_draw_19 : decode cL_draw 19 = .ok (.bipush 50, 2) := by decide +kernel
theorem dL_draw_21 : decode cL_draw 21 = .ok (.lshl, 1) := by decide +kernel
theorem dL_draw_22 : decode cL_draw 22 = .ok (.lstore_n 3, 1) := by decide +kernel
theorem dL_draw_23 : decode cL_draw 23 = .ok (.iconst 0, 1) := by decide +kernel
theorem dL_draw_24 : decode cL_draw 24 = .ok (.istore 5, 2) := by decide +kernel
theorem dL_draw_26 : decode cL_draw 26 = .ok (.iload 5, 2) := by decide +kernel
theorem dL_draw_28 : decode cL_draw 28 = .ok (.iload_n 2, 1) := by decide +kernel
theorem dL_draw_29 : decode cL_draw 29 = .ok (.if_icmp .ge 38, 3) := by decide +kernel
theorem dL_draw_32 : decode cL_draw 32 = .ok (.lload_n 3, 1) := by decide +kernel
theorem dL_draw_33 : decode cL_draw 33 = .ok (.iload_n 1, 1) := by decide +kernel
theorem dL_draw_34 : decode cL_draw 34 = .ok (.iconst 2, 1) := by decide +kernel
theorem dL_draw_35 : decode cL_draw 35 = .ok (.iload 5, 2) := by decide +kernel
theorem dL_draw_37 : decode cL_draw 37 = .ok (.imul, 1) := by decide +kernel
theorem dL_draw_38 : decode cL_draw 38 = .ok (.ishr, 1) := by decide +kernel
theorem dL_draw_39 : decode cL_draw 39 = .ok (.iconst 5, 1) := by decide +kernel
theorem dL_draw_40 : decode cL_draw 40 = .ok (.irem, 1) := by decide +kernel
theorem dL_draw_41 : decode cL_draw 41 = .ok (.iconst 4, 1) := by decide +kernel
theorem dL_draw_42 : decode cL_draw 42 = .ok (.imul, 1) := by decide +kernel
theorem dL_draw_43 : decode cL_draw 43 = .ok (.bipush 26, 2) := by decide +kernel
theorem dL_draw_45 : decode cL_draw 45 = .ok (.irem, 1) := by decide +kernel
theorem dL_draw_46 : decode cL_draw 46 = .ok (.iload_n 0, 1) := by decide +kernel
theorem dL_draw_47 : decode cL_draw 47 = .ok (.iload 5, 2) := by decide +kernel
theorem dL_draw_49 : decode cL_draw 49 = .ok (.ishr, 1) := by decide +kernel
theorem dL_draw_50 : decode cL_draw 50 = .ok (.iconst 1, 1) := by decide +kernel
theorem dL_draw_51 : decode cL_draw 51 = .ok (.iand, 1) := by decide +kernel
theorem dL_draw_52 : decode cL_draw 52 = .ok (.iadd, 1) := by decide +kernel
theorem dL_draw_53 : decode cL_draw 53 = .ok (.i2l, 1) := by decide +kernel
theorem dL_draw_54 : decode cL_draw 54 = .ok (.iconst 5, 1) := by decide +kernel
theorem dL_draw_55 : decode cL_draw 55 = .ok (.iload 5, 2) := by decide +kernel
theorem dL_draw_57 : decode cL_draw 57 = .ok (.imul, 1) := by decide +kernel
theorem dL_draw_58 : decode cL_draw 58 = .ok (.lshl, 1) := by decide +kernel
theorem dL_draw_59 : decode cL_draw 59 = .ok (.lor, 1) := by decide +kernel
theorem dL_draw_60 : decode cL_draw 60 = .ok (.lstore_n 3, 1) := by decide +kernel
theorem dL_draw_61 : decode cL_draw 61 = .ok (.iinc 5 1, 3) := by decide +kernel
theorem dL_draw_64 : decode cL_draw 64 = .ok (.goto (-38), 3) := by decide +kernel
theorem dL_draw_67 : decode cL_draw 67 = .ok (.lload_n 3, 1) := by decide +kernel
theorem dL_draw_68 : decode cL_draw 68 = .ok (.lreturn, 1) := by decide +kernel
set_option maxHeartbeats 4000000 in
set_option maxRecDepth 100000 in
theorem ggL_writes_X7_wipe : GoodIn wsL_writes wsX7_wipe := goodIn_r _ [5, 6, 7, 69, 70, 71, 72, 73, 74, 75, 76, 77, 78, 79, 80] rfl (by decide +kernel)
set_option maxRecDepth 20000 in
theorem gL_writes_X7_wipe : GoodIn wsL_writes (wsV RL 11 RX7 yX7_wipe wsX7_wipe) := goodIn_app (goodIn_of _ (by decide +kernel)) ggL_writes_X7_wipe
set_option maxHeartbeats 4000000 in
set_option maxRecDepth 100000 in
theorem ggL_writes_L_many : GoodIn wsL_writes wsL_many := goodIn_r _ [11] rfl (by decide +kernel)
set_option maxRecDepth 20000 in
theorem gL_writes_L_many : GoodIn wsL_writes (va_wsS RL 17 yL_many wsL_many) := goodIn_app (goodIn_of _ (by decide +kernel)) ggL_writes_L_many
set_option maxHeartbeats 4000000 in
set_option maxRecDepth 100000 in
theorem ggL_writes_X7_fault : GoodIn wsL_writes wsX7_fault := goodIn_r _ [15, 6, 16, 17, 18, 19, 20, 21, 22, 69, 70, 71, 72, 73, 74, 75, 76, 77, 78, 79, 80] rfl (by decide +kernel)
set_option maxRecDepth 20000 in
theorem gL_writes_X7_fault : GoodIn wsL_writes (wsV RL 23 RX7 yX7_fault wsX7_fault) := goodIn_app (goodIn_of _ (by decide +kernel)) ggL_writes_X7_fault
set_option maxHeartbeats 4000000 in
set_option maxRecDepth 100000 in
theorem ggL_writes_L_letter : GoodIn wsL_writes wsL_letter := goodIn_r _ [25, 26] rfl (by decide +kernel)
set_option maxRecDepth 20000 in
theorem gL_writes_L_letter : GoodIn wsL_writes (va_wsS RL 26 yL_letter wsL_letter) := goodIn_app (goodIn_of _ (by decide +kernel)) ggL_writes_L_letter
set_option maxHeartbeats 4000000 in
set_option maxRecDepth 100000 in
theorem ggL_writes_X7_put : GoodIn wsL_writes wsX7_put := goodIn_r _ [30, 6, 7, 31, 32, 19, 33, 34, 35, 36, 37, 38, 39, 40, 21, 22, 69, 70, 71, 72, 73, 74, 75, 76, 77, 78, 79, 80] rfl (by decide +kernel)
set_option maxRecDepth 20000 in
theorem gL_writes_X7_put : GoodIn wsL_writes (wsV RL 30 RX7 yX7_put wsX7_put) := goodIn_app (goodIn_of _ (by decide +kernel)) ggL_writes_X7_put
set_option maxHeartbeats 4000000 in
set_option maxRecDepth 100000 in
theorem ggL_writes_X7_count : GoodIn wsL_writes wsX7_count := goodIn_r _ [44, 45, 46, 47, 48, 49, 6, 7, 50, 51, 52, 53, 54, 55, 56, 57, 58, 59, 60, 61, 62, 63, 64, 65, 66, 67, 68, 69, 70, 71, 72, 73, 74, 75, 76, 77, 78, 81, 82, 83, 84, 85, 86, 79, 80] rfl (by decide +kernel)
set_option maxRecDepth 20000 in
theorem gL_writes_X7_count : GoodIn wsL_writes (wsV RL 33 RX7 yX7_count wsX7_count) := goodIn_app (goodIn_of _ (by decide +kernel)) ggL_writes_X7_count
theorem dL_writes_0 : decode cL_writes 0 = .ok (.aload_n 0, 1) := by decide +kernel
theorem dL_writes_1 : decode cL_writes 1 = .ok (.invokevirtual 11, 3) := by decide +kernel
theorem dL_writes_4 : decode cL_writes 4 = .ok (.ifCond .lt 7, 3) := by decide +kernel
theorem dL_writes_7 : decode cL_writes 7 = .ok (.iconst 1, 1) := by decide +kernel
theorem dL_writes_8 : decode cL_writes 8 = .ok (.goto 4, 3) := by decide +kernel
theorem dL_writes_11 : decode cL_writes 11 = .ok (.iconst 0, 1) := by decide +kernel
theorem dL_writes_12 : decode cL_writes 12 = .ok (.istore_n 3, 1) := by decide +kernel
theorem dL_writes_13 : decode cL_writes 13 = .ok (.iconst 0, 1) := by decide +kernel
theorem dL_writes_14 : decode cL_writes 14 = .ok (.istore 4, 2) := by decide +kernel
theorem dL_writes_16 : decode cL_writes 16 = .ok (.iload 4, 2) := by decide +kernel
theorem dL_writes_18 : decode cL_writes 18 = .ok (.lload_n 1, 1) := by decide +kernel
theorem dL_writes_19 : decode cL_writes 19 = .ok (.invokestatic 17, 3) := by decide +kernel
theorem dL_writes_22 : decode cL_writes 22 = .ok (.if_icmp .ge 58, 3) := by decide +kernel
theorem dL_writes_25 : decode cL_writes 25 = .ok (.iload_n 3, 1) := by decide +kernel
theorem dL_writes_26 : decode cL_writes 26 = .ok (.ifCond .eq 54, 3) := by decide +kernel
theorem dL_writes_29 : decode cL_writes 29 = .ok (.aload_n 0, 1) := by decide +kernel
theorem dL_writes_30 : decode cL_writes 30 = .ok (.invokevirtual 23, 3) := by decide +kernel
theorem dL_writes_33 : decode cL_writes 33 = .ok (.iload 4, 2) := by decide +kernel
theorem dL_writes_35 : decode cL_writes 35 = .ok (.ifCond .ne 7, 3) := by decide +kernel
theorem dL_writes_38 : decode cL_writes 38 = .ok (.iconst 0, 1) := by decide +kernel
theorem dL_writes_39 : decode cL_writes 39 = .ok (.goto 5, 3) := by decide +kernel
theorem dL_writes_42 : decode cL_writes 42 = .ok (.bipush (-6), 2) := by decide +kernel
theorem dL_writes_44 : decode cL_writes 44 = .ok (.if_icmp .ne 28, 3) := by decide +kernel
theorem dL_writes_47 : decode cL_writes 47 = .ok (.aload_n 0, 1) := by decide +kernel
theorem dL_writes_48 : decode cL_writes 48 = .ok (.bipush 97, 2) := by decide +kernel
theorem dL_writes_50 : decode cL_writes 50 = .ok (.lload_n 1, 1) := by decide +kernel
theorem dL_writes_51 : decode cL_writes 51 = .ok (.iload 4, 2) := by decide +kernel
theorem dL_writes_53 : decode cL_writes 53 = .ok (.invokestatic 26, 3) := by decide +kernel
theorem dL_writes_56 : decode cL_writes 56 = .ok (.iadd, 1) := by decide +kernel
theorem dL_writes_57 : decode cL_writes 57 = .ok (.i2l, 1) := by decide +kernel
theorem dL_writes_58 : decode cL_writes 58 = .ok (.invokevirtual 30, 3) := by decide +kernel
theorem dL_writes_61 : decode cL_writes 61 = .ok (.iload 4, 2) := by decide +kernel
theorem dL_writes_63 : decode cL_writes 63 = .ok (.iconst 1, 1) := by decide +kernel
theorem dL_writes_64 : decode cL_writes 64 = .ok (.iadd, 1) := by decide +kernel
theorem dL_writes_65 : decode cL_writes 65 = .ok (.if_icmp .ne 7, 3) := by decide +kernel
theorem dL_writes_68 : decode cL_writes 68 = .ok (.iconst 1, 1) := by decide +kernel
theorem dL_writes_69 : decode cL_writes 69 = .ok (.goto 4, 3) := by decide +kernel
theorem dL_writes_72 : decode cL_writes 72 = .ok (.iconst 0, 1) := by decide +kernel
theorem dL_writes_73 : decode cL_writes 73 = .ok (.istore_n 3, 1) := by decide +kernel
theorem dL_writes_74 : decode cL_writes 74 = .ok (.iinc 4 1, 3) := by decide +kernel
theorem dL_writes_77 : decode cL_writes 77 = .ok (.goto (-61), 3) := by decide +kernel
theorem dL_writes_80 : decode cL_writes 80 = .ok (.iload_n 3, 1) := by decide +kernel
theorem dL_writes_81 : decode cL_writes 81 = .ok (.ifCond .eq 28, 3) := by decide +kernel
theorem dL_writes_84 : decode cL_writes 84 = .ok (.aload_n 0, 1) := by decide +kernel
theorem dL_writes_85 : decode cL_writes 85 = .ok (.invokevirtual 23, 3) := by decide +kernel
theorem dL_writes_88 : decode cL_writes 88 = .ok (.bipush (-6), 2) := by decide +kernel
theorem dL_writes_90 : decode cL_writes 90 = .ok (.if_icmp .ne 19, 3) := by decide +kernel
theorem dL_writes_93 : decode cL_writes 93 = .ok (.aload_n 0, 1) := by decide +kernel
theorem dL_writes_94 : decode cL_writes 94 = .ok (.iconst 4, 1) := by decide +kernel
theorem dL_writes_95 : decode cL_writes 95 = .ok (.invokevirtual 33, 3) := by decide +kernel
theorem dL_writes_98 : decode cL_writes 98 = .ok (.lload_n 1, 1) := by decide +kernel
theorem dL_writes_99 : decode cL_writes 99 = .ok (.invokestatic 17, 3) := by decide +kernel
theorem dL_writes_102 : decode cL_writes 102 = .ok (.if_icmp .ne 7, 3) := by decide +kernel
theorem dL_writes_105 : decode cL_writes 105 = .ok (.iconst 1, 1) := by decide +kernel
theorem dL_writes_106 : decode cL_writes 106 = .ok (.goto 4, 3) := by decide +kernel
theorem dL_writes_109 : decode cL_writes 109 = .ok (.iconst 0, 1) := by decide +kernel
theorem dL_writes_110 : decode cL_writes 110 = .ok (.ireturn, 1) := by decide +kernel
theorem dL_place_0 : decode cL_place 0 = .ok (.iconst 0, 1) := by decide +kernel
theorem dL_place_1 : decode cL_place 1 = .ok (.istore 4, 2) := by decide +kernel
theorem dL_place_3 : decode cL_place 3 = .ok (.iload 4, 2) := by decide +kernel
theorem dL_place_5 : decode cL_place 5 = .ok (.iload_n 1, 1) := by decide +kernel
theorem dL_place_6 : decode cL_place 6 = .ok (.if_icmp .ge 18, 3) := by decide +kernel
theorem dL_place_9 : decode cL_place 9 = .ok (.aload_n 0, 1) := by decide +kernel
theorem dL_place_10 : decode cL_place 10 = .ok (.iload 4, 2) := by decide +kernel
theorem dL_place_12 : decode cL_place 12 = .ok (.laload, 1) := by decide +kernel
theorem dL_place_13 : decode cL_place 13 = .ok (.lload_n 2, 1) := by decide +kernel
theorem dL_place_14 : decode cL_place 14 = .ok (.lcmp, 1) := by decide +kernel
theorem dL_place_15 : decode cL_place 15 = .ok (.ifCond .eq 9, 3) := by decide +kernel
theorem dL_place_18 : decode cL_place 18 = .ok (.iinc 4 1, 3) := by decide +kernel
theorem dL_place_21 : decode cL_place 21 = .ok (.goto (-18), 3) := by decide +kernel
theorem dL_place_24 : decode cL_place 24 = .ok (.iload 4, 2) := by decide +kernel
theorem dL_place_26 : decode cL_place 26 = .ok (.ireturn, 1) := by decide +kernel
set_option maxHeartbeats 4000000 in
set_option maxRecDepth 100000 in
theorem ggL_tells_X7_count : GoodIn wsL_tells wsX7_count := goodIn_r _ [5, 6, 7, 8, 9, 10, 11, 12, 13, 14, 15, 16, 17, 18, 19, 20, 21, 22, 23, 24, 25, 26, 27, 28, 29, 30, 31, 55, 56, 57, 58, 59, 60, 61, 62, 63, 64, 65, 66, 67, 68, 69, 70, 71, 72] rfl (by decide +kernel)
set_option maxRecDepth 20000 in
theorem gL_tells_X7_count : GoodIn wsL_tells (wsV RL 33 RX7 yX7_count wsX7_count) := goodIn_app (goodIn_of _ (by decide +kernel)) ggL_tells_X7_count
set_option maxHeartbeats 4000000 in
set_option maxRecDepth 100000 in
theorem ggL_tells_X7_name : GoodIn wsL_tells wsX7_name := goodIn_r _ [35, 6, 36, 37, 38, 39, 17, 40, 19, 41, 26, 23, 27, 28, 29, 30, 31, 42, 43, 4, 44, 45, 46, 22, 24, 25, 55, 56, 57, 58, 59, 60, 61, 62, 63, 64, 65, 66, 67, 68, 69, 70] rfl (by decide +kernel)
set_option maxRecDepth 20000 in
theorem gL_tells_X7_name : GoodIn wsL_tells (wsV RL 37 RX7 yX7_name wsX7_name) := goodIn_app (goodIn_of _ (by decide +kernel)) ggL_tells_X7_name
set_option maxHeartbeats 4000000 in
set_option maxRecDepth 100000 in
theorem ggL_tells_L_many : GoodIn wsL_tells wsL_many := goodIn_r _ [50] rfl (by decide +kernel)
set_option maxRecDepth 20000 in
theorem gL_tells_L_many : GoodIn wsL_tells (va_wsS RL 17 yL_many wsL_many) := goodIn_app (goodIn_of _ (by decide +kernel)) ggL_tells_L_many
set_option maxHeartbeats 4000000 in
set_option maxRecDepth 100000 in
theorem ggL_tells_L_letter : GoodIn wsL_tells wsL_letter := goodIn_r _ [53, 54] rfl (by decide +kernel)
set_option maxRecDepth 20000 in
theorem gL_tells_L_letter : GoodIn wsL_tells (va_wsS RL 26 yL_letter wsL_letter) := goodIn_app (goodIn_of _ (by decide +kernel)) ggL_tells_L_letter
theorem dL_tells_0 : decode cL_tells 0 = .ok (.aload_n 0, 1) := by decide +kernel
theorem dL_tells_1 : decode cL_tells 1 = .ok (.iconst 0, 1) := by decide +kernel
theorem dL_tells_2 : decode cL_tells 2 = .ok (.invokevirtual 33, 3) := by decide +kernel
theorem dL_tells_5 : decode cL_tells 5 = .ok (.iload_n 2, 1) := by decide +kernel
theorem dL_tells_6 : decode cL_tells 6 = .ok (.if_icmp .ne 28, 3) := by decide +kernel
theorem dL_tells_9 : decode cL_tells 9 = .ok (.aload_n 0, 1) := by decide +kernel
theorem dL_tells_10 : decode cL_tells 10 = .ok (.iload_n 2, 1) := by decide +kernel
theorem dL_tells_11 : decode cL_tells 11 = .ok (.bipush 12, 2) := by decide +kernel
theorem dL_tells_13 : decode cL_tells 13 = .ok (.invokevirtual 37, 3) := by decide +kernel
theorem dL_tells_16 : decode cL_tells 16 = .ok (.iconst (-1), 1) := by decide +kernel
theorem dL_tells_17 : decode cL_tells 17 = .ok (.if_icmp .ne 17, 3) := by decide +kernel
theorem dL_tells_20 : decode cL_tells 20 = .ok (.aload_n 0, 1) := by decide +kernel
theorem dL_tells_21 : decode cL_tells 21 = .ok (.iconst (-1), 1) := by decide +kernel
theorem dL_tells_22 : decode cL_tells 22 = .ok (.iconst 0, 1) := by decide +kernel
theorem dL_tells_23 : decode cL_tells 23 = .ok (.invokevirtual 37, 3) := by decide +kernel
theorem dL_tells_26 : decode cL_tells 26 = .ok (.iconst (-1), 1) := by decide +kernel
theorem dL_tells_27 : decode cL_tells 27 = .ok (.if_icmp .ne 7, 3) := by decide +kernel
theorem dL_tells_30 : decode cL_tells 30 = .ok (.iconst 1, 1) := by decide +kernel
theorem dL_tells_31 : decode cL_tells 31 = .ok (.goto 4, 3) := by decide +kernel
theorem dL_tells_34 : decode cL_tells 34 = .ok (.iconst 0, 1) := by decide +kernel
theorem dL_tells_35 : decode cL_tells 35 = .ok (.istore_n 3, 1) := by decide +kernel
theorem dL_tells_36 : decode cL_tells 36 = .ok (.iconst 0, 1) := by decide +kernel
theorem dL_tells_37 : decode cL_tells 37 = .ok (.istore 4, 2) := by decide +kernel
theorem dL_tells_39 : decode cL_tells 39 = .ok (.iconst 0, 1) := by decide +kernel
theorem dL_tells_40 : decode cL_tells 40 = .ok (.istore 5, 2) := by decide +kernel
theorem dL_tells_42 : decode cL_tells 42 = .ok (.iload 5, 2) := by decide +kernel
theorem dL_tells_44 : decode cL_tells 44 = .ok (.iload_n 2, 1) := by decide +kernel
theorem dL_tells_45 : decode cL_tells 45 = .ok (.if_icmp .ge 196, 3) := by decide +kernel
theorem dL_tells_48 : decode cL_tells 48 = .ok (.iload_n 3, 1) := by decide +kernel
theorem dL_tells_49 : decode cL_tells 49 = .ok (.ifCond .eq 192, 3) := by decide +kernel
theorem dL_tells_52 : decode cL_tells 52 = .ok (.iconst 0, 1) := by decide +kernel
theorem dL_tells_53 : decode cL_tells 53 = .ok (.istore 6, 2) := by decide +kernel
theorem dL_tells_55 : decode cL_tells 55 = .ok (.aload_n 0, 1) := by decide +kernel
theorem dL_tells_56 : decode cL_tells 56 = .ok (.iload 5, 2) := by decide +kernel
theorem dL_tells_58 : decode cL_tells 58 = .ok (.iconst 0, 1) := by decide +kernel
theorem dL_tells_59 : decode cL_tells 59 = .ok (.invokevirtual 37, 3) := by decide +kernel
theorem dL_tells_62 : decode cL_tells 62 = .ok (.aload_n 1, 1) := by decide +kernel
theorem dL_tells_63 : decode cL_tells 63 = .ok (.iload 5, 2) := by decide +kernel
theorem dL_tells_65 : decode cL_tells 65 = .ok (.laload, 1) := by decide +kernel
theorem dL_tells_66 : decode cL_tells 66 = .ok (.invokestatic 17, 3) := by decide +kernel
theorem dL_tells_69 : decode cL_tells 69 = .ok (.if_icmp .ne 32, 3) := by decide +kernel
theorem dL_tells_72 : decode cL_tells 72 = .ok (.aload_n 0, 1) := by decide +kernel
theorem dL_tells_73 : decode cL_tells 73 = .ok (.iload 5, 2) := by decide +kernel
theorem dL_tells_75 : decode cL_tells 75 = .ok (.bipush 12, 2) := by decide +kernel
theorem dL_tells_77 : decode cL_tells 77 = .ok (.invokevirtual 37, 3) := by decide +kernel
theorem dL_tells_80 : decode cL_tells 80 = .ok (.bipush (-2), 2) := by decide +kernel
theorem dL_tells_82 : decode cL_tells 82 = .ok (.if_icmp .ne 19, 3) := by decide +kernel
theorem dL_tells_85 : decode cL_tells 85 = .ok (.aload_n 0, 1) := by decide +kernel
theorem dL_tells_86 : decode cL_tells 86 = .ok (.iload 5, 2) := by decide +kernel
theorem dL_tells_88 : decode cL_tells 88 = .ok (.iconst (-1), 1) := by decide +kernel
theorem dL_tells_89 : decode cL_tells 89 = .ok (.invokevirtual 37, 3) := by decide +kernel
theorem dL_tells_92 : decode cL_tells 92 = .ok (.bipush (-2), 2) := by decide +kernel
theorem dL_tells_94 : decode cL_tells 94 = .ok (.if_icmp .ne 7, 3) := by decide +kernel
theorem dL_tells_97 : decode cL_tells 97 = .ok (.iconst 1, 1) := by decide +kernel
theorem dL_tells_98 : decode cL_tells 98 = .ok (.goto 4, 3) := by decide +kernel
theorem dL_tells_101 : decode cL_tells 101 = .ok (.iconst 0, 1) := by decide +kernel
theorem dL_tells_102 : decode cL_tells 102 = .ok (.istore_n 3, 1) := by decide +kernel
theorem dL_tells_103 : decode cL_tells 103 = .ok (.iconst 0, 1) := by decide +kernel
theorem dL_tells_104 : decode cL_tells 104 = .ok (.istore 7, 2) := by decide +kernel
theorem dL_tells_106 : decode cL_tells 106 = .ok (.iload 7, 2) := by decide +kernel
theorem dL_tells_108 : decode cL_tells 108 = .ok (.bipush 10, 2) := by decide +kernel
theorem dL_tells_110 : decode cL_tells 110 = .ok (.if_icmp .ge 95, 3) := by decide +kernel
theorem dL_tells_113 : decode cL_tells 113 = .ok (.iload_n 3, 1) := by decide +kernel
theorem dL_tells_114 : decode cL_tells 114 = .ok (.ifCond .eq 91, 3) := by decide +kernel
theorem dL_tells_117 : decode cL_tells 117 = .ok (.iload 7, 2) := by decide +kernel
theorem dL_tells_119 : decode cL_tells 119 = .ok (.aload_n 1, 1) := by decide +kernel
theorem dL_tells_120 : decode cL_tells 120 = .ok (.iload 5, 2) := by decide +kernel
theorem dL_tells_122 : decode cL_tells 122 = .ok (.laload, 1) := by decide +kernel
theorem dL_tells_123 : decode cL_tells 123 = .ok (.invokestatic 17, 3) := by decide +kernel
theorem dL_tells_126 : decode cL_tells 126 = .ok (.if_icmp .ge 7, 3) := by decide +kernel
theorem dL_tells_129 : decode cL_tells 129 = .ok (.iconst 1, 1) := by decide +kernel
theorem dL_tells_130 : decode cL_tells 130 = .ok (.goto 4, 3) := by decide +kernel
theorem dL_tells_133 : decode cL_tells 133 = .ok (.iconst 0, 1) := by decide +kernel
theorem dL_tells_134 : decode cL_tells 134 = .ok (.istore 8, 2) := by decide +kernel
theorem dL_tells_136 : decode cL_tells 136 = .ok (.iload 6, 2) := by decide +kernel
theorem dL_tells_138 : decode cL_tells 138 = .ok (.iload 8, 2) := by decide +kernel
theorem dL_tells_140 : decode cL_tells 140 = .ok (.ifCond .eq 17, 3) := by decide +kernel
theorem dL_tells_143 : decode cL_tells 143 = .ok (.iconst 1, 1) := by decide +kernel
theorem dL_tells_144 : decode cL_tells 144 = .ok (.aload_n 1, 1) := by decide +kernel
theorem dL_tells_145 : decode cL_tells 145 = .ok (.iload 5, 2) := by decide +kernel
theorem dL_tells_147 : decode cL_tells 147 = .ok (.laload, 1) := by decide +kernel
theorem dL_tells_148 : decode cL_tells 148 = .ok (.iload 7, 2) := by decide +kernel
theorem dL_tells_150 : decode cL_tells 150 = .ok (.invokestatic 26, 3) := by decide +kernel
theorem dL_tells_153 : decode cL_tells 153 = .ok (.ishl, 1) := by decide +kernel
theorem dL_tells_154 : decode cL_tells 154 = .ok (.goto 4, 3) := by decide +kernel
theorem dL_tells_157 : decode cL_tells 157 = .ok (.iconst 0, 1) := by decide +kernel
theorem dL_tells_158 : decode cL_tells 158 = .ok (.ior, 1) := by decide +kernel
theorem dL_tells_159 : decode cL_tells 159 = .ok (.istore 6, 2) := by decide +kernel
theorem dL_tells_161 : decode cL_tells 161 = .ok (.aload_n 0, 1) := by decide +kernel
theorem dL_tells_162 : decode cL_tells 162 = .ok (.iload 5, 2) := by decide +kernel
theorem dL_tells_164 : decode cL_tells 164 = .ok (.iload 7, 2) := by decide +kernel
theorem dL_tells_166 : decode cL_tells 166 = .ok (.iconst 1, 1) := by decide +kernel
theorem dL_tells_167 : decode cL_tells 167 = .ok (.iadd, 1) := by decide +kernel
theorem dL_tells_168 : decode cL_tells 168 = .ok (.invokevirtual 37, 3) := by decide +kernel
theorem dL_tells_171 : decode cL_tells 171 = .ok (.iload 8, 2) := by decide +kernel
theorem dL_tells_173 : decode cL_tells 173 = .ok (.ifCond .eq 15, 3) := by decide +kernel
theorem dL_tells_176 : decode cL_tells 176 = .ok (.aload_n 1, 1) := by decide +kernel
theorem dL_tells_177 : decode cL_tells 177 = .ok (.iload 5, 2) := by decide +kernel
theorem dL_tells_179 : decode cL_tells 179 = .ok (.laload, 1) := by decide +kernel
theorem dL_tells_180 : decode cL_tells 180 = .ok (.iload 7, 2) := by decide +kernel
theorem dL_tells_182 : decode cL_tells 182 = .ok (.invokestatic 26, 3) := by decide +kernel
theorem dL_tells_185 : decode cL_tells 185 = .ok (.goto 5, 3) := by decide +kernel
theorem dL_tells_188 : decode cL_tells 188 = .ok (.bipush (-6), 2) := by decide +kernel
theorem dL_tells_190 : decode cL_tells 190 = .ok (.if_icmp .ne 7, 3) := by decide +kernel
theorem dL_tells_193 : decode cL_tells 193 = .ok (.iconst 1, 1) := by decide +kernel
theorem dL_tells_194 : decode cL_tells 194 = .ok (.goto 4, 3) := by decide +kernel
theorem dL_tells_197 : decode cL_tells 197 = .ok (.iconst 0, 1) := by decide +kernel
theorem dL_tells_198 : decode cL_tells 198 = .ok (.istore_n 3, 1) := by decide +kernel
theorem dL_tells_199 : decode cL_tells 199 = .ok (.iinc 7 1, 3) := by decide +kernel
theorem dL_tells_202 : decode cL_tells 202 = .ok (.goto (-96), 3) := by decide +kernel
theorem dL_tells_205 : decode cL_tells 205 = .ok (.iload_n 3, 1) := by decide +kernel
theorem dL_tells_206 : decode cL_tells 206 = .ok (.ifCond .eq 20, 3) := by decide +kernel
theorem dL_tells_209 : decode cL_tells 209 = .ok (.aload_n 0, 1) := by decide +kernel
theorem dL_tells_210 : decode cL_tells 210 = .ok (.iload 5, 2) := by decide +kernel
theorem dL_tells_212 : decode cL_tells 212 = .ok (.bipush 11, 2) := by decide +kernel
theorem dL_tells_214 : decode cL_tells 214 = .ok (.invokevirtual 37, 3) := by decide +kernel
theorem dL_tells_217 : decode cL_tells 217 = .ok (.iload 6, 2) := by decide +kernel
theorem dL_tells_219 : decode cL_tells 219 = .ok (.if_icmp .ne 7, 3) := by decide +kernel
theorem dL_tells_222 : decode cL_tells 222 = .ok (.iconst 1, 1) := by decide +kernel
theorem dL_tells_223 : decode cL_tells 223 = .ok (.goto 4, 3) := by decide +kernel
theorem dL_tells_226 : decode cL_tells 226 = .ok (.iconst 0, 1) := by decide +kernel
theorem dL_tells_227 : decode cL_tells 227 = .ok (.istore_n 3, 1) := by decide +kernel
theorem dL_tells_228 : decode cL_tells 228 = .ok (.iload 4, 2) := by decide +kernel
theorem dL_tells_230 : decode cL_tells 230 = .ok (.iload 6, 2) := by decide +kernel
theorem dL_tells_232 : decode cL_tells 232 = .ok (.ior, 1) := by decide +kernel
theorem dL_tells_233 : decode cL_tells 233 = .ok (.istore 4, 2) := by decide +kernel
theorem dL_tells_235 : decode cL_tells 235 = .ok (.iinc 5 1, 3) := by decide +kernel
theorem dL_tells_238 : decode cL_tells 238 = .ok (.goto (-196), 3) := by decide +kernel
theorem dL_tells_241 : decode cL_tells 241 = .ok (.iload_n 3, 1) := by decide +kernel
theorem dL_tells_242 : decode cL_tells 242 = .ok (.ifCond .eq 18, 3) := by decide +kernel
theorem dL_tells_245 : decode cL_tells 245 = .ok (.aload_n 0, 1) := by decide +kernel
theorem dL_tells_246 : decode cL_tells 246 = .ok (.bipush 6, 2) := by decide +kernel
theorem dL_tells_248 : decode cL_tells 248 = .ok (.invokevirtual 33, 3) := by decide +kernel
theorem dL_tells_251 : decode cL_tells 251 = .ok (.iload 4, 2) := by decide +kernel
theorem dL_tells_253 : decode cL_tells 253 = .ok (.if_icmp .ne 7, 3) := by decide +kernel
theorem dL_tells_256 : decode cL_tells 256 = .ok (.iconst 1, 1) := by decide +kernel
theorem dL_tells_257 : decode cL_tells 257 = .ok (.goto 4, 3) := by decide +kernel
theorem dL_tells_260 : decode cL_tells 260 = .ok (.iconst 0, 1) := by decide +kernel
theorem dL_tells_261 : decode cL_tells 261 = .ok (.ireturn, 1) := by decide +kernel
set_option maxHeartbeats 4000000 in
set_option maxRecDepth 100000 in
theorem ggL_distance_L_many : GoodIn wsL_distance wsL_many := goodIn_r _ [4] rfl (by decide +kernel)
set_option maxRecDepth 20000 in
theorem gL_distance_L_many : GoodIn wsL_distance (va_wsS RL 17 yL_many wsL_many) := goodIn_app (goodIn_of _ (by decide +kernel)) ggL_distance_L_many
set_option maxHeartbeats 4000000 in
set_option maxRecDepth 100000 in
theorem ggL_distance_L_letter : GoodIn wsL_distance wsL_letter := goodIn_r _ [7, 8] rfl (by decide +kernel)
set_option maxRecDepth 20000 in
theorem gL_distance_L_letter : GoodIn wsL_distance (va_wsS RL 26 yL_letter wsL_letter) := goodIn_app (goodIn_of _ (by decide +kernel)) ggL_distance_L_letter
theorem dL_distance_0 : decode cL_distance 0 = .ok (.iconst 0, 1) := by decide +kernel
theorem dL_distance_1 : decode cL_distance 1 = .ok (.istore 5, 2) := by decide +kernel
theorem dL_distance_3 : decode cL_distance 3 = .ok (.iload 5, 2) := by decide +kernel
theorem dL_distance_5 : decode cL_distance 5 = .ok (.lload_n 1, 1) := by decide +kernel
theorem dL_distance_6 : decode cL_distance 6 = .ok (.invokestatic 17, 3) := by decide +kernel
theorem dL_distance_9 : decode cL_distance 9 = .ok (.if_icmp .gt 15, 3) := by decide +kernel
theorem dL_distance_12 : decode cL_distance 12 = .ok (.aload_n 0, 1) := by decide +kernel
theorem dL_distance_13 : decode cL_distance 13 = .ok (.iload 5, 2) := by decide +kernel
theorem dL_distance_15 : decode cL_distance 15 = .ok (.iload 5, 2) := by decide +kernel
theorem dL_distance_17 : decode cL_distance 17 = .ok (.iastore, 1) := by decide +kernel
theorem dL_distance_18 : decode cL_distance 18 = .ok (.iinc 5 1, 3) := by decide +kernel
theorem dL_distance_21 : decode cL_distance 21 = .ok (.goto (-18), 3) := by decide +kernel
theorem dL_distance_24 : decode cL_distance 24 = .ok (.iconst 1, 1) := by decide +kernel
theorem dL_distance_25 : decode cL_distance 25 = .ok (.istore 5, 2) := by decide +kernel
theorem dL_distance_27 : decode cL_distance 27 = .ok (.iload 5, 2) := by decide +kernel
theorem dL_distance_29 : decode cL_distance 29 = .ok (.lload_n 3, 1) := by decide +kernel
theorem dL_distance_30 : decode cL_distance 30 = .ok (.invokestatic 17, 3) := by decide +kernel
theorem dL_distance_33 : decode cL_distance 33 = .ok (.if_icmp .gt 154, 3) := by decide +kernel
theorem dL_distance_36 : decode cL_distance 36 = .ok (.bipush 11, 2) := by decide +kernel
theorem dL_distance_38 : decode cL_distance 38 = .ok (.iload 5, 2) := by decide +kernel
theorem dL_distance_40 : decode cL_distance 40 = .ok (.iconst 2, 1) := by decide +kernel
theorem dL_distance_41 : decode cL_distance 41 = .ok (.irem, 1) := by decide +kernel
theorem dL_distance_42 : decode cL_distance 42 = .ok (.imul, 1) := by decide +kernel
theorem dL_distance_43 : decode cL_distance 43 = .ok (.istore 6, 2) := by decide +kernel
theorem dL_distance_45 : decode cL_distance 45 = .ok (.bipush 11, 2) := by decide +kernel
theorem dL_distance_47 : decode cL_distance 47 = .ok (.iload 6, 2) := by decide +kernel
theorem dL_distance_49 : decode cL_distance 49 = .ok (.isub, 1) := by decide +kernel
theorem dL_distance_50 : decode cL_distance 50 = .ok (.istore 7, 2) := by decide +kernel
theorem dL_distance_52 : decode cL_distance 52 = .ok (.aload_n 0, 1) := by decide +kernel
theorem dL_distance_53 : decode cL_distance 53 = .ok (.iload 6, 2) := by decide +kernel
theorem dL_distance_55 : decode cL_distance 55 = .ok (.iload 5, 2) := by decide +kernel
theorem dL_distance_57 : decode cL_distance 57 = .ok (.iastore, 1) := by decide +kernel
theorem dL_distance_58 : decode cL_distance 58 = .ok (.iconst 1, 1) := by decide +kernel
theorem dL_distance_59 : decode cL_distance 59 = .ok (.istore 8, 2) := by decide +kernel
theorem dL_distance_61 : decode cL_distance 61 = .ok (.iload 8, 2) := by decide +kernel
theorem dL_distance_63 : decode cL_distance 63 = .ok (.lload_n 1, 1) := by decide +kernel
theorem dL_distance_64 : decode cL_distance 64 = .ok (.invokestatic 17, 3) := by decide +kernel
theorem dL_distance_67 : decode cL_distance 67 = .ok (.if_icmp .gt 114, 3) := by decide +kernel
theorem dL_distance_70 : decode cL_distance 70 = .ok (.aload_n 0, 1) := by decide +kernel
theorem dL_distance_71 : decode cL_distance 71 = .ok (.iload 7, 2) := by decide +kernel
theorem dL_distance_73 : decode cL_distance 73 = .ok (.iload 8, 2) := by decide +kernel
theorem dL_distance_75 : decode cL_distance 75 = .ok (.iadd, 1) := by decide +kernel
theorem dL_distance_76 : decode cL_distance 76 = .ok (.iconst 1, 1) := by decide +kernel
theorem dL_distance_77 : decode cL_distance 77 = .ok (.isub, 1) := by decide +kernel
theorem dL_distance_78 : decode cL_distance 78 = .ok (.iaload, 1) := by decide +kernel
theorem dL_distance_79 : decode cL_distance 79 = .ok (.lload_n 1, 1) := by decide +kernel
theorem dL_distance_80 : decode cL_distance 80 = .ok (.iload 8, 2) := by decide +kernel
theorem dL_distance_82 : decode cL_distance 82 = .ok (.iconst 1, 1) := by decide +kernel
theorem dL_distance_83 : decode cL_distance 83 = .ok (.isub, 1) := by decide +kernel
theorem dL_distance_84 : decode cL_distance 84 = .ok (.invokestatic 26, 3) := by decide +kernel
theorem dL_distance_87 : decode cL_distance 87 = .ok (.lload_n 3, 1) := by decide +kernel
theorem dL_distance_88 : decode cL_distance 88 = .ok (.iload 5, 2) := by decide +kernel
theorem dL_distance_90 : decode cL_distance 90 = .ok (.iconst 1, 1) := by decide +kernel
theorem dL_distance_91 : decode cL_distance 91 = .ok (.isub, 1) := by decide +kernel
theorem dL_distance_92 : decode cL_distance 92 = .ok (.invokestatic 26, 3) := by decide +kernel
theorem dL_distance_95 : decode cL_distance 95 = .ok (.if_icmp .ne 7, 3) := by decide +kernel
theorem dL_distance_98 : decode cL_distance 98 = .ok (.iconst 0, 1) := by decide +kernel
theorem dL_distance_99 : decode cL_distance 99 = .ok (.goto 4, 3) := by decide +kernel
theorem dL_distance_102 : decode cL_distance 102 = .ok (.iconst 1, 1) := by decide +kernel
theorem dL_distance_103 : decode cL_distance 103 = .ok (.iadd, 1) := by decide +kernel
theorem dL_distance_104 : decode cL_distance 104 = .ok (.istore 9, 2) := by decide +kernel
theorem dL_distance_106 : decode cL_distance 106 = .ok (.aload_n 0, 1) := by decide +kernel
theorem dL_distance_107 : decode cL_distance 107 = .ok (.iload 7, 2) := by decide +kernel
theorem dL_distance_109 : decode cL_distance 109 = .ok (.iload 8, 2) := by decide +kernel
theorem dL_distance_111 : decode cL_distance 111 = .ok (.iadd, 1) := by decide +kernel
theorem dL_distance_112 : decode cL_distance 112 = .ok (.iaload, 1) := by decide +kernel
theorem dL_distance_113 : decode cL_distance 113 = .ok (.iconst 1, 1) := by decide +kernel
theorem dL_distance_114 : decode cL_distance 114 = .ok (.iadd, 1) := by decide +kernel
theorem dL_distance_115 : decode cL_distance 115 = .ok (.iload 9, 2) := by decide +kernel
theorem dL_distance_117 : decode cL_distance 117 = .ok (.if_icmp .ge 15, 3) := by decide +kernel
theorem dL_distance_120 : decode cL_distance 120 = .ok (.aload_n 0, 1) := by decide +kernel
theorem dL_distance_121 : decode cL_distance 121 = .ok (.iload 7, 2) := by decide +kernel
theorem dL_distance_123 : decode cL_distance 123 = .ok (.iload 8, 2) := by decide +kernel
theorem dL_distance_125 : decode cL_distance 125 = .ok (.iadd, 1) := by decide +kernel
theorem dL_distance_126 : decode cL_distance 126 = .ok (.iaload, 1) := by decide +kernel
theorem dL_distance_127 : decode cL_distance 127 = .ok (.iconst 1, 1) := by decide +kernel
theorem dL_distance_128 : decode cL_distance 128 = .ok (.iadd, 1) := by decide +kernel
theorem dL_distance_129 : decode cL_distance 129 = .ok (.goto 5, 3) := by decide +kernel
theorem dL_distance_132 : decode cL_distance 132 = .ok (.iload 9, 2) := by decide +kernel
theorem dL_distance_134 : decode cL_distance 134 = .ok (.istore 9, 2) := by decide +kernel
theorem dL_distance_136 : decode cL_distance 136 = .ok (.aload_n 0, 1) := by decide +kernel
theorem dL_distance_137 : decode cL_distance 137 = .ok (.iload 6, 2) := by decide +kernel
theorem dL_distance_139 : decode cL_distance 139 = .ok (.iload 8, 2) := by decide +kernel
theorem dL_distance_141 : decode cL_distance 141 = .ok (.iadd, 1) := by decide +kernel
theorem dL_distance_142 : decode cL_distance 142 = .ok (.aload_n 0, 1) := by decide +kernel
theorem dL_distance_143 : decode cL_distance 143 = .ok (.iload 6, 2) := by decide +kernel
theorem dL_distance_145 : decode cL_distance 145 = .ok (.iload 8, 2) := by decide +kernel
theorem dL_distance_147 : decode cL_distance 147 = .ok (.iadd, 1) := by decide +kernel
theorem dL_distance_148 : decode cL_distance 148 = .ok (.iconst 1, 1) := by decide +kernel
theorem dL_distance_149 : decode cL_distance 149 = .ok (.isub, 1) := by decide +kernel
theorem dL_distance_150 : decode cL_distance 150 = .ok (.iaload, 1) := by decide +kernel
theorem dL_distance_151 : decode cL_distance 151 = .ok (.iconst 1, 1) := by decide +kernel
theorem dL_distance_152 : decode cL_distance 152 = .ok (.iadd, 1) := by decide +kernel
theorem dL_distance_153 : decode cL_distance 153 = .ok (.iload 9, 2) := by decide +kernel
theorem dL_distance_155 : decode cL_distance 155 = .ok (.if_icmp .ge 17, 3) := by decide +kernel
theorem dL_distance_158 : decode cL_distance 158 = .ok (.aload_n 0, 1) := by decide +kernel
theorem dL_distance_159 : decode cL_distance 159 = .ok (.iload 6, 2) := by decide +kernel
theorem dL_distance_161 : decode cL_distance 161 = .ok (.iload 8, 2) := by decide +kernel
theorem dL_distance_163 : decode cL_distance 163 = .ok (.iadd, 1) := by decide +kernel
theorem dL_distance_164 : decode cL_distance 164 = .ok (.iconst 1, 1) := by decide +kernel
theorem dL_distance_165 : decode cL_distance 165 = .ok (.isub, 1) := by decide +kernel
theorem dL_distance_166 : decode cL_distance 166 = .ok (.iaload, 1) := by decide +kernel
theorem dL_distance_167 : decode cL_distance 167 = .ok (.iconst 1, 1) := by decide +kernel
theorem dL_distance_168 : decode cL_distance 168 = .ok (.iadd, 1) := by decide +kernel
theorem dL_distance_169 : decode cL_distance 169 = .ok (.goto 5, 3) := by decide +kernel
theorem dL_distance_172 : decode cL_distance 172 = .ok (.iload 9, 2) := by decide +kernel
theorem dL_distance_174 : decode cL_distance 174 = .ok (.iastore, 1) := by decide +kernel
theorem dL_distance_175 : decode cL_distance 175 = .ok (.iinc 8 1, 3) := by decide +kernel
theorem dL_distance_178 : decode cL_distance 178 = .ok (.goto (-117), 3) := by decide +kernel
theorem dL_distance_181 : decode cL_distance 181 = .ok (.iinc 5 1, 3) := by decide +kernel
theorem dL_distance_184 : decode cL_distance 184 = .ok (.goto (-157), 3) := by decide +kernel
theorem dL_distance_187 : decode cL_distance 187 = .ok (.aload_n 0, 1) := by decide +kernel
theorem dL_distance_188 : decode cL_distance 188 = .ok (.bipush 11, 2) := by decide +kernel
theorem dL_distance_190 : decode cL_distance 190 = .ok (.lload_n 3, 1) := by decide +kernel
theorem dL_distance_191 : decode cL_distance 191 = .ok (.invokestatic 17, 3) := by decide +kernel
theorem dL_distance_194 : decode cL_distance 194 = .ok (.iconst 2, 1) := by decide +kernel
theorem dL_distance_195 : decode cL_distance 195 = .ok (.irem, 1) := by decide +kernel
theorem dL_distance_196 : decode cL_distance 196 = .ok (.imul, 1) := by decide +kernel
theorem dL_distance_197 : decode cL_distance 197 = .ok (.lload_n 1, 1) := by decide +kernel
theorem dL_distance_198 : decode cL_distance 198 = .ok (.invokestatic 17, 3) := by decide +kernel
theorem dL_distance_201 : decode cL_distance 201 = .ok (.iadd, 1) := by decide +kernel
theorem dL_distance_202 : decode cL_distance 202 = .ok (.iaload, 1) := by decide +kernel
theorem dL_distance_203 : decode cL_distance 203 = .ok (.ireturn, 1) := by decide +kernel
set_option maxHeartbeats 4000000 in
set_option maxRecDepth 100000 in
theorem ggL_distances_X7_distance : GoodIn wsL_distances wsX7_distance := goodIn_r _ [6, 7, 8, 9, 10, 11, 12, 13, 14, 15, 16, 17, 18, 19, 20, 21, 22, 23, 24, 25, 26, 27, 28, 29, 30, 31, 32, 33, 34, 46, 47, 48, 49, 50, 51, 52, 53, 54, 55, 56, 57, 58, 59, 60, 61, 62, 63] rfl (by decide +kernel)
set_option maxRecDepth 20000 in
theorem gL_distances_X7_distance : GoodIn wsL_distances (wsV RL 41 RX7 yX7_distance wsX7_distance) := goodIn_app (goodIn_of _ (by decide +kernel)) ggL_distances_X7_distance
set_option maxHeartbeats 4000000 in
set_option maxRecDepth 100000 in
theorem ggL_distances_L_distance : GoodIn wsL_distances wsL_distance := goodIn_r _ [38, 39, 40, 37, 41, 42, 43, 44, 45] rfl (by decide +kernel)
set_option maxRecDepth 20000 in
theorem gL_distances_L_distance : GoodIn wsL_distances (va_wsS RL 44 yL_distance wsL_distance) := goodIn_app (goodIn_of _ (by decide +kernel)) ggL_distances_L_distance
theorem dL_distances_0 : decode cL_distances 0 = .ok (.bipush 22, 2) := by decide +kernel
theorem dL_distances_2 : decode cL_distances 2 = .ok (.newarray .int, 2) := by decide +kernel
theorem dL_distances_4 : decode cL_distances 4 = .ok (.astore_n 3, 1) := by decide +kernel
theorem dL_distances_5 : decode cL_distances 5 = .ok (.aload_n 0, 1) := by decide +kernel
theorem dL_distances_6 : decode cL_distances 6 = .ok (.iload_n 2, 1) := by decide +kernel
theorem dL_distances_7 : decode cL_distances 7 = .ok (.iconst 0, 1) := by decide +kernel
theorem dL_distances_8 : decode cL_distances 8 = .ok (.invokevirtual 41, 3) := by decide +kernel
theorem dL_distances_11 : decode cL_distances 11 = .ok (.iconst (-1), 1) := by decide +kernel
theorem dL_distances_12 : decode cL_distances 12 = .ok (.if_icmp .ne 17, 3) := by decide +kernel
theorem dL_distances_15 : decode cL_distances 15 = .ok (.aload_n 0, 1) := by decide +kernel
theorem dL_distances_16 : decode cL_distances 16 = .ok (.iconst 0, 1) := by decide +kernel
theorem dL_distances_17 : decode cL_distances 17 = .ok (.iconst (-1), 1) := by decide +kernel
theorem dL_distances_18 : decode cL_distances 18 = .ok (.invokevirtual 41, 3) := by decide +kernel
theorem dL_distances_21 : decode cL_distances 21 = .ok (.iconst (-1), 1) := by decide +kernel
theorem dL_distances_22 : decode cL_distances 22 = .ok (.if_icmp .ne 7, 3) := by decide +kernel
theorem dL_distances_25 : decode cL_distances 25 = .ok (.iconst 1, 1) := by decide +kernel
theorem dL_distances_26 : decode cL_distances 26 = .ok (.goto 4, 3) := by decide +kernel
theorem dL_distances_29 : decode cL_distances 29 = .ok (.iconst 0, 1) := by decide +kernel
theorem dL_distances_30 : decode cL_distances 30 = .ok (.istore 4, 2) := by decide +kernel
theorem dL_distances_32 : decode cL_distances 32 = .ok (.iconst 0, 1) := by decide +kernel
theorem dL_distances_33 : decode cL_distances 33 = .ok (.istore 5, 2) := by decide +kernel
theorem dL_distances_35 : decode cL_distances 35 = .ok (.iload 5, 2) := by decide +kernel
theorem dL_distances_37 : decode cL_distances 37 = .ok (.iload_n 2, 1) := by decide +kernel
theorem dL_distances_38 : decode cL_distances 38 = .ok (.if_icmp .ge 64, 3) := by decide +kernel
theorem dL_distances_41 : decode cL_distances 41 = .ok (.iload 4, 2) := by decide +kernel
theorem dL_distances_43 : decode cL_distances 43 = .ok (.ifCond .eq 59, 3) := by decide +kernel
theorem dL_distances_46 : decode cL_distances 46 = .ok (.iconst 0, 1) := by decide +kernel
theorem dL_distances_47 : decode cL_distances 47 = .ok (.istore 6, 2) := by decide +kernel
theorem dL_distances_49 : decode cL_distances 49 = .ok (.iload 6, 2) := by decide +kernel
theorem dL_distances_51 : decode cL_distances 51 = .ok (.iload_n 2, 1) := by decide +kernel
theorem dL_distances_52 : decode cL_distances 52 = .ok (.if_icmp .ge 44, 3) := by decide +kernel
theorem dL_distances_55 : decode cL_distances 55 = .ok (.iload 4, 2) := by decide +kernel
theorem dL_distances_57 : decode cL_distances 57 = .ok (.ifCond .eq 39, 3) := by decide +kernel
theorem dL_distances_60 : decode cL_distances 60 = .ok (.aload_n 0, 1) := by decide +kernel
theorem dL_distances_61 : decode cL_distances 61 = .ok (.iload 5, 2) := by decide +kernel
theorem dL_distances_63 : decode cL_distances 63 = .ok (.iload 6, 2) := by decide +kernel
theorem dL_distances_65 : decode cL_distances 65 = .ok (.invokevirtual 41, 3) := by decide +kernel
theorem dL_distances_68 : decode cL_distances 68 = .ok (.aload_n 3, 1) := by decide +kernel
theorem dL_distances_69 : decode cL_distances 69 = .ok (.aload_n 1, 1) := by decide +kernel
theorem dL_distances_70 : decode cL_distances 70 = .ok (.iload 5, 2) := by decide +kernel
theorem dL_distances_72 : decode cL_distances 72 = .ok (.laload, 1) := by decide +kernel
theorem dL_distances_73 : decode cL_distances 73 = .ok (.aload_n 1, 1) := by decide +kernel
theorem dL_distances_74 : decode cL_distances 74 = .ok (.iload 6, 2) := by decide +kernel
theorem dL_distances_76 : decode cL_distances 76 = .ok (.laload, 1) := by decide +kernel
theorem dL_distances_77 : decode cL_distances 77 = .ok (.invokestatic 44, 3) := by decide +kernel
theorem dL_distances_80 : decode cL_distances 80 = .ok (.if_icmp .ne 7, 3) := by decide +kernel
theorem dL_distances_83 : decode cL_distances 83 = .ok (.iconst 1, 1) := by decide +kernel
theorem dL_distances_84 : decode cL_distances 84 = .ok (.goto 4, 3) := by decide +kernel
theorem dL_distances_87 : decode cL_distances 87 = .ok (.iconst 0, 1) := by decide +kernel
theorem dL_distances_88 : decode cL_distances 88 = .ok (.istore 4, 2) := by decide +kernel
theorem dL_distances_90 : decode cL_distances 90 = .ok (.iinc 6 1, 3) := by decide +kernel
theorem dL_distances_93 : decode cL_distances 93 = .ok (.goto (-44), 3) := by decide +kernel
theorem dL_distances_96 : decode cL_distances 96 = .ok (.iinc 5 1, 3) := by decide +kernel
theorem dL_distances_99 : decode cL_distances 99 = .ok (.goto (-64), 3) := by decide +kernel
theorem dL_distances_102 : decode cL_distances 102 = .ok (.iload 4, 2) := by decide +kernel
theorem dL_distances_104 : decode cL_distances 104 = .ok (.ireturn, 1) := by decide +kernel
set_option maxHeartbeats 4000000 in
set_option maxRecDepth 100000 in
theorem ggL_seen_X7_count : GoodIn wsL_seen wsX7_count := goodIn_r _ [7, 8, 9, 10, 11, 12, 13, 14, 15, 16, 17, 18, 19, 20, 21, 22, 23, 24, 25, 26, 27, 28, 29, 30, 31, 32, 33, 168, 169, 170, 171, 172, 173, 174, 175, 176, 177, 178, 179, 180, 181, 182, 183, 184, 185] rfl (by decide +kernel)
set_option maxRecDepth 20000 in
theorem gL_seen_X7_count : GoodIn wsL_seen (wsV RL 33 RX7 yX7_count wsX7_count) := goodIn_app (goodIn_of _ (by decide +kernel)) ggL_seen_X7_count
set_option maxHeartbeats 4000000 in
set_option maxRecDepth 100000 in
theorem ggL_seen_X7_name : GoodIn wsL_seen wsX7_name := goodIn_r _ [37, 8, 38, 39, 40, 41, 19, 42, 21, 43, 28, 25, 29, 30, 31, 32, 33, 44, 45, 6, 46, 47, 48, 24, 26, 27, 168, 169, 170, 171, 172, 173, 174, 175, 176, 177, 178, 179, 180, 181, 182, 183] rfl (by decide +kernel)
set_option maxRecDepth 20000 in
theorem gL_seen_X7_name : GoodIn wsL_seen (wsV RL 37 RX7 yX7_name wsX7_name) := goodIn_app (goodIn_of _ (by decide +kernel)) ggL_seen_X7_name
set_option maxHeartbeats 4000000 in
set_option maxRecDepth 100000 in
theorem ggL_seen_X7_of : GoodIn wsL_seen wsX7_of := goodIn_r _ [52, 8, 53, 54, 55, 56, 57, 19, 58, 59, 60, 61, 62, 25, 63, 64, 65, 66, 67, 68, 69, 168, 169, 170, 171, 172, 173, 174, 175, 176, 177, 186, 187, 188, 189, 190, 191, 192, 193, 178, 179, 180, 181, 182, 183] rfl (by decide +kernel)
set_option maxRecDepth 20000 in
theorem gL_seen_X7_of : GoodIn wsL_seen (wsV RL 49 RX7 yX7_of wsX7_of) := goodIn_app (goodIn_of _ (by decide +kernel)) ggL_seen_X7_of
set_option maxHeartbeats 4000000 in
set_option maxRecDepth 100000 in
theorem ggL_seen_X7_ofEar : GoodIn wsL_seen wsX7_ofEar := goodIn_r _ [73, 8, 74, 75, 76, 77, 55, 56, 57, 19, 58, 59, 60, 78, 79, 80, 81, 82, 83, 84, 85, 86, 87, 88, 89, 90, 91, 92, 93, 94, 67, 95, 96, 97, 98, 99, 100, 101, 31, 25, 32, 33, 102, 62, 63, 103, 104, 105, 106, 107, 108, 109, 110, 111, 69, 112, 113, 114, 115, 116, 117, 118, 119, 120, 121, 122, 123, 124, 125, 126, 127, 128, 129, 130, 131, 132, 133, 134, 135, 136, 137, 138, 139, 140, 141, 142, 143, 144, 145, 146, 147, 148, 149, 150, 151, 152, 153, 154, 155, 156, 157, 158, 159, 160, 161, 162, 163, 64, 65, 66, 68, 168, 169, 170, 171, 172, 173, 174, 175, 176, 177, 186, 187, 188, 189, 190, 191, 192, 193, 194, 195, 196, 197, 198, 199, 200, 178, 179, 180, 181, 182, 183] rfl (by decide +kernel)
set_option maxRecDepth 20000 in
theorem gL_seen_X7_ofEar : GoodIn wsL_seen (wsV RL 53 RX7 yX7_ofEar wsX7_ofEar) := goodIn_app (goodIn_of _ (by decide +kernel)) ggL_seen_X7_ofEar
set_option maxHeartbeats 4000000 in
set_option maxRecDepth 100000 in
theorem ggL_seen_X7_deafest : GoodIn wsL_seen wsX7_deafest := goodIn_r _ [167, 8, 10, 74, 55, 56, 57, 19, 58, 59, 60, 78, 79, 80, 81, 82, 83, 84, 85, 86, 87, 88, 89, 90, 91, 92, 93, 94, 67, 95, 96, 97, 98, 99, 100, 101, 31, 25, 32, 33, 102, 62, 63, 103, 104, 105, 106, 107, 108, 109, 110, 111, 69, 112, 113, 114, 115, 116, 117, 118, 119, 120, 140, 141, 142, 143, 144, 145, 146, 147, 148, 149, 150, 151, 152, 153, 154, 155, 156, 157, 158, 159, 129, 130, 131, 132, 133, 134, 135, 168, 169, 170, 171, 172, 173, 174, 175, 176, 177, 178, 179, 180, 181, 182, 183, 194, 195, 196, 197, 198, 199, 200, 186, 187, 188, 189, 190, 191, 192, 193] rfl (by decide +kernel)
set_option maxRecDepth 20000 in
theorem gL_seen_X7_deafest : GoodIn wsL_seen (wsV RL 56 RX7 yX7_deafest wsX7_deafest) := goodIn_app (goodIn_of _ (by decide +kernel)) ggL_seen_X7_deafest
theorem dL_seen_0 : decode cL_seen 0 = .ok (.ldc2_w 47, 3) := by decide +kernel
theorem dL_seen_3 : decode cL_seen 3 = .ok (.lstore_n 1, 1) := by decide +kernel
theorem dL_seen_4 : decode cL_seen 4 = .ok (.iconst 0, 1) := by decide +kernel
theorem dL_seen_5 : decode cL_seen 5 = .ok (.istore_n 3, 1) := by decide +kernel
theorem dL_seen_6 : decode cL_seen 6 = .ok (.iload_n 3, 1) := by decide +kernel
theorem dL_seen_7 : decode cL_seen 7 = .ok (.iconst 4, 1) := by decide +kernel
theorem dL_seen_8 : decode cL_seen 8 = .ok (.if_icmp .ge 22, 3) := by decide +kernel
theorem dL_seen_11 : decode cL_seen 11 = .ok (.ldc2_w 9, 3) := by decide +kernel
theorem dL_seen_14 : decode cL_seen 14 = .ok (.lload_n 1, 1) := by decide +kernel
theorem dL_seen_15 : decode cL_seen 15 = .ok (.lmul, 1) := by decide +kernel
theorem dL_seen_16 : decode cL_seen 16 = .ok (.aload_n 0, 1) := by decide +kernel
theorem dL_seen_17 : decode cL_seen 17 = .ok (.iload_n 3, 1) := by decide +kernel
theorem dL_seen_18 : decode cL_seen 18 = .ok (.invokevirtual 33, 3) := by decide +kernel
theorem dL_seen_21 : decode cL_seen 21 = .ok (.i2l, 1) := by decide +kernel
theorem dL_seen_22 : decode cL_seen 22 = .ok (.ladd, 1) := by decide +kernel
theorem dL_seen_23 : decode cL_seen 23 = .ok (.lstore_n 1, 1) := by decide +kernel
theorem dL_seen_24 : decode cL_seen 24 = .ok (.iinc 3 1, 3) := by decide +kernel
theorem dL_seen_27 : decode cL_seen 27 = .ok (.goto (-21), 3) := by decide +kernel
theorem dL_seen_30 : decode cL_seen 30 = .ok (.iconst 0, 1) := by decide +kernel
theorem dL_seen_31 : decode cL_seen 31 = .ok (.istore_n 3, 1) := by decide +kernel
theorem dL_seen_32 : decode cL_seen 32 = .ok (.iload_n 3, 1) := by decide +kernel
theorem dL_seen_33 : decode cL_seen 33 = .ok (.aload_n 0, 1) := by decide +kernel
theorem dL_seen_34 : decode cL_seen 34 = .ok (.iconst 0, 1) := by decide +kernel
theorem dL_seen_35 : decode cL_seen 35 = .ok (.invokevirtual 33, 3) := by decide +kernel
theorem dL_seen_38 : decode cL_seen 38 = .ok (.if_icmp .ge 40, 3) := by decide +kernel
theorem dL_seen_41 : decode cL_seen 41 = .ok (.iconst 0, 1) := by decide +kernel
theorem dL_seen_42 : decode cL_seen 42 = .ok (.istore 4, 2) := by decide +kernel
theorem dL_seen_44 : decode cL_seen 44 = .ok (.iload 4, 2) := by decide +kernel
theorem dL_seen_46 : decode cL_seen 46 = .ok (.bipush 11, 2) := by decide +kernel
theorem dL_seen_48 : decode cL_seen 48 = .ok (.if_icmp .ge 24, 3) := by decide +kernel
theorem dL_seen_51 : decode cL_seen 51 = .ok (.ldc2_w 9, 3) := by decide +kernel
theorem dL_seen_54 : decode cL_seen 54 = .ok (.lload_n 1, 1) := by decide +kernel
theorem dL_seen_55 : decode cL_seen 55 = .ok (.lmul, 1) := by decide +kernel
theorem dL_seen_56 : decode cL_seen 56 = .ok (.aload_n 0, 1) := by decide +kernel
theorem dL_seen_57 : decode cL_seen 57 = .ok (.iload_n 3, 1) := by decide +kernel
theorem dL_seen_58 : decode cL_seen 58 = .ok (.iload 4, 2) := by decide +kernel
theorem dL_seen_60 : decode cL_seen 60 = .ok (.invokevirtual 37, 3) := by decide +kernel
theorem dL_seen_63 : decode cL_seen 63 = .ok (.i2l, 1) := by decide +kernel
theorem dL_seen_64 : decode cL_seen 64 = .ok (.ladd, 1) := by decide +kernel
theorem dL_seen_65 : decode cL_seen 65 = .ok (.lstore_n 1, 1) := by decide +kernel
theorem dL_seen_66 : decode cL_seen 66 = .ok (.iinc 4 1, 3) := by decide +kernel
theorem dL_seen_69 : decode cL_seen 69 = .ok (.goto (-25), 3) := by decide +kernel
theorem dL_seen_72 : decode cL_seen 72 = .ok (.iinc 3 1, 3) := by decide +kernel
theorem dL_seen_75 : decode cL_seen 75 = .ok (.goto (-43), 3) := by decide +kernel
theorem dL_seen_78 : decode cL_seen 78 = .ok (.iconst 0, 1) := by decide +kernel
theorem dL_seen_79 : decode cL_seen 79 = .ok (.istore_n 3, 1) := by decide +kernel
theorem dL_seen_80 : decode cL_seen 80 = .ok (.iload_n 3, 1) := by decide +kernel
theorem dL_seen_81 : decode cL_seen 81 = .ok (.bipush 104, 2) := by decide +kernel
theorem dL_seen_83 : decode cL_seen 83 = .ok (.if_icmp .ge 49, 3) := by decide +kernel
theorem dL_seen_86 : decode cL_seen 86 = .ok (.ldc2_w 9, 3) := by decide +kernel
theorem dL_seen_89 : decode cL_seen 89 = .ok (.ldc2_w 9, 3) := by decide +kernel
theorem dL_seen_92 : decode cL_seen 92 = .ok (.lload_n 1, 1) := by decide +kernel
theorem dL_seen_93 : decode cL_seen 93 = .ok (.lmul, 1) := by decide +kernel
theorem dL_seen_94 : decode cL_seen 94 = .ok (.aload_n 0, 1) := by decide +kernel
theorem dL_seen_95 : decode cL_seen 95 = .ok (.iload_n 3, 1) := by decide +kernel
theorem dL_seen_96 : decode cL_seen 96 = .ok (.bipush 26, 2) := by decide +kernel
theorem dL_seen_98 : decode cL_seen 98 = .ok (.idiv, 1) := by decide +kernel
theorem dL_seen_99 : decode cL_seen 99 = .ok (.iload_n 3, 1) := by decide +kernel
theorem dL_seen_100 : decode cL_seen 100 = .ok (.bipush 26, 2) := by decide +kernel
theorem dL_seen_102 : decode cL_seen 102 = .ok (.irem, 1) := by decide +kernel
theorem dL_seen_103 : decode cL_seen 103 = .ok (.iconst 0, 1) := by decide +kernel
theorem dL_seen_104 : decode cL_seen 104 = .ok (.invokevirtual 49, 3) := by decide +kernel
theorem dL_seen_107 : decode cL_seen 107 = .ok (.i2l, 1) := by decide +kernel
theorem dL_seen_108 : decode cL_seen 108 = .ok (.ladd, 1) := by decide +kernel
theorem dL_seen_109 : decode cL_seen 109 = .ok (.lmul, 1) := by decide +kernel
theorem dL_seen_110 : decode cL_seen 110 = .ok (.aload_n 0, 1) := by decide +kernel
theorem dL_seen_111 : decode cL_seen 111 = .ok (.iload_n 3, 1) := by decide +kernel
theorem dL_seen_112 : decode cL_seen 112 = .ok (.bipush 26, 2) := by decide +kernel
theorem dL_seen_114 : decode cL_seen 114 = .ok (.idiv, 1) := by decide +kernel
theorem dL_seen_115 : decode cL_seen 115 = .ok (.iload_n 3, 1) := by decide +kernel
theorem dL_seen_116 : decode cL_seen 116 = .ok (.bipush 26, 2) := by decide +kernel
theorem dL_seen_118 : decode cL_seen 118 = .ok (.irem, 1) := by decide +kernel
theorem dL_seen_119 : decode cL_seen 119 = .ok (.iconst 1, 1) := by decide +kernel
theorem dL_seen_120 : decode cL_seen 120 = .ok (.invokevirtual 49, 3) := by decide +kernel
theorem dL_seen_123 : decode cL_seen 123 = .ok (.i2l, 1) := by decide +kernel
theorem dL_seen_124 : decode cL_seen 124 = .ok (.ladd, 1) := by decide +kernel
theorem dL_seen_125 : decode cL_seen 125 = .ok (.lstore_n 1, 1) := by decide +kernel
theorem dL_seen_126 : decode cL_seen 126 = .ok (.iinc 3 1, 3) := by decide +kernel
theorem dL_seen_129 : decode cL_seen 129 = .ok (.goto (-49), 3) := by decide +kernel
theorem dL_seen_132 : decode cL_seen 132 = .ok (.iconst 0, 1) := by decide +kernel
theorem dL_seen_133 : decode cL_seen 133 = .ok (.istore_n 3, 1) := by decide +kernel
theorem dL_seen_134 : decode cL_seen 134 = .ok (.iload_n 3, 1) := by decide +kernel
theorem dL_seen_135 : decode cL_seen 135 = .ok (.bipush 32, 2) := by decide +kernel
theorem dL_seen_137 : decode cL_seen 137 = .ok (.if_icmp .ge 29, 3) := by decide +kernel
theorem dL_seen_140 : decode cL_seen 140 = .ok (.ldc2_w 9, 3) := by decide +kernel
theorem dL_seen_143 : decode cL_seen 143 = .ok (.lload_n 1, 1) := by decide +kernel
theorem dL_seen_144 : decode cL_seen 144 = .ok (.lmul, 1) := by decide +kernel
theorem dL_seen_145 : decode cL_seen 145 = .ok (.aload_n 0, 1) := by decide +kernel
theorem dL_seen_146 : decode cL_seen 146 = .ok (.iload_n 3, 1) := by decide +kernel
