theorem dJ6_bitCount_0f7a4_0 : decode cJ6_bitCount_0f7a4 0 = .ok (.iload_n 0, 1) := by decide +kernel
theorem dJ6_bitCount_0f7a4_1 : decode cJ6_bitCount_0f7a4 1 = .ok (.iload_n 0, 1) := by decide +kernel
theorem dJ6_bitCount_0f7a4_2 : decode cJ6_bitCount_0f7a4 2 = .ok (.iconst 1, 1) := by decide +kernel
theorem dJ6_bitCount_0f7a4_3 : decode cJ6_bitCount_0f7a4 3 = .ok (.iushr, 1) := by decide +kernel
theorem dJ6_bitCount_0f7a4_4 : decode cJ6_bitCount_0f7a4 4 = .ok (.ldc_w 265, 3) := by decide +kernel
theorem dJ6_bitCount_0f7a4_7 : decode cJ6_bitCount_0f7a4 7 = .ok (.iand, 1) := by decide +kernel
theorem dJ6_bitCount_0f7a4_8 : decode cJ6_bitCount_0f7a4 8 = .ok (.isub, 1) := by decide +kernel
theorem dJ6_bitCount_0f7a4_9 : decode cJ6_bitCount_0f7a4 9 = .ok (.istore_n 0, 1) := by decide +kernel
theorem dJ6_bitCount_0f7a4_10 : decode cJ6_bitCount_0f7a4 10 = .ok (.iload_n 0, 1) := by decide +kernel
theorem dJ6_bitCount_0f7a4_11 : decode cJ6_bitCount_0f7a4 11 = .ok (.ldc_w 266, 3) := by decide +kernel
theorem dJ6_bitCount_0f7a4_14 : decode cJ6_bitCount_0f7a4 14 = .ok (.iand, 1) := by decide +kernel
theorem dJ6_bitCount_0f7a4_15 : decode cJ6_bitCount_0f7a4 15 = .ok (.iload_n 0, 1) := by decide +kernel
theorem dJ6_bitCount_0f7a4_16 : decode cJ6_bitCount_0f7a4 16 = .ok (.iconst 2, 1) := by decide +kernel
theorem dJ6_bitCount_0f7a4_17 : decode cJ6_bitCount_0f7a4 17 = .ok (.iushr, 1) := by decide +kernel
theorem dJ6_bitCount_0f7a4_18 : decode cJ6_bitCount_0f7a4 18 = .ok (.ldc_w 266, 3) := by decide +kernel
theorem dJ6_bitCount_0f7a4_21 : decode cJ6_bitCount_0f7a4 21 = .ok (.iand, 1) := by decide +kernel
theorem dJ6_bitCount_0f7a4_22 : decode cJ6_bitCount_0f7a4 22 = .ok (.iadd, 1) := by decide +kernel
theorem dJ6_bitCount_0f7a4_23 : decode cJ6_bitCount_0f7a4 23 = .ok (.istore_n 0, 1) := by decide +kernel
theorem dJ6_bitCount_0f7a4_24 : decode cJ6_bitCount_0f7a4 24 = .ok (.iload_n 0, 1) := by decide +kernel
theorem dJ6_bitCount_0f7a4_25 : decode cJ6_bitCount_0f7a4 25 = .ok (.iload_n 0, 1) := by decide +kernel
theorem dJ6_bitCount_0f7a4_26 : decode cJ6_bitCount_0f7a4 26 = .ok (.iconst 4, 1) := by decide +kernel
theorem dJ6_bitCount_0f7a4_27 : decode cJ6_bitCount_0f7a4 27 = .ok (.iushr, 1) := by decide +kernel
theorem dJ6_bitCount_0f7a4_28 : decode cJ6_bitCount_0f7a4 28 = .ok (.iadd, 1) := by decide +kernel
theorem dJ6_bitCount_0f7a4_29 : decode cJ6_bitCount_0f7a4 29 = .ok (.ldc_w 267, 3) := by decide +kernel
theorem dJ6_bitCount_0f7a4_32 : decode cJ6_bitCount_0f7a4 32 = .ok (.iand, 1) := by decide +kernel
theorem dJ6_bitCount_0f7a4_33 : decode cJ6_bitCount_0f7a4 33 = .ok (.istore_n 0, 1) := by decide +kernel
theorem dJ6_bitCount_0f7a4_34 : decode cJ6_bitCount_0f7a4 34 = .ok (.iload_n 0, 1) := by decide +kernel
theorem dJ6_bitCount_0f7a4_35 : decode cJ6_bitCount_0f7a4 35 = .ok (.iload_n 0, 1) := by decide +kernel
theorem dJ6_bitCount_0f7a4_36 : decode cJ6_bitCount_0f7a4 36 = .ok (.bipush 8, 2) := by decide +kernel
theorem dJ6_bitCount_0f7a4_38 : decode cJ6_bitCount_0f7a4 38 = .ok (.iushr, 1) := by decide +kernel
theorem dJ6_bitCount_0f7a4_39 : decode cJ6_bitCount_0f7a4 39 = .ok (.iadd, 1) := by decide +kernel
theorem dJ6_bitCount_0f7a4_40 : decode cJ6_bitCount_0f7a4 40 = .ok (.istore_n 0, 1) := by decide +kernel
theorem dJ6_bitCount_0f7a4_41 : decode cJ6_bitCount_0f7a4 41 = .ok (.iload_n 0, 1) := by decide +kernel
theorem dJ6_bitCount_0f7a4_42 : decode cJ6_bitCount_0f7a4 42 = .ok (.iload_n 0, 1) := by decide +kernel
theorem dJ6_bitCount_0f7a4_43 : decode cJ6_bitCount_0f7a4 43 = .ok (.bipush 16, 2) := by decide +kernel
theorem dJ6_bitCount_0f7a4_45 : decode cJ6_bitCount_0f7a4 45 = .ok (.iushr, 1) := by decide +kernel
theorem dJ6_bitCount_0f7a4_46 : decode cJ6_bitCount_0f7a4 46 = .ok (.iadd, 1) := by decide +kernel
theorem dJ6_bitCount_0f7a4_47 : decode cJ6_bitCount_0f7a4 47 = .ok (.istore_n 0, 1) := by decide +kernel
theorem dJ6_bitCount_0f7a4_48 : decode cJ6_bitCount_0f7a4 48 = .ok (.iload_n 0, 1) := by decide +kernel
theorem dJ6_bitCount_0f7a4_49 : decode cJ6_bitCount_0f7a4 49 = .ok (.bipush 63, 2) := by decide +kernel
theorem dJ6_bitCount_0f7a4_51 : decode cJ6_bitCount_0f7a4 51 = .ok (.iand, 1) := by decide +kernel
theorem dJ6_bitCount_0f7a4_52 : decode cJ6_bitCount_0f7a4 52 = .ok (.ireturn, 1) := by decide +kernel
theorem dJ9_abs_0f7a4_0 : decode cJ9_abs_0f7a4 0 = .ok (.iload_n 0, 1) := by decide +kernel
theorem dJ9_abs_0f7a4_1 : decode cJ9_abs_0f7a4 1 = .ok (.ifCond .ge 8, 3) := by decide +kernel
theorem dJ9_abs_0f7a4_4 : decode cJ9_abs_0f7a4 4 = .ok (.iload_n 0, 1) := by decide +kernel
theorem dJ9_abs_0f7a4_5 : decode cJ9_abs_0f7a4 5 = .ok (.ineg, 1) := by decide +kernel
theorem dJ9_abs_0f7a4_6 : decode cJ9_abs_0f7a4 6 = .ok (.goto 4, 3) := by decide +kernel
theorem dJ9_abs_0f7a4_9 : decode cJ9_abs_0f7a4 9 = .ok (.iload_n 0, 1) := by decide +kernel
theorem dJ9_abs_0f7a4_10 : decode cJ9_abs_0f7a4 10 = .ok (.ireturn, 1) := by decide +kernel
theorem dJ9_max_7cf53_0 : decode cJ9_max_7cf53 0 = .ok (.iload_n 0, 1) := by decide +kernel
theorem dJ9_max_7cf53_1 : decode cJ9_max_7cf53 1 = .ok (.iload_n 1, 1) := by decide +kernel
theorem dJ9_max_7cf53_2 : decode cJ9_max_7cf53 2 = .ok (.if_icmp .lt 7, 3) := by decide +kernel
theorem dJ9_max_7cf53_5 : decode cJ9_max_7cf53 5 = .ok (.iload_n 0, 1) := by decide +kernel
theorem dJ9_max_7cf53_6 : decode cJ9_max_7cf53 6 = .ok (.goto 4, 3) := by decide +kernel
theorem dJ9_max_7cf53_9 : decode cJ9_max_7cf53 9 = .ok (.iload_n 1, 1) := by decide +kernel
theorem dJ9_max_7cf53_10 : decode cJ9_max_7cf53 10 = .ok (.ireturn, 1) := by decide +kernel
theorem dJ7_fill_53178_0 : decode cJ7_fill_53178 0 = .ok (.iconst 0, 1) := by decide +kernel
theorem dJ7_fill_53178_1 : decode cJ7_fill_53178 1 = .ok (.istore_n 2, 1) := by decide +kernel
theorem dJ7_fill_53178_2 : decode cJ7_fill_53178 2 = .ok (.aload_n 0, 1) := by decide +kernel
theorem dJ7_fill_53178_3 : decode cJ7_fill_53178 3 = .ok (.arraylength, 1) := by decide +kernel
theorem dJ7_fill_53178_4 : decode cJ7_fill_53178 4 = .ok (.istore_n 3, 1) := by decide +kernel
theorem dJ7_fill_53178_5 : decode cJ7_fill_53178 5 = .ok (.iload_n 2, 1) := by decide +kernel
theorem dJ7_fill_53178_6 : decode cJ7_fill_53178 6 = .ok (.iload_n 3, 1) := by decide +kernel
theorem dJ7_fill_53178_7 : decode cJ7_fill_53178 7 = .ok (.if_icmp .ge 13, 3) := by decide +kernel
theorem dJ7_fill_53178_10 : decode cJ7_fill_53178 10 = .ok (.aload_n 0, 1) := by decide +kernel
theorem dJ7_fill_53178_11 : decode cJ7_fill_53178 11 = .ok (.iload_n 2, 1) := by decide +kernel
theorem dJ7_fill_53178_12 : decode cJ7_fill_53178 12 = .ok (.iload_n 1, 1) := by decide +kernel
theorem dJ7_fill_53178_13 : decode cJ7_fill_53178 13 = .ok (.iastore, 1) := by decide +kernel
theorem dJ7_fill_53178_14 : decode cJ7_fill_53178 14 = .ok (.iinc 2 1, 3) := by decide +kernel
theorem dJ7_fill_53178_17 : decode cJ7_fill_53178 17 = .ok (.goto (-12), 3) := by decide +kernel
theorem dJ7_fill_53178_20 : decode cJ7_fill_53178 20 = .ok (.return_, 1) := by decide +kernel
theorem dL_cell_0 : decode cL_cell 0 = .ok (.iload_n 1, 1) := by decide +kernel
theorem dL_cell_1 : decode cL_cell 1 = .ok (.aload_n 0, 1) := by decide +kernel
theorem dL_cell_2 : decode cL_cell 2 = .ok (.arraylength, 1) := by decide +kernel
theorem dL_cell_3 : decode cL_cell 3 = .ok (.if_icmp .ge 9, 3) := by decide +kernel
theorem dL_cell_6 : decode cL_cell 6 = .ok (.aload_n 0, 1) := by decide +kernel
theorem dL_cell_7 : decode cL_cell 7 = .ok (.iload_n 1, 1) := by decide +kernel
theorem dL_cell_8 : decode cL_cell 8 = .ok (.iaload, 1) := by decide +kernel
theorem dL_cell_9 : decode cL_cell 9 = .ok (.goto 15, 3) := by decide +kernel
theorem dL_cell_12 : decode cL_cell 12 = .ok (.sipush 7919, 3) := by decide +kernel
theorem dL_cell_15 : decode cL_cell 15 = .ok (.iload_n 1, 1) := by decide +kernel
theorem dL_cell_16 : decode cL_cell 16 = .ok (.iconst 3, 1) := by decide +kernel
theorem dL_cell_17 : decode cL_cell 17 = .ok (.iadd, 1) := by decide +kernel
theorem dL_cell_18 : decode cL_cell 18 = .ok (.imul, 1) := by decide +kernel
theorem dL_cell_19 : decode cL_cell 19 = .ok (.iload_n 1, 1) := by decide +kernel
theorem dL_cell_20 : decode cL_cell 20 = .ok (.bipush 11, 2) := by decide +kernel
theorem dL_cell_22 : decode cL_cell 22 = .ok (.iadd, 1) := by decide +kernel
theorem dL_cell_23 : decode cL_cell 23 = .ok (.imul, 1) := by decide +kernel
theorem dL_cell_24 : decode cL_cell 24 = .ok (.ireturn, 1) := by decide +kernel
theorem dL_low_0 : decode cL_low 0 = .ok (.iload_n 0, 1) := by decide +kernel
theorem dL_low_1 : decode cL_low 1 = .ok (.ldc 7, 2) := by decide +kernel
theorem dL_low_3 : decode cL_low 3 = .ok (.iand, 1) := by decide +kernel
theorem dL_low_4 : decode cL_low 4 = .ok (.iload_n 1, 1) := by decide +kernel
theorem dL_low_5 : decode cL_low 5 = .ok (.irem, 1) := by decide +kernel
theorem dL_low_6 : decode cL_low 6 = .ok (.ireturn, 1) := by decide +kernel
set_option maxRecDepth 20000 in
theorem ggL_isWalk_X0_walk : GoodIn wsL_isWalk wsX0_walk := goodIn_ca (goodIn_ca (goodIn_r _ [5, 6, 7, 8, 9, 4, 10, 11, 12, 13, 14, 15, 16, 17, 18, 19, 20, 21, 22, 23, 24, 25, 26, 27, 28, 29, 30, 31, 32, 33, 34, 35, 36, 37, 38, 39, 40, 41, 42, 43, 44, 45, 46, 47, 48, 49, 50, 51, 52, 53, 54, 55, 56, 57, 58, 59, 60, 61, 62, 63, 64, 65, 66, 79, 80, 81, 82, 83, 84, 85, 86, 87, 88] (by decide +kernel) (by decide +kernel)) (goodIn_sub (fun _ h => List.mem_cons_of_mem _ (List.mem_append_left _ (List.mem_append_right _ h))) (by decide +kernel))) (goodIn_sub (fun _ h => List.mem_cons_of_mem _ (List.mem_append_right _ h)) (by decide +kernel))
set_option maxRecDepth 20000 in
theorem gL_isWalk_X0_walk : GoodIn wsL_isWalk (wsV RL 8 RX0 yX0_walk wsX0_walk) := goodIn_app (goodIn_of _ (by decide +kernel)) ggL_isWalk_X0_walk
set_option maxRecDepth 20000 in
theorem ggL_isWalk_X0_placeBehind : GoodIn wsL_isWalk wsX0_placeBehind := goodIn_ca (goodIn_ca (goodIn_r _ [70, 16, 17, 8, 9, 4, 10, 11, 12, 13, 14, 15, 18, 19, 20, 71, 72, 73, 74, 29, 30, 31, 32, 33, 34, 35, 36, 37, 38, 39, 40, 41, 42, 43, 44, 45, 46, 47, 48, 49, 50, 51, 52, 53, 54, 55, 56, 57, 58, 59, 60, 61, 62, 63, 64, 65, 66, 79, 80, 81, 82, 83, 84, 85, 86, 87, 88] (by decide +kernel) (by decide +kernel)) (goodIn_sub (fun _ h => List.mem_cons_of_mem _ (List.mem_append_right _ h)) (by decide +kernel))) (goodIn_sub (fun _ h => List.mem_cons_of_mem _ (List.mem_append_left _ (List.mem_append_right _ h))) (by decide +kernel))
set_option maxRecDepth 20000 in
theorem gL_isWalk_X0_placeBehind : GoodIn wsL_isWalk (wsV RL 14 RX0 yX0_placeBehind wsX0_placeBehind) := goodIn_app (goodIn_of _ (by decide +kernel)) ggL_isWalk_X0_placeBehind
set_option maxRecDepth 20000 in
theorem ggL_isWalk_X0_walkBySteps : GoodIn wsL_isWalk wsX0_walkBySteps := goodIn_ca (goodIn_ca (goodIn_r _ [78, 8, 9, 4, 10, 11, 12, 13, 14, 15, 16, 17, 18, 19, 20, 25, 26, 27, 28, 29, 30, 31, 32, 33, 34, 35, 36, 37, 38, 39, 40, 41, 42, 43, 44, 45, 46, 47, 48, 49, 50, 51, 52, 53, 54, 55, 56, 57, 58, 59, 60, 61, 62, 63, 64, 65, 66, 79, 80, 81, 82, 83, 84, 85, 86, 87, 88] (by decide +kernel) (by decide +kernel)) (goodIn_sub (fun _ h => List.mem_cons_of_mem _ (List.mem_append_left _ (List.mem_append_right _ h))) (by decide +kernel))) (goodIn_sub (fun _ h => List.mem_cons_of_mem _ (List.mem_append_right _ h)) (by decide +kernel))
set_option maxRecDepth 20000 in
theorem gL_isWalk_X0_walkBySteps : GoodIn wsL_isWalk (wsV RL 18 RX0 yX0_walkBySteps wsX0_walkBySteps) := goodIn_app (goodIn_of _ (by decide +kernel)) ggL_isWalk_X0_walkBySteps
theorem dL_isWalk_0 : decode cL_isWalk 0 = .ok (.aload_n 0, 1) := by decide +kernel
theorem dL_isWalk_1 : decode cL_isWalk 1 = .ok (.iload_n 1, 1) := by decide +kernel
theorem dL_isWalk_2 : decode cL_isWalk 2 = .ok (.iload_n 2, 1) := by decide +kernel
theorem dL_isWalk_3 : decode cL_isWalk 3 = .ok (.iload_n 3, 1) := by decide +kernel
theorem dL_isWalk_4 : decode cL_isWalk 4 = .ok (.invokevirtual 8, 3) := by decide +kernel
theorem dL_isWalk_7 : decode cL_isWalk 7 = .ok (.istore 4, 2) := by decide +kernel
theorem dL_isWalk_9 : decode cL_isWalk 9 = .ok (.aload_n 0, 1) := by decide +kernel
theorem dL_isWalk_10 : decode cL_isWalk 10 = .ok (.iload_n 1, 1) := by decide +kernel
theorem dL_isWalk_11 : decode cL_isWalk 11 = .ok (.iload_n 2, 1) := by decide +kernel
theorem dL_isWalk_12 : decode cL_isWalk 12 = .ok (.iload_n 3, 1) := by decide +kernel
theorem dL_isWalk_13 : decode cL_isWalk 13 = .ok (.bipush 30, 2) := by decide +kernel
theorem dL_isWalk_15 : decode cL_isWalk 15 = .ok (.invokevirtual 14, 3) := by decide +kernel
theorem dL_isWalk_18 : decode cL_isWalk 18 = .ok (.istore 5, 2) := by decide +kernel
theorem dL_isWalk_20 : decode cL_isWalk 20 = .ok (.aload_n 0, 1) := by decide +kernel
theorem dL_isWalk_21 : decode cL_isWalk 21 = .ok (.iload_n 1, 1) := by decide +kernel
theorem dL_isWalk_22 : decode cL_isWalk 22 = .ok (.iload_n 2, 1) := by decide +kernel
theorem dL_isWalk_23 : decode cL_isWalk 23 = .ok (.iload_n 3, 1) := by decide +kernel
theorem dL_isWalk_24 : decode cL_isWalk 24 = .ok (.invokevirtual 18, 3) := by decide +kernel
theorem dL_isWalk_27 : decode cL_isWalk 27 = .ok (.iload 4, 2) := by decide +kernel
theorem dL_isWalk_29 : decode cL_isWalk 29 = .ok (.if_icmp .ne 32, 3) := by decide +kernel
theorem dL_isWalk_32 : decode cL_isWalk 32 = .ok (.iload 4, 2) := by decide +kernel
theorem dL_isWalk_34 : decode cL_isWalk 34 = .ok (.iconst (-1), 1) := by decide +kernel
theorem dL_isWalk_35 : decode cL_isWalk 35 = .ok (.if_icmp .lt 26, 3) := by decide +kernel
theorem dL_isWalk_38 : decode cL_isWalk 38 = .ok (.iload 4, 2) := by decide +kernel
theorem dL_isWalk_40 : decode cL_isWalk 40 = .ok (.bipush 30, 2) := by decide +kernel
theorem dL_isWalk_42 : decode cL_isWalk 42 = .ok (.if_icmp .gt 19, 3) := by decide +kernel
theorem dL_isWalk_45 : decode cL_isWalk 45 = .ok (.aload_n 0, 1) := by decide +kernel
theorem dL_isWalk_46 : decode cL_isWalk 46 = .ok (.iload_n 1, 1) := by decide +kernel
theorem dL_isWalk_47 : decode cL_isWalk 47 = .ok (.iload_n 2, 1) := by decide +kernel
theorem dL_isWalk_48 : decode cL_isWalk 48 = .ok (.iload_n 3, 1) := by decide +kernel
theorem dL_isWalk_49 : decode cL_isWalk 49 = .ok (.iconst 0, 1) := by decide +kernel
theorem dL_isWalk_50 : decode cL_isWalk 50 = .ok (.invokevirtual 14, 3) := by decide +kernel
theorem dL_isWalk_53 : decode cL_isWalk 53 = .ok (.iload_n 1, 1) := by decide +kernel
theorem dL_isWalk_54 : decode cL_isWalk 54 = .ok (.if_icmp .ne 7, 3) := by decide +kernel
theorem dL_isWalk_57 : decode cL_isWalk 57 = .ok (.iconst 1, 1) := by decide +kernel
theorem dL_isWalk_58 : decode cL_isWalk 58 = .ok (.goto 4, 3) := by decide +kernel
theorem dL_isWalk_61 : decode cL_isWalk 61 = .ok (.iconst 0, 1) := by decide +kernel
theorem dL_isWalk_62 : decode cL_isWalk 62 = .ok (.istore 6, 2) := by decide +kernel
theorem dL_isWalk_64 : decode cL_isWalk 64 = .ok (.iload 6, 2) := by decide +kernel
theorem dL_isWalk_66 : decode cL_isWalk 66 = .ok (.ifCond .eq 38, 3) := by decide +kernel
theorem dL_isWalk_69 : decode cL_isWalk 69 = .ok (.iload 5, 2) := by decide +kernel
theorem dL_isWalk_71 : decode cL_isWalk 71 = .ok (.ifCond .lt 33, 3) := by decide +kernel
theorem dL_isWalk_74 : decode cL_isWalk 74 = .ok (.iload 5, 2) := by decide +kernel
theorem dL_isWalk_76 : decode cL_isWalk 76 = .ok (.bipush 8, 2) := by decide +kernel
theorem dL_isWalk_78 : decode cL_isWalk 78 = .ok (.if_icmp .ge 26, 3) := by decide +kernel
theorem dL_isWalk_81 : decode cL_isWalk 81 = .ok (.iload 4, 2) := by decide +kernel
theorem dL_isWalk_83 : decode cL_isWalk 83 = .ok (.ifCond .lt 17, 3) := by decide +kernel
theorem dL_isWalk_86 : decode cL_isWalk 86 = .ok (.aload_n 0, 1) := by decide +kernel
theorem dL_isWalk_87 : decode cL_isWalk 87 = .ok (.iload_n 1, 1) := by decide +kernel
theorem dL_isWalk_88 : decode cL_isWalk 88 = .ok (.iload_n 2, 1) := by decide +kernel
theorem dL_isWalk_89 : decode cL_isWalk 89 = .ok (.iload_n 3, 1) := by decide +kernel
theorem dL_isWalk_90 : decode cL_isWalk 90 = .ok (.iload 4, 2) := by decide +kernel
theorem dL_isWalk_92 : decode cL_isWalk 92 = .ok (.invokevirtual 14, 3) := by decide +kernel
theorem dL_isWalk_95 : decode cL_isWalk 95 = .ok (.iload 5, 2) := by decide +kernel
theorem dL_isWalk_97 : decode cL_isWalk 97 = .ok (.if_icmp .ne 7, 3) := by decide +kernel
theorem dL_isWalk_100 : decode cL_isWalk 100 = .ok (.iconst 1, 1) := by decide +kernel
theorem dL_isWalk_101 : decode cL_isWalk 101 = .ok (.goto 4, 3) := by decide +kernel
theorem dL_isWalk_104 : decode cL_isWalk 104 = .ok (.iconst 0, 1) := by decide +kernel
theorem dL_isWalk_105 : decode cL_isWalk 105 = .ok (.ireturn, 1) := by decide +kernel
set_option maxRecDepth 20000 in
theorem ggL_areGlyphs_X0_difference : GoodIn wsL_areGlyphs wsX0_difference := goodIn_ca (goodIn_r _ [5, 6, 7, 8, 4, 9, 10, 11, 12, 13, 14, 15, 16, 17, 18, 19, 20, 21, 45, 46, 47, 48, 49, 50, 51, 52, 53, 54] (by decide +kernel) (by decide +kernel)) (goodIn_sub (fun _ h => List.mem_cons_of_mem _ (List.mem_append_right _ h)) (by decide +kernel))
set_option maxRecDepth 20000 in
theorem gL_areGlyphs_X0_difference : GoodIn wsL_areGlyphs (wsV RL 21 RX0 yX0_difference wsX0_difference) := goodIn_app (goodIn_of _ (by decide +kernel)) ggL_areGlyphs_X0_difference
set_option maxRecDepth 20000 in
theorem ggL_areGlyphs_X0_width : GoodIn wsL_areGlyphs wsX0_width := goodIn_ca (goodIn_r _ [25, 6, 7, 8, 4, 9, 10, 11, 26, 27, 28, 29, 30, 31, 32, 33, 34, 35, 36, 37, 38, 39, 40, 41, 42, 43, 44, 45, 46, 47, 48, 49, 50, 51, 52, 53, 54] (by decide +kernel) (by decide +kernel)) (goodIn_sub (fun _ h => List.mem_cons_of_mem _ (List.mem_append_right _ h)) (by decide +kernel))
set_option maxRecDepth 20000 in
theorem gL_areGlyphs_X0_width : GoodIn wsL_areGlyphs (wsV RL 25 RX0 yX0_width wsX0_width) := goodIn_app (goodIn_of _ (by decide +kernel)) ggL_areGlyphs_X0_width
theorem dL_areGlyphs_0 : decode cL_areGlyphs 0 = .ok (.aload_n 0, 1) := by decide +kernel
theorem dL_areGlyphs_1 : decode cL_areGlyphs 1 = .ok (.iload_n 1, 1) := by decide +kernel
theorem dL_areGlyphs_2 : decode cL_areGlyphs 2 = .ok (.iload_n 2, 1) := by decide +kernel
theorem dL_areGlyphs_3 : decode cL_areGlyphs 3 = .ok (.invokevirtual 21, 3) := by decide +kernel
theorem dL_areGlyphs_6 : decode cL_areGlyphs 6 = .ok (.istore_n 3, 1) := by decide +kernel
theorem dL_areGlyphs_7 : decode cL_areGlyphs 7 = .ok (.iload_n 3, 1) := by decide +kernel
theorem dL_areGlyphs_8 : decode cL_areGlyphs 8 = .ok (.ifCond .lt 50, 3) := by decide +kernel
theorem dL_areGlyphs_11 : decode cL_areGlyphs 11 = .ok (.iload_n 3, 1) := by decide +kernel
theorem dL_areGlyphs_12 : decode cL_areGlyphs 12 = .ok (.bipush 25, 2) := by decide +kernel
theorem dL_areGlyphs_14 : decode cL_areGlyphs 14 = .ok (.if_icmp .gt 44, 3) := by decide +kernel
theorem dL_areGlyphs_17 : decode cL_areGlyphs 17 = .ok (.aload_n 0, 1) := by decide +kernel
theorem dL_areGlyphs_18 : decode cL_areGlyphs 18 = .ok (.iload_n 2, 1) := by decide +kernel
theorem dL_areGlyphs_19 : decode cL_areGlyphs 19 = .ok (.iload_n 1, 1) := by decide +kernel
theorem dL_areGlyphs_20 : decode cL_areGlyphs 20 = .ok (.invokevirtual 21, 3) := by decide +kernel
theorem dL_areGlyphs_23 : decode cL_areGlyphs 23 = .ok (.iload_n 3, 1) := by decide +kernel
theorem dL_areGlyphs_24 : decode cL_areGlyphs 24 = .ok (.if_icmp .ne 34, 3) := by decide +kernel
theorem dL_areGlyphs_27 : decode cL_areGlyphs 27 = .ok (.aload_n 0, 1) := by decide +kernel
theorem dL_areGlyphs_28 : decode cL_areGlyphs 28 = .ok (.iload_n 1, 1) := by decide +kernel
theorem dL_areGlyphs_29 : decode cL_areGlyphs 29 = .ok (.iload_n 1, 1) := by decide +kernel
theorem dL_areGlyphs_30 : decode cL_areGlyphs 30 = .ok (.invokevirtual 21, 3) := by decide +kernel
theorem dL_areGlyphs_33 : decode cL_areGlyphs 33 = .ok (.ifCond .ne 25, 3) := by decide +kernel
theorem dL_areGlyphs_36 : decode cL_areGlyphs 36 = .ok (.aload_n 0, 1) := by decide +kernel
theorem dL_areGlyphs_37 : decode cL_areGlyphs 37 = .ok (.iload_n 1, 1) := by decide +kernel
theorem dL_areGlyphs_38 : decode cL_areGlyphs 38 = .ok (.invokevirtual 25, 3) := by decide +kernel
theorem dL_areGlyphs_41 : decode cL_areGlyphs 41 = .ok (.iconst 1, 1) := by decide +kernel
theorem dL_areGlyphs_42 : decode cL_areGlyphs 42 = .ok (.if_icmp .lt 16, 3) := by decide +kernel
theorem dL_areGlyphs_45 : decode cL_areGlyphs 45 = .ok (.aload_n 0, 1) := by decide +kernel
theorem dL_areGlyphs_46 : decode cL_areGlyphs 46 = .ok (.iload_n 1, 1) := by decide +kernel
theorem dL_areGlyphs_47 : decode cL_areGlyphs 47 = .ok (.invokevirtual 25, 3) := by decide +kernel
theorem dL_areGlyphs_50 : decode cL_areGlyphs 50 = .ok (.iconst 5, 1) := by decide +kernel
theorem dL_areGlyphs_51 : decode cL_areGlyphs 51 = .ok (.if_icmp .gt 7, 3) := by decide +kernel
theorem dL_areGlyphs_54 : decode cL_areGlyphs 54 = .ok (.iconst 1, 1) := by decide +kernel
theorem dL_areGlyphs_55 : decode cL_areGlyphs 55 = .ok (.goto 4, 3) := by decide +kernel
theorem dL_areGlyphs_58 : decode cL_areGlyphs 58 = .ok (.iconst 0, 1) := by decide +kernel
theorem dL_areGlyphs_59 : decode cL_areGlyphs 59 = .ok (.ireturn, 1) := by decide +kernel
