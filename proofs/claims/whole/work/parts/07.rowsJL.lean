theorem dJ6_bitCount_0f7a4_0 : decode cJ6_bitCount_0f7a4 0 = .ok (.iload_n 0, 1) := by decide +kernel
theorem dJ6_bitCount_0f7a4_1 : decode cJ6_bitCount_0f7a4 1 = .ok (.iload_n 0, 1) := by decide +kernel
theorem dJ6_bitCount_0f7a4_2 : decode cJ6_bitCount_0f7a4 2 = .ok (.iconst 1, 1) := by decide +kernel
theorem dJ6_bitCount_0f7a4_3 : decode cJ6_bitCount_0f7a4 3 = .ok (.iushr, 1) := by decide +kernel
theorem dJ6_bitCount_0f7a4_4 : decode cJ6_bitCount_0f7a4 4 = .ok (.ldc_w 265, 3) := by decide +kernel
theorem dJ6_bitCount_0f7a4_7 : decode cJ6_bitCount_0f7a4 7 = .ok (.iand, 1) := by decide +kernel
theorem dJ6_bitCount_0f7a4_8 : decode cJ6_bitCount_0f7a4 8 = .ok (.isub, 1) := by decide +kernel
theorem dJ6_bitCount_0f7a4_9 : decode cJ6_bitCount_0f7a4 9 = .ok (.istore_n 0, 1) := by decide +kernel
theorem dJ6_bitCount_0f7a4_10 : decode cJ6_bitCount_0f7a4 10 = .ok (.iload_n 0, 1) := by decide +kernel
theorem dJ6_bitCount_0f7a4_11 : decode cJ6_bitCount_0f7a4 11 = .ok (.ldc_w 266, 3) := by decide +kernel
theorem dJ6_bitCount_0f7a4_14 : decode cJ6_bitCount_0f7a4 14 = .ok (.iand, 1) := by decide +kernel
theorem dJ6_bitCount_0f7a4_15 : decode cJ6_bitCount_0f7a4 15 = .ok (.iload_n 0, 1) := by decide +kernel
theorem dJ6_bitCount_0f7a4_16 : decode cJ6_bitCount_0f7a4 16 = .ok (.iconst 2, 1) := by decide +kernel
theorem dJ6_bitCount_0f7a4_17 : decode cJ6_bitCount_0f7a4 17 = .ok (.iushr, 1) := by decide +kernel
theorem dJ6_bitCount_0f7a4_18 : decode cJ6_bitCount_0f7a4 18 = .ok (.ldc_w 266, 3) := by decide +kernel
theorem dJ6_bitCount_0f7a4_21 : decode cJ6_bitCount_0f7a4 21 = .ok (.iand, 1) := by decide +kernel
theorem dJ6_bitCount_0f7a4_22 : decode cJ6_bitCount_0f7a4 22 = .ok (.iadd, 1) := by decide +kernel
theorem dJ6_bitCount_0f7a4_23 : decode cJ6_bitCount_0f7a4 23 = .ok (.istore_n 0, 1) := by decide +kernel
theorem dJ6_bitCount_0f7a4_24 : decode cJ6_bitCount_0f7a4 24 = .ok (.iload_n 0, 1) := by decide +kernel
theorem dJ6_bitCount_0f7a4_25 : decode cJ6_bitCount_0f7a4 25 = .ok (.iload_n 0, 1) := by decide +kernel
theorem dJ6_bitCount_0f7a4_26 : decode cJ6_bitCount_0f7a4 26 = .ok (.iconst 4, 1) := by decide +kernel
theorem dJ6_bitCount_0f7a4_27 : decode cJ6_bitCount_0f7a4 27 = .ok (.iushr, 1) := by decide +kernel
theorem dJ6_bitCount_0f7a4_28 : decode cJ6_bitCount_0f7a4 28 = .ok (.iadd, 1) := by decide +kernel
theorem dJ6_bitCount_0f7a4_29 : decode cJ6_bitCount_0f7a4 29 = .ok (.ldc_w 267, 3) := by decide +kernel
theorem dJ6_bitCount_0f7a4_32 : decode cJ6_bitCount_0f7a4 32 = .ok (.iand, 1) := by decide +kernel
theorem dJ6_bitCount_0f7a4_33 : decode cJ6_bitCount_0f7a4 33 = .ok (.istore_n 0, 1) := by decide +kernel
theorem dJ6_bitCount_0f7a4_34 : decode cJ6_bitCount_0f7a4 34 = .ok (.iload_n 0, 1) := by decide +kernel
theorem dJ6_bitCount_0f7a4_35 : decode cJ6_bitCount_0f7a4 35 = .ok (.iload_n 0, 1) := by decide +kernel
theorem dJ6_bitCount_0f7a4_36 : decode cJ6_bitCount_0f7a4 36 = .ok (.bipush 8, 2) := by decide +kernel
theorem dJ6_bitCount_0f7a4_38 : decode cJ6_bitCount_0f7a4 38 = .ok (.iushr, 1) := by decide +kernel
theorem dJ6_bitCount_0f7a4_39 : decode cJ6_bitCount_0f7a4 39 = .ok (.iadd, 1) := by decide +kernel
theorem dJ6_bitCount_0f7a4_40 : decode cJ6_bitCount_0f7a4 40 = .ok (.istore_n 0, 1) := by decide +kernel
theorem dJ6_bitCount_0f7a4_41 : decode cJ6_bitCount_0f7a4 41 = .ok (.iload_n 0, 1) := by decide +kernel
theorem dJ6_bitCount_0f7a4_42 : decode cJ6_bitCount_0f7a4 42 = .ok (.iload_n 0, 1) := by decide +kernel
theorem dJ6_bitCount_0f7a4_43 : decode cJ6_bitCount_0f7a4 43 = .ok (.bipush 16, 2) := by decide +kernel
theorem dJ6_bitCount_0f7a4_45 : decode cJ6_bitCount_0f7a4 45 = .ok (.iushr, 1) := by decide +kernel
theorem dJ6_bitCount_0f7a4_46 : decode cJ6_bitCount_0f7a4 46 = .ok (.iadd, 1) := by decide +kernel
theorem dJ6_bitCount_0f7a4_47 : decode cJ6_bitCount_0f7a4 47 = .ok (.istore_n 0, 1) := by decide +kernel
theorem dJ6_bitCount_0f7a4_48 : decode cJ6_bitCount_0f7a4 48 = .ok (.iload_n 0, 1) := by decide +kernel
theorem dJ6_bitCount_0f7a4_49 : decode cJ6_bitCount_0f7a4 49 = .ok (.bipush 63, 2) := by decide +kernel
theorem dJ6_bitCount_0f7a4_51 : decode cJ6_bitCount_0f7a4 51 = .ok (.iand, 1) := by decide +kernel
theorem dJ6_bitCount_0f7a4_52 : decode cJ6_bitCount_0f7a4 52 = .ok (.ireturn, 1) := by decide +kernel
theorem dJ9_abs_0f7a4_0 : decode cJ9_abs_0f7a4 0 = .ok (.iload_n 0, 1) := by decide +kernel
theorem dJ9_abs_0f7a4_1 : decode cJ9_abs_0f7a4 1 = .ok (.ifCond .ge 8, 3) := by decide +kernel
theorem dJ9_abs_0f7a4_4 : decode cJ9_abs_0f7a4 4 = .ok (.iload_n 0, 1) := by decide +kernel
theorem dJ9_abs_0f7a4_5 : decode cJ9_abs_0f7a4 5 = .ok (.ineg, 1) := by decide +kernel
theorem dJ9_abs_0f7a4_6 : decode cJ9_abs_0f7a4 6 = .ok (.goto 4, 3) := by decide +kernel
theorem dJ9_abs_0f7a4_9 : decode cJ9_abs_0f7a4 9 = .ok (.iload_n 0, 1) := by decide +kernel
theorem dJ9_abs_0f7a4_10 : decode cJ9_abs_0f7a4 10 = .ok (.ireturn, 1) := by decide +kernel
theorem dJ9_max_7cf53_0 : decode cJ9_max_7cf53 0 = .ok (.iload_n 0, 1) := by decide +kernel
theorem dJ9_max_7cf53_1 : decode cJ9_max_7cf53 1 = .ok (.iload_n 1, 1) := by decide +kernel
theorem dJ9_max_7cf53_2 : decode cJ9_max_7cf53 2 = .ok (.if_icmp .lt 7, 3) := by decide +kernel
theorem dJ9_max_7cf53_5 : decode cJ9_max_7cf53 5 = .ok (.iload_n 0, 1) := by decide +kernel
theorem dJ9_max_7cf53_6 : decode cJ9_max_7cf53 6 = .ok (.goto 4, 3) := by decide +kernel
theorem dJ9_max_7cf53_9 : decode cJ9_max_7cf53 9 = .ok (.iload_n 1, 1) := by decide +kernel
theorem dJ9_max_7cf53_10 : decode cJ9_max_7cf53 10 = .ok (.ireturn, 1) := by decide +kernel
theorem dJ7_fill_53178_0 : decode cJ7_fill_53178 0 = .ok (.iconst 0, 1) := by decide +kernel
theorem dJ7_fill_53178_1 : decode cJ7_fill_53178 1 = .ok (.istore_n 2, 1) := by decide +kernel
theorem dJ7_fill_53178_2 : decode cJ7_fill_53178 2 = .ok (.aload_n 0, 1) := by decide +kernel
theorem dJ7_fill_53178_3 : decode cJ7_fill_53178 3 = .ok (.arraylength, 1) := by decide +kernel
theorem dJ7_fill_53178_4 : decode cJ7_fill_53178 4 = .ok (.istore_n 3, 1) := by decide +kernel
theorem dJ7_fill_53178_5 : decode cJ7_fill_53178 5 = .ok (.iload_n 2, 1) := by decide +kernel
theorem dJ7_fill_53178_6 : decode cJ7_fill_53178 6 = .ok (.iload_n 3, 1) := by decide +kernel
theorem dJ7_fill_53178_7 : decode cJ7_fill_53178 7 = .ok (.if_icmp .ge 13, 3) := by decide +kernel
theorem dJ7_fill_53178_10 : decode cJ7_fill_53178 10 = .ok (.aload_n 0, 1) := by decide +kernel
theorem dJ7_fill_53178_11 : decode cJ7_fill_53178 11 = .ok (.iload_n 2, 1) := by decide +kernel
theorem dJ7_fill_53178_12 : decode cJ7_fill_53178 12 = .ok (.iload_n 1, 1) := by decide +kernel
theorem dJ7_fill_53178_13 : decode cJ7_fill_53178 13 = .ok (.iastore, 1) := by decide +kernel
theorem dJ7_fill_53178_14 : decode cJ7_fill_53178 14 = .ok (.iinc 2 1, 3) := by decide +kernel
theorem dJ7_fill_53178_17 : decode cJ7_fill_53178 17 = .ok (.goto (-12), 3) := by decide +kernel
theorem dJ7_fill_53178_20 : decode cJ7_fill_53178 20 = .ok (.return_, 1) := by decide +kernel
set_option maxRecDepth 20000 in
theorem ggL_stroke_X0_stroke : GoodIn wsL_stroke wsX0_stroke := goodIn_ca (goodIn_ca (goodIn_r _ [7, 8, 9, 10, 6, 11, 12, 13, 14, 15, 16, 17, 18, 19, 20, 21, 22, 23, 24, 25, 26, 27, 28, 29, 30, 31, 32, 33, 34, 35, 36, 37, 38, 39, 40, 41, 42, 43, 44, 45, 46, 47, 48, 49, 50, 51, 52, 53, 54, 55, 56, 57, 58, 59] (by decide +kernel) (by decide +kernel)) (goodIn_sub (fun _ h => List.mem_cons_of_mem _ (List.mem_append_left _ (List.mem_append_right _ h))) (by decide +kernel))) (goodIn_sub (fun _ h => List.mem_cons_of_mem _ (List.mem_append_right _ h)) (by decide +kernel))
set_option maxRecDepth 20000 in
theorem gL_stroke_X0_stroke : GoodIn wsL_stroke (wsV RL 7 RX0 yX0_stroke wsX0_stroke) := goodIn_app (goodIn_of _ (by decide +kernel)) ggL_stroke_X0_stroke
theorem dL_stroke_0 : decode cL_stroke 0 = .ok (.aload 7, 2) := by decide +kernel
theorem dL_stroke_2 : decode cL_stroke 2 = .ok (.iconst 0, 1) := by decide +kernel
theorem dL_stroke_3 : decode cL_stroke 3 = .ok (.aload_n 0, 1) := by decide +kernel
theorem dL_stroke_4 : decode cL_stroke 4 = .ok (.iload_n 1, 1) := by decide +kernel
theorem dL_stroke_5 : decode cL_stroke 5 = .ok (.iload_n 2, 1) := by decide +kernel
theorem dL_stroke_6 : decode cL_stroke 6 = .ok (.iload_n 3, 1) := by decide +kernel
theorem dL_stroke_7 : decode cL_stroke 7 = .ok (.iload 4, 2) := by decide +kernel
theorem dL_stroke_9 : decode cL_stroke 9 = .ok (.iload 5, 2) := by decide +kernel
theorem dL_stroke_11 : decode cL_stroke 11 = .ok (.iload 6, 2) := by decide +kernel
theorem dL_stroke_13 : decode cL_stroke 13 = .ok (.invokevirtual 7, 3) := by decide +kernel
theorem dL_stroke_16 : decode cL_stroke 16 = .ok (.i2l, 1) := by decide +kernel
theorem dL_stroke_17 : decode cL_stroke 17 = .ok (.lastore, 1) := by decide +kernel
theorem dL_stroke_18 : decode cL_stroke 18 = .ok (.goto 11, 3) := by decide +kernel
theorem dL_stroke_21 : decode cL_stroke 21 = .ok (.astore 8, 2) := by decide +kernel
theorem dL_stroke_23 : decode cL_stroke 23 = .ok (.iconst 1, 1) := by decide +kernel
theorem dL_stroke_24 : decode cL_stroke 24 = .ok (.ireturn, 1) := by decide +kernel
theorem dL_stroke_25 : decode cL_stroke 25 = .ok (.astore 8, 2) := by decide +kernel
theorem dL_stroke_27 : decode cL_stroke 27 = .ok (.iconst 2, 1) := by decide +kernel
theorem dL_stroke_28 : decode cL_stroke 28 = .ok (.ireturn, 1) := by decide +kernel
theorem dL_stroke_29 : decode cL_stroke 29 = .ok (.iconst 0, 1) := by decide +kernel
theorem dL_stroke_30 : decode cL_stroke 30 = .ok (.ireturn, 1) := by decide +kernel
set_option maxRecDepth 20000 in
theorem ggL_difference_X0_difference : GoodIn wsL_difference wsX0_difference := goodIn_ca (goodIn_r _ [6, 7, 8, 9, 5, 10, 11, 12, 13, 14, 15, 16, 17, 18, 19, 20, 21, 22, 23, 24, 25, 26, 27, 28, 29, 30, 31, 32] (by decide +kernel) (by decide +kernel)) (goodIn_sub (fun _ h => List.mem_cons_of_mem _ (List.mem_append_right _ h)) (by decide +kernel))
set_option maxRecDepth 20000 in
theorem gL_difference_X0_difference : GoodIn wsL_difference (wsV RL 17 RX0 yX0_difference wsX0_difference) := goodIn_app (goodIn_of _ (by decide +kernel)) ggL_difference_X0_difference
theorem dL_difference_0 : decode cL_difference 0 = .ok (.aload_n 3, 1) := by decide +kernel
theorem dL_difference_1 : decode cL_difference 1 = .ok (.iconst 0, 1) := by decide +kernel
theorem dL_difference_2 : decode cL_difference 2 = .ok (.aload_n 0, 1) := by decide +kernel
theorem dL_difference_3 : decode cL_difference 3 = .ok (.iload_n 1, 1) := by decide +kernel
theorem dL_difference_4 : decode cL_difference 4 = .ok (.iload_n 2, 1) := by decide +kernel
theorem dL_difference_5 : decode cL_difference 5 = .ok (.invokevirtual 17, 3) := by decide +kernel
theorem dL_difference_8 : decode cL_difference 8 = .ok (.i2l, 1) := by decide +kernel
theorem dL_difference_9 : decode cL_difference 9 = .ok (.lastore, 1) := by decide +kernel
theorem dL_difference_10 : decode cL_difference 10 = .ok (.goto 7, 3) := by decide +kernel
theorem dL_difference_13 : decode cL_difference 13 = .ok (.astore 4, 2) := by decide +kernel
theorem dL_difference_15 : decode cL_difference 15 = .ok (.iconst 1, 1) := by decide +kernel
theorem dL_difference_16 : decode cL_difference 16 = .ok (.ireturn, 1) := by decide +kernel
theorem dL_difference_17 : decode cL_difference 17 = .ok (.iconst 0, 1) := by decide +kernel
theorem dL_difference_18 : decode cL_difference 18 = .ok (.ireturn, 1) := by decide +kernel
set_option maxRecDepth 20000 in
theorem ggL_width_X0_width : GoodIn wsL_width wsX0_width := goodIn_ca (goodIn_r _ [6, 7, 8, 9, 5, 10, 11, 12, 13, 14, 15, 16, 17, 18, 19, 20, 21, 22, 23, 24, 25, 26, 27, 28, 29, 30, 31, 32, 33, 34, 35, 36, 37, 38, 39, 40, 41] (by decide +kernel) (by decide +kernel)) (goodIn_sub (fun _ h => List.mem_cons_of_mem _ (List.mem_append_right _ h)) (by decide +kernel))
set_option maxRecDepth 20000 in
theorem gL_width_X0_width : GoodIn wsL_width (wsV RL 21 RX0 yX0_width wsX0_width) := goodIn_app (goodIn_of _ (by decide +kernel)) ggL_width_X0_width
theorem dL_width_0 : decode cL_width 0 = .ok (.aload_n 2, 1) := by decide +kernel
theorem dL_width_1 : decode cL_width 1 = .ok (.iconst 0, 1) := by decide +kernel
theorem dL_width_2 : decode cL_width 2 = .ok (.aload_n 0, 1) := by decide +kernel
theorem dL_width_3 : decode cL_width 3 = .ok (.iload_n 1, 1) := by decide +kernel
theorem dL_width_4 : decode cL_width 4 = .ok (.invokevirtual 21, 3) := by decide +kernel
theorem dL_width_7 : decode cL_width 7 = .ok (.i2l, 1) := by decide +kernel
theorem dL_width_8 : decode cL_width 8 = .ok (.lastore, 1) := by decide +kernel
theorem dL_width_9 : decode cL_width 9 = .ok (.goto 6, 3) := by decide +kernel
theorem dL_width_12 : decode cL_width 12 = .ok (.astore_n 3, 1) := by decide +kernel
theorem dL_width_13 : decode cL_width 13 = .ok (.iconst 1, 1) := by decide +kernel
theorem dL_width_14 : decode cL_width 14 = .ok (.ireturn, 1) := by decide +kernel
theorem dL_width_15 : decode cL_width 15 = .ok (.iconst 0, 1) := by decide +kernel
theorem dL_width_16 : decode cL_width 16 = .ok (.ireturn, 1) := by decide +kernel
set_option maxRecDepth 20000 in
theorem ggL_space_X0_space : GoodIn wsL_space wsX0_space := goodIn_ca (goodIn_ca (goodIn_r _ [7, 8, 9, 10, 11, 12, 6, 13, 14, 15, 16, 17, 18, 19, 20, 21, 22, 23, 24, 25, 26, 27, 28] (by decide +kernel) (by decide +kernel)) (goodIn_sub (fun _ h => List.mem_cons_of_mem _ (List.mem_append_left _ (List.mem_append_right _ h))) (by decide +kernel))) (goodIn_sub (fun _ h => List.mem_cons_of_mem _ (List.mem_append_right _ h)) (by decide +kernel))
set_option maxRecDepth 20000 in
theorem gL_space_X0_space : GoodIn wsL_space (wsV RL 25 RX0 yX0_space wsX0_space) := goodIn_app (goodIn_of _ (by decide +kernel)) ggL_space_X0_space
theorem dL_space_0 : decode cL_space 0 = .ok (.aload 4, 2) := by decide +kernel
theorem dL_space_2 : decode cL_space 2 = .ok (.iconst 0, 1) := by decide +kernel
theorem dL_space_3 : decode cL_space 3 = .ok (.aload_n 0, 1) := by decide +kernel
theorem dL_space_4 : decode cL_space 4 = .ok (.iload_n 1, 1) := by decide +kernel
theorem dL_space_5 : decode cL_space 5 = .ok (.iload_n 2, 1) := by decide +kernel
theorem dL_space_6 : decode cL_space 6 = .ok (.iload_n 3, 1) := by decide +kernel
theorem dL_space_7 : decode cL_space 7 = .ok (.invokevirtual 25, 3) := by decide +kernel
theorem dL_space_10 : decode cL_space 10 = .ok (.i2l, 1) := by decide +kernel
theorem dL_space_11 : decode cL_space 11 = .ok (.lastore, 1) := by decide +kernel
theorem dL_space_12 : decode cL_space 12 = .ok (.goto 11, 3) := by decide +kernel
theorem dL_space_15 : decode cL_space 15 = .ok (.astore 5, 2) := by decide +kernel
theorem dL_space_17 : decode cL_space 17 = .ok (.iconst 1, 1) := by decide +kernel
theorem dL_space_18 : decode cL_space 18 = .ok (.ireturn, 1) := by decide +kernel
theorem dL_space_19 : decode cL_space 19 = .ok (.astore 5, 2) := by decide +kernel
theorem dL_space_21 : decode cL_space 21 = .ok (.iconst 2, 1) := by decide +kernel
theorem dL_space_22 : decode cL_space 22 = .ok (.ireturn, 1) := by decide +kernel
theorem dL_space_23 : decode cL_space 23 = .ok (.iconst 0, 1) := by decide +kernel
theorem dL_space_24 : decode cL_space 24 = .ok (.ireturn, 1) := by decide +kernel
set_option maxRecDepth 20000 in
theorem ggL_lead_X0_lead : GoodIn wsL_lead wsX0_lead := goodIn_ca (goodIn_r _ [6, 7, 8, 9, 5, 10, 11, 12, 13, 14, 15, 16, 17, 18, 19, 20, 21, 22, 23, 24, 25, 26, 27, 28, 29, 30, 31, 32, 33] (by decide +kernel) (by decide +kernel)) (goodIn_sub (fun _ h => List.mem_cons_of_mem _ (List.mem_append_right _ h)) (by decide +kernel))
set_option maxRecDepth 20000 in
theorem gL_lead_X0_lead : GoodIn wsL_lead (wsV RL 29 RX0 yX0_lead wsX0_lead) := goodIn_app (goodIn_of _ (by decide +kernel)) ggL_lead_X0_lead
theorem dL_lead_0 : decode cL_lead 0 = .ok (.aload 4, 2) := by decide +kernel
theorem dL_lead_2 : decode cL_lead 2 = .ok (.iconst 0, 1) := by decide +kernel
theorem dL_lead_3 : decode cL_lead 3 = .ok (.aload_n 0, 1) := by decide +kernel
theorem dL_lead_4 : decode cL_lead 4 = .ok (.iload_n 1, 1) := by decide +kernel
theorem dL_lead_5 : decode cL_lead 5 = .ok (.iload_n 2, 1) := by decide +kernel
theorem dL_lead_6 : decode cL_lead 6 = .ok (.iload_n 3, 1) := by decide +kernel
theorem dL_lead_7 : decode cL_lead 7 = .ok (.invokevirtual 29, 3) := by decide +kernel
theorem dL_lead_10 : decode cL_lead 10 = .ok (.i2l, 1) := by decide +kernel
theorem dL_lead_11 : decode cL_lead 11 = .ok (.lastore, 1) := by decide +kernel
theorem dL_lead_12 : decode cL_lead 12 = .ok (.goto 7, 3) := by decide +kernel
theorem dL_lead_15 : decode cL_lead 15 = .ok (.astore 5, 2) := by decide +kernel
theorem dL_lead_17 : decode cL_lead 17 = .ok (.iconst 1, 1) := by decide +kernel
theorem dL_lead_18 : decode cL_lead 18 = .ok (.ireturn, 1) := by decide +kernel
theorem dL_lead_19 : decode cL_lead 19 = .ok (.iconst 0, 1) := by decide +kernel
theorem dL_lead_20 : decode cL_lead 20 = .ok (.ireturn, 1) := by decide +kernel
set_option maxRecDepth 20000 in
theorem ggL_name_X0_name : GoodIn wsL_name wsX0_name := goodIn_ca (goodIn_ca (goodIn_r _ [7, 8, 9, 10, 6, 11, 12, 13, 14, 15, 16, 17, 18, 19, 20, 21, 22, 23, 24, 25, 26, 27, 28, 29, 30, 31, 32, 33, 34, 35, 36] (by decide +kernel) (by decide +kernel)) (goodIn_sub (fun _ h => List.mem_cons_of_mem _ (List.mem_append_left _ (List.mem_append_right _ h))) (by decide +kernel))) (goodIn_sub (fun _ h => List.mem_cons_of_mem _ (List.mem_append_right _ h)) (by decide +kernel))
set_option maxRecDepth 20000 in
theorem gL_name_X0_name : GoodIn wsL_name (wsV RL 32 RX0 yX0_name wsX0_name) := goodIn_app (goodIn_of _ (by decide +kernel)) ggL_name_X0_name
theorem dL_name_0 : decode cL_name 0 = .ok (.aload_n 0, 1) := by decide +kernel
theorem dL_name_1 : decode cL_name 1 = .ok (.iload_n 1, 1) := by decide +kernel
theorem dL_name_2 : decode cL_name 2 = .ok (.iload_n 2, 1) := by decide +kernel
theorem dL_name_3 : decode cL_name 3 = .ok (.iload_n 3, 1) := by decide +kernel
theorem dL_name_4 : decode cL_name 4 = .ok (.invokevirtual 32, 3) := by decide +kernel
theorem dL_name_7 : decode cL_name 7 = .ok (.goto 11, 3) := by decide +kernel
theorem dL_name_10 : decode cL_name 10 = .ok (.astore 4, 2) := by decide +kernel
theorem dL_name_12 : decode cL_name 12 = .ok (.iconst 1, 1) := by decide +kernel
theorem dL_name_13 : decode cL_name 13 = .ok (.ireturn, 1) := by decide +kernel
theorem dL_name_14 : decode cL_name 14 = .ok (.astore 4, 2) := by decide +kernel
theorem dL_name_16 : decode cL_name 16 = .ok (.iconst 2, 1) := by decide +kernel
theorem dL_name_17 : decode cL_name 17 = .ok (.ireturn, 1) := by decide +kernel
theorem dL_name_18 : decode cL_name 18 = .ok (.iconst 0, 1) := by decide +kernel
theorem dL_name_19 : decode cL_name 19 = .ok (.ireturn, 1) := by decide +kernel
set_option maxRecDepth 20000 in
theorem ggL_textWidth_X0_textWidth : GoodIn wsL_textWidth wsX0_textWidth := goodIn_ca (goodIn_r _ [6, 7, 8, 5, 9, 10, 11, 12, 13, 14, 15, 16, 17, 18, 19, 20, 21, 22, 23, 24, 25, 26, 27, 28, 29, 30, 31, 32, 33, 34, 35, 36, 37, 38, 39, 40, 41, 42, 43, 44, 45, 46, 47, 48, 49, 50, 51, 52, 53, 54, 55, 56, 57, 58] (by decide +kernel) (by decide +kernel)) (goodIn_sub (fun _ h => List.mem_cons_of_mem _ (List.mem_append_right _ h)) (by decide +kernel))
set_option maxRecDepth 20000 in
theorem gL_textWidth_X0_textWidth : GoodIn wsL_textWidth (wsV RL 36 RX0 yX0_textWidth wsX0_textWidth) := goodIn_app (goodIn_of _ (by decide +kernel)) ggL_textWidth_X0_textWidth
theorem dL_textWidth_0 : decode cL_textWidth 0 = .ok (.aload_n 3, 1) := by decide +kernel
theorem dL_textWidth_1 : decode cL_textWidth 1 = .ok (.iconst 0, 1) := by decide +kernel
theorem dL_textWidth_2 : decode cL_textWidth 2 = .ok (.aload_n 0, 1) := by decide +kernel
theorem dL_textWidth_3 : decode cL_textWidth 3 = .ok (.iload_n 1, 1) := by decide +kernel
theorem dL_textWidth_4 : decode cL_textWidth 4 = .ok (.iload_n 2, 1) := by decide +kernel
theorem dL_textWidth_5 : decode cL_textWidth 5 = .ok (.invokevirtual 36, 3) := by decide +kernel
theorem dL_textWidth_8 : decode cL_textWidth 8 = .ok (.i2l, 1) := by decide +kernel
theorem dL_textWidth_9 : decode cL_textWidth 9 = .ok (.lastore, 1) := by decide +kernel
theorem dL_textWidth_10 : decode cL_textWidth 10 = .ok (.goto 7, 3) := by decide +kernel
theorem dL_textWidth_13 : decode cL_textWidth 13 = .ok (.astore 4, 2) := by decide +kernel
theorem dL_textWidth_15 : decode cL_textWidth 15 = .ok (.iconst 1, 1) := by decide +kernel
theorem dL_textWidth_16 : decode cL_textWidth 16 = .ok (.ireturn, 1) := by decide +kernel
theorem dL_textWidth_17 : decode cL_textWidth 17 = .ok (.iconst 0, 1) := by decide +kernel
theorem dL_textWidth_18 : decode cL_textWidth 18 = .ok (.ireturn, 1) := by decide +kernel
set_option maxRecDepth 20000 in
theorem ggL_cut_X0_cut : GoodIn wsL_cut wsX0_cut := goodIn_ca (goodIn_ca (goodIn_ca (goodIn_r _ [8, 9, 10, 11, 12, 13, 14, 15, 16, 7, 17, 18, 19, 20, 21, 22, 23, 24, 25, 26, 27, 28, 29, 30, 31, 32, 33, 34, 35, 36, 37, 38, 39, 40, 41, 42, 43, 44, 45, 46, 47, 48, 49, 50, 51, 52, 53, 54, 55, 56, 57, 58, 59, 60, 61, 62, 63, 64, 65, 66, 67, 68, 69, 70, 71, 72, 73, 74, 75, 76, 77, 78, 79, 80, 81, 82, 83, 84, 85, 86, 87, 88, 89, 90] (by decide +kernel) (by decide +kernel)) (goodIn_sub (fun _ h => List.mem_cons_of_mem _ (List.mem_append_left _ (List.mem_append_left _ (List.mem_append_right _ h)))) (by decide +kernel))) (goodIn_sub (fun _ h => List.mem_cons_of_mem _ (List.mem_append_left _ (List.mem_append_right _ h))) (by decide +kernel))) (goodIn_sub (fun _ h => List.mem_cons_of_mem _ (List.mem_append_right _ h)) (by decide +kernel))
set_option maxRecDepth 20000 in
theorem gL_cut_X0_cut : GoodIn wsL_cut (wsV RL 39 RX0 yX0_cut wsX0_cut) := goodIn_app (goodIn_of _ (by decide +kernel)) ggL_cut_X0_cut
theorem dL_cut_0 : decode cL_cut 0 = .ok (.aload 6, 2) := by decide +kernel
theorem dL_cut_2 : decode cL_cut 2 = .ok (.iconst 0, 1) := by decide +kernel
theorem dL_cut_3 : decode cL_cut 3 = .ok (.aload_n 0, 1) := by decide +kernel
theorem dL_cut_4 : decode cL_cut 4 = .ok (.iload_n 1, 1) := by decide +kernel
theorem dL_cut_5 : decode cL_cut 5 = .ok (.iload_n 2, 1) := by decide +kernel
theorem dL_cut_6 : decode cL_cut 6 = .ok (.iload_n 3, 1) := by decide +kernel
theorem dL_cut_7 : decode cL_cut 7 = .ok (.iload 4, 2) := by decide +kernel
theorem dL_cut_9 : decode cL_cut 9 = .ok (.iload 5, 2) := by decide +kernel
theorem dL_cut_11 : decode cL_cut 11 = .ok (.invokevirtual 39, 3) := by decide +kernel
theorem dL_cut_14 : decode cL_cut 14 = .ok (.i2l, 1) := by decide +kernel
theorem dL_cut_15 : decode cL_cut 15 = .ok (.lastore, 1) := by decide +kernel
theorem dL_cut_16 : decode cL_cut 16 = .ok (.goto 15, 3) := by decide +kernel
theorem dL_cut_19 : decode cL_cut 19 = .ok (.astore 7, 2) := by decide +kernel
theorem dL_cut_21 : decode cL_cut 21 = .ok (.iconst 1, 1) := by decide +kernel
theorem dL_cut_22 : decode cL_cut 22 = .ok (.ireturn, 1) := by decide +kernel
theorem dL_cut_23 : decode cL_cut 23 = .ok (.astore 7, 2) := by decide +kernel
theorem dL_cut_25 : decode cL_cut 25 = .ok (.iconst 2, 1) := by decide +kernel
theorem dL_cut_26 : decode cL_cut 26 = .ok (.ireturn, 1) := by decide +kernel
theorem dL_cut_27 : decode cL_cut 27 = .ok (.astore 7, 2) := by decide +kernel
theorem dL_cut_29 : decode cL_cut 29 = .ok (.iconst 3, 1) := by decide +kernel
theorem dL_cut_30 : decode cL_cut 30 = .ok (.ireturn, 1) := by decide +kernel
theorem dL_cut_31 : decode cL_cut 31 = .ok (.iconst 0, 1) := by decide +kernel
theorem dL_cut_32 : decode cL_cut 32 = .ok (.ireturn, 1) := by decide +kernel
set_option maxRecDepth 20000 in
theorem ggL_remove_X0_remove : GoodIn wsL_remove wsX0_remove := goodIn_ca (goodIn_r _ [6, 7, 8, 9, 5, 10, 11, 12, 13, 14, 15, 16, 17, 18, 19, 20, 21, 22, 23, 24, 25, 26, 27, 28, 29, 30, 31, 32, 33] (by decide +kernel) (by decide +kernel)) (goodIn_sub (fun _ h => List.mem_cons_of_mem _ (List.mem_append_right _ h)) (by decide +kernel))
set_option maxRecDepth 20000 in
theorem gL_remove_X0_remove : GoodIn wsL_remove (wsV RL 45 RX0 yX0_remove wsX0_remove) := goodIn_app (goodIn_of _ (by decide +kernel)) ggL_remove_X0_remove
theorem dL_remove_0 : decode cL_remove 0 = .ok (.aload_n 3, 1) := by decide +kernel
theorem dL_remove_1 : decode cL_remove 1 = .ok (.iconst 0, 1) := by decide +kernel
theorem dL_remove_2 : decode cL_remove 2 = .ok (.aload_n 0, 1) := by decide +kernel
theorem dL_remove_3 : decode cL_remove 3 = .ok (.iload_n 1, 1) := by decide +kernel
theorem dL_remove_4 : decode cL_remove 4 = .ok (.iload_n 2, 1) := by decide +kernel
theorem dL_remove_5 : decode cL_remove 5 = .ok (.invokevirtual 45, 3) := by decide +kernel
theorem dL_remove_8 : decode cL_remove 8 = .ok (.ifCond .eq 7, 3) := by decide +kernel
theorem dL_remove_11 : decode cL_remove 11 = .ok (.lconst 1, 1) := by decide +kernel
theorem dL_remove_12 : decode cL_remove 12 = .ok (.goto 4, 3) := by decide +kernel
theorem dL_remove_15 : decode cL_remove 15 = .ok (.lconst 0, 1) := by decide +kernel
theorem dL_remove_16 : decode cL_remove 16 = .ok (.lastore, 1) := by decide +kernel
theorem dL_remove_17 : decode cL_remove 17 = .ok (.goto 7, 3) := by decide +kernel
theorem dL_remove_20 : decode cL_remove 20 = .ok (.astore 4, 2) := by decide +kernel
theorem dL_remove_22 : decode cL_remove 22 = .ok (.iconst 1, 1) := by decide +kernel
theorem dL_remove_23 : decode cL_remove 23 = .ok (.ireturn, 1) := by decide +kernel
theorem dL_remove_24 : decode cL_remove 24 = .ok (.iconst 0, 1) := by decide +kernel
theorem dL_remove_25 : decode cL_remove 25 = .ok (.ireturn, 1) := by decide +kernel
set_option maxRecDepth 20000 in
theorem ggL_isOld_X0_isOld : GoodIn wsL_isOld wsX0_isOld := goodIn_ca (goodIn_r _ [6, 7, 8, 5, 9, 10, 11, 12, 13, 14, 15, 16, 17, 18, 19, 20, 21, 22, 23, 24, 25, 26, 27, 28, 29, 30, 31, 32, 33, 34, 35, 36, 37, 38, 39, 40] (by decide +kernel) (by decide +kernel)) (goodIn_sub (fun _ h => List.mem_cons_of_mem _ (List.mem_append_right _ h)) (by decide +kernel))
set_option maxRecDepth 20000 in
theorem gL_isOld_X0_isOld : GoodIn wsL_isOld (wsV RL 49 RX0 yX0_isOld wsX0_isOld) := goodIn_app (goodIn_of _ (by decide +kernel)) ggL_isOld_X0_isOld
theorem dL_isOld_0 : decode cL_isOld 0 = .ok (.aload_n 3, 1) := by decide +kernel
theorem dL_isOld_1 : decode cL_isOld 1 = .ok (.iconst 0, 1) := by decide +kernel
theorem dL_isOld_2 : decode cL_isOld 2 = .ok (.aload_n 0, 1) := by decide +kernel
theorem dL_isOld_3 : decode cL_isOld 3 = .ok (.iload_n 1, 1) := by decide +kernel
theorem dL_isOld_4 : decode cL_isOld 4 = .ok (.iload_n 2, 1) := by decide +kernel
theorem dL_isOld_5 : decode cL_isOld 5 = .ok (.invokevirtual 49, 3) := by decide +kernel
theorem dL_isOld_8 : decode cL_isOld 8 = .ok (.ifCond .eq 7, 3) := by decide +kernel
theorem dL_isOld_11 : decode cL_isOld 11 = .ok (.lconst 1, 1) := by decide +kernel
theorem dL_isOld_12 : decode cL_isOld 12 = .ok (.goto 4, 3) := by decide +kernel
theorem dL_isOld_15 : decode cL_isOld 15 = .ok (.lconst 0, 1) := by decide +kernel
theorem dL_isOld_16 : decode cL_isOld 16 = .ok (.lastore, 1) := by decide +kernel
theorem dL_isOld_17 : decode cL_isOld 17 = .ok (.goto 7, 3) := by decide +kernel
theorem dL_isOld_20 : decode cL_isOld 20 = .ok (.astore 4, 2) := by decide +kernel
theorem dL_isOld_22 : decode cL_isOld 22 = .ok (.iconst 1, 1) := by decide +kernel
theorem dL_isOld_23 : decode cL_isOld 23 = .ok (.ireturn, 1) := by decide +kernel
theorem dL_isOld_24 : decode cL_isOld 24 = .ok (.iconst 0, 1) := by decide +kernel
theorem dL_isOld_25 : decode cL_isOld 25 = .ok (.ireturn, 1) := by decide +kernel
set_option maxRecDepth 20000 in
theorem ggL_remake_X0_remake : GoodIn wsL_remake wsX0_remake := goodIn_ca (goodIn_r _ [6, 7, 8, 9, 10, 5, 11, 12, 13, 14, 15, 16, 17, 18, 19, 20, 21, 22, 23, 24, 25, 26, 27, 28, 29, 30, 31, 32, 33, 34, 35, 36, 37, 38, 39, 40, 41, 42, 43, 44, 45, 46, 47, 48, 49, 50, 51, 52, 53, 54, 55, 56, 57, 58, 59, 60, 61, 62, 63, 64, 65, 66, 67, 68, 69, 70, 71, 72, 73, 74, 75, 76] (by decide +kernel) (by decide +kernel)) (goodIn_sub (fun _ h => List.mem_cons_of_mem _ (List.mem_append_right _ h)) (by decide +kernel))
set_option maxRecDepth 20000 in
theorem gL_remake_X0_remake : GoodIn wsL_remake (wsV RL 52 RX0 yX0_remake wsX0_remake) := goodIn_app (goodIn_of _ (by decide +kernel)) ggL_remake_X0_remake
theorem dL_remake_0 : decode cL_remake 0 = .ok (.aload_n 1, 1) := by decide +kernel
theorem dL_remake_1 : decode cL_remake 1 = .ok (.iconst 0, 1) := by decide +kernel
theorem dL_remake_2 : decode cL_remake 2 = .ok (.aload_n 0, 1) := by decide +kernel
theorem dL_remake_3 : decode cL_remake 3 = .ok (.invokevirtual 52, 3) := by decide +kernel
theorem dL_remake_6 : decode cL_remake 6 = .ok (.i2l, 1) := by decide +kernel
theorem dL_remake_7 : decode cL_remake 7 = .ok (.lastore, 1) := by decide +kernel
theorem dL_remake_8 : decode cL_remake 8 = .ok (.goto 6, 3) := by decide +kernel
theorem dL_remake_11 : decode cL_remake 11 = .ok (.astore_n 2, 1) := by decide +kernel
theorem dL_remake_12 : decode cL_remake 12 = .ok (.iconst 1, 1) := by decide +kernel
theorem dL_remake_13 : decode cL_remake 13 = .ok (.ireturn, 1) := by decide +kernel
theorem dL_remake_14 : decode cL_remake 14 = .ok (.iconst 0, 1) := by decide +kernel
theorem dL_remake_15 : decode cL_remake 15 = .ok (.ireturn, 1) := by decide +kernel
set_option maxRecDepth 20000 in
theorem ggL_read_X0_read : GoodIn wsL_read wsX0_read := goodIn_ca (goodIn_r _ [6, 7, 8, 9, 5, 10, 11, 12, 13, 14, 15, 16, 17, 18, 19, 20, 21, 22, 23, 24, 25, 26, 27, 28, 29, 30, 31, 32, 33, 34, 35, 36, 37, 38, 39, 40, 41, 42, 43, 44, 45, 46, 47, 48, 49, 50, 51, 52, 53, 54, 55, 56, 57, 58, 59, 60, 61, 62] (by decide +kernel) (by decide +kernel)) (goodIn_sub (fun _ h => List.mem_cons_of_mem _ (List.mem_append_right _ h)) (by decide +kernel))
set_option maxRecDepth 20000 in
theorem gL_read_X0_read : GoodIn wsL_read (wsV RL 56 RX0 yX0_read wsX0_read) := goodIn_app (goodIn_of _ (by decide +kernel)) ggL_read_X0_read
theorem dL_read_0 : decode cL_read 0 = .ok (.aload_n 3, 1) := by decide +kernel
theorem dL_read_1 : decode cL_read 1 = .ok (.iconst 0, 1) := by decide +kernel
theorem dL_read_2 : decode cL_read 2 = .ok (.aload_n 0, 1) := by decide +kernel
theorem dL_read_3 : decode cL_read 3 = .ok (.iload_n 1, 1) := by decide +kernel
theorem dL_read_4 : decode cL_read 4 = .ok (.iload_n 2, 1) := by decide +kernel
theorem dL_read_5 : decode cL_read 5 = .ok (.invokevirtual 56, 3) := by decide +kernel
theorem dL_read_8 : decode cL_read 8 = .ok (.i2l, 1) := by decide +kernel
theorem dL_read_9 : decode cL_read 9 = .ok (.lastore, 1) := by decide +kernel
theorem dL_read_10 : decode cL_read 10 = .ok (.goto 7, 3) := by decide +kernel
theorem dL_read_13 : decode cL_read 13 = .ok (.astore 4, 2) := by decide +kernel
theorem dL_read_15 : decode cL_read 15 = .ok (.iconst 1, 1) := by decide +kernel
theorem dL_read_16 : decode cL_read 16 = .ok (.ireturn, 1) := by decide +kernel
theorem dL_read_17 : decode cL_read 17 = .ok (.iconst 0, 1) := by decide +kernel
theorem dL_read_18 : decode cL_read 18 = .ok (.ireturn, 1) := by decide +kernel
set_option maxRecDepth 20000 in
theorem ggL_walk_X0_walk : GoodIn wsL_walk wsX0_walk := goodIn_ca (goodIn_ca (goodIn_r _ [7, 8, 9, 10, 11, 6, 12, 13, 14, 15, 16, 17, 18, 19, 20, 21, 22, 23, 24, 25, 26, 27, 28, 29, 30, 31, 32, 33, 34, 35, 36, 37, 38, 39, 40, 41, 42, 43, 44, 45, 46, 47, 48, 49, 50, 51, 52, 53, 54, 55, 56, 57, 58, 59, 60, 61, 62, 63, 64, 65, 66, 67, 68, 69, 70, 71, 72, 73, 74, 75, 76, 77, 78] (by decide +kernel) (by decide +kernel)) (goodIn_sub (fun _ h => List.mem_cons_of_mem _ (List.mem_append_left _ (List.mem_append_right _ h))) (by decide +kernel))) (goodIn_sub (fun _ h => List.mem_cons_of_mem _ (List.mem_append_right _ h)) (by decide +kernel))
set_option maxRecDepth 20000 in
theorem gL_walk_X0_walk : GoodIn wsL_walk (wsV RL 59 RX0 yX0_walk wsX0_walk) := goodIn_app (goodIn_of _ (by decide +kernel)) ggL_walk_X0_walk
theorem dL_walk_0 : decode cL_walk 0 = .ok (.aload 4, 2) := by decide +kernel
theorem dL_walk_2 : decode cL_walk 2 = .ok (.iconst 0, 1) := by decide +kernel
theorem dL_walk_3 : decode cL_walk 3 = .ok (.aload_n 0, 1) := by decide +kernel
theorem dL_walk_4 : decode cL_walk 4 = .ok (.iload_n 1, 1) := by decide +kernel
theorem dL_walk_5 : decode cL_walk 5 = .ok (.iload_n 2, 1) := by decide +kernel
theorem dL_walk_6 : decode cL_walk 6 = .ok (.iload_n 3, 1) := by decide +kernel
theorem dL_walk_7 : decode cL_walk 7 = .ok (.invokevirtual 59, 3) := by decide +kernel
theorem dL_walk_10 : decode cL_walk 10 = .ok (.i2l, 1) := by decide +kernel
theorem dL_walk_11 : decode cL_walk 11 = .ok (.lastore, 1) := by decide +kernel
theorem dL_walk_12 : decode cL_walk 12 = .ok (.goto 11, 3) := by decide +kernel
theorem dL_walk_15 : decode cL_walk 15 = .ok (.astore 5, 2) := by decide +kernel
theorem dL_walk_17 : decode cL_walk 17 = .ok (.iconst 1, 1) := by decide +kernel
theorem dL_walk_18 : decode cL_walk 18 = .ok (.ireturn, 1) := by decide +kernel
theorem dL_walk_19 : decode cL_walk 19 = .ok (.astore 5, 2) := by decide +kernel
theorem dL_walk_21 : decode cL_walk 21 = .ok (.iconst 2, 1) := by decide +kernel
theorem dL_walk_22 : decode cL_walk 22 = .ok (.ireturn, 1) := by decide +kernel
theorem dL_walk_23 : decode cL_walk 23 = .ok (.iconst 0, 1) := by decide +kernel
theorem dL_walk_24 : decode cL_walk 24 = .ok (.ireturn, 1) := by decide +kernel
set_option maxRecDepth 20000 in
theorem ggL_walkBySteps_X0_walkBySteps : GoodIn wsL_walkBySteps wsX0_walkBySteps := goodIn_ca (goodIn_ca (goodIn_r _ [7, 8, 9, 6, 10, 11, 12, 13, 14, 15, 16, 17, 18, 19, 20, 21, 22, 23, 24, 25, 26, 27, 28, 29, 30, 31, 32, 33, 34, 35, 36, 37, 38, 39, 40, 41, 42, 43, 44, 45, 46, 47, 48, 49, 50, 51, 52, 53, 54, 55, 56, 57, 58, 59, 60, 61, 62, 63, 64, 65, 66, 67, 68, 69, 70, 71, 72] (by decide +kernel) (by decide +kernel)) (goodIn_sub (fun _ h => List.mem_cons_of_mem _ (List.mem_append_left _ (List.mem_append_right _ h))) (by decide +kernel))) (goodIn_sub (fun _ h => List.mem_cons_of_mem _ (List.mem_append_right _ h)) (by decide +kernel))
set_option maxRecDepth 20000 in
theorem gL_walkBySteps_X0_walkBySteps : GoodIn wsL_walkBySteps (wsV RL 62 RX0 yX0_walkBySteps wsX0_walkBySteps) := goodIn_app (goodIn_of _ (by decide +kernel)) ggL_walkBySteps_X0_walkBySteps
theorem dL_walkBySteps_0 : decode cL_walkBySteps 0 = .ok (.aload 4, 2) := by decide +kernel
theorem dL_walkBySteps_2 : decode cL_walkBySteps 2 = .ok (.iconst 0, 1) := by decide +kernel
theorem dL_walkBySteps_3 : decode cL_walkBySteps 3 = .ok (.aload_n 0, 1) := by decide +kernel
theorem dL_walkBySteps_4 : decode cL_walkBySteps 4 = .ok (.iload_n 1, 1) := by decide +kernel
theorem dL_walkBySteps_5 : decode cL_walkBySteps 5 = .ok (.iload_n 2, 1) := by decide +kernel
theorem dL_walkBySteps_6 : decode cL_walkBySteps 6 = .ok (.iload_n 3, 1) := by decide +kernel
theorem dL_walkBySteps_7 : decode cL_walkBySteps 7 = .ok (.invokevirtual 62, 3) := by decide +kernel
theorem dL_walkBySteps_10 : decode cL_walkBySteps 10 = .ok (.i2l, 1) := by decide +kernel
theorem dL_walkBySteps_11 : decode cL_walkBySteps 11 = .ok (.lastore, 1) := by decide +kernel
theorem dL_walkBySteps_12 : decode cL_walkBySteps 12 = .ok (.goto 11, 3) := by decide +kernel
theorem dL_walkBySteps_15 : decode cL_walkBySteps 15 = .ok (.astore 5, 2) := by decide +kernel
theorem dL_walkBySteps_17 : decode cL_walkBySteps 17 = .ok (.iconst 1, 1) := by decide +kernel
theorem dL_walkBySteps_18 : decode cL_walkBySteps 18 = .ok (.ireturn, 1) := by decide +kernel
theorem dL_walkBySteps_19 : decode cL_walkBySteps 19 = .ok (.astore 5, 2) := by decide +kernel
theorem dL_walkBySteps_21 : decode cL_walkBySteps 21 = .ok (.iconst 2, 1) := by decide +kernel
theorem dL_walkBySteps_22 : decode cL_walkBySteps 22 = .ok (.ireturn, 1) := by decide +kernel
theorem dL_walkBySteps_23 : decode cL_walkBySteps 23 = .ok (.iconst 0, 1) := by decide +kernel
theorem dL_walkBySteps_24 : decode cL_walkBySteps 24 = .ok (.ireturn, 1) := by decide +kernel
set_option maxRecDepth 20000 in
theorem ggL_placeBehind_X0_placeBehind : GoodIn wsL_placeBehind wsX0_placeBehind := goodIn_ca (goodIn_ca (goodIn_r _ [7, 8, 9, 10, 11, 6, 12, 13, 14, 15, 16, 17, 18, 19, 20, 21, 22, 23, 24, 25, 26, 27, 28, 29, 30, 31, 32, 33, 34, 35, 36, 37, 38, 39, 40, 41, 42, 43, 44, 45, 46, 47, 48, 49, 50, 51, 52, 53, 54, 55, 56, 57, 58, 59, 60, 61, 62, 63, 64, 65, 66, 67, 68, 69, 70, 71, 72] (by decide +kernel) (by decide +kernel)) (goodIn_sub (fun _ h => List.mem_cons_of_mem _ (List.mem_append_left _ (List.mem_append_right _ h))) (by decide +kernel))) (goodIn_sub (fun _ h => List.mem_cons_of_mem _ (List.mem_append_right _ h)) (by decide +kernel))
set_option maxRecDepth 20000 in
theorem gL_placeBehind_X0_placeBehind : GoodIn wsL_placeBehind (wsV RL 65 RX0 yX0_placeBehind wsX0_placeBehind) := goodIn_app (goodIn_of _ (by decide +kernel)) ggL_placeBehind_X0_placeBehind
theorem dL_placeBehind_0 : decode cL_placeBehind 0 = .ok (.aload 5, 2) := by decide +kernel
theorem dL_placeBehind_2 : decode cL_placeBehind 2 = .ok (.iconst 0, 1) := by decide +kernel
theorem dL_placeBehind_3 : decode cL_placeBehind 3 = .ok (.aload_n 0, 1) := by decide +kernel
theorem dL_placeBehind_4 : decode cL_placeBehind 4 = .ok (.iload_n 1, 1) := by decide +kernel
theorem dL_placeBehind_5 : decode cL_placeBehind 5 = .ok (.iload_n 2, 1) := by decide +kernel
theorem dL_placeBehind_6 : decode cL_placeBehind 6 = .ok (.iload_n 3, 1) := by decide +kernel
theorem dL_placeBehind_7 : decode cL_placeBehind 7 = .ok (.iload 4, 2) := by decide +kernel
theorem dL_placeBehind_9 : decode cL_placeBehind 9 = .ok (.invokevirtual 65, 3) := by decide +kernel
theorem dL_placeBehind_12 : decode cL_placeBehind 12 = .ok (.i2l, 1) := by decide +kernel
theorem dL_placeBehind_13 : decode cL_placeBehind 13 = .ok (.lastore, 1) := by decide +kernel
theorem dL_placeBehind_14 : decode cL_placeBehind 14 = .ok (.goto 11, 3) := by decide +kernel
theorem dL_placeBehind_17 : decode cL_placeBehind 17 = .ok (.astore 6, 2) := by decide +kernel
theorem dL_placeBehind_19 : decode cL_placeBehind 19 = .ok (.iconst 1, 1) := by decide +kernel
theorem dL_placeBehind_20 : decode cL_placeBehind 20 = .ok (.ireturn, 1) := by decide +kernel
theorem dL_placeBehind_21 : decode cL_placeBehind 21 = .ok (.astore 6, 2) := by decide +kernel
theorem dL_placeBehind_23 : decode cL_placeBehind 23 = .ok (.iconst 2, 1) := by decide +kernel
theorem dL_placeBehind_24 : decode cL_placeBehind 24 = .ok (.ireturn, 1) := by decide +kernel
theorem dL_placeBehind_25 : decode cL_placeBehind 25 = .ok (.iconst 0, 1) := by decide +kernel
theorem dL_placeBehind_26 : decode cL_placeBehind 26 = .ok (.ireturn, 1) := by decide +kernel
