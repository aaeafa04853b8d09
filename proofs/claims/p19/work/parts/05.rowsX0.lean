set_option maxRecDepth 20000 in
theorem ggX0_init_J7_fill_53178 : GoodIn wsX0_init wsJ7_fill_53178 := goodIn_r _ [18] (by decide +kernel) (by decide +kernel)
set_option maxRecDepth 20000 in
theorem gX0_init_J7_fill_53178 : GoodIn wsX0_init (va_wsS RX0 42 yJ7_fill_53178 wsJ7_fill_53178) := goodIn_app (goodIn_of _ (by decide +kernel)) ggX0_init_J7_fill_53178
theorem dX0_init_0 : decode cX0_init 0 = .ok (.aload_n 0, 1) := by decide +kernel
theorem dX0_init_1 : decode cX0_init 1 = .ok (.invokespecial 3, 3) := by decide +kernel
theorem dX0_init_4 : decode cX0_init 4 = .ok (.aload_n 0, 1) := by decide +kernel
theorem dX0_init_5 : decode cX0_init 5 = .ok (.bipush 8, 2) := by decide +kernel
theorem dX0_init_7 : decode cX0_init 7 = .ok (.newarray .int, 2) := by decide +kernel
theorem dX0_init_9 : decode cX0_init 9 = .ok (.putfield 9, 3) := by decide +kernel
theorem dX0_init_12 : decode cX0_init 12 = .ok (.aload_n 0, 1) := by decide +kernel
theorem dX0_init_13 : decode cX0_init 13 = .ok (.bipush 64, 2) := by decide +kernel
theorem dX0_init_15 : decode cX0_init 15 = .ok (.newarray .int, 2) := by decide +kernel
theorem dX0_init_17 : decode cX0_init 17 = .ok (.putfield 13, 3) := by decide +kernel
theorem dX0_init_20 : decode cX0_init 20 = .ok (.aload_n 0, 1) := by decide +kernel
theorem dX0_init_21 : decode cX0_init 21 = .ok (.bipush 32, 2) := by decide +kernel
theorem dX0_init_23 : decode cX0_init 23 = .ok (.newarray .int, 2) := by decide +kernel
theorem dX0_init_25 : decode cX0_init 25 = .ok (.putfield 16, 3) := by decide +kernel
theorem dX0_init_28 : decode cX0_init 28 = .ok (.aload_n 0, 1) := by decide +kernel
theorem dX0_init_29 : decode cX0_init 29 = .ok (.bipush 8, 2) := by decide +kernel
theorem dX0_init_31 : decode cX0_init 31 = .ok (.newarray .int, 2) := by decide +kernel
theorem dX0_init_33 : decode cX0_init 33 = .ok (.putfield 19, 3) := by decide +kernel
theorem dX0_init_36 : decode cX0_init 36 = .ok (.aload_n 0, 1) := by decide +kernel
theorem dX0_init_37 : decode cX0_init 37 = .ok (.bipush 32, 2) := by decide +kernel
theorem dX0_init_39 : decode cX0_init 39 = .ok (.newarray .int, 2) := by decide +kernel
theorem dX0_init_41 : decode cX0_init 41 = .ok (.putfield 22, 3) := by decide +kernel
theorem dX0_init_44 : decode cX0_init 44 = .ok (.aload_n 0, 1) := by decide +kernel
theorem dX0_init_45 : decode cX0_init 45 = .ok (.bipush 32, 2) := by decide +kernel
theorem dX0_init_47 : decode cX0_init 47 = .ok (.newarray .int, 2) := by decide +kernel
theorem dX0_init_49 : decode cX0_init 49 = .ok (.putfield 25, 3) := by decide +kernel
theorem dX0_init_52 : decode cX0_init 52 = .ok (.aload_n 0, 1) := by decide +kernel
theorem dX0_init_53 : decode cX0_init 53 = .ok (.sipush 160, 3) := by decide +kernel
theorem dX0_init_56 : decode cX0_init 56 = .ok (.newarray .int, 2) := by decide +kernel
theorem dX0_init_58 : decode cX0_init 58 = .ok (.putfield 28, 3) := by decide +kernel
theorem dX0_init_61 : decode cX0_init 61 = .ok (.aload_n 0, 1) := by decide +kernel
theorem dX0_init_62 : decode cX0_init 62 = .ok (.lconst 0, 1) := by decide +kernel
theorem dX0_init_63 : decode cX0_init 63 = .ok (.putfield 31, 3) := by decide +kernel
theorem dX0_init_66 : decode cX0_init 66 = .ok (.aload_n 0, 1) := by decide +kernel
theorem dX0_init_67 : decode cX0_init 67 = .ok (.iconst 0, 1) := by decide +kernel
theorem dX0_init_68 : decode cX0_init 68 = .ok (.putfield 35, 3) := by decide +kernel
theorem dX0_init_71 : decode cX0_init 71 = .ok (.aload_n 0, 1) := by decide +kernel
theorem dX0_init_72 : decode cX0_init 72 = .ok (.bipush 8, 2) := by decide +kernel
theorem dX0_init_74 : decode cX0_init 74 = .ok (.newarray .int, 2) := by decide +kernel
theorem dX0_init_76 : decode cX0_init 76 = .ok (.putfield 39, 3) := by decide +kernel
theorem dX0_init_79 : decode cX0_init 79 = .ok (.aload_n 0, 1) := by decide +kernel
theorem dX0_init_80 : decode cX0_init 80 = .ok (.getfield 13, 3) := by decide +kernel
theorem dX0_init_83 : decode cX0_init 83 = .ok (.iconst 1, 1) := by decide +kernel
theorem dX0_init_84 : decode cX0_init 84 = .ok (.invokestatic 42, 3) := by decide +kernel
theorem dX0_init_87 : decode cX0_init 87 = .ok (.aload_n 0, 1) := by decide +kernel
theorem dX0_init_88 : decode cX0_init 88 = .ok (.getfield 16, 3) := by decide +kernel
theorem dX0_init_91 : decode cX0_init 91 = .ok (.iconst (-1), 1) := by decide +kernel
theorem dX0_init_92 : decode cX0_init 92 = .ok (.invokestatic 42, 3) := by decide +kernel
theorem dX0_init_95 : decode cX0_init 95 = .ok (.return_, 1) := by decide +kernel
set_option maxRecDepth 20000 in
theorem ggX0_stroke_X0_requireGlyph : GoodIn wsX0_stroke wsX0_requireGlyph := goodIn_ca (goodIn_r _ [5, 6, 7] (by decide +kernel) (by decide +kernel)) (goodIn_sub (fun _ h => List.mem_cons_of_mem _ (List.mem_append_left _ (List.mem_append_right _ h))) (by decide +kernel))
set_option maxRecDepth 20000 in
theorem gX0_stroke_X0_requireGlyph : GoodIn wsX0_stroke (va_wsS RX0 48 yX0_requireGlyph wsX0_requireGlyph) := goodIn_app (goodIn_of _ (by decide +kernel)) ggX0_stroke_X0_requireGlyph
set_option maxRecDepth 20000 in
theorem ggX0_stroke_X0_requireLine : GoodIn wsX0_stroke wsX0_requireLine := goodIn_ca (goodIn_r _ [10, 11, 12, 13, 14, 15, 16, 17, 18, 4, 19] (by decide +kernel) (by decide +kernel)) (goodIn_sub (fun _ h => List.mem_cons_of_mem _ (List.mem_append_right _ h)) (by decide +kernel))
set_option maxRecDepth 20000 in
theorem gX0_stroke_X0_requireLine : GoodIn wsX0_stroke (va_wsS RX0 52 yX0_requireLine wsX0_requireLine) := goodIn_app (goodIn_of _ (by decide +kernel)) ggX0_stroke_X0_requireLine
set_option maxRecDepth 20000 in
theorem ggX0_stroke_X0_lineCells : GoodIn wsX0_stroke wsX0_lineCells := goodIn_r _ [22, 13, 14, 15, 16, 23, 24, 25, 26, 27, 4, 28] (by decide +kernel) (by decide +kernel)
set_option maxRecDepth 20000 in
theorem gX0_stroke_X0_lineCells : GoodIn wsX0_stroke (va_wsS RX0 56 yX0_lineCells wsX0_lineCells) := goodIn_app (goodIn_of _ (by decide +kernel)) ggX0_stroke_X0_lineCells
set_option maxRecDepth 20000 in
theorem ggX0_stroke_X0_forgetWalks : GoodIn wsX0_stroke wsX0_forgetWalks := goodIn_r _ [32, 33, 44, 45, 46, 47, 48, 49, 50, 51, 52, 53] (by decide +kernel) (by decide +kernel)
set_option maxRecDepth 20000 in
theorem gX0_stroke_X0_forgetWalks : GoodIn wsX0_stroke (wsV RX0 60 RX0 yX0_forgetWalks wsX0_forgetWalks) := goodIn_app (goodIn_of _ (by decide +kernel)) ggX0_stroke_X0_forgetWalks
set_option maxRecDepth 20000 in
theorem ggX0_stroke_X0_differing : GoodIn wsX0_stroke wsX0_differing := goodIn_r _ [36, 37, 38, 39, 40, 41, 42, 43] (by decide +kernel) (by decide +kernel)
set_option maxRecDepth 20000 in
theorem gX0_stroke_X0_differing : GoodIn wsX0_stroke (va_wsS RX0 63 yX0_differing wsX0_differing) := goodIn_app (goodIn_of _ (by decide +kernel)) ggX0_stroke_X0_differing
theorem dX0_stroke_0 : decode cX0_stroke 0 = .ok (.iload_n 1, 1) := by decide +kernel
theorem dX0_stroke_1 : decode cX0_stroke 1 = .ok (.invokestatic 48, 3) := by decide +kernel
theorem dX0_stroke_4 : decode cX0_stroke 4 = .ok (.iload_n 2, 1) := by decide +kernel
theorem dX0_stroke_5 : decode cX0_stroke 5 = .ok (.iload_n 3, 1) := by decide +kernel
theorem dX0_stroke_6 : decode cX0_stroke 6 = .ok (.iload 4, 2) := by decide +kernel
theorem dX0_stroke_8 : decode cX0_stroke 8 = .ok (.iload 5, 2) := by decide +kernel
theorem dX0_stroke_10 : decode cX0_stroke 10 = .ok (.invokestatic 52, 3) := by decide +kernel
theorem dX0_stroke_13 : decode cX0_stroke 13 = .ok (.iload_n 2, 1) := by decide +kernel
theorem dX0_stroke_14 : decode cX0_stroke 14 = .ok (.iload_n 3, 1) := by decide +kernel
theorem dX0_stroke_15 : decode cX0_stroke 15 = .ok (.iload 4, 2) := by decide +kernel
theorem dX0_stroke_17 : decode cX0_stroke 17 = .ok (.iload 5, 2) := by decide +kernel
theorem dX0_stroke_19 : decode cX0_stroke 19 = .ok (.invokestatic 56, 3) := by decide +kernel
theorem dX0_stroke_22 : decode cX0_stroke 22 = .ok (.istore 7, 2) := by decide +kernel
theorem dX0_stroke_24 : decode cX0_stroke 24 = .ok (.aload_n 0, 1) := by decide +kernel
theorem dX0_stroke_25 : decode cX0_stroke 25 = .ok (.getfield 9, 3) := by decide +kernel
theorem dX0_stroke_28 : decode cX0_stroke 28 = .ok (.iload_n 1, 1) := by decide +kernel
theorem dX0_stroke_29 : decode cX0_stroke 29 = .ok (.iaload, 1) := by decide +kernel
theorem dX0_stroke_30 : decode cX0_stroke 30 = .ok (.istore 8, 2) := by decide +kernel
theorem dX0_stroke_32 : decode cX0_stroke 32 = .ok (.iload 6, 2) := by decide +kernel
theorem dX0_stroke_34 : decode cX0_stroke 34 = .ok (.ifCond .eq 11, 3) := by decide +kernel
theorem dX0_stroke_37 : decode cX0_stroke 37 = .ok (.iload 8, 2) := by decide +kernel
theorem dX0_stroke_39 : decode cX0_stroke 39 = .ok (.iload 7, 2) := by decide +kernel
theorem dX0_stroke_41 : decode cX0_stroke 41 = .ok (.ior, 1) := by decide +kernel
theorem dX0_stroke_42 : decode cX0_stroke 42 = .ok (.goto 10, 3) := by decide +kernel
theorem dX0_stroke_45 : decode cX0_stroke 45 = .ok (.iload 8, 2) := by decide +kernel
theorem dX0_stroke_47 : decode cX0_stroke 47 = .ok (.iload 7, 2) := by decide +kernel
theorem dX0_stroke_49 : decode cX0_stroke 49 = .ok (.iconst (-1), 1) := by decide +kernel
theorem dX0_stroke_50 : decode cX0_stroke 50 = .ok (.ixor, 1) := by decide +kernel
theorem dX0_stroke_51 : decode cX0_stroke 51 = .ok (.iand, 1) := by decide +kernel
theorem dX0_stroke_52 : decode cX0_stroke 52 = .ok (.istore 9, 2) := by decide +kernel
theorem dX0_stroke_54 : decode cX0_stroke 54 = .ok (.aload_n 0, 1) := by decide +kernel
theorem dX0_stroke_55 : decode cX0_stroke 55 = .ok (.getfield 9, 3) := by decide +kernel
theorem dX0_stroke_58 : decode cX0_stroke 58 = .ok (.iload_n 1, 1) := by decide +kernel
theorem dX0_stroke_59 : decode cX0_stroke 59 = .ok (.iload 9, 2) := by decide +kernel
theorem dX0_stroke_61 : decode cX0_stroke 61 = .ok (.iastore, 1) := by decide +kernel
theorem dX0_stroke_62 : decode cX0_stroke 62 = .ok (.aload_n 0, 1) := by decide +kernel
theorem dX0_stroke_63 : decode cX0_stroke 63 = .ok (.invokevirtual 60, 3) := by decide +kernel
theorem dX0_stroke_66 : decode cX0_stroke 66 = .ok (.iload 8, 2) := by decide +kernel
theorem dX0_stroke_68 : decode cX0_stroke 68 = .ok (.iload 9, 2) := by decide +kernel
theorem dX0_stroke_70 : decode cX0_stroke 70 = .ok (.invokestatic 63, 3) := by decide +kernel
theorem dX0_stroke_73 : decode cX0_stroke 73 = .ok (.ireturn, 1) := by decide +kernel
set_option maxRecDepth 20000 in
theorem ggX0_difference_X0_requireGlyph : GoodIn wsX0_difference wsX0_requireGlyph := goodIn_ca (goodIn_r _ [5, 6, 7] (by decide +kernel) (by decide +kernel)) (goodIn_sub (fun _ h => List.mem_cons_of_mem _ (List.mem_append_right _ h)) (by decide +kernel))
set_option maxRecDepth 20000 in
theorem gX0_difference_X0_requireGlyph : GoodIn wsX0_difference (va_wsS RX0 48 yX0_requireGlyph wsX0_requireGlyph) := goodIn_app (goodIn_of _ (by decide +kernel)) ggX0_difference_X0_requireGlyph
set_option maxRecDepth 20000 in
theorem ggX0_difference_X0_differing : GoodIn wsX0_difference wsX0_differing := goodIn_r _ [10, 11, 12, 13, 14, 15, 16, 17] (by decide +kernel) (by decide +kernel)
set_option maxRecDepth 20000 in
theorem gX0_difference_X0_differing : GoodIn wsX0_difference (va_wsS RX0 63 yX0_differing wsX0_differing) := goodIn_app (goodIn_of _ (by decide +kernel)) ggX0_difference_X0_differing
theorem dX0_difference_0 : decode cX0_difference 0 = .ok (.iload_n 1, 1) := by decide +kernel
theorem dX0_difference_1 : decode cX0_difference 1 = .ok (.invokestatic 48, 3) := by decide +kernel
theorem dX0_difference_4 : decode cX0_difference 4 = .ok (.iload_n 2, 1) := by decide +kernel
theorem dX0_difference_5 : decode cX0_difference 5 = .ok (.invokestatic 48, 3) := by decide +kernel
theorem dX0_difference_8 : decode cX0_difference 8 = .ok (.aload_n 0, 1) := by decide +kernel
theorem dX0_difference_9 : decode cX0_difference 9 = .ok (.getfield 9, 3) := by decide +kernel
theorem dX0_difference_12 : decode cX0_difference 12 = .ok (.iload_n 1, 1) := by decide +kernel
theorem dX0_difference_13 : decode cX0_difference 13 = .ok (.iaload, 1) := by decide +kernel
theorem dX0_difference_14 : decode cX0_difference 14 = .ok (.aload_n 0, 1) := by decide +kernel
theorem dX0_difference_15 : decode cX0_difference 15 = .ok (.getfield 9, 3) := by decide +kernel
theorem dX0_difference_18 : decode cX0_difference 18 = .ok (.iload_n 2, 1) := by decide +kernel
theorem dX0_difference_19 : decode cX0_difference 19 = .ok (.iaload, 1) := by decide +kernel
theorem dX0_difference_20 : decode cX0_difference 20 = .ok (.invokestatic 63, 3) := by decide +kernel
theorem dX0_difference_23 : decode cX0_difference 23 = .ok (.ireturn, 1) := by decide +kernel
set_option maxRecDepth 20000 in
theorem ggX0_width_X0_requireGlyph : GoodIn wsX0_width wsX0_requireGlyph := goodIn_ca (goodIn_r _ [5, 6, 7] (by decide +kernel) (by decide +kernel)) (goodIn_sub (fun _ h => List.mem_cons_of_mem _ (List.mem_append_right _ h)) (by decide +kernel))
set_option maxRecDepth 20000 in
theorem gX0_width_X0_requireGlyph : GoodIn wsX0_width (va_wsS RX0 48 yX0_requireGlyph wsX0_requireGlyph) := goodIn_app (goodIn_of _ (by decide +kernel)) ggX0_width_X0_requireGlyph
set_option maxRecDepth 20000 in
theorem ggX0_width_X0_shapeWidth : GoodIn wsX0_width wsX0_shapeWidth := goodIn_r _ [10, 11, 12, 4, 13, 14, 15, 16, 17, 18, 19, 20, 21, 22, 23, 24, 25, 26] (by decide +kernel) (by decide +kernel)
set_option maxRecDepth 20000 in
theorem gX0_width_X0_shapeWidth : GoodIn wsX0_width (va_wsS RX0 67 yX0_shapeWidth wsX0_shapeWidth) := goodIn_app (goodIn_of _ (by decide +kernel)) ggX0_width_X0_shapeWidth
theorem dX0_width_0 : decode cX0_width 0 = .ok (.iload_n 1, 1) := by decide +kernel
theorem dX0_width_1 : decode cX0_width 1 = .ok (.invokestatic 48, 3) := by decide +kernel
theorem dX0_width_4 : decode cX0_width 4 = .ok (.aload_n 0, 1) := by decide +kernel
theorem dX0_width_5 : decode cX0_width 5 = .ok (.getfield 9, 3) := by decide +kernel
theorem dX0_width_8 : decode cX0_width 8 = .ok (.iload_n 1, 1) := by decide +kernel
theorem dX0_width_9 : decode cX0_width 9 = .ok (.iaload, 1) := by decide +kernel
theorem dX0_width_10 : decode cX0_width 10 = .ok (.invokestatic 67, 3) := by decide +kernel
theorem dX0_width_13 : decode cX0_width 13 = .ok (.ireturn, 1) := by decide +kernel
set_option maxRecDepth 20000 in
theorem ggX0_space_X0_requireGlyph : GoodIn wsX0_space wsX0_requireGlyph := goodIn_ca (goodIn_r _ [7, 8, 9] (by decide +kernel) (by decide +kernel)) (goodIn_sub (fun _ h => List.mem_cons_of_mem _ (List.mem_append_right _ h)) (by decide +kernel))
set_option maxRecDepth 20000 in
theorem gX0_space_X0_requireGlyph : GoodIn wsX0_space (va_wsS RX0 48 yX0_requireGlyph wsX0_requireGlyph) := goodIn_app (goodIn_of _ (by decide +kernel)) ggX0_space_X0_requireGlyph
set_option maxRecDepth 20000 in
theorem ggX0_space_X0_pairOf : GoodIn wsX0_space wsX0_pairOf := goodIn_r _ [12] (by decide +kernel) (by decide +kernel)
set_option maxRecDepth 20000 in
theorem gX0_space_X0_pairOf : GoodIn wsX0_space (va_wsS RX0 78 yX0_pairOf wsX0_pairOf) := goodIn_app (goodIn_of _ (by decide +kernel)) ggX0_space_X0_pairOf
theorem dX0_space_0 : decode cX0_space 0 = .ok (.iload_n 1, 1) := by decide +kernel
theorem dX0_space_1 : decode cX0_space 1 = .ok (.invokestatic 48, 3) := by decide +kernel
theorem dX0_space_4 : decode cX0_space 4 = .ok (.iload_n 2, 1) := by decide +kernel
theorem dX0_space_5 : decode cX0_space 5 = .ok (.invokestatic 48, 3) := by decide +kernel
theorem dX0_space_8 : decode cX0_space 8 = .ok (.iload_n 3, 1) := by decide +kernel
theorem dX0_space_9 : decode cX0_space 9 = .ok (.iconst (-1), 1) := by decide +kernel
theorem dX0_space_10 : decode cX0_space 10 = .ok (.if_icmp .lt 8, 3) := by decide +kernel
theorem dX0_space_13 : decode cX0_space 13 = .ok (.iload_n 3, 1) := by decide +kernel
theorem dX0_space_14 : decode cX0_space 14 = .ok (.iconst 3, 1) := by decide +kernel
theorem dX0_space_15 : decode cX0_space 15 = .ok (.if_icmp .le 13, 3) := by decide +kernel
theorem dX0_space_18 : decode cX0_space 18 = .ok (.new 71, 3) := by decide +kernel
theorem dX0_space_21 : decode cX0_space 21 = .ok (.dup, 1) := by decide +kernel
theorem dX0_space_22 : decode cX0_space 22 = .ok (.ldc 73, 2) := by decide +kernel
theorem dX0_space_24 : decode cX0_space 24 = .ok (.invokespecial 75, 3) := by decide +kernel
theorem dX0_space_27 : decode cX0_space 27 = .ok (.athrow, 1) := by decide +kernel
theorem dX0_space_28 : decode cX0_space 28 = .ok (.iload_n 1, 1) := by decide +kernel
theorem dX0_space_29 : decode cX0_space 29 = .ok (.iload_n 2, 1) := by decide +kernel
theorem dX0_space_30 : decode cX0_space 30 = .ok (.invokestatic 78, 3) := by decide +kernel
theorem dX0_space_33 : decode cX0_space 33 = .ok (.istore 4, 2) := by decide +kernel
theorem dX0_space_35 : decode cX0_space 35 = .ok (.aload_n 0, 1) := by decide +kernel
theorem dX0_space_36 : decode cX0_space 36 = .ok (.getfield 13, 3) := by decide +kernel
theorem dX0_space_39 : decode cX0_space 39 = .ok (.iload 4, 2) := by decide +kernel
theorem dX0_space_41 : decode cX0_space 41 = .ok (.iaload, 1) := by decide +kernel
theorem dX0_space_42 : decode cX0_space 42 = .ok (.istore 5, 2) := by decide +kernel
theorem dX0_space_44 : decode cX0_space 44 = .ok (.aload_n 0, 1) := by decide +kernel
theorem dX0_space_45 : decode cX0_space 45 = .ok (.getfield 13, 3) := by decide +kernel
theorem dX0_space_48 : decode cX0_space 48 = .ok (.iload 4, 2) := by decide +kernel
theorem dX0_space_50 : decode cX0_space 50 = .ok (.iload_n 3, 1) := by decide +kernel
theorem dX0_space_51 : decode cX0_space 51 = .ok (.iastore, 1) := by decide +kernel
theorem dX0_space_52 : decode cX0_space 52 = .ok (.iload 5, 2) := by decide +kernel
theorem dX0_space_54 : decode cX0_space 54 = .ok (.ireturn, 1) := by decide +kernel
set_option maxRecDepth 20000 in
theorem ggX0_lead_X0_requireExit : GoodIn wsX0_lead wsX0_requireExit := goodIn_ca (goodIn_r _ [5, 6, 7, 8, 9, 4, 10] (by decide +kernel) (by decide +kernel)) (goodIn_sub (fun _ h => List.mem_cons_of_mem _ (List.mem_append_right _ h)) (by decide +kernel))
set_option maxRecDepth 20000 in
theorem gX0_lead_X0_requireExit : GoodIn wsX0_lead (va_wsS RX0 81 yX0_requireExit wsX0_requireExit) := goodIn_app (goodIn_of _ (by decide +kernel)) ggX0_lead_X0_requireExit
set_option maxRecDepth 20000 in
theorem ggX0_lead_X0_requirePlace : GoodIn wsX0_lead wsX0_requirePlace := goodIn_ca (goodIn_r _ [10, 6, 7] (by decide +kernel) (by decide +kernel)) (goodIn_sub (fun _ h => List.mem_cons_of_mem _ (List.mem_append_right _ h)) (by decide +kernel))
set_option maxRecDepth 20000 in
theorem gX0_lead_X0_requirePlace : GoodIn wsX0_lead (va_wsS RX0 85 yX0_requirePlace wsX0_requirePlace) := goodIn_app (goodIn_of _ (by decide +kernel)) ggX0_lead_X0_requirePlace
set_option maxRecDepth 20000 in
theorem ggX0_lead_X0_wayOf : GoodIn wsX0_lead wsX0_wayOf := goodIn_r _ [13] (by decide +kernel) (by decide +kernel)
set_option maxRecDepth 20000 in
theorem gX0_lead_X0_wayOf : GoodIn wsX0_lead (va_wsS RX0 88 yX0_wayOf wsX0_wayOf) := goodIn_app (goodIn_of _ (by decide +kernel)) ggX0_lead_X0_wayOf
set_option maxRecDepth 20000 in
theorem ggX0_lead_X0_forgetWalks : GoodIn wsX0_lead wsX0_forgetWalks := goodIn_r _ [17, 18, 19, 20, 21, 22, 23, 24, 25, 26, 27, 28] (by decide +kernel) (by decide +kernel)
set_option maxRecDepth 20000 in
theorem gX0_lead_X0_forgetWalks : GoodIn wsX0_lead (wsV RX0 60 RX0 yX0_forgetWalks wsX0_forgetWalks) := goodIn_app (goodIn_of _ (by decide +kernel)) ggX0_lead_X0_forgetWalks
theorem dX0_lead_0 : decode cX0_lead 0 = .ok (.iload_n 1, 1) := by decide +kernel
theorem dX0_lead_1 : decode cX0_lead 1 = .ok (.iload_n 2, 1) := by decide +kernel
theorem dX0_lead_2 : decode cX0_lead 2 = .ok (.invokestatic 81, 3) := by decide +kernel
theorem dX0_lead_5 : decode cX0_lead 5 = .ok (.iload_n 3, 1) := by decide +kernel
theorem dX0_lead_6 : decode cX0_lead 6 = .ok (.iconst (-1), 1) := by decide +kernel
theorem dX0_lead_7 : decode cX0_lead 7 = .ok (.if_icmp .eq 7, 3) := by decide +kernel
theorem dX0_lead_10 : decode cX0_lead 10 = .ok (.iload_n 3, 1) := by decide +kernel
theorem dX0_lead_11 : decode cX0_lead 11 = .ok (.invokestatic 85, 3) := by decide +kernel
theorem dX0_lead_14 : decode cX0_lead 14 = .ok (.iload_n 1, 1) := by decide +kernel
theorem dX0_lead_15 : decode cX0_lead 15 = .ok (.iload_n 2, 1) := by decide +kernel
theorem dX0_lead_16 : decode cX0_lead 16 = .ok (.invokestatic 88, 3) := by decide +kernel
theorem dX0_lead_19 : decode cX0_lead 19 = .ok (.istore 4, 2) := by decide +kernel
theorem dX0_lead_21 : decode cX0_lead 21 = .ok (.aload_n 0, 1) := by decide +kernel
theorem dX0_lead_22 : decode cX0_lead 22 = .ok (.getfield 16, 3) := by decide +kernel
theorem dX0_lead_25 : decode cX0_lead 25 = .ok (.iload 4, 2) := by decide +kernel
theorem dX0_lead_27 : decode cX0_lead 27 = .ok (.iaload, 1) := by decide +kernel
theorem dX0_lead_28 : decode cX0_lead 28 = .ok (.istore 5, 2) := by decide +kernel
theorem dX0_lead_30 : decode cX0_lead 30 = .ok (.aload_n 0, 1) := by decide +kernel
theorem dX0_lead_31 : decode cX0_lead 31 = .ok (.getfield 16, 3) := by decide +kernel
theorem dX0_lead_34 : decode cX0_lead 34 = .ok (.iload 4, 2) := by decide +kernel
theorem dX0_lead_36 : decode cX0_lead 36 = .ok (.iload_n 3, 1) := by decide +kernel
theorem dX0_lead_37 : decode cX0_lead 37 = .ok (.iastore, 1) := by decide +kernel
theorem dX0_lead_38 : decode cX0_lead 38 = .ok (.aload_n 0, 1) := by decide +kernel
theorem dX0_lead_39 : decode cX0_lead 39 = .ok (.invokevirtual 60, 3) := by decide +kernel
theorem dX0_lead_42 : decode cX0_lead 42 = .ok (.iload 5, 2) := by decide +kernel
theorem dX0_lead_44 : decode cX0_lead 44 = .ok (.ireturn, 1) := by decide +kernel
set_option maxRecDepth 20000 in
theorem ggX0_name_X0_requirePlace : GoodIn wsX0_name wsX0_requirePlace := goodIn_ca (goodIn_r _ [5, 6, 7] (by decide +kernel) (by decide +kernel)) (goodIn_sub (fun _ h => List.mem_cons_of_mem _ (List.mem_append_left _ (List.mem_append_right _ h))) (by decide +kernel))
set_option maxRecDepth 20000 in
theorem gX0_name_X0_requirePlace : GoodIn wsX0_name (va_wsS RX0 85 yX0_requirePlace wsX0_requirePlace) := goodIn_app (goodIn_of _ (by decide +kernel)) ggX0_name_X0_requirePlace
set_option maxRecDepth 20000 in
theorem ggX0_name_X0_requireText : GoodIn wsX0_name wsX0_requireText := goodIn_ca (goodIn_r _ [10, 11, 12] (by decide +kernel) (by decide +kernel)) (goodIn_sub (fun _ h => List.mem_cons_of_mem _ (List.mem_append_right _ h)) (by decide +kernel))
set_option maxRecDepth 20000 in
theorem gX0_name_X0_requireText : GoodIn wsX0_name (va_wsS RX0 91 yX0_requireText wsX0_requireText) := goodIn_app (goodIn_of _ (by decide +kernel)) ggX0_name_X0_requireText
set_option maxRecDepth 20000 in
theorem ggX0_name_X0_pack : GoodIn wsX0_name wsX0_pack := goodIn_r _ [15] (by decide +kernel) (by decide +kernel)
set_option maxRecDepth 20000 in
theorem gX0_name_X0_pack : GoodIn wsX0_name (va_wsS RX0 94 yX0_pack wsX0_pack) := goodIn_app (goodIn_of _ (by decide +kernel)) ggX0_name_X0_pack
set_option maxRecDepth 20000 in
theorem ggX0_name_X0_forgetWalks : GoodIn wsX0_name wsX0_forgetWalks := goodIn_r _ [19, 20, 21, 22, 23, 24, 25, 26, 27, 28, 29, 30] (by decide +kernel) (by decide +kernel)
set_option maxRecDepth 20000 in
theorem gX0_name_X0_forgetWalks : GoodIn wsX0_name (wsV RX0 60 RX0 yX0_forgetWalks wsX0_forgetWalks) := goodIn_app (goodIn_of _ (by decide +kernel)) ggX0_name_X0_forgetWalks
theorem dX0_name_0 : decode cX0_name 0 = .ok (.iload_n 1, 1) := by decide +kernel
theorem dX0_name_1 : decode cX0_name 1 = .ok (.invokestatic 85, 3) := by decide +kernel
theorem dX0_name_4 : decode cX0_name 4 = .ok (.iload_n 2, 1) := by decide +kernel
theorem dX0_name_5 : decode cX0_name 5 = .ok (.iload_n 3, 1) := by decide +kernel
theorem dX0_name_6 : decode cX0_name 6 = .ok (.invokestatic 91, 3) := by decide +kernel
theorem dX0_name_9 : decode cX0_name 9 = .ok (.aload_n 0, 1) := by decide +kernel
theorem dX0_name_10 : decode cX0_name 10 = .ok (.getfield 19, 3) := by decide +kernel
theorem dX0_name_13 : decode cX0_name 13 = .ok (.iload_n 1, 1) := by decide +kernel
theorem dX0_name_14 : decode cX0_name 14 = .ok (.iload_n 2, 1) := by decide +kernel
theorem dX0_name_15 : decode cX0_name 15 = .ok (.iload_n 3, 1) := by decide +kernel
theorem dX0_name_16 : decode cX0_name 16 = .ok (.invokestatic 94, 3) := by decide +kernel
theorem dX0_name_19 : decode cX0_name 19 = .ok (.iastore, 1) := by decide +kernel
theorem dX0_name_20 : decode cX0_name 20 = .ok (.aload_n 0, 1) := by decide +kernel
theorem dX0_name_21 : decode cX0_name 21 = .ok (.invokevirtual 60, 3) := by decide +kernel
theorem dX0_name_24 : decode cX0_name 24 = .ok (.return_, 1) := by decide +kernel
set_option maxRecDepth 20000 in
theorem ggX0_textWidth_X0_requireText : GoodIn wsX0_textWidth wsX0_requireText := goodIn_ca (goodIn_r _ [4, 5, 6] (by decide +kernel) (by decide +kernel)) (goodIn_sub (fun _ h => List.mem_cons_of_mem _ (List.mem_append_right _ h)) (by decide +kernel))
set_option maxRecDepth 20000 in
theorem gX0_textWidth_X0_requireText : GoodIn wsX0_textWidth (va_wsS RX0 91 yX0_requireText wsX0_requireText) := goodIn_app (goodIn_of _ (by decide +kernel)) ggX0_textWidth_X0_requireText
set_option maxRecDepth 20000 in
theorem ggX0_textWidth_X0_pack : GoodIn wsX0_textWidth wsX0_pack := goodIn_r _ [9] (by decide +kernel) (by decide +kernel)
set_option maxRecDepth 20000 in
theorem gX0_textWidth_X0_pack : GoodIn wsX0_textWidth (va_wsS RX0 94 yX0_pack wsX0_pack) := goodIn_app (goodIn_of _ (by decide +kernel)) ggX0_textWidth_X0_pack
set_option maxRecDepth 20000 in
theorem ggX0_textWidth_X0_packedWidth : GoodIn wsX0_textWidth wsX0_packedWidth := goodIn_r _ [13, 14, 15, 16, 17, 3, 18, 19, 20, 21, 22, 23, 24, 25, 26, 27, 28, 29, 30, 31, 32, 33, 34, 35, 36, 37, 38, 39, 40, 41, 42, 43, 44, 45, 46, 47, 48, 49, 50, 51, 52, 53] (by decide +kernel) (by decide +kernel)
set_option maxRecDepth 20000 in
theorem gX0_textWidth_X0_packedWidth : GoodIn wsX0_textWidth (wsV RX0 97 RX0 yX0_packedWidth wsX0_packedWidth) := goodIn_app (goodIn_of _ (by decide +kernel)) ggX0_textWidth_X0_packedWidth
theorem dX0_textWidth_0 : decode cX0_textWidth 0 = .ok (.iload_n 1, 1) := by decide +kernel
theorem dX0_textWidth_1 : decode cX0_textWidth 1 = .ok (.iload_n 2, 1) := by decide +kernel
theorem dX0_textWidth_2 : decode cX0_textWidth 2 = .ok (.invokestatic 91, 3) := by decide +kernel
theorem dX0_textWidth_5 : decode cX0_textWidth 5 = .ok (.aload_n 0, 1) := by decide +kernel
theorem dX0_textWidth_6 : decode cX0_textWidth 6 = .ok (.iload_n 1, 1) := by decide +kernel
theorem dX0_textWidth_7 : decode cX0_textWidth 7 = .ok (.iload_n 2, 1) := by decide +kernel
theorem dX0_textWidth_8 : decode cX0_textWidth 8 = .ok (.invokestatic 94, 3) := by decide +kernel
theorem dX0_textWidth_11 : decode cX0_textWidth 11 = .ok (.invokevirtual 97, 3) := by decide +kernel
theorem dX0_textWidth_14 : decode cX0_textWidth 14 = .ok (.ireturn, 1) := by decide +kernel
set_option maxRecDepth 20000 in
theorem ggX0_cut_X0_requireExit : GoodIn wsX0_cut wsX0_requireExit := goodIn_ca (goodIn_r _ [10, 11, 12, 13, 14, 9, 15] (by decide +kernel) (by decide +kernel)) (goodIn_sub (fun _ h => List.mem_cons_of_mem _ (List.mem_append_right _ h)) (by decide +kernel))
set_option maxRecDepth 20000 in
theorem gX0_cut_X0_requireExit : GoodIn wsX0_cut (va_wsS RX0 81 yX0_requireExit wsX0_requireExit) := goodIn_app (goodIn_of _ (by decide +kernel)) ggX0_cut_X0_requireExit
set_option maxRecDepth 20000 in
theorem ggX0_cut_X0_requireText : GoodIn wsX0_cut wsX0_requireText := goodIn_ca (goodIn_r _ [18, 1, 2] (by decide +kernel) (by decide +kernel)) (goodIn_sub (fun _ h => List.mem_cons_of_mem _ (List.mem_append_left _ (List.mem_append_left _ (List.mem_append_right _ h)))) (by decide +kernel))
set_option maxRecDepth 20000 in
theorem gX0_cut_X0_requireText : GoodIn wsX0_cut (va_wsS RX0 91 yX0_requireText wsX0_requireText) := goodIn_app (goodIn_of _ (by decide +kernel)) ggX0_cut_X0_requireText
set_option maxRecDepth 20000 in
theorem ggX0_cut_X0_pack : GoodIn wsX0_cut wsX0_pack := goodIn_r _ [21] (by decide +kernel) (by decide +kernel)
set_option maxRecDepth 20000 in
theorem gX0_cut_X0_pack : GoodIn wsX0_cut (va_wsS RX0 94 yX0_pack wsX0_pack) := goodIn_app (goodIn_of _ (by decide +kernel)) ggX0_cut_X0_pack
set_option maxRecDepth 20000 in
theorem ggX0_cut_X0_plateFor : GoodIn wsX0_cut wsX0_plateFor := goodIn_r _ [25, 26, 27, 28, 9, 29, 30, 31, 32, 33, 34, 35, 36, 37, 38, 39, 40, 41, 42, 43, 44, 45, 46, 47, 48, 49, 50, 51, 52, 53, 54, 55, 56, 57, 58, 59, 74, 75, 76, 77, 78, 79, 80, 81, 82, 83] (by decide +kernel) (by decide +kernel)
set_option maxRecDepth 20000 in
theorem gX0_cut_X0_plateFor : GoodIn wsX0_cut (wsV RX0 102 RX0 yX0_plateFor wsX0_plateFor) := goodIn_app (goodIn_of _ (by decide +kernel)) ggX0_cut_X0_plateFor
set_option maxRecDepth 20000 in
theorem ggX0_cut_X0_wayOf : GoodIn wsX0_cut wsX0_wayOf := goodIn_r _ [62] (by decide +kernel) (by decide +kernel)
set_option maxRecDepth 20000 in
theorem gX0_cut_X0_wayOf : GoodIn wsX0_cut (va_wsS RX0 88 yX0_wayOf wsX0_wayOf) := goodIn_app (goodIn_of _ (by decide +kernel)) ggX0_cut_X0_wayOf
set_option maxRecDepth 20000 in
theorem ggX0_cut_X0_engrave : GoodIn wsX0_cut wsX0_engrave := goodIn_r _ [66, 5, 67, 30, 68, 32, 33, 9, 34, 35, 36, 37, 74, 75, 76, 77, 78, 79, 80, 81, 82, 83] (by decide +kernel) (by decide +kernel)
set_option maxRecDepth 20000 in
theorem gX0_cut_X0_engrave : GoodIn wsX0_cut (wsV RX0 110 RX0 yX0_engrave wsX0_engrave) := goodIn_app (goodIn_of _ (by decide +kernel)) ggX0_cut_X0_engrave
set_option maxRecDepth 20000 in
theorem ggX0_cut_X0_forgetWalks : GoodIn wsX0_cut wsX0_forgetWalks := goodIn_r _ [72, 73, 74, 75, 76, 77, 78, 79, 80, 81, 82, 83] (by decide +kernel) (by decide +kernel)
set_option maxRecDepth 20000 in
theorem gX0_cut_X0_forgetWalks : GoodIn wsX0_cut (wsV RX0 60 RX0 yX0_forgetWalks wsX0_forgetWalks) := goodIn_app (goodIn_of _ (by decide +kernel)) ggX0_cut_X0_forgetWalks
theorem dX0_cut_0 : decode cX0_cut 0 = .ok (.iload_n 1, 1) := by decide +kernel
theorem dX0_cut_1 : decode cX0_cut 1 = .ok (.iload_n 2, 1) := by decide +kernel
theorem dX0_cut_2 : decode cX0_cut 2 = .ok (.invokestatic 81, 3) := by decide +kernel
theorem dX0_cut_5 : decode cX0_cut 5 = .ok (.iload_n 3, 1) := by decide +kernel
theorem dX0_cut_6 : decode cX0_cut 6 = .ok (.iload 4, 2) := by decide +kernel
theorem dX0_cut_8 : decode cX0_cut 8 = .ok (.invokestatic 91, 3) := by decide +kernel
theorem dX0_cut_11 : decode cX0_cut 11 = .ok (.iload 5, 2) := by decide +kernel
theorem dX0_cut_13 : decode cX0_cut 13 = .ok (.ifCond .lt 10, 3) := by decide +kernel
theorem dX0_cut_16 : decode cX0_cut 16 = .ok (.iload 5, 2) := by decide +kernel
theorem dX0_cut_18 : decode cX0_cut 18 = .ok (.bipush 9, 2) := by decide +kernel
theorem dX0_cut_20 : decode cX0_cut 20 = .ok (.if_icmp .le 13, 3) := by decide +kernel
theorem dX0_cut_23 : decode cX0_cut 23 = .ok (.new 71, 3) := by decide +kernel
theorem dX0_cut_26 : decode cX0_cut 26 = .ok (.dup, 1) := by decide +kernel
theorem dX0_cut_27 : decode cX0_cut 27 = .ok (.ldc 100, 2) := by decide +kernel
theorem dX0_cut_29 : decode cX0_cut 29 = .ok (.invokespecial 75, 3) := by decide +kernel
theorem dX0_cut_32 : decode cX0_cut 32 = .ok (.athrow, 1) := by decide +kernel
theorem dX0_cut_33 : decode cX0_cut 33 = .ok (.iload_n 3, 1) := by decide +kernel
theorem dX0_cut_34 : decode cX0_cut 34 = .ok (.iload 4, 2) := by decide +kernel
theorem dX0_cut_36 : decode cX0_cut 36 = .ok (.invokestatic 94, 3) := by decide +kernel
theorem dX0_cut_39 : decode cX0_cut 39 = .ok (.istore 6, 2) := by decide +kernel
theorem dX0_cut_41 : decode cX0_cut 41 = .ok (.aload_n 0, 1) := by decide +kernel
theorem dX0_cut_42 : decode cX0_cut 42 = .ok (.iload 6, 2) := by decide +kernel
theorem dX0_cut_44 : decode cX0_cut 44 = .ok (.invokevirtual 102, 3) := by decide +kernel
theorem dX0_cut_47 : decode cX0_cut 47 = .ok (.istore 7, 2) := by decide +kernel
theorem dX0_cut_49 : decode cX0_cut 49 = .ok (.iload 7, 2) := by decide +kernel
theorem dX0_cut_51 : decode cX0_cut 51 = .ok (.iconst (-1), 1) := by decide +kernel
theorem dX0_cut_52 : decode cX0_cut 52 = .ok (.if_icmp .ne 13, 3) := by decide +kernel
theorem dX0_cut_55 : decode cX0_cut 55 = .ok (.new 105, 3) := by decide +kernel
theorem dX0_cut_58 : decode cX0_cut 58 = .ok (.dup, 1) := by decide +kernel
theorem dX0_cut_59 : decode cX0_cut 59 = .ok (.ldc 107, 2) := by decide +kernel
theorem dX0_cut_61 : decode cX0_cut 61 = .ok (.invokespecial 109, 3) := by decide +kernel
theorem dX0_cut_64 : decode cX0_cut 64 = .ok (.athrow, 1) := by decide +kernel
theorem dX0_cut_65 : decode cX0_cut 65 = .ok (.iload_n 1, 1) := by decide +kernel
theorem dX0_cut_66 : decode cX0_cut 66 = .ok (.iload_n 2, 1) := by decide +kernel
theorem dX0_cut_67 : decode cX0_cut 67 = .ok (.invokestatic 88, 3) := by decide +kernel
theorem dX0_cut_70 : decode cX0_cut 70 = .ok (.istore 8, 2) := by decide +kernel
theorem dX0_cut_72 : decode cX0_cut 72 = .ok (.aload_n 0, 1) := by decide +kernel
theorem dX0_cut_73 : decode cX0_cut 73 = .ok (.getfield 22, 3) := by decide +kernel
theorem dX0_cut_76 : decode cX0_cut 76 = .ok (.iload 8, 2) := by decide +kernel
theorem dX0_cut_78 : decode cX0_cut 78 = .ok (.iload 6, 2) := by decide +kernel
theorem dX0_cut_80 : decode cX0_cut 80 = .ok (.iastore, 1) := by decide +kernel
theorem dX0_cut_81 : decode cX0_cut 81 = .ok (.aload_n 0, 1) := by decide +kernel
theorem dX0_cut_82 : decode cX0_cut 82 = .ok (.getfield 25, 3) := by decide +kernel
theorem dX0_cut_85 : decode cX0_cut 85 = .ok (.iload 8, 2) := by decide +kernel
theorem dX0_cut_87 : decode cX0_cut 87 = .ok (.iload 5, 2) := by decide +kernel
theorem dX0_cut_89 : decode cX0_cut 89 = .ok (.iastore, 1) := by decide +kernel
theorem dX0_cut_90 : decode cX0_cut 90 = .ok (.aload_n 0, 1) := by decide +kernel
theorem dX0_cut_91 : decode cX0_cut 91 = .ok (.iload 8, 2) := by decide +kernel
theorem dX0_cut_93 : decode cX0_cut 93 = .ok (.iload 7, 2) := by decide +kernel
theorem dX0_cut_95 : decode cX0_cut 95 = .ok (.invokevirtual 110, 3) := by decide +kernel
theorem dX0_cut_98 : decode cX0_cut 98 = .ok (.aload_n 0, 1) := by decide +kernel
theorem dX0_cut_99 : decode cX0_cut 99 = .ok (.invokevirtual 60, 3) := by decide +kernel
theorem dX0_cut_102 : decode cX0_cut 102 = .ok (.iload 7, 2) := by decide +kernel
theorem dX0_cut_104 : decode cX0_cut 104 = .ok (.ireturn, 1) := by decide +kernel
set_option maxRecDepth 20000 in
theorem ggX0_remove_X0_requireExit : GoodIn wsX0_remove wsX0_requireExit := goodIn_ca (goodIn_r _ [5, 6, 7, 8, 9, 4, 10] (by decide +kernel) (by decide +kernel)) (goodIn_sub (fun _ h => List.mem_cons_of_mem _ (List.mem_append_right _ h)) (by decide +kernel))
set_option maxRecDepth 20000 in
theorem gX0_remove_X0_requireExit : GoodIn wsX0_remove (va_wsS RX0 81 yX0_requireExit wsX0_requireExit) := goodIn_app (goodIn_of _ (by decide +kernel)) ggX0_remove_X0_requireExit
set_option maxRecDepth 20000 in
theorem ggX0_remove_X0_wayOf : GoodIn wsX0_remove wsX0_wayOf := goodIn_r _ [13] (by decide +kernel) (by decide +kernel)
set_option maxRecDepth 20000 in
theorem gX0_remove_X0_wayOf : GoodIn wsX0_remove (va_wsS RX0 88 yX0_wayOf wsX0_wayOf) := goodIn_app (goodIn_of _ (by decide +kernel)) ggX0_remove_X0_wayOf
set_option maxRecDepth 20000 in
theorem ggX0_remove_X0_forgetWalks : GoodIn wsX0_remove wsX0_forgetWalks := goodIn_r _ [17, 18, 19, 20, 21, 22, 23, 24, 25, 26, 27, 28] (by decide +kernel) (by decide +kernel)
set_option maxRecDepth 20000 in
theorem gX0_remove_X0_forgetWalks : GoodIn wsX0_remove (wsV RX0 60 RX0 yX0_forgetWalks wsX0_forgetWalks) := goodIn_app (goodIn_of _ (by decide +kernel)) ggX0_remove_X0_forgetWalks
theorem dX0_remove_0 : decode cX0_remove 0 = .ok (.iload_n 1, 1) := by decide +kernel
theorem dX0_remove_1 : decode cX0_remove 1 = .ok (.iload_n 2, 1) := by decide +kernel
theorem dX0_remove_2 : decode cX0_remove 2 = .ok (.invokestatic 81, 3) := by decide +kernel
theorem dX0_remove_5 : decode cX0_remove 5 = .ok (.iload_n 1, 1) := by decide +kernel
theorem dX0_remove_6 : decode cX0_remove 6 = .ok (.iload_n 2, 1) := by decide +kernel
theorem dX0_remove_7 : decode cX0_remove 7 = .ok (.invokestatic 88, 3) := by decide +kernel
theorem dX0_remove_10 : decode cX0_remove 10 = .ok (.istore_n 3, 1) := by decide +kernel
theorem dX0_remove_11 : decode cX0_remove 11 = .ok (.aload_n 0, 1) := by decide +kernel
theorem dX0_remove_12 : decode cX0_remove 12 = .ok (.getfield 22, 3) := by decide +kernel
theorem dX0_remove_15 : decode cX0_remove 15 = .ok (.iload_n 3, 1) := by decide +kernel
theorem dX0_remove_16 : decode cX0_remove 16 = .ok (.iaload, 1) := by decide +kernel
theorem dX0_remove_17 : decode cX0_remove 17 = .ok (.ifCond .eq 7, 3) := by decide +kernel
theorem dX0_remove_20 : decode cX0_remove 20 = .ok (.iconst 1, 1) := by decide +kernel
theorem dX0_remove_21 : decode cX0_remove 21 = .ok (.goto 4, 3) := by decide +kernel
theorem dX0_remove_24 : decode cX0_remove 24 = .ok (.iconst 0, 1) := by decide +kernel
theorem dX0_remove_25 : decode cX0_remove 25 = .ok (.istore 4, 2) := by decide +kernel
theorem dX0_remove_27 : decode cX0_remove 27 = .ok (.aload_n 0, 1) := by decide +kernel
theorem dX0_remove_28 : decode cX0_remove 28 = .ok (.getfield 22, 3) := by decide +kernel
theorem dX0_remove_31 : decode cX0_remove 31 = .ok (.iload_n 3, 1) := by decide +kernel
theorem dX0_remove_32 : decode cX0_remove 32 = .ok (.iconst 0, 1) := by decide +kernel
theorem dX0_remove_33 : decode cX0_remove 33 = .ok (.iastore, 1) := by decide +kernel
theorem dX0_remove_34 : decode cX0_remove 34 = .ok (.aload_n 0, 1) := by decide +kernel
theorem dX0_remove_35 : decode cX0_remove 35 = .ok (.invokevirtual 60, 3) := by decide +kernel
theorem dX0_remove_38 : decode cX0_remove 38 = .ok (.iload 4, 2) := by decide +kernel
theorem dX0_remove_40 : decode cX0_remove 40 = .ok (.ireturn, 1) := by decide +kernel
set_option maxRecDepth 20000 in
theorem ggX0_isOld_X0_requireExit : GoodIn wsX0_isOld wsX0_requireExit := goodIn_ca (goodIn_r _ [4, 5, 6, 7, 8, 3, 9] (by decide +kernel) (by decide +kernel)) (goodIn_sub (fun _ h => List.mem_cons_of_mem _ (List.mem_append_right _ h)) (by decide +kernel))
set_option maxRecDepth 20000 in
theorem gX0_isOld_X0_requireExit : GoodIn wsX0_isOld (va_wsS RX0 81 yX0_requireExit wsX0_requireExit) := goodIn_app (goodIn_of _ (by decide +kernel)) ggX0_isOld_X0_requireExit
set_option maxRecDepth 20000 in
theorem ggX0_isOld_X0_wayOf : GoodIn wsX0_isOld wsX0_wayOf := goodIn_r _ [12] (by decide +kernel) (by decide +kernel)
set_option maxRecDepth 20000 in
theorem gX0_isOld_X0_wayOf : GoodIn wsX0_isOld (va_wsS RX0 88 yX0_wayOf wsX0_wayOf) := goodIn_app (goodIn_of _ (by decide +kernel)) ggX0_isOld_X0_wayOf
set_option maxRecDepth 20000 in
theorem ggX0_isOld_X0_isOutdated : GoodIn wsX0_isOld wsX0_isOutdated := goodIn_r _ [16, 17, 18, 19, 20, 21, 3, 22, 23, 24, 25, 26, 27, 28, 29, 30, 31, 32, 33, 34, 35] (by decide +kernel) (by decide +kernel)
set_option maxRecDepth 20000 in
theorem gX0_isOld_X0_isOutdated : GoodIn wsX0_isOld (wsV RX0 113 RX0 yX0_isOutdated wsX0_isOutdated) := goodIn_app (goodIn_of _ (by decide +kernel)) ggX0_isOld_X0_isOutdated
theorem dX0_isOld_0 : decode cX0_isOld 0 = .ok (.iload_n 1, 1) := by decide +kernel
theorem dX0_isOld_1 : decode cX0_isOld 1 = .ok (.iload_n 2, 1) := by decide +kernel
theorem dX0_isOld_2 : decode cX0_isOld 2 = .ok (.invokestatic 81, 3) := by decide +kernel
theorem dX0_isOld_5 : decode cX0_isOld 5 = .ok (.aload_n 0, 1) := by decide +kernel
theorem dX0_isOld_6 : decode cX0_isOld 6 = .ok (.iload_n 1, 1) := by decide +kernel
theorem dX0_isOld_7 : decode cX0_isOld 7 = .ok (.iload_n 2, 1) := by decide +kernel
theorem dX0_isOld_8 : decode cX0_isOld 8 = .ok (.invokestatic 88, 3) := by decide +kernel
theorem dX0_isOld_11 : decode cX0_isOld 11 = .ok (.invokevirtual 113, 3) := by decide +kernel
theorem dX0_isOld_14 : decode cX0_isOld 14 = .ok (.ireturn, 1) := by decide +kernel
set_option maxRecDepth 20000 in
theorem ggX0_read_X0_requireExit : GoodIn wsX0_read wsX0_requireExit := goodIn_ca (goodIn_r _ [5, 6, 7, 8, 9, 4, 10] (by decide +kernel) (by decide +kernel)) (goodIn_sub (fun _ h => List.mem_cons_of_mem _ (List.mem_append_right _ h)) (by decide +kernel))
set_option maxRecDepth 20000 in
theorem gX0_read_X0_requireExit : GoodIn wsX0_read (va_wsS RX0 81 yX0_requireExit wsX0_requireExit) := goodIn_app (goodIn_of _ (by decide +kernel)) ggX0_read_X0_requireExit
set_option maxRecDepth 20000 in
theorem ggX0_read_X0_wayOf : GoodIn wsX0_read wsX0_wayOf := goodIn_r _ [13] (by decide +kernel) (by decide +kernel)
set_option maxRecDepth 20000 in
theorem gX0_read_X0_wayOf : GoodIn wsX0_read (va_wsS RX0 88 yX0_wayOf wsX0_wayOf) := goodIn_app (goodIn_of _ (by decide +kernel)) ggX0_read_X0_wayOf
set_option maxRecDepth 20000 in
theorem ggX0_read_X0_readText : GoodIn wsX0_read wsX0_readText := goodIn_r _ [17, 1, 18, 19, 20, 21, 4, 22, 23, 24, 25, 26, 27, 28, 29, 30, 31, 32, 33, 34, 35, 36, 37, 38, 39, 40, 41, 42, 43, 44, 48, 49, 50, 51, 52, 53, 54, 55, 56, 57] (by decide +kernel) (by decide +kernel)
set_option maxRecDepth 20000 in
theorem gX0_read_X0_readText : GoodIn wsX0_read (wsV RX0 120 RX0 yX0_readText wsX0_readText) := goodIn_app (goodIn_of _ (by decide +kernel)) ggX0_read_X0_readText
set_option maxRecDepth 20000 in
theorem ggX0_read_X0_numberOf : GoodIn wsX0_read wsX0_numberOf := goodIn_r _ [47] (by decide +kernel) (by decide +kernel)
set_option maxRecDepth 20000 in
theorem gX0_read_X0_numberOf : GoodIn wsX0_read (va_wsS RX0 123 yX0_numberOf wsX0_numberOf) := goodIn_app (goodIn_of _ (by decide +kernel)) ggX0_read_X0_numberOf
theorem dX0_read_0 : decode cX0_read 0 = .ok (.iload_n 1, 1) := by decide +kernel
theorem dX0_read_1 : decode cX0_read 1 = .ok (.iload_n 2, 1) := by decide +kernel
theorem dX0_read_2 : decode cX0_read 2 = .ok (.invokestatic 81, 3) := by decide +kernel
theorem dX0_read_5 : decode cX0_read 5 = .ok (.iload_n 1, 1) := by decide +kernel
theorem dX0_read_6 : decode cX0_read 6 = .ok (.iload_n 2, 1) := by decide +kernel
theorem dX0_read_7 : decode cX0_read 7 = .ok (.invokestatic 88, 3) := by decide +kernel
theorem dX0_read_10 : decode cX0_read 10 = .ok (.istore_n 3, 1) := by decide +kernel
theorem dX0_read_11 : decode cX0_read 11 = .ok (.aload_n 0, 1) := by decide +kernel
theorem dX0_read_12 : decode cX0_read 12 = .ok (.getfield 22, 3) := by decide +kernel
theorem dX0_read_15 : decode cX0_read 15 = .ok (.iload_n 3, 1) := by decide +kernel
theorem dX0_read_16 : decode cX0_read 16 = .ok (.iaload, 1) := by decide +kernel
theorem dX0_read_17 : decode cX0_read 17 = .ok (.ifCond .ne 7, 3) := by decide +kernel
theorem dX0_read_20 : decode cX0_read 20 = .ok (.iconst (-1), 1) := by decide +kernel
theorem dX0_read_21 : decode cX0_read 21 = .ok (.goto 11, 3) := by decide +kernel
theorem dX0_read_24 : decode cX0_read 24 = .ok (.aload_n 0, 1) := by decide +kernel
theorem dX0_read_25 : decode cX0_read 25 = .ok (.iload_n 3, 1) := by decide +kernel
theorem dX0_read_26 : decode cX0_read 26 = .ok (.invokevirtual 120, 3) := by decide +kernel
theorem dX0_read_29 : decode cX0_read 29 = .ok (.invokestatic 123, 3) := by decide +kernel
theorem dX0_read_32 : decode cX0_read 32 = .ok (.ireturn, 1) := by decide +kernel
theorem dX0_cost_0 : decode cX0_cost 0 = .ok (.aload_n 0, 1) := by decide +kernel
theorem dX0_cost_1 : decode cX0_cost 1 = .ok (.getfield 31, 3) := by decide +kernel
theorem dX0_cost_4 : decode cX0_cost 4 = .ok (.lreturn, 1) := by decide +kernel
set_option maxRecDepth 20000 in
theorem ggX0_walk_X0_requirePlace : GoodIn wsX0_walk wsX0_requirePlace := goodIn_ca (goodIn_r _ [6, 7, 8] (by decide +kernel) (by decide +kernel)) (goodIn_sub (fun _ h => List.mem_cons_of_mem _ (List.mem_append_left _ (List.mem_append_right _ h))) (by decide +kernel))
set_option maxRecDepth 20000 in
theorem gX0_walk_X0_requirePlace : GoodIn wsX0_walk (va_wsS RX0 85 yX0_requirePlace wsX0_requirePlace) := goodIn_app (goodIn_of _ (by decide +kernel)) ggX0_walk_X0_requirePlace
set_option maxRecDepth 20000 in
theorem ggX0_walk_X0_requireText : GoodIn wsX0_walk wsX0_requireText := goodIn_ca (goodIn_r _ [11, 12, 13] (by decide +kernel) (by decide +kernel)) (goodIn_sub (fun _ h => List.mem_cons_of_mem _ (List.mem_append_right _ h)) (by decide +kernel))
set_option maxRecDepth 20000 in
theorem gX0_walk_X0_requireText : GoodIn wsX0_walk (va_wsS RX0 91 yX0_requireText wsX0_requireText) := goodIn_app (goodIn_of _ (by decide +kernel)) ggX0_walk_X0_requireText
set_option maxRecDepth 20000 in
theorem ggX0_walk_X0_pack : GoodIn wsX0_walk wsX0_pack := goodIn_r _ [16] (by decide +kernel) (by decide +kernel)
set_option maxRecDepth 20000 in
theorem gX0_walk_X0_pack : GoodIn wsX0_walk (va_wsS RX0 94 yX0_pack wsX0_pack) := goodIn_app (goodIn_of _ (by decide +kernel)) ggX0_walk_X0_pack
set_option maxRecDepth 20000 in
theorem ggX0_walk_J7_fill_53178 : GoodIn wsX0_walk wsJ7_fill_53178 := goodIn_r _ [20] (by decide +kernel) (by decide +kernel)
set_option maxRecDepth 20000 in
theorem gX0_walk_J7_fill_53178 : GoodIn wsX0_walk (va_wsS RX0 42 yJ7_fill_53178 wsJ7_fill_53178) := goodIn_app (goodIn_of _ (by decide +kernel)) ggX0_walk_J7_fill_53178
set_option maxRecDepth 20000 in
theorem ggX0_walk_X0_stepsToArrive : GoodIn wsX0_walk wsX0_stepsToArrive := goodIn_r _ [24, 25, 26, 27, 28, 29, 5, 30, 31, 32, 33, 34, 35, 36, 37, 38, 39, 40, 41, 42, 43, 44, 45, 46, 47, 48, 49, 50, 51, 52, 53, 54, 55, 56, 57, 58, 59, 60, 61, 62, 14, 15, 16, 63, 64, 65, 66, 67, 68, 69, 70, 71, 72] (by decide +kernel) (by decide +kernel)
set_option maxRecDepth 20000 in
theorem gX0_walk_X0_stepsToArrive : GoodIn wsX0_walk (wsV RX0 126 RX0 yX0_stepsToArrive wsX0_stepsToArrive) := goodIn_app (goodIn_of _ (by decide +kernel)) ggX0_walk_X0_stepsToArrive
theorem dX0_walk_0 : decode cX0_walk 0 = .ok (.iload_n 1, 1) := by decide +kernel
theorem dX0_walk_1 : decode cX0_walk 1 = .ok (.invokestatic 85, 3) := by decide +kernel
theorem dX0_walk_4 : decode cX0_walk 4 = .ok (.iload_n 2, 1) := by decide +kernel
theorem dX0_walk_5 : decode cX0_walk 5 = .ok (.iload_n 3, 1) := by decide +kernel
theorem dX0_walk_6 : decode cX0_walk 6 = .ok (.invokestatic 91, 3) := by decide +kernel
theorem dX0_walk_9 : decode cX0_walk 9 = .ok (.iload_n 2, 1) := by decide +kernel
theorem dX0_walk_10 : decode cX0_walk 10 = .ok (.iload_n 3, 1) := by decide +kernel
theorem dX0_walk_11 : decode cX0_walk 11 = .ok (.invokestatic 94, 3) := by decide +kernel
theorem dX0_walk_14 : decode cX0_walk 14 = .ok (.istore 4, 2) := by decide +kernel
theorem dX0_walk_16 : decode cX0_walk 16 = .ok (.iload 4, 2) := by decide +kernel
theorem dX0_walk_18 : decode cX0_walk 18 = .ok (.aload_n 0, 1) := by decide +kernel
theorem dX0_walk_19 : decode cX0_walk 19 = .ok (.getfield 35, 3) := by decide +kernel
theorem dX0_walk_22 : decode cX0_walk 22 = .ok (.if_icmp .eq 18, 3) := by decide +kernel
theorem dX0_walk_25 : decode cX0_walk 25 = .ok (.aload_n 0, 1) := by decide +kernel
theorem dX0_walk_26 : decode cX0_walk 26 = .ok (.iload 4, 2) := by decide +kernel
theorem dX0_walk_28 : decode cX0_walk 28 = .ok (.putfield 35, 3) := by decide +kernel
theorem dX0_walk_31 : decode cX0_walk 31 = .ok (.aload_n 0, 1) := by decide +kernel
theorem dX0_walk_32 : decode cX0_walk 32 = .ok (.getfield 39, 3) := by decide +kernel
theorem dX0_walk_35 : decode cX0_walk 35 = .ok (.bipush (-2), 2) := by decide +kernel
theorem dX0_walk_37 : decode cX0_walk 37 = .ok (.invokestatic 42, 3) := by decide +kernel
theorem dX0_walk_40 : decode cX0_walk 40 = .ok (.aload_n 0, 1) := by decide +kernel
theorem dX0_walk_41 : decode cX0_walk 41 = .ok (.getfield 39, 3) := by decide +kernel
theorem dX0_walk_44 : decode cX0_walk 44 = .ok (.iload_n 1, 1) := by decide +kernel
theorem dX0_walk_45 : decode cX0_walk 45 = .ok (.iaload, 1) := by decide +kernel
theorem dX0_walk_46 : decode cX0_walk 46 = .ok (.bipush (-2), 2) := by decide +kernel
theorem dX0_walk_48 : decode cX0_walk 48 = .ok (.if_icmp .ne 16, 3) := by decide +kernel
theorem dX0_walk_51 : decode cX0_walk 51 = .ok (.aload_n 0, 1) := by decide +kernel
theorem dX0_walk_52 : decode cX0_walk 52 = .ok (.getfield 39, 3) := by decide +kernel
theorem dX0_walk_55 : decode cX0_walk 55 = .ok (.iload_n 1, 1) := by decide +kernel
theorem dX0_walk_56 : decode cX0_walk 56 = .ok (.aload_n 0, 1) := by decide +kernel
theorem dX0_walk_57 : decode cX0_walk 57 = .ok (.iload_n 1, 1) := by decide +kernel
theorem dX0_walk_58 : decode cX0_walk 58 = .ok (.iload 4, 2) := by decide +kernel
theorem dX0_walk_60 : decode cX0_walk 60 = .ok (.invokevirtual 126, 3) := by decide +kernel
theorem dX0_walk_63 : decode cX0_walk 63 = .ok (.iastore, 1) := by decide +kernel
theorem dX0_walk_64 : decode cX0_walk 64 = .ok (.aload_n 0, 1) := by decide +kernel
theorem dX0_walk_65 : decode cX0_walk 65 = .ok (.getfield 39, 3) := by decide +kernel
theorem dX0_walk_68 : decode cX0_walk 68 = .ok (.iload_n 1, 1) := by decide +kernel
theorem dX0_walk_69 : decode cX0_walk 69 = .ok (.iaload, 1) := by decide +kernel
theorem dX0_walk_70 : decode cX0_walk 70 = .ok (.ireturn, 1) := by decide +kernel
set_option maxRecDepth 20000 in
theorem ggX0_walkBySteps_X0_requirePlace : GoodIn wsX0_walkBySteps wsX0_requirePlace := goodIn_ca (goodIn_r _ [4, 5, 6] (by decide +kernel) (by decide +kernel)) (goodIn_sub (fun _ h => List.mem_cons_of_mem _ (List.mem_append_left _ (List.mem_append_right _ h))) (by decide +kernel))
set_option maxRecDepth 20000 in
theorem gX0_walkBySteps_X0_requirePlace : GoodIn wsX0_walkBySteps (va_wsS RX0 85 yX0_requirePlace wsX0_requirePlace) := goodIn_app (goodIn_of _ (by decide +kernel)) ggX0_walkBySteps_X0_requirePlace
set_option maxRecDepth 20000 in
theorem ggX0_walkBySteps_X0_requireText : GoodIn wsX0_walkBySteps wsX0_requireText := goodIn_ca (goodIn_r _ [9, 10, 11] (by decide +kernel) (by decide +kernel)) (goodIn_sub (fun _ h => List.mem_cons_of_mem _ (List.mem_append_right _ h)) (by decide +kernel))
set_option maxRecDepth 20000 in
theorem gX0_walkBySteps_X0_requireText : GoodIn wsX0_walkBySteps (va_wsS RX0 91 yX0_requireText wsX0_requireText) := goodIn_app (goodIn_of _ (by decide +kernel)) ggX0_walkBySteps_X0_requireText
set_option maxRecDepth 20000 in
theorem ggX0_walkBySteps_X0_pack : GoodIn wsX0_walkBySteps wsX0_pack := goodIn_r _ [14] (by decide +kernel) (by decide +kernel)
set_option maxRecDepth 20000 in
theorem gX0_walkBySteps_X0_pack : GoodIn wsX0_walkBySteps (va_wsS RX0 94 yX0_pack wsX0_pack) := goodIn_app (goodIn_of _ (by decide +kernel)) ggX0_walkBySteps_X0_pack
set_option maxRecDepth 20000 in
theorem ggX0_walkBySteps_X0_stepsToArrive : GoodIn wsX0_walkBySteps wsX0_stepsToArrive := goodIn_r _ [18, 19, 20, 21, 22, 23, 3, 24, 25, 26, 27, 28, 29, 30, 31, 32, 33, 34, 35, 36, 37, 38, 39, 40, 41, 42, 43, 44, 45, 46, 47, 48, 49, 50, 51, 52, 53, 54, 55, 56, 12, 13, 14, 57, 58, 59, 60, 61, 62, 63, 64, 65, 66] (by decide +kernel) (by decide +kernel)
set_option maxRecDepth 20000 in
theorem gX0_walkBySteps_X0_stepsToArrive : GoodIn wsX0_walkBySteps (wsV RX0 126 RX0 yX0_stepsToArrive wsX0_stepsToArrive) := goodIn_app (goodIn_of _ (by decide +kernel)) ggX0_walkBySteps_X0_stepsToArrive
theorem dX0_walkBySteps_0 : decode cX0_walkBySteps 0 = .ok (.iload_n 1, 1) := by decide +kernel
theorem dX0_walkBySteps_1 : decode cX0_walkBySteps 1 = .ok (.invokestatic 85, 3) := by decide +kernel
theorem dX0_walkBySteps_4 : decode cX0_walkBySteps 4 = .ok (.iload_n 2, 1) := by decide +kernel
theorem dX0_walkBySteps_5 : decode cX0_walkBySteps 5 = .ok (.iload_n 3, 1) := by decide +kernel
theorem dX0_walkBySteps_6 : decode cX0_walkBySteps 6 = .ok (.invokestatic 91, 3) := by decide +kernel
theorem dX0_walkBySteps_9 : decode cX0_walkBySteps 9 = .ok (.aload_n 0, 1) := by decide +kernel
theorem dX0_walkBySteps_10 : decode cX0_walkBySteps 10 = .ok (.iload_n 1, 1) := by decide +kernel
theorem dX0_walkBySteps_11 : decode cX0_walkBySteps 11 = .ok (.iload_n 2, 1) := by decide +kernel
theorem dX0_walkBySteps_12 : decode cX0_walkBySteps 12 = .ok (.iload_n 3, 1) := by decide +kernel
theorem dX0_walkBySteps_13 : decode cX0_walkBySteps 13 = .ok (.invokestatic 94, 3) := by decide +kernel
theorem dX0_walkBySteps_16 : decode cX0_walkBySteps 16 = .ok (.invokevirtual 126, 3) := by decide +kernel
theorem dX0_walkBySteps_19 : decode cX0_walkBySteps 19 = .ok (.ireturn, 1) := by decide +kernel
set_option maxRecDepth 20000 in
theorem ggX0_placeBehind_X0_requirePlace : GoodIn wsX0_placeBehind wsX0_requirePlace := goodIn_ca (goodIn_r _ [6, 7, 8] (by decide +kernel) (by decide +kernel)) (goodIn_sub (fun _ h => List.mem_cons_of_mem _ (List.mem_append_right _ h)) (by decide +kernel))
set_option maxRecDepth 20000 in
theorem gX0_placeBehind_X0_requirePlace : GoodIn wsX0_placeBehind (va_wsS RX0 85 yX0_requirePlace wsX0_requirePlace) := goodIn_app (goodIn_of _ (by decide +kernel)) ggX0_placeBehind_X0_requirePlace
set_option maxRecDepth 20000 in
theorem ggX0_placeBehind_X0_requireText : GoodIn wsX0_placeBehind wsX0_requireText := goodIn_ca (goodIn_r _ [11, 1, 2] (by decide +kernel) (by decide +kernel)) (goodIn_sub (fun _ h => List.mem_cons_of_mem _ (List.mem_append_left _ (List.mem_append_right _ h))) (by decide +kernel))
set_option maxRecDepth 20000 in
theorem gX0_placeBehind_X0_requireText : GoodIn wsX0_placeBehind (va_wsS RX0 91 yX0_requireText wsX0_requireText) := goodIn_app (goodIn_of _ (by decide +kernel)) ggX0_placeBehind_X0_requireText
set_option maxRecDepth 20000 in
theorem ggX0_placeBehind_X0_pack : GoodIn wsX0_placeBehind wsX0_pack := goodIn_r _ [14] (by decide +kernel) (by decide +kernel)
set_option maxRecDepth 20000 in
theorem gX0_placeBehind_X0_pack : GoodIn wsX0_placeBehind (va_wsS RX0 94 yX0_pack wsX0_pack) := goodIn_app (goodIn_of _ (by decide +kernel)) ggX0_placeBehind_X0_pack
set_option maxRecDepth 20000 in
theorem ggX0_placeBehind_X0_placeReached : GoodIn wsX0_placeBehind wsX0_placeReached := goodIn_r _ [18, 19, 20, 21, 22, 23, 5, 24, 25, 26, 27, 28, 29, 30, 31, 32, 33, 34, 35, 36, 37, 38, 39, 40, 41, 42, 43, 44, 45, 46, 47, 48, 49, 50, 51, 52, 53, 54, 55, 56, 12, 13, 14, 57, 58, 59, 60, 61, 62, 63, 64, 65, 66] (by decide +kernel) (by decide +kernel)
set_option maxRecDepth 20000 in
theorem gX0_placeBehind_X0_placeReached : GoodIn wsX0_placeBehind (wsV RX0 131 RX0 yX0_placeReached wsX0_placeReached) := goodIn_app (goodIn_of _ (by decide +kernel)) ggX0_placeBehind_X0_placeReached
theorem dX0_placeBehind_0 : decode cX0_placeBehind 0 = .ok (.iload_n 1, 1) := by decide +kernel
theorem dX0_placeBehind_1 : decode cX0_placeBehind 1 = .ok (.invokestatic 85, 3) := by decide +kernel
theorem dX0_placeBehind_4 : decode cX0_placeBehind 4 = .ok (.iload_n 2, 1) := by decide +kernel
theorem dX0_placeBehind_5 : decode cX0_placeBehind 5 = .ok (.iload_n 3, 1) := by decide +kernel
theorem dX0_placeBehind_6 : decode cX0_placeBehind 6 = .ok (.invokestatic 91, 3) := by decide +kernel
theorem dX0_placeBehind_9 : decode cX0_placeBehind 9 = .ok (.iload 4, 2) := by decide +kernel
theorem dX0_placeBehind_11 : decode cX0_placeBehind 11 = .ok (.ifCond .lt 10, 3) := by decide +kernel
theorem dX0_placeBehind_14 : decode cX0_placeBehind 14 = .ok (.iload 4, 2) := by decide +kernel
theorem dX0_placeBehind_16 : decode cX0_placeBehind 16 = .ok (.bipush 30, 2) := by decide +kernel
theorem dX0_placeBehind_18 : decode cX0_placeBehind 18 = .ok (.if_icmp .le 13, 3) := by decide +kernel
theorem dX0_placeBehind_21 : decode cX0_placeBehind 21 = .ok (.new 71, 3) := by decide +kernel
theorem dX0_placeBehind_24 : decode cX0_placeBehind 24 = .ok (.dup, 1) := by decide +kernel
theorem dX0_placeBehind_25 : decode cX0_placeBehind 25 = .ok (.ldc 129, 2) := by decide +kernel
theorem dX0_placeBehind_27 : decode cX0_placeBehind 27 = .ok (.invokespecial 75, 3) := by decide +kernel
theorem dX0_placeBehind_30 : decode cX0_placeBehind 30 = .ok (.athrow, 1) := by decide +kernel
theorem dX0_placeBehind_31 : decode cX0_placeBehind 31 = .ok (.aload_n 0, 1) := by decide +kernel
theorem dX0_placeBehind_32 : decode cX0_placeBehind 32 = .ok (.iload_n 1, 1) := by decide +kernel
theorem dX0_placeBehind_33 : decode cX0_placeBehind 33 = .ok (.iload_n 2, 1) := by decide +kernel
theorem dX0_placeBehind_34 : decode cX0_placeBehind 34 = .ok (.iload_n 3, 1) := by decide +kernel
theorem dX0_placeBehind_35 : decode cX0_placeBehind 35 = .ok (.invokestatic 94, 3) := by decide +kernel
theorem dX0_placeBehind_38 : decode cX0_placeBehind 38 = .ok (.iload 4, 2) := by decide +kernel
theorem dX0_placeBehind_40 : decode cX0_placeBehind 40 = .ok (.invokevirtual 131, 3) := by decide +kernel
theorem dX0_placeBehind_43 : decode cX0_placeBehind 43 = .ok (.ireturn, 1) := by decide +kernel
theorem dX0_requireGlyph_0 : decode cX0_requireGlyph 0 = .ok (.iload_n 0, 1) := by decide +kernel
theorem dX0_requireGlyph_1 : decode cX0_requireGlyph 1 = .ok (.ifCond .lt 9, 3) := by decide +kernel
theorem dX0_requireGlyph_4 : decode cX0_requireGlyph 4 = .ok (.iload_n 0, 1) := by decide +kernel
theorem dX0_requireGlyph_5 : decode cX0_requireGlyph 5 = .ok (.bipush 8, 2) := by decide +kernel
theorem dX0_requireGlyph_7 : decode cX0_requireGlyph 7 = .ok (.if_icmp .lt 13, 3) := by decide +kernel
theorem dX0_requireGlyph_10 : decode cX0_requireGlyph 10 = .ok (.new 135, 3) := by decide +kernel
theorem dX0_requireGlyph_13 : decode cX0_requireGlyph 13 = .ok (.dup, 1) := by decide +kernel
theorem dX0_requireGlyph_14 : decode cX0_requireGlyph 14 = .ok (.ldc 137, 2) := by decide +kernel
theorem dX0_requireGlyph_16 : decode cX0_requireGlyph 16 = .ok (.invokespecial 139, 3) := by decide +kernel
theorem dX0_requireGlyph_19 : decode cX0_requireGlyph 19 = .ok (.athrow, 1) := by decide +kernel
theorem dX0_requireGlyph_20 : decode cX0_requireGlyph 20 = .ok (.return_, 1) := by decide +kernel
theorem dX0_requirePlace_0 : decode cX0_requirePlace 0 = .ok (.iload_n 0, 1) := by decide +kernel
theorem dX0_requirePlace_1 : decode cX0_requirePlace 1 = .ok (.ifCond .lt 9, 3) := by decide +kernel
theorem dX0_requirePlace_4 : decode cX0_requirePlace 4 = .ok (.iload_n 0, 1) := by decide +kernel
theorem dX0_requirePlace_5 : decode cX0_requirePlace 5 = .ok (.bipush 8, 2) := by decide +kernel
theorem dX0_requirePlace_7 : decode cX0_requirePlace 7 = .ok (.if_icmp .lt 13, 3) := by decide +kernel
theorem dX0_requirePlace_10 : decode cX0_requirePlace 10 = .ok (.new 135, 3) := by decide +kernel
theorem dX0_requirePlace_13 : decode cX0_requirePlace 13 = .ok (.dup, 1) := by decide +kernel
theorem dX0_requirePlace_14 : decode cX0_requirePlace 14 = .ok (.ldc 140, 2) := by decide +kernel
theorem dX0_requirePlace_16 : decode cX0_requirePlace 16 = .ok (.invokespecial 139, 3) := by decide +kernel
theorem dX0_requirePlace_19 : decode cX0_requirePlace 19 = .ok (.athrow, 1) := by decide +kernel
theorem dX0_requirePlace_20 : decode cX0_requirePlace 20 = .ok (.return_, 1) := by decide +kernel
set_option maxRecDepth 20000 in
theorem ggX0_requireExit_X0_requirePlace : GoodIn wsX0_requireExit wsX0_requirePlace := goodIn_ca (goodIn_r _ [6, 1, 2] (by decide +kernel) (by decide +kernel)) (goodIn_sub (fun _ h => List.mem_cons_of_mem _ (List.mem_append_right _ h)) (by decide +kernel))
set_option maxRecDepth 20000 in
theorem gX0_requireExit_X0_requirePlace : GoodIn wsX0_requireExit (va_wsS RX0 85 yX0_requirePlace wsX0_requirePlace) := goodIn_app (goodIn_of _ (by decide +kernel)) ggX0_requireExit_X0_requirePlace
theorem dX0_requireExit_0 : decode cX0_requireExit 0 = .ok (.iload_n 0, 1) := by decide +kernel
theorem dX0_requireExit_1 : decode cX0_requireExit 1 = .ok (.invokestatic 85, 3) := by decide +kernel
theorem dX0_requireExit_4 : decode cX0_requireExit 4 = .ok (.iload_n 1, 1) := by decide +kernel
theorem dX0_requireExit_5 : decode cX0_requireExit 5 = .ok (.ifCond .lt 8, 3) := by decide +kernel
theorem dX0_requireExit_8 : decode cX0_requireExit 8 = .ok (.iload_n 1, 1) := by decide +kernel
theorem dX0_requireExit_9 : decode cX0_requireExit 9 = .ok (.iconst 4, 1) := by decide +kernel
theorem dX0_requireExit_10 : decode cX0_requireExit 10 = .ok (.if_icmp .lt 13, 3) := by decide +kernel
theorem dX0_requireExit_13 : decode cX0_requireExit 13 = .ok (.new 135, 3) := by decide +kernel
theorem dX0_requireExit_16 : decode cX0_requireExit 16 = .ok (.dup, 1) := by decide +kernel
theorem dX0_requireExit_17 : decode cX0_requireExit 17 = .ok (.ldc 142, 2) := by decide +kernel
theorem dX0_requireExit_19 : decode cX0_requireExit 19 = .ok (.invokespecial 139, 3) := by decide +kernel
theorem dX0_requireExit_22 : decode cX0_requireExit 22 = .ok (.athrow, 1) := by decide +kernel
theorem dX0_requireExit_23 : decode cX0_requireExit 23 = .ok (.return_, 1) := by decide +kernel
theorem dX0_requireText_0 : decode cX0_requireText 0 = .ok (.iload_n 1, 1) := by decide +kernel
theorem dX0_requireText_1 : decode cX0_requireText 1 = .ok (.iconst 1, 1) := by decide +kernel
theorem dX0_requireText_2 : decode cX0_requireText 2 = .ok (.if_icmp .lt 8, 3) := by decide +kernel
theorem dX0_requireText_5 : decode cX0_requireText 5 = .ok (.iload_n 1, 1) := by decide +kernel
theorem dX0_requireText_6 : decode cX0_requireText 6 = .ok (.iconst 5, 1) := by decide +kernel
theorem dX0_requireText_7 : decode cX0_requireText 7 = .ok (.if_icmp .le 13, 3) := by decide +kernel
theorem dX0_requireText_10 : decode cX0_requireText 10 = .ok (.new 71, 3) := by decide +kernel
theorem dX0_requireText_13 : decode cX0_requireText 13 = .ok (.dup, 1) := by decide +kernel
theorem dX0_requireText_14 : decode cX0_requireText 14 = .ok (.ldc 144, 2) := by decide +kernel
theorem dX0_requireText_16 : decode cX0_requireText 16 = .ok (.invokespecial 75, 3) := by decide +kernel
theorem dX0_requireText_19 : decode cX0_requireText 19 = .ok (.athrow, 1) := by decide +kernel
theorem dX0_requireText_20 : decode cX0_requireText 20 = .ok (.iload_n 0, 1) := by decide +kernel
theorem dX0_requireText_21 : decode cX0_requireText 21 = .ok (.ifCond .lt 12, 3) := by decide +kernel
theorem dX0_requireText_24 : decode cX0_requireText 24 = .ok (.iload_n 0, 1) := by decide +kernel
theorem dX0_requireText_25 : decode cX0_requireText 25 = .ok (.iconst 1, 1) := by decide +kernel
theorem dX0_requireText_26 : decode cX0_requireText 26 = .ok (.iconst 3, 1) := by decide +kernel
theorem dX0_requireText_27 : decode cX0_requireText 27 = .ok (.iload_n 1, 1) := by decide +kernel
theorem dX0_requireText_28 : decode cX0_requireText 28 = .ok (.imul, 1) := by decide +kernel
theorem dX0_requireText_29 : decode cX0_requireText 29 = .ok (.ishl, 1) := by decide +kernel
theorem dX0_requireText_30 : decode cX0_requireText 30 = .ok (.if_icmp .lt 13, 3) := by decide +kernel
theorem dX0_requireText_33 : decode cX0_requireText 33 = .ok (.new 71, 3) := by decide +kernel
theorem dX0_requireText_36 : decode cX0_requireText 36 = .ok (.dup, 1) := by decide +kernel
theorem dX0_requireText_37 : decode cX0_requireText 37 = .ok (.ldc 146, 2) := by decide +kernel
theorem dX0_requireText_39 : decode cX0_requireText 39 = .ok (.invokespecial 75, 3) := by decide +kernel
theorem dX0_requireText_42 : decode cX0_requireText 42 = .ok (.athrow, 1) := by decide +kernel
theorem dX0_requireText_43 : decode cX0_requireText 43 = .ok (.return_, 1) := by decide +kernel
set_option maxRecDepth 20000 in
theorem ggX0_requireLine_X0_isCell : GoodIn wsX0_requireLine wsX0_isCell := goodIn_r _ [10] (by decide +kernel) (by decide +kernel)
set_option maxRecDepth 20000 in
theorem gX0_requireLine_X0_isCell : GoodIn wsX0_requireLine (va_wsS RX0 148 yX0_isCell wsX0_isCell) := goodIn_app (goodIn_of _ (by decide +kernel)) ggX0_requireLine_X0_isCell
theorem dX0_requireLine_0 : decode cX0_requireLine 0 = .ok (.iload_n 0, 1) := by decide +kernel
theorem dX0_requireLine_1 : decode cX0_requireLine 1 = .ok (.iload_n 1, 1) := by decide +kernel
theorem dX0_requireLine_2 : decode cX0_requireLine 2 = .ok (.invokestatic 148, 3) := by decide +kernel
theorem dX0_requireLine_5 : decode cX0_requireLine 5 = .ok (.ifCond .eq 11, 3) := by decide +kernel
theorem dX0_requireLine_8 : decode cX0_requireLine 8 = .ok (.iload_n 2, 1) := by decide +kernel
theorem dX0_requireLine_9 : decode cX0_requireLine 9 = .ok (.iload_n 3, 1) := by decide +kernel
theorem dX0_requireLine_10 : decode cX0_requireLine 10 = .ok (.invokestatic 148, 3) := by decide +kernel
theorem dX0_requireLine_13 : decode cX0_requireLine 13 = .ok (.ifCond .ne 13, 3) := by decide +kernel
theorem dX0_requireLine_16 : decode cX0_requireLine 16 = .ok (.new 71, 3) := by decide +kernel
theorem dX0_requireLine_19 : decode cX0_requireLine 19 = .ok (.dup, 1) := by decide +kernel
theorem dX0_requireLine_20 : decode cX0_requireLine 20 = .ok (.ldc 152, 2) := by decide +kernel
theorem dX0_requireLine_22 : decode cX0_requireLine 22 = .ok (.invokespecial 75, 3) := by decide +kernel
theorem dX0_requireLine_25 : decode cX0_requireLine 25 = .ok (.athrow, 1) := by decide +kernel
theorem dX0_requireLine_26 : decode cX0_requireLine 26 = .ok (.iload_n 2, 1) := by decide +kernel
theorem dX0_requireLine_27 : decode cX0_requireLine 27 = .ok (.iload_n 0, 1) := by decide +kernel
theorem dX0_requireLine_28 : decode cX0_requireLine 28 = .ok (.isub, 1) := by decide +kernel
theorem dX0_requireLine_29 : decode cX0_requireLine 29 = .ok (.invokestatic 154, 3) := by decide +kernel
theorem dX0_requireLine_32 : decode cX0_requireLine 32 = .ok (.istore 4, 2) := by decide +kernel
theorem dX0_requireLine_34 : decode cX0_requireLine 34 = .ok (.iload_n 3, 1) := by decide +kernel
theorem dX0_requireLine_35 : decode cX0_requireLine 35 = .ok (.iload_n 1, 1) := by decide +kernel
theorem dX0_requireLine_36 : decode cX0_requireLine 36 = .ok (.isub, 1) := by decide +kernel
theorem dX0_requireLine_37 : decode cX0_requireLine 37 = .ok (.invokestatic 154, 3) := by decide +kernel
theorem dX0_requireLine_40 : decode cX0_requireLine 40 = .ok (.istore 5, 2) := by decide +kernel
theorem dX0_requireLine_42 : decode cX0_requireLine 42 = .ok (.iload 4, 2) := by decide +kernel
theorem dX0_requireLine_44 : decode cX0_requireLine 44 = .ok (.ifCond .eq 25, 3) := by decide +kernel
theorem dX0_requireLine_47 : decode cX0_requireLine 47 = .ok (.iload 5, 2) := by decide +kernel
theorem dX0_requireLine_49 : decode cX0_requireLine 49 = .ok (.ifCond .eq 20, 3) := by decide +kernel
theorem dX0_requireLine_52 : decode cX0_requireLine 52 = .ok (.iload 4, 2) := by decide +kernel
theorem dX0_requireLine_54 : decode cX0_requireLine 54 = .ok (.iload 5, 2) := by decide +kernel
theorem dX0_requireLine_56 : decode cX0_requireLine 56 = .ok (.if_icmp .eq 13, 3) := by decide +kernel
theorem dX0_requireLine_59 : decode cX0_requireLine 59 = .ok (.new 71, 3) := by decide +kernel
theorem dX0_requireLine_62 : decode cX0_requireLine 62 = .ok (.dup, 1) := by decide +kernel
theorem dX0_requireLine_63 : decode cX0_requireLine 63 = .ok (.ldc 159, 2) := by decide +kernel
theorem dX0_requireLine_65 : decode cX0_requireLine 65 = .ok (.invokespecial 75, 3) := by decide +kernel
theorem dX0_requireLine_68 : decode cX0_requireLine 68 = .ok (.athrow, 1) := by decide +kernel
theorem dX0_requireLine_69 : decode cX0_requireLine 69 = .ok (.return_, 1) := by decide +kernel
theorem dX0_isCell_0 : decode cX0_isCell 0 = .ok (.iload_n 0, 1) := by decide +kernel
theorem dX0_isCell_1 : decode cX0_isCell 1 = .ok (.ifCond .lt 21, 3) := by decide +kernel
theorem dX0_isCell_4 : decode cX0_isCell 4 = .ok (.iload_n 0, 1) := by decide +kernel
theorem dX0_isCell_5 : decode cX0_isCell 5 = .ok (.iconst 5, 1) := by decide +kernel
theorem dX0_isCell_6 : decode cX0_isCell 6 = .ok (.if_icmp .ge 16, 3) := by decide +kernel
theorem dX0_isCell_9 : decode cX0_isCell 9 = .ok (.iload_n 1, 1) := by decide +kernel
theorem dX0_isCell_10 : decode cX0_isCell 10 = .ok (.ifCond .lt 12, 3) := by decide +kernel
theorem dX0_isCell_13 : decode cX0_isCell 13 = .ok (.iload_n 1, 1) := by decide +kernel
theorem dX0_isCell_14 : decode cX0_isCell 14 = .ok (.iconst 5, 1) := by decide +kernel
theorem dX0_isCell_15 : decode cX0_isCell 15 = .ok (.if_icmp .ge 7, 3) := by decide +kernel
theorem dX0_isCell_18 : decode cX0_isCell 18 = .ok (.iconst 1, 1) := by decide +kernel
theorem dX0_isCell_19 : decode cX0_isCell 19 = .ok (.goto 4, 3) := by decide +kernel
theorem dX0_isCell_22 : decode cX0_isCell 22 = .ok (.iconst 0, 1) := by decide +kernel
theorem dX0_isCell_23 : decode cX0_isCell 23 = .ok (.ireturn, 1) := by decide +kernel
set_option maxRecDepth 20000 in
theorem ggX0_lineCells_X0_direction : GoodIn wsX0_lineCells wsX0_direction := goodIn_r _ [11] (by decide +kernel) (by decide +kernel)
set_option maxRecDepth 20000 in
theorem gX0_lineCells_X0_direction : GoodIn wsX0_lineCells (va_wsS RX0 164 yX0_direction wsX0_direction) := goodIn_app (goodIn_of _ (by decide +kernel)) ggX0_lineCells_X0_direction
theorem dX0_lineCells_0 : decode cX0_lineCells 0 = .ok (.iload_n 2, 1) := by decide +kernel
theorem dX0_lineCells_1 : decode cX0_lineCells 1 = .ok (.iload_n 0, 1) := by decide +kernel
theorem dX0_lineCells_2 : decode cX0_lineCells 2 = .ok (.isub, 1) := by decide +kernel
theorem dX0_lineCells_3 : decode cX0_lineCells 3 = .ok (.invokestatic 154, 3) := by decide +kernel
theorem dX0_lineCells_6 : decode cX0_lineCells 6 = .ok (.iload_n 3, 1) := by decide +kernel
theorem dX0_lineCells_7 : decode cX0_lineCells 7 = .ok (.iload_n 1, 1) := by decide +kernel
theorem dX0_lineCells_8 : decode cX0_lineCells 8 = .ok (.isub, 1) := by decide +kernel
theorem dX0_lineCells_9 : decode cX0_lineCells 9 = .ok (.invokestatic 154, 3) := by decide +kernel
theorem dX0_lineCells_12 : decode cX0_lineCells 12 = .ok (.invokestatic 161, 3) := by decide +kernel
theorem dX0_lineCells_15 : decode cX0_lineCells 15 = .ok (.istore 4, 2) := by decide +kernel
theorem dX0_lineCells_17 : decode cX0_lineCells 17 = .ok (.iload_n 0, 1) := by decide +kernel
theorem dX0_lineCells_18 : decode cX0_lineCells 18 = .ok (.iload_n 2, 1) := by decide +kernel
theorem dX0_lineCells_19 : decode cX0_lineCells 19 = .ok (.invokestatic 164, 3) := by decide +kernel
theorem dX0_lineCells_22 : decode cX0_lineCells 22 = .ok (.istore 5, 2) := by decide +kernel
theorem dX0_lineCells_24 : decode cX0_lineCells 24 = .ok (.iload_n 1, 1) := by decide +kernel
theorem dX0_lineCells_25 : decode cX0_lineCells 25 = .ok (.iload_n 3, 1) := by decide +kernel
theorem dX0_lineCells_26 : decode cX0_lineCells 26 = .ok (.invokestatic 164, 3) := by decide +kernel
theorem dX0_lineCells_29 : decode cX0_lineCells 29 = .ok (.istore 6, 2) := by decide +kernel
theorem dX0_lineCells_31 : decode cX0_lineCells 31 = .ok (.iconst 0, 1) := by decide +kernel
theorem dX0_lineCells_32 : decode cX0_lineCells 32 = .ok (.istore 7, 2) := by decide +kernel
theorem dX0_lineCells_34 : decode cX0_lineCells 34 = .ok (.iconst 0, 1) := by decide +kernel
theorem dX0_lineCells_35 : decode cX0_lineCells 35 = .ok (.istore 8, 2) := by decide +kernel
theorem dX0_lineCells_37 : decode cX0_lineCells 37 = .ok (.iload 8, 2) := by decide +kernel
theorem dX0_lineCells_39 : decode cX0_lineCells 39 = .ok (.iload 4, 2) := by decide +kernel
theorem dX0_lineCells_41 : decode cX0_lineCells 41 = .ok (.if_icmp .gt 33, 3) := by decide +kernel
theorem dX0_lineCells_44 : decode cX0_lineCells 44 = .ok (.iload 7, 2) := by decide +kernel
theorem dX0_lineCells_46 : decode cX0_lineCells 46 = .ok (.iconst 1, 1) := by decide +kernel
theorem dX0_lineCells_47 : decode cX0_lineCells 47 = .ok (.iload_n 1, 1) := by decide +kernel
theorem dX0_lineCells_48 : decode cX0_lineCells 48 = .ok (.iload 8, 2) := by decide +kernel
theorem dX0_lineCells_50 : decode cX0_lineCells 50 = .ok (.iload 6, 2) := by decide +kernel
theorem dX0_lineCells_52 : decode cX0_lineCells 52 = .ok (.imul, 1) := by decide +kernel
theorem dX0_lineCells_53 : decode cX0_lineCells 53 = .ok (.iadd, 1) := by decide +kernel
theorem dX0_lineCells_54 : decode cX0_lineCells 54 = .ok (.iconst 5, 1) := by decide +kernel
theorem dX0_lineCells_55 : decode cX0_lineCells 55 = .ok (.imul, 1) := by decide +kernel
theorem dX0_lineCells_56 : decode cX0_lineCells 56 = .ok (.iload_n 0, 1) := by decide +kernel
theorem dX0_lineCells_57 : decode cX0_lineCells 57 = .ok (.iadd, 1) := by decide +kernel
theorem dX0_lineCells_58 : decode cX0_lineCells 58 = .ok (.iload 8, 2) := by decide +kernel
theorem dX0_lineCells_60 : decode cX0_lineCells 60 = .ok (.iload 5, 2) := by decide +kernel
theorem dX0_lineCells_62 : decode cX0_lineCells 62 = .ok (.imul, 1) := by decide +kernel
theorem dX0_lineCells_63 : decode cX0_lineCells 63 = .ok (.iadd, 1) := by decide +kernel
theorem dX0_lineCells_64 : decode cX0_lineCells 64 = .ok (.ishl, 1) := by decide +kernel
theorem dX0_lineCells_65 : decode cX0_lineCells 65 = .ok (.ior, 1) := by decide +kernel
theorem dX0_lineCells_66 : decode cX0_lineCells 66 = .ok (.istore 7, 2) := by decide +kernel
theorem dX0_lineCells_68 : decode cX0_lineCells 68 = .ok (.iinc 8 1, 3) := by decide +kernel
theorem dX0_lineCells_71 : decode cX0_lineCells 71 = .ok (.goto (-34), 3) := by decide +kernel
theorem dX0_lineCells_74 : decode cX0_lineCells 74 = .ok (.iload 7, 2) := by decide +kernel
theorem dX0_lineCells_76 : decode cX0_lineCells 76 = .ok (.ireturn, 1) := by decide +kernel
theorem dX0_direction_0 : decode cX0_direction 0 = .ok (.iload_n 1, 1) := by decide +kernel
theorem dX0_direction_1 : decode cX0_direction 1 = .ok (.iload_n 0, 1) := by decide +kernel
theorem dX0_direction_2 : decode cX0_direction 2 = .ok (.if_icmp .le 7, 3) := by decide +kernel
theorem dX0_direction_5 : decode cX0_direction 5 = .ok (.iconst 1, 1) := by decide +kernel
theorem dX0_direction_6 : decode cX0_direction 6 = .ok (.goto 13, 3) := by decide +kernel
theorem dX0_direction_9 : decode cX0_direction 9 = .ok (.iload_n 1, 1) := by decide +kernel
theorem dX0_direction_10 : decode cX0_direction 10 = .ok (.iload_n 0, 1) := by decide +kernel
theorem dX0_direction_11 : decode cX0_direction 11 = .ok (.if_icmp .ge 7, 3) := by decide +kernel
theorem dX0_direction_14 : decode cX0_direction 14 = .ok (.iconst (-1), 1) := by decide +kernel
theorem dX0_direction_15 : decode cX0_direction 15 = .ok (.goto 4, 3) := by decide +kernel
theorem dX0_direction_18 : decode cX0_direction 18 = .ok (.iconst 0, 1) := by decide +kernel
theorem dX0_direction_19 : decode cX0_direction 19 = .ok (.ireturn, 1) := by decide +kernel
set_option maxRecDepth 20000 in
theorem ggX0_differing_J6_bitCount_0f7a4 : GoodIn wsX0_differing wsJ6_bitCount_0f7a4 := goodIn_r _ [4, 5, 6, 7] (by decide +kernel) (by decide +kernel)
set_option maxRecDepth 20000 in
theorem gX0_differing_J6_bitCount_0f7a4 : GoodIn wsX0_differing (va_wsS RX0 167 yJ6_bitCount_0f7a4 wsJ6_bitCount_0f7a4) := goodIn_app (goodIn_of _ (by decide +kernel)) ggX0_differing_J6_bitCount_0f7a4
theorem dX0_differing_0 : decode cX0_differing 0 = .ok (.iload_n 0, 1) := by decide +kernel
theorem dX0_differing_1 : decode cX0_differing 1 = .ok (.iload_n 1, 1) := by decide +kernel
theorem dX0_differing_2 : decode cX0_differing 2 = .ok (.ixor, 1) := by decide +kernel
theorem dX0_differing_3 : decode cX0_differing 3 = .ok (.invokestatic 167, 3) := by decide +kernel
theorem dX0_differing_6 : decode cX0_differing 6 = .ok (.ireturn, 1) := by decide +kernel
set_option maxRecDepth 20000 in
theorem ggX0_shapeWidth_X0_hasColumn : GoodIn wsX0_shapeWidth wsX0_hasColumn := goodIn_r _ [4, 5, 6, 3, 7, 8, 9, 10, 11, 12, 13, 14, 15, 16, 17] (by decide +kernel) (by decide +kernel)
set_option maxRecDepth 20000 in
theorem gX0_shapeWidth_X0_hasColumn : GoodIn wsX0_shapeWidth (va_wsS RX0 172 yX0_hasColumn wsX0_hasColumn) := goodIn_app (goodIn_of _ (by decide +kernel)) ggX0_shapeWidth_X0_hasColumn
theorem dX0_shapeWidth_0 : decode cX0_shapeWidth 0 = .ok (.iconst (-1), 1) := by decide +kernel
theorem dX0_shapeWidth_1 : decode cX0_shapeWidth 1 = .ok (.istore_n 1, 1) := by decide +kernel
theorem dX0_shapeWidth_2 : decode cX0_shapeWidth 2 = .ok (.iconst (-1), 1) := by decide +kernel
theorem dX0_shapeWidth_3 : decode cX0_shapeWidth 3 = .ok (.istore_n 2, 1) := by decide +kernel
theorem dX0_shapeWidth_4 : decode cX0_shapeWidth 4 = .ok (.iconst 0, 1) := by decide +kernel
theorem dX0_shapeWidth_5 : decode cX0_shapeWidth 5 = .ok (.istore_n 3, 1) := by decide +kernel
theorem dX0_shapeWidth_6 : decode cX0_shapeWidth 6 = .ok (.iload_n 3, 1) := by decide +kernel
theorem dX0_shapeWidth_7 : decode cX0_shapeWidth 7 = .ok (.iconst 5, 1) := by decide +kernel
theorem dX0_shapeWidth_8 : decode cX0_shapeWidth 8 = .ok (.if_icmp .ge 30, 3) := by decide +kernel
theorem dX0_shapeWidth_11 : decode cX0_shapeWidth 11 = .ok (.iload_n 0, 1) := by decide +kernel
theorem dX0_shapeWidth_12 : decode cX0_shapeWidth 12 = .ok (.iload_n 3, 1) := by decide +kernel
theorem dX0_shapeWidth_13 : decode cX0_shapeWidth 13 = .ok (.invokestatic 172, 3) := by decide +kernel
theorem dX0_shapeWidth_16 : decode cX0_shapeWidth 16 = .ok (.ifCond .eq 16, 3) := by decide +kernel
theorem dX0_shapeWidth_19 : decode cX0_shapeWidth 19 = .ok (.iload_n 1, 1) := by decide +kernel
theorem dX0_shapeWidth_20 : decode cX0_shapeWidth 20 = .ok (.iconst (-1), 1) := by decide +kernel
theorem dX0_shapeWidth_21 : decode cX0_shapeWidth 21 = .ok (.if_icmp .ne 7, 3) := by decide +kernel
theorem dX0_shapeWidth_24 : decode cX0_shapeWidth 24 = .ok (.iload_n 3, 1) := by decide +kernel
theorem dX0_shapeWidth_25 : decode cX0_shapeWidth 25 = .ok (.goto 4, 3) := by decide +kernel
theorem dX0_shapeWidth_28 : decode cX0_shapeWidth 28 = .ok (.iload_n 1, 1) := by decide +kernel
theorem dX0_shapeWidth_29 : decode cX0_shapeWidth 29 = .ok (.istore_n 1, 1) := by decide +kernel
theorem dX0_shapeWidth_30 : decode cX0_shapeWidth 30 = .ok (.iload_n 3, 1) := by decide +kernel
theorem dX0_shapeWidth_31 : decode cX0_shapeWidth 31 = .ok (.istore_n 2, 1) := by decide +kernel
theorem dX0_shapeWidth_32 : decode cX0_shapeWidth 32 = .ok (.iinc 3 1, 3) := by decide +kernel
theorem dX0_shapeWidth_35 : decode cX0_shapeWidth 35 = .ok (.goto (-29), 3) := by decide +kernel
theorem dX0_shapeWidth_38 : decode cX0_shapeWidth 38 = .ok (.iload_n 1, 1) := by decide +kernel
theorem dX0_shapeWidth_39 : decode cX0_shapeWidth 39 = .ok (.iconst (-1), 1) := by decide +kernel
theorem dX0_shapeWidth_40 : decode cX0_shapeWidth 40 = .ok (.if_icmp .ne 7, 3) := by decide +kernel
theorem dX0_shapeWidth_43 : decode cX0_shapeWidth 43 = .ok (.iconst 2, 1) := by decide +kernel
theorem dX0_shapeWidth_44 : decode cX0_shapeWidth 44 = .ok (.goto 8, 3) := by decide +kernel
theorem dX0_shapeWidth_47 : decode cX0_shapeWidth 47 = .ok (.iload_n 2, 1) := by decide +kernel
theorem dX0_shapeWidth_48 : decode cX0_shapeWidth 48 = .ok (.iload_n 1, 1) := by decide +kernel
theorem dX0_shapeWidth_49 : decode cX0_shapeWidth 49 = .ok (.isub, 1) := by decide +kernel
theorem dX0_shapeWidth_50 : decode cX0_shapeWidth 50 = .ok (.iconst 1, 1) := by decide +kernel
theorem dX0_shapeWidth_51 : decode cX0_shapeWidth 51 = .ok (.iadd, 1) := by decide +kernel
theorem dX0_shapeWidth_52 : decode cX0_shapeWidth 52 = .ok (.ireturn, 1) := by decide +kernel
set_option maxRecDepth 20000 in
theorem ggX0_hasColumn_X0_lineCells : GoodIn wsX0_hasColumn wsX0_lineCells := goodIn_r _ [4, 5, 6, 7, 8, 9, 10, 11, 12, 13, 3, 14] (by decide +kernel) (by decide +kernel)
set_option maxRecDepth 20000 in
theorem gX0_hasColumn_X0_lineCells : GoodIn wsX0_hasColumn (va_wsS RX0 56 yX0_lineCells wsX0_lineCells) := goodIn_app (goodIn_of _ (by decide +kernel)) ggX0_hasColumn_X0_lineCells
theorem dX0_hasColumn_0 : decode cX0_hasColumn 0 = .ok (.iload_n 0, 1) := by decide +kernel
theorem dX0_hasColumn_1 : decode cX0_hasColumn 1 = .ok (.iload_n 1, 1) := by decide +kernel
theorem dX0_hasColumn_2 : decode cX0_hasColumn 2 = .ok (.iconst 0, 1) := by decide +kernel
theorem dX0_hasColumn_3 : decode cX0_hasColumn 3 = .ok (.iload_n 1, 1) := by decide +kernel
theorem dX0_hasColumn_4 : decode cX0_hasColumn 4 = .ok (.iconst 4, 1) := by decide +kernel
theorem dX0_hasColumn_5 : decode cX0_hasColumn 5 = .ok (.invokestatic 56, 3) := by decide +kernel
theorem dX0_hasColumn_8 : decode cX0_hasColumn 8 = .ok (.iand, 1) := by decide +kernel
theorem dX0_hasColumn_9 : decode cX0_hasColumn 9 = .ok (.ifCond .eq 7, 3) := by decide +kernel
theorem dX0_hasColumn_12 : decode cX0_hasColumn 12 = .ok (.iconst 1, 1) := by decide +kernel
theorem dX0_hasColumn_13 : decode cX0_hasColumn 13 = .ok (.goto 4, 3) := by decide +kernel
theorem dX0_hasColumn_16 : decode cX0_hasColumn 16 = .ok (.iconst 0, 1) := by decide +kernel
theorem dX0_hasColumn_17 : decode cX0_hasColumn 17 = .ok (.ireturn, 1) := by decide +kernel
theorem dX0_pairOf_0 : decode cX0_pairOf 0 = .ok (.iload_n 0, 1) := by decide +kernel
theorem dX0_pairOf_1 : decode cX0_pairOf 1 = .ok (.bipush 8, 2) := by decide +kernel
theorem dX0_pairOf_3 : decode cX0_pairOf 3 = .ok (.imul, 1) := by decide +kernel
theorem dX0_pairOf_4 : decode cX0_pairOf 4 = .ok (.iload_n 1, 1) := by decide +kernel
theorem dX0_pairOf_5 : decode cX0_pairOf 5 = .ok (.iadd, 1) := by decide +kernel
theorem dX0_pairOf_6 : decode cX0_pairOf 6 = .ok (.ireturn, 1) := by decide +kernel
theorem dX0_pack_0 : decode cX0_pack 0 = .ok (.iload_n 1, 1) := by decide +kernel
theorem dX0_pack_1 : decode cX0_pack 1 = .ok (.bipush 15, 2) := by decide +kernel
theorem dX0_pack_3 : decode cX0_pack 3 = .ok (.ishl, 1) := by decide +kernel
theorem dX0_pack_4 : decode cX0_pack 4 = .ok (.iload_n 0, 1) := by decide +kernel
theorem dX0_pack_5 : decode cX0_pack 5 = .ok (.ior, 1) := by decide +kernel
theorem dX0_pack_6 : decode cX0_pack 6 = .ok (.ireturn, 1) := by decide +kernel
theorem dX0_manyOf_0 : decode cX0_manyOf 0 = .ok (.iload_n 0, 1) := by decide +kernel
theorem dX0_manyOf_1 : decode cX0_manyOf 1 = .ok (.bipush 15, 2) := by decide +kernel
theorem dX0_manyOf_3 : decode cX0_manyOf 3 = .ok (.ishr, 1) := by decide +kernel
theorem dX0_manyOf_4 : decode cX0_manyOf 4 = .ok (.ireturn, 1) := by decide +kernel
theorem dX0_numberOf_0 : decode cX0_numberOf 0 = .ok (.iload_n 0, 1) := by decide +kernel
theorem dX0_numberOf_1 : decode cX0_numberOf 1 = .ok (.sipush 32767, 3) := by decide +kernel
theorem dX0_numberOf_4 : decode cX0_numberOf 4 = .ok (.iand, 1) := by decide +kernel
theorem dX0_numberOf_5 : decode cX0_numberOf 5 = .ok (.ireturn, 1) := by decide +kernel
theorem dX0_glyphAt_0 : decode cX0_glyphAt 0 = .ok (.iload_n 0, 1) := by decide +kernel
theorem dX0_glyphAt_1 : decode cX0_glyphAt 1 = .ok (.iconst 3, 1) := by decide +kernel
theorem dX0_glyphAt_2 : decode cX0_glyphAt 2 = .ok (.iload_n 1, 1) := by decide +kernel
theorem dX0_glyphAt_3 : decode cX0_glyphAt 3 = .ok (.imul, 1) := by decide +kernel
theorem dX0_glyphAt_4 : decode cX0_glyphAt 4 = .ok (.ishr, 1) := by decide +kernel
theorem dX0_glyphAt_5 : decode cX0_glyphAt 5 = .ok (.bipush 7, 2) := by decide +kernel
theorem dX0_glyphAt_7 : decode cX0_glyphAt 7 = .ok (.iand, 1) := by decide +kernel
theorem dX0_glyphAt_8 : decode cX0_glyphAt 8 = .ok (.ireturn, 1) := by decide +kernel
set_option maxRecDepth 20000 in
theorem ggX0_packedWidth_X0_manyOf : GoodIn wsX0_packedWidth wsX0_manyOf := goodIn_r _ [6] (by decide +kernel) (by decide +kernel)
set_option maxRecDepth 20000 in
theorem gX0_packedWidth_X0_manyOf : GoodIn wsX0_packedWidth (va_wsS RX0 175 yX0_manyOf wsX0_manyOf) := goodIn_app (goodIn_of _ (by decide +kernel)) ggX0_packedWidth_X0_manyOf
set_option maxRecDepth 20000 in
theorem ggX0_packedWidth_X0_glyphAt : GoodIn wsX0_packedWidth wsX0_glyphAt := goodIn_r _ [9] (by decide +kernel) (by decide +kernel)
set_option maxRecDepth 20000 in
theorem gX0_packedWidth_X0_glyphAt : GoodIn wsX0_packedWidth (va_wsS RX0 178 yX0_glyphAt wsX0_glyphAt) := goodIn_app (goodIn_of _ (by decide +kernel)) ggX0_packedWidth_X0_glyphAt
set_option maxRecDepth 20000 in
theorem ggX0_packedWidth_X0_shapeWidth : GoodIn wsX0_packedWidth wsX0_shapeWidth := goodIn_r _ [12, 13, 14, 5, 15, 16, 17, 18, 19, 20, 21, 22, 23, 24, 25, 26, 27, 28] (by decide +kernel) (by decide +kernel)
set_option maxRecDepth 20000 in
theorem gX0_packedWidth_X0_shapeWidth : GoodIn wsX0_packedWidth (va_wsS RX0 67 yX0_shapeWidth wsX0_shapeWidth) := goodIn_app (goodIn_of _ (by decide +kernel)) ggX0_packedWidth_X0_shapeWidth
set_option maxRecDepth 20000 in
theorem ggX0_packedWidth_X0_pairOf : GoodIn wsX0_packedWidth wsX0_pairOf := goodIn_r _ [31] (by decide +kernel) (by decide +kernel)
set_option maxRecDepth 20000 in
theorem gX0_packedWidth_X0_pairOf : GoodIn wsX0_packedWidth (va_wsS RX0 78 yX0_pairOf wsX0_pairOf) := goodIn_app (goodIn_of _ (by decide +kernel)) ggX0_packedWidth_X0_pairOf
theorem dX0_packedWidth_0 : decode cX0_packedWidth 0 = .ok (.iconst 0, 1) := by decide +kernel
theorem dX0_packedWidth_1 : decode cX0_packedWidth 1 = .ok (.istore_n 2, 1) := by decide +kernel
theorem dX0_packedWidth_2 : decode cX0_packedWidth 2 = .ok (.iconst 0, 1) := by decide +kernel
theorem dX0_packedWidth_3 : decode cX0_packedWidth 3 = .ok (.istore_n 3, 1) := by decide +kernel
theorem dX0_packedWidth_4 : decode cX0_packedWidth 4 = .ok (.iload_n 3, 1) := by decide +kernel
theorem dX0_packedWidth_5 : decode cX0_packedWidth 5 = .ok (.iload_n 1, 1) := by decide +kernel
theorem dX0_packedWidth_6 : decode cX0_packedWidth 6 = .ok (.invokestatic 175, 3) := by decide +kernel
theorem dX0_packedWidth_9 : decode cX0_packedWidth 9 = .ok (.if_icmp .ge 53, 3) := by decide +kernel
theorem dX0_packedWidth_12 : decode cX0_packedWidth 12 = .ok (.iload_n 1, 1) := by decide +kernel
theorem dX0_packedWidth_13 : decode cX0_packedWidth 13 = .ok (.iload_n 3, 1) := by decide +kernel
theorem dX0_packedWidth_14 : decode cX0_packedWidth 14 = .ok (.invokestatic 178, 3) := by decide +kernel
theorem dX0_packedWidth_17 : decode cX0_packedWidth 17 = .ok (.istore 4, 2) := by decide +kernel
theorem dX0_packedWidth_19 : decode cX0_packedWidth 19 = .ok (.iload_n 2, 1) := by decide +kernel
theorem dX0_packedWidth_20 : decode cX0_packedWidth 20 = .ok (.aload_n 0, 1) := by decide +kernel
theorem dX0_packedWidth_21 : decode cX0_packedWidth 21 = .ok (.getfield 9, 3) := by decide +kernel
theorem dX0_packedWidth_24 : decode cX0_packedWidth 24 = .ok (.iload 4, 2) := by decide +kernel
theorem dX0_packedWidth_26 : decode cX0_packedWidth 26 = .ok (.iaload, 1) := by decide +kernel
theorem dX0_packedWidth_27 : decode cX0_packedWidth 27 = .ok (.invokestatic 67, 3) := by decide +kernel
theorem dX0_packedWidth_30 : decode cX0_packedWidth 30 = .ok (.iadd, 1) := by decide +kernel
theorem dX0_packedWidth_31 : decode cX0_packedWidth 31 = .ok (.istore_n 2, 1) := by decide +kernel
theorem dX0_packedWidth_32 : decode cX0_packedWidth 32 = .ok (.iload_n 3, 1) := by decide +kernel
theorem dX0_packedWidth_33 : decode cX0_packedWidth 33 = .ok (.ifCond .le 23, 3) := by decide +kernel
theorem dX0_packedWidth_36 : decode cX0_packedWidth 36 = .ok (.iload_n 2, 1) := by decide +kernel
theorem dX0_packedWidth_37 : decode cX0_packedWidth 37 = .ok (.aload_n 0, 1) := by decide +kernel
theorem dX0_packedWidth_38 : decode cX0_packedWidth 38 = .ok (.getfield 13, 3) := by decide +kernel
theorem dX0_packedWidth_41 : decode cX0_packedWidth 41 = .ok (.iload 4, 2) := by decide +kernel
theorem dX0_packedWidth_43 : decode cX0_packedWidth 43 = .ok (.iload_n 1, 1) := by decide +kernel
theorem dX0_packedWidth_44 : decode cX0_packedWidth 44 = .ok (.iload_n 3, 1) := by decide +kernel
theorem dX0_packedWidth_45 : decode cX0_packedWidth 45 = .ok (.iconst 1, 1) := by decide +kernel
theorem dX0_packedWidth_46 : decode cX0_packedWidth 46 = .ok (.isub, 1) := by decide +kernel
theorem dX0_packedWidth_47 : decode cX0_packedWidth 47 = .ok (.invokestatic 178, 3) := by decide +kernel
theorem dX0_packedWidth_50 : decode cX0_packedWidth 50 = .ok (.invokestatic 78, 3) := by decide +kernel
theorem dX0_packedWidth_53 : decode cX0_packedWidth 53 = .ok (.iaload, 1) := by decide +kernel
theorem dX0_packedWidth_54 : decode cX0_packedWidth 54 = .ok (.iadd, 1) := by decide +kernel
theorem dX0_packedWidth_55 : decode cX0_packedWidth 55 = .ok (.istore_n 2, 1) := by decide +kernel
theorem dX0_packedWidth_56 : decode cX0_packedWidth 56 = .ok (.iinc 3 1, 3) := by decide +kernel
theorem dX0_packedWidth_59 : decode cX0_packedWidth 59 = .ok (.goto (-55), 3) := by decide +kernel
theorem dX0_packedWidth_62 : decode cX0_packedWidth 62 = .ok (.iload_n 2, 1) := by decide +kernel
theorem dX0_packedWidth_63 : decode cX0_packedWidth 63 = .ok (.ireturn, 1) := by decide +kernel
set_option maxRecDepth 20000 in
theorem ggX0_plateFor_X0_packedWidth : GoodIn wsX0_plateFor wsX0_packedWidth := goodIn_r _ [5, 6, 7, 8, 9, 4, 10, 11, 12, 13, 14, 15, 16, 17, 18, 19, 20, 21, 22, 23, 24, 25, 26, 27, 28, 29, 30, 31, 32, 33, 34, 35, 36, 37, 38, 39, 40, 41, 42, 43, 44, 45] (by decide +kernel) (by decide +kernel)
set_option maxRecDepth 20000 in
theorem gX0_plateFor_X0_packedWidth : GoodIn wsX0_plateFor (wsV RX0 97 RX0 yX0_packedWidth wsX0_packedWidth) := goodIn_app (goodIn_of _ (by decide +kernel)) ggX0_plateFor_X0_packedWidth
theorem dX0_plateFor_0 : decode cX0_plateFor 0 = .ok (.aload_n 0, 1) := by decide +kernel
theorem dX0_plateFor_1 : decode cX0_plateFor 1 = .ok (.iload_n 1, 1) := by decide +kernel
theorem dX0_plateFor_2 : decode cX0_plateFor 2 = .ok (.invokevirtual 97, 3) := by decide +kernel
theorem dX0_plateFor_5 : decode cX0_plateFor 5 = .ok (.istore_n 2, 1) := by decide +kernel
theorem dX0_plateFor_6 : decode cX0_plateFor 6 = .ok (.iload_n 2, 1) := by decide +kernel
theorem dX0_plateFor_7 : decode cX0_plateFor 7 = .ok (.bipush 10, 2) := by decide +kernel
theorem dX0_plateFor_9 : decode cX0_plateFor 9 = .ok (.if_icmp .gt 5, 3) := by decide +kernel
theorem dX0_plateFor_12 : decode cX0_plateFor 12 = .ok (.iconst 4, 1) := by decide +kernel
theorem dX0_plateFor_13 : decode cX0_plateFor 13 = .ok (.ireturn, 1) := by decide +kernel
theorem dX0_plateFor_14 : decode cX0_plateFor 14 = .ok (.iload_n 2, 1) := by decide +kernel
theorem dX0_plateFor_15 : decode cX0_plateFor 15 = .ok (.bipush 20, 2) := by decide +kernel
theorem dX0_plateFor_17 : decode cX0_plateFor 17 = .ok (.if_icmp .gt 6, 3) := by decide +kernel
theorem dX0_plateFor_20 : decode cX0_plateFor 20 = .ok (.bipush 7, 2) := by decide +kernel
theorem dX0_plateFor_22 : decode cX0_plateFor 22 = .ok (.ireturn, 1) := by decide +kernel
theorem dX0_plateFor_23 : decode cX0_plateFor 23 = .ok (.iload_n 2, 1) := by decide +kernel
theorem dX0_plateFor_24 : decode cX0_plateFor 24 = .ok (.bipush 30, 2) := by decide +kernel
theorem dX0_plateFor_26 : decode cX0_plateFor 26 = .ok (.if_icmp .gt 8, 3) := by decide +kernel
theorem dX0_plateFor_29 : decode cX0_plateFor 29 = .ok (.bipush 10, 2) := by decide +kernel
theorem dX0_plateFor_31 : decode cX0_plateFor 31 = .ok (.goto 4, 3) := by decide +kernel
theorem dX0_plateFor_34 : decode cX0_plateFor 34 = .ok (.iconst (-1), 1) := by decide +kernel
theorem dX0_plateFor_35 : decode cX0_plateFor 35 = .ok (.ireturn, 1) := by decide +kernel
theorem dX0_wayOf_0 : decode cX0_wayOf 0 = .ok (.iload_n 0, 1) := by decide +kernel
theorem dX0_wayOf_1 : decode cX0_wayOf 1 = .ok (.iconst 4, 1) := by decide +kernel
theorem dX0_wayOf_2 : decode cX0_wayOf 2 = .ok (.imul, 1) := by decide +kernel
theorem dX0_wayOf_3 : decode cX0_wayOf 3 = .ok (.iload_n 1, 1) := by decide +kernel
theorem dX0_wayOf_4 : decode cX0_wayOf 4 = .ok (.iadd, 1) := by decide +kernel
theorem dX0_wayOf_5 : decode cX0_wayOf 5 = .ok (.ireturn, 1) := by decide +kernel
set_option maxRecDepth 20000 in
theorem ggX0_engrave_X0_manyOf : GoodIn wsX0_engrave wsX0_manyOf := goodIn_r _ [8] (by decide +kernel) (by decide +kernel)
set_option maxRecDepth 20000 in
theorem gX0_engrave_X0_manyOf : GoodIn wsX0_engrave (va_wsS RX0 175 yX0_manyOf wsX0_manyOf) := goodIn_app (goodIn_of _ (by decide +kernel)) ggX0_engrave_X0_manyOf
set_option maxRecDepth 20000 in
theorem ggX0_engrave_X0_glyphAt : GoodIn wsX0_engrave wsX0_glyphAt := goodIn_r _ [11] (by decide +kernel) (by decide +kernel)
set_option maxRecDepth 20000 in
theorem gX0_engrave_X0_glyphAt : GoodIn wsX0_engrave (va_wsS RX0 178 yX0_glyphAt wsX0_glyphAt) := goodIn_app (goodIn_of _ (by decide +kernel)) ggX0_engrave_X0_glyphAt
theorem dX0_engrave_0 : decode cX0_engrave 0 = .ok (.aload_n 0, 1) := by decide +kernel
theorem dX0_engrave_1 : decode cX0_engrave 1 = .ok (.getfield 22, 3) := by decide +kernel
theorem dX0_engrave_4 : decode cX0_engrave 4 = .ok (.iload_n 1, 1) := by decide +kernel
theorem dX0_engrave_5 : decode cX0_engrave 5 = .ok (.iaload, 1) := by decide +kernel
theorem dX0_engrave_6 : decode cX0_engrave 6 = .ok (.istore_n 3, 1) := by decide +kernel
theorem dX0_engrave_7 : decode cX0_engrave 7 = .ok (.iconst 0, 1) := by decide +kernel
theorem dX0_engrave_8 : decode cX0_engrave 8 = .ok (.istore 4, 2) := by decide +kernel
theorem dX0_engrave_10 : decode cX0_engrave 10 = .ok (.iload 4, 2) := by decide +kernel
theorem dX0_engrave_12 : decode cX0_engrave 12 = .ok (.iload_n 3, 1) := by decide +kernel
theorem dX0_engrave_13 : decode cX0_engrave 13 = .ok (.invokestatic 175, 3) := by decide +kernel
theorem dX0_engrave_16 : decode cX0_engrave 16 = .ok (.if_icmp .ge 31, 3) := by decide +kernel
theorem dX0_engrave_19 : decode cX0_engrave 19 = .ok (.aload_n 0, 1) := by decide +kernel
theorem dX0_engrave_20 : decode cX0_engrave 20 = .ok (.getfield 28, 3) := by decide +kernel
theorem dX0_engrave_23 : decode cX0_engrave 23 = .ok (.iload_n 1, 1) := by decide +kernel
theorem dX0_engrave_24 : decode cX0_engrave 24 = .ok (.iconst 5, 1) := by decide +kernel
theorem dX0_engrave_25 : decode cX0_engrave 25 = .ok (.imul, 1) := by decide +kernel
theorem dX0_engrave_26 : decode cX0_engrave 26 = .ok (.iload 4, 2) := by decide +kernel
theorem dX0_engrave_28 : decode cX0_engrave 28 = .ok (.iadd, 1) := by decide +kernel
theorem dX0_engrave_29 : decode cX0_engrave 29 = .ok (.aload_n 0, 1) := by decide +kernel
theorem dX0_engrave_30 : decode cX0_engrave 30 = .ok (.getfield 9, 3) := by decide +kernel
theorem dX0_engrave_33 : decode cX0_engrave 33 = .ok (.iload_n 3, 1) := by decide +kernel
theorem dX0_engrave_34 : decode cX0_engrave 34 = .ok (.iload 4, 2) := by decide +kernel
theorem dX0_engrave_36 : decode cX0_engrave 36 = .ok (.invokestatic 178, 3) := by decide +kernel
theorem dX0_engrave_39 : decode cX0_engrave 39 = .ok (.iaload, 1) := by decide +kernel
theorem dX0_engrave_40 : decode cX0_engrave 40 = .ok (.iastore, 1) := by decide +kernel
theorem dX0_engrave_41 : decode cX0_engrave 41 = .ok (.iinc 4 1, 3) := by decide +kernel
theorem dX0_engrave_44 : decode cX0_engrave 44 = .ok (.goto (-34), 3) := by decide +kernel
theorem dX0_engrave_47 : decode cX0_engrave 47 = .ok (.aload_n 0, 1) := by decide +kernel
theorem dX0_engrave_48 : decode cX0_engrave 48 = .ok (.dup, 1) := by decide +kernel
theorem dX0_engrave_49 : decode cX0_engrave 49 = .ok (.getfield 31, 3) := by decide +kernel
theorem dX0_engrave_52 : decode cX0_engrave 52 = .ok (.iload_n 2, 1) := by decide +kernel
theorem dX0_engrave_53 : decode cX0_engrave 53 = .ok (.i2l, 1) := by decide +kernel
theorem dX0_engrave_54 : decode cX0_engrave 54 = .ok (.ladd, 1) := by decide +kernel
theorem dX0_engrave_55 : decode cX0_engrave 55 = .ok (.putfield 31, 3) := by decide +kernel
theorem dX0_engrave_58 : decode cX0_engrave 58 = .ok (.return_, 1) := by decide +kernel
set_option maxRecDepth 20000 in
theorem ggX0_isOutdated_X0_manyOf : GoodIn wsX0_isOutdated wsX0_manyOf := goodIn_r _ [7] (by decide +kernel) (by decide +kernel)
set_option maxRecDepth 20000 in
theorem gX0_isOutdated_X0_manyOf : GoodIn wsX0_isOutdated (va_wsS RX0 175 yX0_manyOf wsX0_manyOf) := goodIn_app (goodIn_of _ (by decide +kernel)) ggX0_isOutdated_X0_manyOf
set_option maxRecDepth 20000 in
theorem ggX0_isOutdated_X0_glyphAt : GoodIn wsX0_isOutdated wsX0_glyphAt := goodIn_r _ [10] (by decide +kernel) (by decide +kernel)
set_option maxRecDepth 20000 in
theorem gX0_isOutdated_X0_glyphAt : GoodIn wsX0_isOutdated (va_wsS RX0 178 yX0_glyphAt wsX0_glyphAt) := goodIn_app (goodIn_of _ (by decide +kernel)) ggX0_isOutdated_X0_glyphAt
theorem dX0_isOutdated_0 : decode cX0_isOutdated 0 = .ok (.aload_n 0, 1) := by decide +kernel
theorem dX0_isOutdated_1 : decode cX0_isOutdated 1 = .ok (.getfield 22, 3) := by decide +kernel
theorem dX0_isOutdated_4 : decode cX0_isOutdated 4 = .ok (.iload_n 1, 1) := by decide +kernel
theorem dX0_isOutdated_5 : decode cX0_isOutdated 5 = .ok (.iaload, 1) := by decide +kernel
theorem dX0_isOutdated_6 : decode cX0_isOutdated 6 = .ok (.istore_n 2, 1) := by decide +kernel
theorem dX0_isOutdated_7 : decode cX0_isOutdated 7 = .ok (.iconst 0, 1) := by decide +kernel
theorem dX0_isOutdated_8 : decode cX0_isOutdated 8 = .ok (.istore_n 3, 1) := by decide +kernel
theorem dX0_isOutdated_9 : decode cX0_isOutdated 9 = .ok (.iload_n 3, 1) := by decide +kernel
theorem dX0_isOutdated_10 : decode cX0_isOutdated 10 = .ok (.iload_n 2, 1) := by decide +kernel
theorem dX0_isOutdated_11 : decode cX0_isOutdated 11 = .ok (.invokestatic 175, 3) := by decide +kernel
theorem dX0_isOutdated_14 : decode cX0_isOutdated 14 = .ok (.if_icmp .ge 34, 3) := by decide +kernel
theorem dX0_isOutdated_17 : decode cX0_isOutdated 17 = .ok (.aload_n 0, 1) := by decide +kernel
theorem dX0_isOutdated_18 : decode cX0_isOutdated 18 = .ok (.getfield 28, 3) := by decide +kernel
theorem dX0_isOutdated_21 : decode cX0_isOutdated 21 = .ok (.iload_n 1, 1) := by decide +kernel
theorem dX0_isOutdated_22 : decode cX0_isOutdated 22 = .ok (.iconst 5, 1) := by decide +kernel
theorem dX0_isOutdated_23 : decode cX0_isOutdated 23 = .ok (.imul, 1) := by decide +kernel
theorem dX0_isOutdated_24 : decode cX0_isOutdated 24 = .ok (.iload_n 3, 1) := by decide +kernel
theorem dX0_isOutdated_25 : decode cX0_isOutdated 25 = .ok (.iadd, 1) := by decide +kernel
theorem dX0_isOutdated_26 : decode cX0_isOutdated 26 = .ok (.iaload, 1) := by decide +kernel
theorem dX0_isOutdated_27 : decode cX0_isOutdated 27 = .ok (.aload_n 0, 1) := by decide +kernel
theorem dX0_isOutdated_28 : decode cX0_isOutdated 28 = .ok (.getfield 9, 3) := by decide +kernel
theorem dX0_isOutdated_31 : decode cX0_isOutdated 31 = .ok (.iload_n 2, 1) := by decide +kernel
theorem dX0_isOutdated_32 : decode cX0_isOutdated 32 = .ok (.iload_n 3, 1) := by decide +kernel
theorem dX0_isOutdated_33 : decode cX0_isOutdated 33 = .ok (.invokestatic 178, 3) := by decide +kernel
theorem dX0_isOutdated_36 : decode cX0_isOutdated 36 = .ok (.iaload, 1) := by decide +kernel
theorem dX0_isOutdated_37 : decode cX0_isOutdated 37 = .ok (.if_icmp .eq 5, 3) := by decide +kernel
theorem dX0_isOutdated_40 : decode cX0_isOutdated 40 = .ok (.iconst 1, 1) := by decide +kernel
theorem dX0_isOutdated_41 : decode cX0_isOutdated 41 = .ok (.ireturn, 1) := by decide +kernel
theorem dX0_isOutdated_42 : decode cX0_isOutdated 42 = .ok (.iinc 3 1, 3) := by decide +kernel
theorem dX0_isOutdated_45 : decode cX0_isOutdated 45 = .ok (.goto (-36), 3) := by decide +kernel
theorem dX0_isOutdated_48 : decode cX0_isOutdated 48 = .ok (.iconst 0, 1) := by decide +kernel
theorem dX0_isOutdated_49 : decode cX0_isOutdated 49 = .ok (.ireturn, 1) := by decide +kernel
set_option maxRecDepth 20000 in
theorem ggX0_readText_X0_manyOf : GoodIn wsX0_readText wsX0_manyOf := goodIn_r _ [7] (by decide +kernel) (by decide +kernel)
set_option maxRecDepth 20000 in
theorem gX0_readText_X0_manyOf : GoodIn wsX0_readText (va_wsS RX0 175 yX0_manyOf wsX0_manyOf) := goodIn_app (goodIn_of _ (by decide +kernel)) ggX0_readText_X0_manyOf
set_option maxRecDepth 20000 in
theorem ggX0_readText_X0_readGlyph : GoodIn wsX0_readText wsX0_readGlyph := goodIn_r _ [11, 12, 13, 14, 15, 6, 16, 17, 18, 19, 20, 21, 22, 23, 24, 25, 26, 30, 31, 32, 33, 34, 35, 36, 37, 38, 39] (by decide +kernel) (by decide +kernel)
set_option maxRecDepth 20000 in
theorem gX0_readText_X0_readGlyph : GoodIn wsX0_readText (wsV RX0 181 RX0 yX0_readGlyph wsX0_readGlyph) := goodIn_app (goodIn_of _ (by decide +kernel)) ggX0_readText_X0_readGlyph
set_option maxRecDepth 20000 in
theorem ggX0_readText_X0_pack : GoodIn wsX0_readText wsX0_pack := goodIn_r _ [29] (by decide +kernel) (by decide +kernel)
set_option maxRecDepth 20000 in
theorem gX0_readText_X0_pack : GoodIn wsX0_readText (va_wsS RX0 94 yX0_pack wsX0_pack) := goodIn_app (goodIn_of _ (by decide +kernel)) ggX0_readText_X0_pack
theorem dX0_readText_0 : decode cX0_readText 0 = .ok (.aload_n 0, 1) := by decide +kernel
theorem dX0_readText_1 : decode cX0_readText 1 = .ok (.getfield 22, 3) := by decide +kernel
theorem dX0_readText_4 : decode cX0_readText 4 = .ok (.iload_n 1, 1) := by decide +kernel
theorem dX0_readText_5 : decode cX0_readText 5 = .ok (.iaload, 1) := by decide +kernel
theorem dX0_readText_6 : decode cX0_readText 6 = .ok (.invokestatic 175, 3) := by decide +kernel
theorem dX0_readText_9 : decode cX0_readText 9 = .ok (.istore_n 2, 1) := by decide +kernel
theorem dX0_readText_10 : decode cX0_readText 10 = .ok (.iconst 0, 1) := by decide +kernel
theorem dX0_readText_11 : decode cX0_readText 11 = .ok (.istore_n 3, 1) := by decide +kernel
theorem dX0_readText_12 : decode cX0_readText 12 = .ok (.iconst 0, 1) := by decide +kernel
theorem dX0_readText_13 : decode cX0_readText 13 = .ok (.istore 4, 2) := by decide +kernel
theorem dX0_readText_15 : decode cX0_readText 15 = .ok (.iload 4, 2) := by decide +kernel
theorem dX0_readText_17 : decode cX0_readText 17 = .ok (.iload_n 2, 1) := by decide +kernel
theorem dX0_readText_18 : decode cX0_readText 18 = .ok (.if_icmp .ge 42, 3) := by decide +kernel
theorem dX0_readText_21 : decode cX0_readText 21 = .ok (.aload_n 0, 1) := by decide +kernel
theorem dX0_readText_22 : decode cX0_readText 22 = .ok (.aload_n 0, 1) := by decide +kernel
theorem dX0_readText_23 : decode cX0_readText 23 = .ok (.getfield 28, 3) := by decide +kernel
theorem dX0_readText_26 : decode cX0_readText 26 = .ok (.iload_n 1, 1) := by decide +kernel
theorem dX0_readText_27 : decode cX0_readText 27 = .ok (.iconst 5, 1) := by decide +kernel
theorem dX0_readText_28 : decode cX0_readText 28 = .ok (.imul, 1) := by decide +kernel
theorem dX0_readText_29 : decode cX0_readText 29 = .ok (.iload 4, 2) := by decide +kernel
theorem dX0_readText_31 : decode cX0_readText 31 = .ok (.iadd, 1) := by decide +kernel
theorem dX0_readText_32 : decode cX0_readText 32 = .ok (.iaload, 1) := by decide +kernel
theorem dX0_readText_33 : decode cX0_readText 33 = .ok (.aload_n 0, 1) := by decide +kernel
theorem dX0_readText_34 : decode cX0_readText 34 = .ok (.getfield 25, 3) := by decide +kernel
theorem dX0_readText_37 : decode cX0_readText 37 = .ok (.iload_n 1, 1) := by decide +kernel
theorem dX0_readText_38 : decode cX0_readText 38 = .ok (.iaload, 1) := by decide +kernel
theorem dX0_readText_39 : decode cX0_readText 39 = .ok (.invokevirtual 181, 3) := by decide +kernel
theorem dX0_readText_42 : decode cX0_readText 42 = .ok (.istore 5, 2) := by decide +kernel
theorem dX0_readText_44 : decode cX0_readText 44 = .ok (.iload_n 3, 1) := by decide +kernel
theorem dX0_readText_45 : decode cX0_readText 45 = .ok (.iload 5, 2) := by decide +kernel
theorem dX0_readText_47 : decode cX0_readText 47 = .ok (.iconst 3, 1) := by decide +kernel
theorem dX0_readText_48 : decode cX0_readText 48 = .ok (.iload 4, 2) := by decide +kernel
theorem dX0_readText_50 : decode cX0_readText 50 = .ok (.imul, 1) := by decide +kernel
theorem dX0_readText_51 : decode cX0_readText 51 = .ok (.ishl, 1) := by decide +kernel
theorem dX0_readText_52 : decode cX0_readText 52 = .ok (.ior, 1) := by decide +kernel
theorem dX0_readText_53 : decode cX0_readText 53 = .ok (.istore_n 3, 1) := by decide +kernel
theorem dX0_readText_54 : decode cX0_readText 54 = .ok (.iinc 4 1, 3) := by decide +kernel
theorem dX0_readText_57 : decode cX0_readText 57 = .ok (.goto (-42), 3) := by decide +kernel
theorem dX0_readText_60 : decode cX0_readText 60 = .ok (.iload_n 3, 1) := by decide +kernel
theorem dX0_readText_61 : decode cX0_readText 61 = .ok (.iload_n 2, 1) := by decide +kernel
theorem dX0_readText_62 : decode cX0_readText 62 = .ok (.invokestatic 94, 3) := by decide +kernel
theorem dX0_readText_65 : decode cX0_readText 65 = .ok (.ireturn, 1) := by decide +kernel
set_option maxRecDepth 20000 in
theorem ggX0_readGlyph_X0_nearestGlyph : GoodIn wsX0_readGlyph wsX0_nearestGlyph := goodIn_r _ [6, 1, 7, 8, 5, 9, 10, 11, 12, 13, 14, 15, 16, 17, 18, 19, 20, 21, 22, 23, 24, 25, 26] (by decide +kernel) (by decide +kernel)
set_option maxRecDepth 20000 in
theorem gX0_readGlyph_X0_nearestGlyph : GoodIn wsX0_readGlyph (wsV RX0 184 RX0 yX0_nearestGlyph wsX0_nearestGlyph) := goodIn_app (goodIn_of _ (by decide +kernel)) ggX0_readGlyph_X0_nearestGlyph
set_option maxRecDepth 20000 in
theorem ggX0_readGlyph_X0_differing : GoodIn wsX0_readGlyph wsX0_differing := goodIn_r _ [9, 10, 11, 12, 13, 14, 15, 16] (by decide +kernel) (by decide +kernel)
set_option maxRecDepth 20000 in
theorem gX0_readGlyph_X0_differing : GoodIn wsX0_readGlyph (va_wsS RX0 63 yX0_differing wsX0_differing) := goodIn_app (goodIn_of _ (by decide +kernel)) ggX0_readGlyph_X0_differing
theorem dX0_readGlyph_0 : decode cX0_readGlyph 0 = .ok (.aload_n 0, 1) := by decide +kernel
theorem dX0_readGlyph_1 : decode cX0_readGlyph 1 = .ok (.iload_n 1, 1) := by decide +kernel
theorem dX0_readGlyph_2 : decode cX0_readGlyph 2 = .ok (.iconst (-1), 1) := by decide +kernel
theorem dX0_readGlyph_3 : decode cX0_readGlyph 3 = .ok (.invokevirtual 184, 3) := by decide +kernel
theorem dX0_readGlyph_6 : decode cX0_readGlyph 6 = .ok (.istore_n 3, 1) := by decide +kernel
theorem dX0_readGlyph_7 : decode cX0_readGlyph 7 = .ok (.aload_n 0, 1) := by decide +kernel
theorem dX0_readGlyph_8 : decode cX0_readGlyph 8 = .ok (.iload_n 1, 1) := by decide +kernel
theorem dX0_readGlyph_9 : decode cX0_readGlyph 9 = .ok (.iload_n 3, 1) := by decide +kernel
theorem dX0_readGlyph_10 : decode cX0_readGlyph 10 = .ok (.invokevirtual 184, 3) := by decide +kernel
theorem dX0_readGlyph_13 : decode cX0_readGlyph 13 = .ok (.istore 4, 2) := by decide +kernel
theorem dX0_readGlyph_15 : decode cX0_readGlyph 15 = .ok (.iload_n 1, 1) := by decide +kernel
theorem dX0_readGlyph_16 : decode cX0_readGlyph 16 = .ok (.aload_n 0, 1) := by decide +kernel
theorem dX0_readGlyph_17 : decode cX0_readGlyph 17 = .ok (.getfield 9, 3) := by decide +kernel
theorem dX0_readGlyph_20 : decode cX0_readGlyph 20 = .ok (.iload 4, 2) := by decide +kernel
theorem dX0_readGlyph_22 : decode cX0_readGlyph 22 = .ok (.iaload, 1) := by decide +kernel
theorem dX0_readGlyph_23 : decode cX0_readGlyph 23 = .ok (.invokestatic 63, 3) := by decide +kernel
theorem dX0_readGlyph_26 : decode cX0_readGlyph 26 = .ok (.iload_n 1, 1) := by decide +kernel
theorem dX0_readGlyph_27 : decode cX0_readGlyph 27 = .ok (.aload_n 0, 1) := by decide +kernel
theorem dX0_readGlyph_28 : decode cX0_readGlyph 28 = .ok (.getfield 9, 3) := by decide +kernel
theorem dX0_readGlyph_31 : decode cX0_readGlyph 31 = .ok (.iload_n 3, 1) := by decide +kernel
theorem dX0_readGlyph_32 : decode cX0_readGlyph 32 = .ok (.iaload, 1) := by decide +kernel
theorem dX0_readGlyph_33 : decode cX0_readGlyph 33 = .ok (.invokestatic 63, 3) := by decide +kernel
theorem dX0_readGlyph_36 : decode cX0_readGlyph 36 = .ok (.isub, 1) := by decide +kernel
theorem dX0_readGlyph_37 : decode cX0_readGlyph 37 = .ok (.istore 5, 2) := by decide +kernel
theorem dX0_readGlyph_39 : decode cX0_readGlyph 39 = .ok (.iload 5, 2) := by decide +kernel
theorem dX0_readGlyph_41 : decode cX0_readGlyph 41 = .ok (.iload_n 2, 1) := by decide +kernel
theorem dX0_readGlyph_42 : decode cX0_readGlyph 42 = .ok (.if_icmp .lt 7, 3) := by decide +kernel
theorem dX0_readGlyph_45 : decode cX0_readGlyph 45 = .ok (.iload_n 3, 1) := by decide +kernel
theorem dX0_readGlyph_46 : decode cX0_readGlyph 46 = .ok (.goto 5, 3) := by decide +kernel
theorem dX0_readGlyph_49 : decode cX0_readGlyph 49 = .ok (.iload 4, 2) := by decide +kernel
theorem dX0_readGlyph_51 : decode cX0_readGlyph 51 = .ok (.ireturn, 1) := by decide +kernel
set_option maxRecDepth 20000 in
theorem ggX0_nearestGlyph_X0_differing : GoodIn wsX0_nearestGlyph wsX0_differing := goodIn_r _ [5, 6, 7, 8, 9, 10, 11, 12] (by decide +kernel) (by decide +kernel)
set_option maxRecDepth 20000 in
theorem gX0_nearestGlyph_X0_differing : GoodIn wsX0_nearestGlyph (va_wsS RX0 63 yX0_differing wsX0_differing) := goodIn_app (goodIn_of _ (by decide +kernel)) ggX0_nearestGlyph_X0_differing
theorem dX0_nearestGlyph_0 : decode cX0_nearestGlyph 0 = .ok (.iload_n 2, 1) := by decide +kernel
theorem dX0_nearestGlyph_1 : decode cX0_nearestGlyph 1 = .ok (.ifCond .ne 7, 3) := by decide +kernel
theorem dX0_nearestGlyph_4 : decode cX0_nearestGlyph 4 = .ok (.iconst 1, 1) := by decide +kernel
theorem dX0_nearestGlyph_5 : decode cX0_nearestGlyph 5 = .ok (.goto 4, 3) := by decide +kernel
theorem dX0_nearestGlyph_8 : decode cX0_nearestGlyph 8 = .ok (.iconst 0, 1) := by decide +kernel
theorem dX0_nearestGlyph_9 : decode cX0_nearestGlyph 9 = .ok (.istore_n 3, 1) := by decide +kernel
theorem dX0_nearestGlyph_10 : decode cX0_nearestGlyph 10 = .ok (.iload_n 3, 1) := by decide +kernel
theorem dX0_nearestGlyph_11 : decode cX0_nearestGlyph 11 = .ok (.iconst 1, 1) := by decide +kernel
theorem dX0_nearestGlyph_12 : decode cX0_nearestGlyph 12 = .ok (.iadd, 1) := by decide +kernel
theorem dX0_nearestGlyph_13 : decode cX0_nearestGlyph 13 = .ok (.istore 4, 2) := by decide +kernel
theorem dX0_nearestGlyph_15 : decode cX0_nearestGlyph 15 = .ok (.iload 4, 2) := by decide +kernel
theorem dX0_nearestGlyph_17 : decode cX0_nearestGlyph 17 = .ok (.bipush 8, 2) := by decide +kernel
theorem dX0_nearestGlyph_19 : decode cX0_nearestGlyph 19 = .ok (.if_icmp .ge 42, 3) := by decide +kernel
theorem dX0_nearestGlyph_22 : decode cX0_nearestGlyph 22 = .ok (.iload 4, 2) := by decide +kernel
theorem dX0_nearestGlyph_24 : decode cX0_nearestGlyph 24 = .ok (.iload_n 2, 1) := by decide +kernel
theorem dX0_nearestGlyph_25 : decode cX0_nearestGlyph 25 = .ok (.if_icmp .eq 30, 3) := by decide +kernel
theorem dX0_nearestGlyph_28 : decode cX0_nearestGlyph 28 = .ok (.iload_n 1, 1) := by decide +kernel
theorem dX0_nearestGlyph_29 : decode cX0_nearestGlyph 29 = .ok (.aload_n 0, 1) := by decide +kernel
theorem dX0_nearestGlyph_30 : decode cX0_nearestGlyph 30 = .ok (.getfield 9, 3) := by decide +kernel
theorem dX0_nearestGlyph_33 : decode cX0_nearestGlyph 33 = .ok (.iload 4, 2) := by decide +kernel
theorem dX0_nearestGlyph_35 : decode cX0_nearestGlyph 35 = .ok (.iaload, 1) := by decide +kernel
theorem dX0_nearestGlyph_36 : decode cX0_nearestGlyph 36 = .ok (.invokestatic 63, 3) := by decide +kernel
theorem dX0_nearestGlyph_39 : decode cX0_nearestGlyph 39 = .ok (.iload_n 1, 1) := by decide +kernel
theorem dX0_nearestGlyph_40 : decode cX0_nearestGlyph 40 = .ok (.aload_n 0, 1) := by decide +kernel
theorem dX0_nearestGlyph_41 : decode cX0_nearestGlyph 41 = .ok (.getfield 9, 3) := by decide +kernel
theorem dX0_nearestGlyph_44 : decode cX0_nearestGlyph 44 = .ok (.iload_n 3, 1) := by decide +kernel
theorem dX0_nearestGlyph_45 : decode cX0_nearestGlyph 45 = .ok (.iaload, 1) := by decide +kernel
theorem dX0_nearestGlyph_46 : decode cX0_nearestGlyph 46 = .ok (.invokestatic 63, 3) := by decide +kernel
theorem dX0_nearestGlyph_49 : decode cX0_nearestGlyph 49 = .ok (.if_icmp .ge 6, 3) := by decide +kernel
theorem dX0_nearestGlyph_52 : decode cX0_nearestGlyph 52 = .ok (.iload 4, 2) := by decide +kernel
theorem dX0_nearestGlyph_54 : decode cX0_nearestGlyph 54 = .ok (.istore_n 3, 1) := by decide +kernel
theorem dX0_nearestGlyph_55 : decode cX0_nearestGlyph 55 = .ok (.iinc 4 1, 3) := by decide +kernel
theorem dX0_nearestGlyph_58 : decode cX0_nearestGlyph 58 = .ok (.goto (-43), 3) := by decide +kernel
theorem dX0_nearestGlyph_61 : decode cX0_nearestGlyph 61 = .ok (.iload_n 3, 1) := by decide +kernel
theorem dX0_nearestGlyph_62 : decode cX0_nearestGlyph 62 = .ok (.ireturn, 1) := by decide +kernel
theorem dX0_forgetWalks_0 : decode cX0_forgetWalks 0 = .ok (.aload_n 0, 1) := by decide +kernel
theorem dX0_forgetWalks_1 : decode cX0_forgetWalks 1 = .ok (.iconst 0, 1) := by decide +kernel
theorem dX0_forgetWalks_2 : decode cX0_forgetWalks 2 = .ok (.putfield 35, 3) := by decide +kernel
theorem dX0_forgetWalks_5 : decode cX0_forgetWalks 5 = .ok (.return_, 1) := by decide +kernel
set_option maxRecDepth 20000 in
theorem ggX0_stepsToArrive_X0_nextWay : GoodIn wsX0_stepsToArrive wsX0_nextWay := goodIn_r _ [7, 2, 8, 9, 6, 10, 11, 12, 13, 14, 15, 16, 17, 18, 19, 20, 21, 22, 23, 24, 25, 26, 27, 28, 29, 30, 31, 32, 33, 34, 35, 36, 37, 38, 39, 40, 41, 42, 43, 44, 45, 46, 47, 48, 49, 50, 51, 52] (by decide +kernel) (by decide +kernel)
set_option maxRecDepth 20000 in
theorem gX0_stepsToArrive_X0_nextWay : GoodIn wsX0_stepsToArrive (wsV RX0 187 RX0 yX0_nextWay wsX0_nextWay) := goodIn_app (goodIn_of _ (by decide +kernel)) ggX0_stepsToArrive_X0_nextWay
theorem dX0_stepsToArrive_0 : decode cX0_stepsToArrive 0 = .ok (.iload_n 1, 1) := by decide +kernel
theorem dX0_stepsToArrive_1 : decode cX0_stepsToArrive 1 = .ok (.istore_n 3, 1) := by decide +kernel
theorem dX0_stepsToArrive_2 : decode cX0_stepsToArrive 2 = .ok (.iconst 0, 1) := by decide +kernel
theorem dX0_stepsToArrive_3 : decode cX0_stepsToArrive 3 = .ok (.istore 4, 2) := by decide +kernel
theorem dX0_stepsToArrive_5 : decode cX0_stepsToArrive 5 = .ok (.iconst 0, 1) := by decide +kernel
theorem dX0_stepsToArrive_6 : decode cX0_stepsToArrive 6 = .ok (.istore 5, 2) := by decide +kernel
theorem dX0_stepsToArrive_8 : decode cX0_stepsToArrive 8 = .ok (.iload 5, 2) := by decide +kernel
theorem dX0_stepsToArrive_10 : decode cX0_stepsToArrive 10 = .ok (.bipush 30, 2) := by decide +kernel
theorem dX0_stepsToArrive_12 : decode cX0_stepsToArrive 12 = .ok (.if_icmp .gt 57, 3) := by decide +kernel
theorem dX0_stepsToArrive_15 : decode cX0_stepsToArrive 15 = .ok (.aload_n 0, 1) := by decide +kernel
theorem dX0_stepsToArrive_16 : decode cX0_stepsToArrive 16 = .ok (.getfield 19, 3) := by decide +kernel
theorem dX0_stepsToArrive_19 : decode cX0_stepsToArrive 19 = .ok (.iload_n 3, 1) := by decide +kernel
theorem dX0_stepsToArrive_20 : decode cX0_stepsToArrive 20 = .ok (.iaload, 1) := by decide +kernel
theorem dX0_stepsToArrive_21 : decode cX0_stepsToArrive 21 = .ok (.iload_n 2, 1) := by decide +kernel
theorem dX0_stepsToArrive_22 : decode cX0_stepsToArrive 22 = .ok (.if_icmp .ne 6, 3) := by decide +kernel
theorem dX0_stepsToArrive_25 : decode cX0_stepsToArrive 25 = .ok (.iload 5, 2) := by decide +kernel
theorem dX0_stepsToArrive_27 : decode cX0_stepsToArrive 27 = .ok (.ireturn, 1) := by decide +kernel
theorem dX0_stepsToArrive_28 : decode cX0_stepsToArrive 28 = .ok (.aload_n 0, 1) := by decide +kernel
theorem dX0_stepsToArrive_29 : decode cX0_stepsToArrive 29 = .ok (.iload_n 3, 1) := by decide +kernel
theorem dX0_stepsToArrive_30 : decode cX0_stepsToArrive 30 = .ok (.iload_n 2, 1) := by decide +kernel
theorem dX0_stepsToArrive_31 : decode cX0_stepsToArrive 31 = .ok (.iload 4, 2) := by decide +kernel
theorem dX0_stepsToArrive_33 : decode cX0_stepsToArrive 33 = .ok (.invokevirtual 187, 3) := by decide +kernel
theorem dX0_stepsToArrive_36 : decode cX0_stepsToArrive 36 = .ok (.istore 6, 2) := by decide +kernel
theorem dX0_stepsToArrive_38 : decode cX0_stepsToArrive 38 = .ok (.iload 6, 2) := by decide +kernel
theorem dX0_stepsToArrive_40 : decode cX0_stepsToArrive 40 = .ok (.iconst (-1), 1) := by decide +kernel
theorem dX0_stepsToArrive_41 : decode cX0_stepsToArrive 41 = .ok (.if_icmp .ne 5, 3) := by decide +kernel
theorem dX0_stepsToArrive_44 : decode cX0_stepsToArrive 44 = .ok (.iconst (-1), 1) := by decide +kernel
theorem dX0_stepsToArrive_45 : decode cX0_stepsToArrive 45 = .ok (.ireturn, 1) := by decide +kernel
theorem dX0_stepsToArrive_46 : decode cX0_stepsToArrive 46 = .ok (.iload 4, 2) := by decide +kernel
theorem dX0_stepsToArrive_48 : decode cX0_stepsToArrive 48 = .ok (.iconst 1, 1) := by decide +kernel
theorem dX0_stepsToArrive_49 : decode cX0_stepsToArrive 49 = .ok (.iload 6, 2) := by decide +kernel
theorem dX0_stepsToArrive_51 : decode cX0_stepsToArrive 51 = .ok (.ishl, 1) := by decide +kernel
theorem dX0_stepsToArrive_52 : decode cX0_stepsToArrive 52 = .ok (.ior, 1) := by decide +kernel
theorem dX0_stepsToArrive_53 : decode cX0_stepsToArrive 53 = .ok (.istore 4, 2) := by decide +kernel
theorem dX0_stepsToArrive_55 : decode cX0_stepsToArrive 55 = .ok (.aload_n 0, 1) := by decide +kernel
theorem dX0_stepsToArrive_56 : decode cX0_stepsToArrive 56 = .ok (.getfield 16, 3) := by decide +kernel
theorem dX0_stepsToArrive_59 : decode cX0_stepsToArrive 59 = .ok (.iload 6, 2) := by decide +kernel
theorem dX0_stepsToArrive_61 : decode cX0_stepsToArrive 61 = .ok (.iaload, 1) := by decide +kernel
theorem dX0_stepsToArrive_62 : decode cX0_stepsToArrive 62 = .ok (.istore_n 3, 1) := by decide +kernel
theorem dX0_stepsToArrive_63 : decode cX0_stepsToArrive 63 = .ok (.iinc 5 1, 3) := by decide +kernel
theorem dX0_stepsToArrive_66 : decode cX0_stepsToArrive 66 = .ok (.goto (-58), 3) := by decide +kernel
theorem dX0_stepsToArrive_69 : decode cX0_stepsToArrive 69 = .ok (.iconst (-1), 1) := by decide +kernel
theorem dX0_stepsToArrive_70 : decode cX0_stepsToArrive 70 = .ok (.ireturn, 1) := by decide +kernel
set_option maxRecDepth 20000 in
theorem ggX0_placeReached_X0_nextWay : GoodIn wsX0_placeReached wsX0_nextWay := goodIn_r _ [7, 2, 8, 9, 6, 10, 11, 12, 13, 14, 15, 16, 17, 18, 19, 20, 21, 22, 23, 24, 25, 26, 27, 28, 29, 30, 31, 32, 33, 34, 35, 36, 37, 38, 39, 40, 41, 42, 43, 44, 45, 46, 47, 48, 49, 50, 51, 52] (by decide +kernel) (by decide +kernel)
set_option maxRecDepth 20000 in
theorem gX0_placeReached_X0_nextWay : GoodIn wsX0_placeReached (wsV RX0 187 RX0 yX0_nextWay wsX0_nextWay) := goodIn_app (goodIn_of _ (by decide +kernel)) ggX0_placeReached_X0_nextWay
theorem dX0_placeReached_0 : decode cX0_placeReached 0 = .ok (.iload_n 1, 1) := by decide +kernel
theorem dX0_placeReached_1 : decode cX0_placeReached 1 = .ok (.istore 4, 2) := by decide +kernel
theorem dX0_placeReached_3 : decode cX0_placeReached 3 = .ok (.iconst 0, 1) := by decide +kernel
theorem dX0_placeReached_4 : decode cX0_placeReached 4 = .ok (.istore 5, 2) := by decide +kernel
theorem dX0_placeReached_6 : decode cX0_placeReached 6 = .ok (.iconst 0, 1) := by decide +kernel
theorem dX0_placeReached_7 : decode cX0_placeReached 7 = .ok (.istore 6, 2) := by decide +kernel
theorem dX0_placeReached_9 : decode cX0_placeReached 9 = .ok (.iload 6, 2) := by decide +kernel
theorem dX0_placeReached_11 : decode cX0_placeReached 11 = .ok (.iload_n 3, 1) := by decide +kernel
theorem dX0_placeReached_12 : decode cX0_placeReached 12 = .ok (.if_icmp .ge 58, 3) := by decide +kernel
theorem dX0_placeReached_15 : decode cX0_placeReached 15 = .ok (.aload_n 0, 1) := by decide +kernel
theorem dX0_placeReached_16 : decode cX0_placeReached 16 = .ok (.getfield 19, 3) := by decide +kernel
theorem dX0_placeReached_19 : decode cX0_placeReached 19 = .ok (.iload 4, 2) := by decide +kernel
theorem dX0_placeReached_21 : decode cX0_placeReached 21 = .ok (.iaload, 1) := by decide +kernel
theorem dX0_placeReached_22 : decode cX0_placeReached 22 = .ok (.iload_n 2, 1) := by decide +kernel
theorem dX0_placeReached_23 : decode cX0_placeReached 23 = .ok (.if_icmp .eq 47, 3) := by decide +kernel
theorem dX0_placeReached_26 : decode cX0_placeReached 26 = .ok (.aload_n 0, 1) := by decide +kernel
theorem dX0_placeReached_27 : decode cX0_placeReached 27 = .ok (.iload 4, 2) := by decide +kernel
theorem dX0_placeReached_29 : decode cX0_placeReached 29 = .ok (.iload_n 2, 1) := by decide +kernel
theorem dX0_placeReached_30 : decode cX0_placeReached 30 = .ok (.iload 5, 2) := by decide +kernel
theorem dX0_placeReached_32 : decode cX0_placeReached 32 = .ok (.invokevirtual 187, 3) := by decide +kernel
theorem dX0_placeReached_35 : decode cX0_placeReached 35 = .ok (.istore 7, 2) := by decide +kernel
theorem dX0_placeReached_37 : decode cX0_placeReached 37 = .ok (.iload 7, 2) := by decide +kernel
theorem dX0_placeReached_39 : decode cX0_placeReached 39 = .ok (.iconst (-1), 1) := by decide +kernel
theorem dX0_placeReached_40 : decode cX0_placeReached 40 = .ok (.if_icmp .ne 6, 3) := by decide +kernel
theorem dX0_placeReached_43 : decode cX0_placeReached 43 = .ok (.iload 4, 2) := by decide +kernel
theorem dX0_placeReached_45 : decode cX0_placeReached 45 = .ok (.ireturn, 1) := by decide +kernel
theorem dX0_placeReached_46 : decode cX0_placeReached 46 = .ok (.iload 5, 2) := by decide +kernel
theorem dX0_placeReached_48 : decode cX0_placeReached 48 = .ok (.iconst 1, 1) := by decide +kernel
theorem dX0_placeReached_49 : decode cX0_placeReached 49 = .ok (.iload 7, 2) := by decide +kernel
theorem dX0_placeReached_51 : decode cX0_placeReached 51 = .ok (.ishl, 1) := by decide +kernel
theorem dX0_placeReached_52 : decode cX0_placeReached 52 = .ok (.ior, 1) := by decide +kernel
theorem dX0_placeReached_53 : decode cX0_placeReached 53 = .ok (.istore 5, 2) := by decide +kernel
theorem dX0_placeReached_55 : decode cX0_placeReached 55 = .ok (.aload_n 0, 1) := by decide +kernel
theorem dX0_placeReached_56 : decode cX0_placeReached 56 = .ok (.getfield 16, 3) := by decide +kernel
theorem dX0_placeReached_59 : decode cX0_placeReached 59 = .ok (.iload 7, 2) := by decide +kernel
theorem dX0_placeReached_61 : decode cX0_placeReached 61 = .ok (.iaload, 1) := by decide +kernel
theorem dX0_placeReached_62 : decode cX0_placeReached 62 = .ok (.istore 4, 2) := by decide +kernel
theorem dX0_placeReached_64 : decode cX0_placeReached 64 = .ok (.iinc 6 1, 3) := by decide +kernel
theorem dX0_placeReached_67 : decode cX0_placeReached 67 = .ok (.goto (-58), 3) := by decide +kernel
theorem dX0_placeReached_70 : decode cX0_placeReached 70 = .ok (.iload 4, 2) := by decide +kernel
theorem dX0_placeReached_72 : decode cX0_placeReached 72 = .ok (.ireturn, 1) := by decide +kernel
set_option maxRecDepth 20000 in
theorem ggX0_nextWay_X0_wayOf : GoodIn wsX0_nextWay wsX0_wayOf := goodIn_r _ [5] (by decide +kernel) (by decide +kernel)
set_option maxRecDepth 20000 in
theorem gX0_nextWay_X0_wayOf : GoodIn wsX0_nextWay (va_wsS RX0 88 yX0_wayOf wsX0_wayOf) := goodIn_app (goodIn_of _ (by decide +kernel)) ggX0_nextWay_X0_wayOf
set_option maxRecDepth 20000 in
theorem ggX0_nextWay_X0_readText : GoodIn wsX0_nextWay wsX0_readText := goodIn_r _ [9, 10, 11, 12, 13, 14, 4, 15, 16, 17, 18, 19, 20, 21, 22, 23, 24, 25, 26, 27, 28, 29, 30, 31, 32, 33, 34, 35, 36, 37, 38, 39, 40, 41, 42, 43, 44, 45, 46, 47] (by decide +kernel) (by decide +kernel)
set_option maxRecDepth 20000 in
theorem gX0_nextWay_X0_readText : GoodIn wsX0_nextWay (wsV RX0 120 RX0 yX0_readText wsX0_readText) := goodIn_app (goodIn_of _ (by decide +kernel)) ggX0_nextWay_X0_readText
theorem dX0_nextWay_0 : decode cX0_nextWay 0 = .ok (.iconst (-1), 1) := by decide +kernel
theorem dX0_nextWay_1 : decode cX0_nextWay 1 = .ok (.istore 4, 2) := by decide +kernel
theorem dX0_nextWay_3 : decode cX0_nextWay 3 = .ok (.iconst 0, 1) := by decide +kernel
theorem dX0_nextWay_4 : decode cX0_nextWay 4 = .ok (.istore 5, 2) := by decide +kernel
theorem dX0_nextWay_6 : decode cX0_nextWay 6 = .ok (.iload 5, 2) := by decide +kernel
theorem dX0_nextWay_8 : decode cX0_nextWay 8 = .ok (.iconst 4, 1) := by decide +kernel
theorem dX0_nextWay_9 : decode cX0_nextWay 9 = .ok (.if_icmp .ge 60, 3) := by decide +kernel
theorem dX0_nextWay_12 : decode cX0_nextWay 12 = .ok (.iload_n 1, 1) := by decide +kernel
theorem dX0_nextWay_13 : decode cX0_nextWay 13 = .ok (.iload 5, 2) := by decide +kernel
theorem dX0_nextWay_15 : decode cX0_nextWay 15 = .ok (.invokestatic 88, 3) := by decide +kernel
theorem dX0_nextWay_18 : decode cX0_nextWay 18 = .ok (.istore 6, 2) := by decide +kernel
theorem dX0_nextWay_20 : decode cX0_nextWay 20 = .ok (.aload_n 0, 1) := by decide +kernel
theorem dX0_nextWay_21 : decode cX0_nextWay 21 = .ok (.getfield 16, 3) := by decide +kernel
theorem dX0_nextWay_24 : decode cX0_nextWay 24 = .ok (.iload 6, 2) := by decide +kernel
theorem dX0_nextWay_26 : decode cX0_nextWay 26 = .ok (.iaload, 1) := by decide +kernel
theorem dX0_nextWay_27 : decode cX0_nextWay 27 = .ok (.iconst (-1), 1) := by decide +kernel
theorem dX0_nextWay_28 : decode cX0_nextWay 28 = .ok (.if_icmp .eq 35, 3) := by decide +kernel
theorem dX0_nextWay_31 : decode cX0_nextWay 31 = .ok (.aload_n 0, 1) := by decide +kernel
theorem dX0_nextWay_32 : decode cX0_nextWay 32 = .ok (.iload 6, 2) := by decide +kernel
theorem dX0_nextWay_34 : decode cX0_nextWay 34 = .ok (.invokevirtual 120, 3) := by decide +kernel
theorem dX0_nextWay_37 : decode cX0_nextWay 37 = .ok (.iload_n 2, 1) := by decide +kernel
theorem dX0_nextWay_38 : decode cX0_nextWay 38 = .ok (.if_icmp .ne 6, 3) := by decide +kernel
theorem dX0_nextWay_41 : decode cX0_nextWay 41 = .ok (.iload 6, 2) := by decide +kernel
theorem dX0_nextWay_43 : decode cX0_nextWay 43 = .ok (.ireturn, 1) := by decide +kernel
theorem dX0_nextWay_44 : decode cX0_nextWay 44 = .ok (.iload 4, 2) := by decide +kernel
theorem dX0_nextWay_46 : decode cX0_nextWay 46 = .ok (.iconst (-1), 1) := by decide +kernel
theorem dX0_nextWay_47 : decode cX0_nextWay 47 = .ok (.if_icmp .ne 16, 3) := by decide +kernel
theorem dX0_nextWay_50 : decode cX0_nextWay 50 = .ok (.iload_n 3, 1) := by decide +kernel
theorem dX0_nextWay_51 : decode cX0_nextWay 51 = .ok (.iconst 1, 1) := by decide +kernel
theorem dX0_nextWay_52 : decode cX0_nextWay 52 = .ok (.iload 6, 2) := by decide +kernel
theorem dX0_nextWay_54 : decode cX0_nextWay 54 = .ok (.ishl, 1) := by decide +kernel
theorem dX0_nextWay_55 : decode cX0_nextWay 55 = .ok (.iand, 1) := by decide +kernel
theorem dX0_nextWay_56 : decode cX0_nextWay 56 = .ok (.ifCond .ne 7, 3) := by decide +kernel
theorem dX0_nextWay_59 : decode cX0_nextWay 59 = .ok (.iload 6, 2) := by decide +kernel
theorem dX0_nextWay_61 : decode cX0_nextWay 61 = .ok (.istore 4, 2) := by decide +kernel
theorem dX0_nextWay_63 : decode cX0_nextWay 63 = .ok (.iinc 5 1, 3) := by decide +kernel
theorem dX0_nextWay_66 : decode cX0_nextWay 66 = .ok (.goto (-60), 3) := by decide +kernel
theorem dX0_nextWay_69 : decode cX0_nextWay 69 = .ok (.iload 4, 2) := by decide +kernel
theorem dX0_nextWay_71 : decode cX0_nextWay 71 = .ok (.ireturn, 1) := by decide +kernel
