theorem dX1_init_0 : decode cX1_init 0 = .ok (.aload_n 0, 1) := by decide +kernel
theorem dX1_init_1 : decode cX1_init 1 = .ok (.invokespecial 1, 3) := by decide +kernel
theorem dX1_init_4 : decode cX1_init 4 = .ok (.aload_n 0, 1) := by decide +kernel
theorem dX1_init_5 : decode cX1_init 5 = .ok (.bipush 8, 2) := by decide +kernel
theorem dX1_init_7 : decode cX1_init 7 = .ok (.newarray .int, 2) := by decide +kernel
theorem dX1_init_9 : decode cX1_init 9 = .ok (.putfield 7, 3) := by decide +kernel
theorem dX1_init_12 : decode cX1_init 12 = .ok (.aload_n 0, 1) := by decide +kernel
theorem dX1_init_13 : decode cX1_init 13 = .ok (.bipush 64, 2) := by decide +kernel
theorem dX1_init_15 : decode cX1_init 15 = .ok (.newarray .int, 2) := by decide +kernel
theorem dX1_init_17 : decode cX1_init 17 = .ok (.putfield 13, 3) := by decide +kernel
theorem dX1_init_20 : decode cX1_init 20 = .ok (.aload_n 0, 1) := by decide +kernel
theorem dX1_init_21 : decode cX1_init 21 = .ok (.bipush 32, 2) := by decide +kernel
theorem dX1_init_23 : decode cX1_init 23 = .ok (.newarray .int, 2) := by decide +kernel
theorem dX1_init_25 : decode cX1_init 25 = .ok (.putfield 16, 3) := by decide +kernel
theorem dX1_init_28 : decode cX1_init 28 = .ok (.aload_n 0, 1) := by decide +kernel
theorem dX1_init_29 : decode cX1_init 29 = .ok (.bipush 8, 2) := by decide +kernel
theorem dX1_init_31 : decode cX1_init 31 = .ok (.newarray .int, 2) := by decide +kernel
theorem dX1_init_33 : decode cX1_init 33 = .ok (.putfield 19, 3) := by decide +kernel
theorem dX1_init_36 : decode cX1_init 36 = .ok (.aload_n 0, 1) := by decide +kernel
theorem dX1_init_37 : decode cX1_init 37 = .ok (.bipush 8, 2) := by decide +kernel
theorem dX1_init_39 : decode cX1_init 39 = .ok (.newarray .int, 2) := by decide +kernel
theorem dX1_init_41 : decode cX1_init 41 = .ok (.putfield 22, 3) := by decide +kernel
theorem dX1_init_44 : decode cX1_init 44 = .ok (.aload_n 0, 1) := by decide +kernel
theorem dX1_init_45 : decode cX1_init 45 = .ok (.bipush 32, 2) := by decide +kernel
theorem dX1_init_47 : decode cX1_init 47 = .ok (.newarray .int, 2) := by decide +kernel
theorem dX1_init_49 : decode cX1_init 49 = .ok (.putfield 25, 3) := by decide +kernel
theorem dX1_init_52 : decode cX1_init 52 = .ok (.aload_n 0, 1) := by decide +kernel
theorem dX1_init_53 : decode cX1_init 53 = .ok (.bipush 32, 2) := by decide +kernel
theorem dX1_init_55 : decode cX1_init 55 = .ok (.newarray .int, 2) := by decide +kernel
theorem dX1_init_57 : decode cX1_init 57 = .ok (.putfield 28, 3) := by decide +kernel
theorem dX1_init_60 : decode cX1_init 60 = .ok (.aload_n 0, 1) := by decide +kernel
theorem dX1_init_61 : decode cX1_init 61 = .ok (.bipush 32, 2) := by decide +kernel
theorem dX1_init_63 : decode cX1_init 63 = .ok (.newarray .int, 2) := by decide +kernel
theorem dX1_init_65 : decode cX1_init 65 = .ok (.putfield 31, 3) := by decide +kernel
theorem dX1_init_68 : decode cX1_init 68 = .ok (.aload_n 0, 1) := by decide +kernel
theorem dX1_init_69 : decode cX1_init 69 = .ok (.sipush 160, 3) := by decide +kernel
theorem dX1_init_72 : decode cX1_init 72 = .ok (.newarray .int, 2) := by decide +kernel
theorem dX1_init_74 : decode cX1_init 74 = .ok (.putfield 34, 3) := by decide +kernel
theorem dX1_init_77 : decode cX1_init 77 = .ok (.aload_n 0, 1) := by decide +kernel
theorem dX1_init_78 : decode cX1_init 78 = .ok (.bipush 32, 2) := by decide +kernel
theorem dX1_init_80 : decode cX1_init 80 = .ok (.newarray .boolean, 2) := by decide +kernel
theorem dX1_init_82 : decode cX1_init 82 = .ok (.putfield 37, 3) := by decide +kernel
theorem dX1_init_85 : decode cX1_init 85 = .ok (.iconst 0, 1) := by decide +kernel
theorem dX1_init_86 : decode cX1_init 86 = .ok (.istore_n 1, 1) := by decide +kernel
theorem dX1_init_87 : decode cX1_init 87 = .ok (.iload_n 1, 1) := by decide +kernel
theorem dX1_init_88 : decode cX1_init 88 = .ok (.bipush 64, 2) := by decide +kernel
theorem dX1_init_90 : decode cX1_init 90 = .ok (.if_icmp .ge 16, 3) := by decide +kernel
theorem dX1_init_93 : decode cX1_init 93 = .ok (.aload_n 0, 1) := by decide +kernel
theorem dX1_init_94 : decode cX1_init 94 = .ok (.getfield 13, 3) := by decide +kernel
theorem dX1_init_97 : decode cX1_init 97 = .ok (.iload_n 1, 1) := by decide +kernel
theorem dX1_init_98 : decode cX1_init 98 = .ok (.iconst 1, 1) := by decide +kernel
theorem dX1_init_99 : decode cX1_init 99 = .ok (.iastore, 1) := by decide +kernel
theorem dX1_init_100 : decode cX1_init 100 = .ok (.iinc 1 1, 3) := by decide +kernel
theorem dX1_init_103 : decode cX1_init 103 = .ok (.goto (-16), 3) := by decide +kernel
theorem dX1_init_106 : decode cX1_init 106 = .ok (.iconst 0, 1) := by decide +kernel
theorem dX1_init_107 : decode cX1_init 107 = .ok (.istore_n 1, 1) := by decide +kernel
theorem dX1_init_108 : decode cX1_init 108 = .ok (.iload_n 1, 1) := by decide +kernel
theorem dX1_init_109 : decode cX1_init 109 = .ok (.bipush 32, 2) := by decide +kernel
theorem dX1_init_111 : decode cX1_init 111 = .ok (.if_icmp .ge 16, 3) := by decide +kernel
theorem dX1_init_114 : decode cX1_init 114 = .ok (.aload_n 0, 1) := by decide +kernel
theorem dX1_init_115 : decode cX1_init 115 = .ok (.getfield 16, 3) := by decide +kernel
theorem dX1_init_118 : decode cX1_init 118 = .ok (.iload_n 1, 1) := by decide +kernel
theorem dX1_init_119 : decode cX1_init 119 = .ok (.iconst (-1), 1) := by decide +kernel
theorem dX1_init_120 : decode cX1_init 120 = .ok (.iastore, 1) := by decide +kernel
theorem dX1_init_121 : decode cX1_init 121 = .ok (.iinc 1 1, 3) := by decide +kernel
theorem dX1_init_124 : decode cX1_init 124 = .ok (.goto (-16), 3) := by decide +kernel
theorem dX1_init_127 : decode cX1_init 127 = .ok (.return_, 1) := by decide +kernel
theorem dX1_thrown_0 : decode cX1_thrown 0 = .ok (.aload_n 0, 1) := by decide +kernel
theorem dX1_thrown_1 : decode cX1_thrown 1 = .ok (.getfield 41, 3) := by decide +kernel
theorem dX1_thrown_4 : decode cX1_thrown 4 = .ok (.ireturn, 1) := by decide +kernel
theorem dX1_fails_0 : decode cX1_fails 0 = .ok (.aload_n 0, 1) := by decide +kernel
theorem dX1_fails_1 : decode cX1_fails 1 = .ok (.iload_n 1, 1) := by decide +kernel
theorem dX1_fails_2 : decode cX1_fails 2 = .ok (.putfield 41, 3) := by decide +kernel
theorem dX1_fails_5 : decode cX1_fails 5 = .ok (.iconst 0, 1) := by decide +kernel
theorem dX1_fails_6 : decode cX1_fails 6 = .ok (.ireturn, 1) := by decide +kernel
theorem dX1_in_0 : decode cX1_in 0 = .ok (.iload_n 0, 1) := by decide +kernel
theorem dX1_in_1 : decode cX1_in 1 = .ok (.iload_n 1, 1) := by decide +kernel
theorem dX1_in_2 : decode cX1_in 2 = .ok (.if_icmp .lt 12, 3) := by decide +kernel
theorem dX1_in_5 : decode cX1_in 5 = .ok (.iload_n 0, 1) := by decide +kernel
theorem dX1_in_6 : decode cX1_in 6 = .ok (.iload_n 2, 1) := by decide +kernel
theorem dX1_in_7 : decode cX1_in 7 = .ok (.if_icmp .gt 7, 3) := by decide +kernel
theorem dX1_in_10 : decode cX1_in 10 = .ok (.iconst 1, 1) := by decide +kernel
theorem dX1_in_11 : decode cX1_in 11 = .ok (.goto 4, 3) := by decide +kernel
theorem dX1_in_14 : decode cX1_in 14 = .ok (.iconst 0, 1) := by decide +kernel
theorem dX1_in_15 : decode cX1_in 15 = .ok (.ireturn, 1) := by decide +kernel
set_option maxRecDepth 20000 in
theorem ggX1_isGlyph_X1_in : GoodIn wsX1_isGlyph wsX1_in := goodIn_r _ [4] (by decide +kernel) (by decide +kernel)
set_option maxRecDepth 20000 in
theorem gX1_isGlyph_X1_in : GoodIn wsX1_isGlyph (va_wsS RX1 45 yX1_in wsX1_in) := goodIn_app (goodIn_of _ (by decide +kernel)) ggX1_isGlyph_X1_in
theorem dX1_isGlyph_0 : decode cX1_isGlyph 0 = .ok (.iload_n 0, 1) := by decide +kernel
theorem dX1_isGlyph_1 : decode cX1_isGlyph 1 = .ok (.iconst 0, 1) := by decide +kernel
theorem dX1_isGlyph_2 : decode cX1_isGlyph 2 = .ok (.bipush 7, 2) := by decide +kernel
theorem dX1_isGlyph_4 : decode cX1_isGlyph 4 = .ok (.invokestatic 45, 3) := by decide +kernel
theorem dX1_isGlyph_7 : decode cX1_isGlyph 7 = .ok (.ireturn, 1) := by decide +kernel
set_option maxRecDepth 20000 in
theorem ggX1_isPlace_X1_in : GoodIn wsX1_isPlace wsX1_in := goodIn_r _ [4] (by decide +kernel) (by decide +kernel)
set_option maxRecDepth 20000 in
theorem gX1_isPlace_X1_in : GoodIn wsX1_isPlace (va_wsS RX1 45 yX1_in wsX1_in) := goodIn_app (goodIn_of _ (by decide +kernel)) ggX1_isPlace_X1_in
theorem dX1_isPlace_0 : decode cX1_isPlace 0 = .ok (.iload_n 0, 1) := by decide +kernel
theorem dX1_isPlace_1 : decode cX1_isPlace 1 = .ok (.iconst 0, 1) := by decide +kernel
theorem dX1_isPlace_2 : decode cX1_isPlace 2 = .ok (.bipush 7, 2) := by decide +kernel
theorem dX1_isPlace_4 : decode cX1_isPlace 4 = .ok (.invokestatic 45, 3) := by decide +kernel
theorem dX1_isPlace_7 : decode cX1_isPlace 7 = .ok (.ireturn, 1) := by decide +kernel
set_option maxRecDepth 20000 in
theorem ggX1_isExit_X1_isPlace : GoodIn wsX1_isExit wsX1_isPlace := goodIn_r _ [4, 5, 6, 3, 7] (by decide +kernel) (by decide +kernel)
set_option maxRecDepth 20000 in
theorem gX1_isExit_X1_isPlace : GoodIn wsX1_isExit (va_wsS RX1 49 yX1_isPlace wsX1_isPlace) := goodIn_app (goodIn_of _ (by decide +kernel)) ggX1_isExit_X1_isPlace
set_option maxRecDepth 20000 in
theorem ggX1_isExit_X1_in : GoodIn wsX1_isExit wsX1_in := goodIn_r _ [7] (by decide +kernel) (by decide +kernel)
set_option maxRecDepth 20000 in
theorem gX1_isExit_X1_in : GoodIn wsX1_isExit (va_wsS RX1 45 yX1_in wsX1_in) := goodIn_app (goodIn_of _ (by decide +kernel)) ggX1_isExit_X1_in
theorem dX1_isExit_0 : decode cX1_isExit 0 = .ok (.iload_n 0, 1) := by decide +kernel
theorem dX1_isExit_1 : decode cX1_isExit 1 = .ok (.invokestatic 49, 3) := by decide +kernel
theorem dX1_isExit_4 : decode cX1_isExit 4 = .ok (.ifCond .eq 16, 3) := by decide +kernel
theorem dX1_isExit_7 : decode cX1_isExit 7 = .ok (.iload_n 1, 1) := by decide +kernel
theorem dX1_isExit_8 : decode cX1_isExit 8 = .ok (.iconst 0, 1) := by decide +kernel
theorem dX1_isExit_9 : decode cX1_isExit 9 = .ok (.iconst 3, 1) := by decide +kernel
theorem dX1_isExit_10 : decode cX1_isExit 10 = .ok (.invokestatic 45, 3) := by decide +kernel
theorem dX1_isExit_13 : decode cX1_isExit 13 = .ok (.ifCond .eq 7, 3) := by decide +kernel
theorem dX1_isExit_16 : decode cX1_isExit 16 = .ok (.iconst 1, 1) := by decide +kernel
theorem dX1_isExit_17 : decode cX1_isExit 17 = .ok (.goto 4, 3) := by decide +kernel
theorem dX1_isExit_20 : decode cX1_isExit 20 = .ok (.iconst 0, 1) := by decide +kernel
theorem dX1_isExit_21 : decode cX1_isExit 21 = .ok (.ireturn, 1) := by decide +kernel
theorem dX1_power_0 : decode cX1_power 0 = .ok (.iconst 1, 1) := by decide +kernel
theorem dX1_power_1 : decode cX1_power 1 = .ok (.istore_n 1, 1) := by decide +kernel
theorem dX1_power_2 : decode cX1_power 2 = .ok (.iconst 0, 1) := by decide +kernel
theorem dX1_power_3 : decode cX1_power 3 = .ok (.istore_n 2, 1) := by decide +kernel
theorem dX1_power_4 : decode cX1_power 4 = .ok (.iload_n 2, 1) := by decide +kernel
theorem dX1_power_5 : decode cX1_power 5 = .ok (.iload_n 0, 1) := by decide +kernel
theorem dX1_power_6 : decode cX1_power 6 = .ok (.if_icmp .ge 14, 3) := by decide +kernel
theorem dX1_power_9 : decode cX1_power 9 = .ok (.iload_n 1, 1) := by decide +kernel
theorem dX1_power_10 : decode cX1_power 10 = .ok (.bipush 8, 2) := by decide +kernel
theorem dX1_power_12 : decode cX1_power 12 = .ok (.imul, 1) := by decide +kernel
theorem dX1_power_13 : decode cX1_power 13 = .ok (.istore_n 1, 1) := by decide +kernel
theorem dX1_power_14 : decode cX1_power 14 = .ok (.iinc 2 1, 3) := by decide +kernel
theorem dX1_power_17 : decode cX1_power 17 = .ok (.goto (-13), 3) := by decide +kernel
theorem dX1_power_20 : decode cX1_power 20 = .ok (.iload_n 1, 1) := by decide +kernel
theorem dX1_power_21 : decode cX1_power 21 = .ok (.ireturn, 1) := by decide +kernel
set_option maxRecDepth 20000 in
theorem ggX1_isText_X1_in : GoodIn wsX1_isText wsX1_in := goodIn_r _ [4] (by decide +kernel) (by decide +kernel)
set_option maxRecDepth 20000 in
theorem gX1_isText_X1_in : GoodIn wsX1_isText (va_wsS RX1 45 yX1_in wsX1_in) := goodIn_app (goodIn_of _ (by decide +kernel)) ggX1_isText_X1_in
set_option maxRecDepth 20000 in
theorem ggX1_isText_X1_power : GoodIn wsX1_isText wsX1_power := goodIn_r _ [7] (by decide +kernel) (by decide +kernel)
set_option maxRecDepth 20000 in
theorem gX1_isText_X1_power : GoodIn wsX1_isText (va_wsS RX1 53 yX1_power wsX1_power) := goodIn_app (goodIn_of _ (by decide +kernel)) ggX1_isText_X1_power
theorem dX1_isText_0 : decode cX1_isText 0 = .ok (.iload_n 1, 1) := by decide +kernel
theorem dX1_isText_1 : decode cX1_isText 1 = .ok (.iconst 1, 1) := by decide +kernel
theorem dX1_isText_2 : decode cX1_isText 2 = .ok (.iconst 5, 1) := by decide +kernel
theorem dX1_isText_3 : decode cX1_isText 3 = .ok (.invokestatic 45, 3) := by decide +kernel
theorem dX1_isText_6 : decode cX1_isText 6 = .ok (.ifCond .eq 21, 3) := by decide +kernel
theorem dX1_isText_9 : decode cX1_isText 9 = .ok (.iload_n 0, 1) := by decide +kernel
theorem dX1_isText_10 : decode cX1_isText 10 = .ok (.iconst 0, 1) := by decide +kernel
theorem dX1_isText_11 : decode cX1_isText 11 = .ok (.iload_n 1, 1) := by decide +kernel
theorem dX1_isText_12 : decode cX1_isText 12 = .ok (.invokestatic 53, 3) := by decide +kernel
theorem dX1_isText_15 : decode cX1_isText 15 = .ok (.iconst 1, 1) := by decide +kernel
theorem dX1_isText_16 : decode cX1_isText 16 = .ok (.isub, 1) := by decide +kernel
theorem dX1_isText_17 : decode cX1_isText 17 = .ok (.invokestatic 45, 3) := by decide +kernel
theorem dX1_isText_20 : decode cX1_isText 20 = .ok (.ifCond .eq 7, 3) := by decide +kernel
theorem dX1_isText_23 : decode cX1_isText 23 = .ok (.iconst 1, 1) := by decide +kernel
theorem dX1_isText_24 : decode cX1_isText 24 = .ok (.goto 4, 3) := by decide +kernel
theorem dX1_isText_27 : decode cX1_isText 27 = .ok (.iconst 0, 1) := by decide +kernel
theorem dX1_isText_28 : decode cX1_isText 28 = .ok (.ireturn, 1) := by decide +kernel
set_option maxRecDepth 20000 in
theorem ggX1_glyph_X1_power : GoodIn wsX1_glyph wsX1_power := goodIn_r _ [4] (by decide +kernel) (by decide +kernel)
set_option maxRecDepth 20000 in
theorem gX1_glyph_X1_power : GoodIn wsX1_glyph (va_wsS RX1 53 yX1_power wsX1_power) := goodIn_app (goodIn_of _ (by decide +kernel)) ggX1_glyph_X1_power
theorem dX1_glyph_0 : decode cX1_glyph 0 = .ok (.iload_n 0, 1) := by decide +kernel
theorem dX1_glyph_1 : decode cX1_glyph 1 = .ok (.iload_n 1, 1) := by decide +kernel
theorem dX1_glyph_2 : decode cX1_glyph 2 = .ok (.iconst 1, 1) := by decide +kernel
theorem dX1_glyph_3 : decode cX1_glyph 3 = .ok (.isub, 1) := by decide +kernel
theorem dX1_glyph_4 : decode cX1_glyph 4 = .ok (.iload_n 2, 1) := by decide +kernel
theorem dX1_glyph_5 : decode cX1_glyph 5 = .ok (.isub, 1) := by decide +kernel
theorem dX1_glyph_6 : decode cX1_glyph 6 = .ok (.invokestatic 53, 3) := by decide +kernel
theorem dX1_glyph_9 : decode cX1_glyph 9 = .ok (.idiv, 1) := by decide +kernel
theorem dX1_glyph_10 : decode cX1_glyph 10 = .ok (.bipush 8, 2) := by decide +kernel
theorem dX1_glyph_12 : decode cX1_glyph 12 = .ok (.irem, 1) := by decide +kernel
theorem dX1_glyph_13 : decode cX1_glyph 13 = .ok (.ireturn, 1) := by decide +kernel
theorem dX1_bits_0 : decode cX1_bits 0 = .ok (.iconst 0, 1) := by decide +kernel
theorem dX1_bits_1 : decode cX1_bits 1 = .ok (.istore_n 1, 1) := by decide +kernel
theorem dX1_bits_2 : decode cX1_bits 2 = .ok (.iconst 0, 1) := by decide +kernel
theorem dX1_bits_3 : decode cX1_bits 3 = .ok (.istore_n 2, 1) := by decide +kernel
theorem dX1_bits_4 : decode cX1_bits 4 = .ok (.iload_n 2, 1) := by decide +kernel
theorem dX1_bits_5 : decode cX1_bits 5 = .ok (.bipush 25, 2) := by decide +kernel
theorem dX1_bits_7 : decode cX1_bits 7 = .ok (.if_icmp .ge 17, 3) := by decide +kernel
theorem dX1_bits_10 : decode cX1_bits 10 = .ok (.iload_n 1, 1) := by decide +kernel
theorem dX1_bits_11 : decode cX1_bits 11 = .ok (.iload_n 0, 1) := by decide +kernel
theorem dX1_bits_12 : decode cX1_bits 12 = .ok (.iload_n 2, 1) := by decide +kernel
theorem dX1_bits_13 : decode cX1_bits 13 = .ok (.ishr, 1) := by decide +kernel
theorem dX1_bits_14 : decode cX1_bits 14 = .ok (.iconst 1, 1) := by decide +kernel
theorem dX1_bits_15 : decode cX1_bits 15 = .ok (.iand, 1) := by decide +kernel
theorem dX1_bits_16 : decode cX1_bits 16 = .ok (.iadd, 1) := by decide +kernel
theorem dX1_bits_17 : decode cX1_bits 17 = .ok (.istore_n 1, 1) := by decide +kernel
theorem dX1_bits_18 : decode cX1_bits 18 = .ok (.iinc 2 1, 3) := by decide +kernel
theorem dX1_bits_21 : decode cX1_bits 21 = .ok (.goto (-17), 3) := by decide +kernel
theorem dX1_bits_24 : decode cX1_bits 24 = .ok (.iload_n 1, 1) := by decide +kernel
theorem dX1_bits_25 : decode cX1_bits 25 = .ok (.ireturn, 1) := by decide +kernel
set_option maxRecDepth 20000 in
theorem ggX1_stroke_X1_in : GoodIn wsX1_stroke wsX1_in := goodIn_r _ [6] (by decide +kernel) (by decide +kernel)
set_option maxRecDepth 20000 in
theorem gX1_stroke_X1_in : GoodIn wsX1_stroke (va_wsS RX1 45 yX1_in wsX1_in) := goodIn_app (goodIn_of _ (by decide +kernel)) ggX1_stroke_X1_in
set_option maxRecDepth 20000 in
theorem ggX1_stroke_X1_isGlyph : GoodIn wsX1_stroke wsX1_isGlyph := goodIn_r _ [9, 3, 4, 5, 6] (by decide +kernel) (by decide +kernel)
set_option maxRecDepth 20000 in
theorem gX1_stroke_X1_isGlyph : GoodIn wsX1_stroke (va_wsS RX1 57 yX1_isGlyph wsX1_isGlyph) := goodIn_app (goodIn_of _ (by decide +kernel)) ggX1_stroke_X1_isGlyph
set_option maxRecDepth 20000 in
theorem ggX1_stroke_X1_fails : GoodIn wsX1_stroke wsX1_fails := goodIn_r _ [13, 1, 17, 18, 19, 20, 21, 22, 23, 24, 25, 26, 27, 28, 29, 30, 31] (by decide +kernel) (by decide +kernel)
set_option maxRecDepth 20000 in
theorem gX1_stroke_X1_fails : GoodIn wsX1_stroke (wsV RX1 60 RX1 yX1_fails wsX1_fails) := goodIn_app (goodIn_of _ (by decide +kernel)) ggX1_stroke_X1_fails
set_option maxRecDepth 20000 in
theorem ggX1_stroke_X1_bits : GoodIn wsX1_stroke wsX1_bits := goodIn_r _ [16] (by decide +kernel) (by decide +kernel)
set_option maxRecDepth 20000 in
theorem gX1_stroke_X1_bits : GoodIn wsX1_stroke (va_wsS RX1 63 yX1_bits wsX1_bits) := goodIn_app (goodIn_of _ (by decide +kernel)) ggX1_stroke_X1_bits
theorem dX1_stroke_0 : decode cX1_stroke 0 = .ok (.iload_n 2, 1) := by decide +kernel
theorem dX1_stroke_1 : decode cX1_stroke 1 = .ok (.iconst 0, 1) := by decide +kernel
theorem dX1_stroke_2 : decode cX1_stroke 2 = .ok (.iconst 4, 1) := by decide +kernel
theorem dX1_stroke_3 : decode cX1_stroke 3 = .ok (.invokestatic 45, 3) := by decide +kernel
theorem dX1_stroke_6 : decode cX1_stroke 6 = .ok (.ifCond .eq 36, 3) := by decide +kernel
theorem dX1_stroke_9 : decode cX1_stroke 9 = .ok (.iload_n 3, 1) := by decide +kernel
theorem dX1_stroke_10 : decode cX1_stroke 10 = .ok (.iconst 0, 1) := by decide +kernel
theorem dX1_stroke_11 : decode cX1_stroke 11 = .ok (.iconst 4, 1) := by decide +kernel
theorem dX1_stroke_12 : decode cX1_stroke 12 = .ok (.invokestatic 45, 3) := by decide +kernel
theorem dX1_stroke_15 : decode cX1_stroke 15 = .ok (.ifCond .eq 27, 3) := by decide +kernel
theorem dX1_stroke_18 : decode cX1_stroke 18 = .ok (.iload 4, 2) := by decide +kernel
theorem dX1_stroke_20 : decode cX1_stroke 20 = .ok (.iconst 0, 1) := by decide +kernel
theorem dX1_stroke_21 : decode cX1_stroke 21 = .ok (.iconst 4, 1) := by decide +kernel
theorem dX1_stroke_22 : decode cX1_stroke 22 = .ok (.invokestatic 45, 3) := by decide +kernel
theorem dX1_stroke_25 : decode cX1_stroke 25 = .ok (.ifCond .eq 17, 3) := by decide +kernel
theorem dX1_stroke_28 : decode cX1_stroke 28 = .ok (.iload 5, 2) := by decide +kernel
theorem dX1_stroke_30 : decode cX1_stroke 30 = .ok (.iconst 0, 1) := by decide +kernel
theorem dX1_stroke_31 : decode cX1_stroke 31 = .ok (.iconst 4, 1) := by decide +kernel
theorem dX1_stroke_32 : decode cX1_stroke 32 = .ok (.invokestatic 45, 3) := by decide +kernel
theorem dX1_stroke_35 : decode cX1_stroke 35 = .ok (.ifCond .eq 7, 3) := by decide +kernel
theorem dX1_stroke_38 : decode cX1_stroke 38 = .ok (.iconst 1, 1) := by decide +kernel
theorem dX1_stroke_39 : decode cX1_stroke 39 = .ok (.goto 4, 3) := by decide +kernel
theorem dX1_stroke_42 : decode cX1_stroke 42 = .ok (.iconst 0, 1) := by decide +kernel
theorem dX1_stroke_43 : decode cX1_stroke 43 = .ok (.istore 7, 2) := by decide +kernel
theorem dX1_stroke_45 : decode cX1_stroke 45 = .ok (.iload_n 1, 1) := by decide +kernel
theorem dX1_stroke_46 : decode cX1_stroke 46 = .ok (.invokestatic 57, 3) := by decide +kernel
theorem dX1_stroke_49 : decode cX1_stroke 49 = .ok (.ifCond .ne 9, 3) := by decide +kernel
theorem dX1_stroke_52 : decode cX1_stroke 52 = .ok (.aload_n 0, 1) := by decide +kernel
theorem dX1_stroke_53 : decode cX1_stroke 53 = .ok (.iconst 1, 1) := by decide +kernel
theorem dX1_stroke_54 : decode cX1_stroke 54 = .ok (.invokevirtual 60, 3) := by decide +kernel
theorem dX1_stroke_57 : decode cX1_stroke 57 = .ok (.ireturn, 1) := by decide +kernel
theorem dX1_stroke_58 : decode cX1_stroke 58 = .ok (.iload 4, 2) := by decide +kernel
theorem dX1_stroke_60 : decode cX1_stroke 60 = .ok (.iload_n 2, 1) := by decide +kernel
theorem dX1_stroke_61 : decode cX1_stroke 61 = .ok (.isub, 1) := by decide +kernel
theorem dX1_stroke_62 : decode cX1_stroke 62 = .ok (.istore 8, 2) := by decide +kernel
theorem dX1_stroke_64 : decode cX1_stroke 64 = .ok (.iload 5, 2) := by decide +kernel
theorem dX1_stroke_66 : decode cX1_stroke 66 = .ok (.iload_n 3, 1) := by decide +kernel
theorem dX1_stroke_67 : decode cX1_stroke 67 = .ok (.isub, 1) := by decide +kernel
theorem dX1_stroke_68 : decode cX1_stroke 68 = .ok (.istore 9, 2) := by decide +kernel
theorem dX1_stroke_70 : decode cX1_stroke 70 = .ok (.iload 7, 2) := by decide +kernel
theorem dX1_stroke_72 : decode cX1_stroke 72 = .ok (.ifCond .eq 32, 3) := by decide +kernel
theorem dX1_stroke_75 : decode cX1_stroke 75 = .ok (.iload 8, 2) := by decide +kernel
theorem dX1_stroke_77 : decode cX1_stroke 77 = .ok (.ifCond .eq 23, 3) := by decide +kernel
theorem dX1_stroke_80 : decode cX1_stroke 80 = .ok (.iload 9, 2) := by decide +kernel
theorem dX1_stroke_82 : decode cX1_stroke 82 = .ok (.ifCond .eq 18, 3) := by decide +kernel
theorem dX1_stroke_85 : decode cX1_stroke 85 = .ok (.iload 8, 2) := by decide +kernel
theorem dX1_stroke_87 : decode cX1_stroke 87 = .ok (.iload 9, 2) := by decide +kernel
theorem dX1_stroke_89 : decode cX1_stroke 89 = .ok (.if_icmp .eq 11, 3) := by decide +kernel
theorem dX1_stroke_92 : decode cX1_stroke 92 = .ok (.iload 8, 2) := by decide +kernel
theorem dX1_stroke_94 : decode cX1_stroke 94 = .ok (.iload 9, 2) := by decide +kernel
theorem dX1_stroke_96 : decode cX1_stroke 96 = .ok (.ineg, 1) := by decide +kernel
theorem dX1_stroke_97 : decode cX1_stroke 97 = .ok (.if_icmp .ne 7, 3) := by decide +kernel
theorem dX1_stroke_100 : decode cX1_stroke 100 = .ok (.iconst 1, 1) := by decide +kernel
theorem dX1_stroke_101 : decode cX1_stroke 101 = .ok (.goto 4, 3) := by decide +kernel
theorem dX1_stroke_104 : decode cX1_stroke 104 = .ok (.iconst 0, 1) := by decide +kernel
theorem dX1_stroke_105 : decode cX1_stroke 105 = .ok (.istore 10, 2) := by decide +kernel
theorem dX1_stroke_107 : decode cX1_stroke 107 = .ok (.aload_n 0, 1) := by decide +kernel
theorem dX1_stroke_108 : decode cX1_stroke 108 = .ok (.iload 10, 2) := by decide +kernel
theorem dX1_stroke_110 : decode cX1_stroke 110 = .ok (.ifCond .eq 7, 3) := by decide +kernel
theorem dX1_stroke_113 : decode cX1_stroke 113 = .ok (.iconst 0, 1) := by decide +kernel
theorem dX1_stroke_114 : decode cX1_stroke 114 = .ok (.goto 4, 3) := by decide +kernel
theorem dX1_stroke_117 : decode cX1_stroke 117 = .ok (.iconst 2, 1) := by decide +kernel
theorem dX1_stroke_118 : decode cX1_stroke 118 = .ok (.putfield 41, 3) := by decide +kernel
theorem dX1_stroke_121 : decode cX1_stroke 121 = .ok (.aload_n 0, 1) := by decide +kernel
theorem dX1_stroke_122 : decode cX1_stroke 122 = .ok (.getfield 41, 3) := by decide +kernel
theorem dX1_stroke_125 : decode cX1_stroke 125 = .ok (.ifCond .le 5, 3) := by decide +kernel
theorem dX1_stroke_128 : decode cX1_stroke 128 = .ok (.iconst 0, 1) := by decide +kernel
theorem dX1_stroke_129 : decode cX1_stroke 129 = .ok (.ireturn, 1) := by decide +kernel
theorem dX1_stroke_130 : decode cX1_stroke 130 = .ok (.iload 8, 2) := by decide +kernel
theorem dX1_stroke_132 : decode cX1_stroke 132 = .ok (.ifCond .ge 9, 3) := by decide +kernel
theorem dX1_stroke_135 : decode cX1_stroke 135 = .ok (.iload 8, 2) := by decide +kernel
theorem dX1_stroke_137 : decode cX1_stroke 137 = .ok (.ineg, 1) := by decide +kernel
theorem dX1_stroke_138 : decode cX1_stroke 138 = .ok (.goto 5, 3) := by decide +kernel
theorem dX1_stroke_141 : decode cX1_stroke 141 = .ok (.iload 8, 2) := by decide +kernel
theorem dX1_stroke_143 : decode cX1_stroke 143 = .ok (.istore 11, 2) := by decide +kernel
theorem dX1_stroke_145 : decode cX1_stroke 145 = .ok (.iload 9, 2) := by decide +kernel
theorem dX1_stroke_147 : decode cX1_stroke 147 = .ok (.ifCond .ge 9, 3) := by decide +kernel
theorem dX1_stroke_150 : decode cX1_stroke 150 = .ok (.iload 9, 2) := by decide +kernel
theorem dX1_stroke_152 : decode cX1_stroke 152 = .ok (.ineg, 1) := by decide +kernel
theorem dX1_stroke_153 : decode cX1_stroke 153 = .ok (.goto 5, 3) := by decide +kernel
theorem dX1_stroke_156 : decode cX1_stroke 156 = .ok (.iload 9, 2) := by decide +kernel
theorem dX1_stroke_158 : decode cX1_stroke 158 = .ok (.istore 12, 2) := by decide +kernel
theorem dX1_stroke_160 : decode cX1_stroke 160 = .ok (.iload 11, 2) := by decide +kernel
theorem dX1_stroke_162 : decode cX1_stroke 162 = .ok (.iload 12, 2) := by decide +kernel
theorem dX1_stroke_164 : decode cX1_stroke 164 = .ok (.if_icmp .le 8, 3) := by decide +kernel
theorem dX1_stroke_167 : decode cX1_stroke 167 = .ok (.iload 11, 2) := by decide +kernel
theorem dX1_stroke_169 : decode cX1_stroke 169 = .ok (.goto 5, 3) := by decide +kernel
theorem dX1_stroke_172 : decode cX1_stroke 172 = .ok (.iload 12, 2) := by decide +kernel
theorem dX1_stroke_174 : decode cX1_stroke 174 = .ok (.istore 13, 2) := by decide +kernel
theorem dX1_stroke_176 : decode cX1_stroke 176 = .ok (.aload_n 0, 1) := by decide +kernel
theorem dX1_stroke_177 : decode cX1_stroke 177 = .ok (.getfield 7, 3) := by decide +kernel
theorem dX1_stroke_180 : decode cX1_stroke 180 = .ok (.iload_n 1, 1) := by decide +kernel
theorem dX1_stroke_181 : decode cX1_stroke 181 = .ok (.iaload, 1) := by decide +kernel
theorem dX1_stroke_182 : decode cX1_stroke 182 = .ok (.istore 14, 2) := by decide +kernel
theorem dX1_stroke_184 : decode cX1_stroke 184 = .ok (.iconst 0, 1) := by decide +kernel
theorem dX1_stroke_185 : decode cX1_stroke 185 = .ok (.istore 15, 2) := by decide +kernel
theorem dX1_stroke_187 : decode cX1_stroke 187 = .ok (.iload 15, 2) := by decide +kernel
theorem dX1_stroke_189 : decode cX1_stroke 189 = .ok (.iload 13, 2) := by decide +kernel
theorem dX1_stroke_191 : decode cX1_stroke 191 = .ok (.if_icmp .gt 106, 3) := by decide +kernel
theorem dX1_stroke_194 : decode cX1_stroke 194 = .ok (.iload_n 2, 1) := by decide +kernel
theorem dX1_stroke_195 : decode cX1_stroke 195 = .ok (.iload 8, 2) := by decide +kernel
theorem dX1_stroke_197 : decode cX1_stroke 197 = .ok (.ifCond .le 8, 3) := by decide +kernel
theorem dX1_stroke_200 : decode cX1_stroke 200 = .ok (.iload 15, 2) := by decide +kernel
theorem dX1_stroke_202 : decode cX1_stroke 202 = .ok (.goto 15, 3) := by decide +kernel
theorem dX1_stroke_205 : decode cX1_stroke 205 = .ok (.iload 8, 2) := by decide +kernel
theorem dX1_stroke_207 : decode cX1_stroke 207 = .ok (.ifCond .ge 9, 3) := by decide +kernel
theorem dX1_stroke_210 : decode cX1_stroke 210 = .ok (.iload 15, 2) := by decide +kernel
theorem dX1_stroke_212 : decode cX1_stroke 212 = .ok (.ineg, 1) := by decide +kernel
theorem dX1_stroke_213 : decode cX1_stroke 213 = .ok (.goto 4, 3) := by decide +kernel
theorem dX1_stroke_216 : decode cX1_stroke 216 = .ok (.iconst 0, 1) := by decide +kernel
theorem dX1_stroke_217 : decode cX1_stroke 217 = .ok (.iadd, 1) := by decide +kernel
theorem dX1_stroke_218 : decode cX1_stroke 218 = .ok (.istore 16, 2) := by decide +kernel
theorem dX1_stroke_220 : decode cX1_stroke 220 = .ok (.iload_n 3, 1) := by decide +kernel
theorem dX1_stroke_221 : decode cX1_stroke 221 = .ok (.iload 9, 2) := by decide +kernel
theorem dX1_stroke_223 : decode cX1_stroke 223 = .ok (.ifCond .le 8, 3) := by decide +kernel
theorem dX1_stroke_226 : decode cX1_stroke 226 = .ok (.iload 15, 2) := by decide +kernel
theorem dX1_stroke_228 : decode cX1_stroke 228 = .ok (.goto 15, 3) := by decide +kernel
theorem dX1_stroke_231 : decode cX1_stroke 231 = .ok (.iload 9, 2) := by decide +kernel
theorem dX1_stroke_233 : decode cX1_stroke 233 = .ok (.ifCond .ge 9, 3) := by decide +kernel
theorem dX1_stroke_236 : decode cX1_stroke 236 = .ok (.iload 15, 2) := by decide +kernel
theorem dX1_stroke_238 : decode cX1_stroke 238 = .ok (.ineg, 1) := by decide +kernel
theorem dX1_stroke_239 : decode cX1_stroke 239 = .ok (.goto 4, 3) := by decide +kernel
theorem dX1_stroke_242 : decode cX1_stroke 242 = .ok (.iconst 0, 1) := by decide +kernel
theorem dX1_stroke_243 : decode cX1_stroke 243 = .ok (.iadd, 1) := by decide +kernel
theorem dX1_stroke_244 : decode cX1_stroke 244 = .ok (.istore 17, 2) := by decide +kernel
theorem dX1_stroke_246 : decode cX1_stroke 246 = .ok (.iconst 1, 1) := by decide +kernel
theorem dX1_stroke_247 : decode cX1_stroke 247 = .ok (.iconst 5, 1) := by decide +kernel
theorem dX1_stroke_248 : decode cX1_stroke 248 = .ok (.iload 17, 2) := by decide +kernel
theorem dX1_stroke_250 : decode cX1_stroke 250 = .ok (.imul, 1) := by decide +kernel
theorem dX1_stroke_251 : decode cX1_stroke 251 = .ok (.iload 16, 2) := by decide +kernel
theorem dX1_stroke_253 : decode cX1_stroke 253 = .ok (.iadd, 1) := by decide +kernel
theorem dX1_stroke_254 : decode cX1_stroke 254 = .ok (.ishl, 1) := by decide +kernel
theorem dX1_stroke_255 : decode cX1_stroke 255 = .ok (.istore 18, 2) := by decide +kernel
theorem dX1_stroke_257 : decode cX1_stroke 257 = .ok (.aload_n 0, 1) := by decide +kernel
theorem dX1_stroke_258 : decode cX1_stroke 258 = .ok (.getfield 7, 3) := by decide +kernel
theorem dX1_stroke_261 : decode cX1_stroke 261 = .ok (.iload_n 1, 1) := by decide +kernel
theorem dX1_stroke_262 : decode cX1_stroke 262 = .ok (.iload 6, 2) := by decide +kernel
theorem dX1_stroke_264 : decode cX1_stroke 264 = .ok (.ifCond .eq 15, 3) := by decide +kernel
theorem dX1_stroke_267 : decode cX1_stroke 267 = .ok (.aload_n 0, 1) := by decide +kernel
theorem dX1_stroke_268 : decode cX1_stroke 268 = .ok (.getfield 7, 3) := by decide +kernel
theorem dX1_stroke_271 : decode cX1_stroke 271 = .ok (.iload_n 1, 1) := by decide +kernel
theorem dX1_stroke_272 : decode cX1_stroke 272 = .ok (.iaload, 1) := by decide +kernel
theorem dX1_stroke_273 : decode cX1_stroke 273 = .ok (.iload 18, 2) := by decide +kernel
theorem dX1_stroke_275 : decode cX1_stroke 275 = .ok (.ior, 1) := by decide +kernel
theorem dX1_stroke_276 : decode cX1_stroke 276 = .ok (.goto 14, 3) := by decide +kernel
theorem dX1_stroke_279 : decode cX1_stroke 279 = .ok (.aload_n 0, 1) := by decide +kernel
theorem dX1_stroke_280 : decode cX1_stroke 280 = .ok (.getfield 7, 3) := by decide +kernel
theorem dX1_stroke_283 : decode cX1_stroke 283 = .ok (.iload_n 1, 1) := by decide +kernel
theorem dX1_stroke_284 : decode cX1_stroke 284 = .ok (.iaload, 1) := by decide +kernel
theorem dX1_stroke_285 : decode cX1_stroke 285 = .ok (.iload 18, 2) := by decide +kernel
theorem dX1_stroke_287 : decode cX1_stroke 287 = .ok (.iconst (-1), 1) := by decide +kernel
theorem dX1_stroke_288 : decode cX1_stroke 288 = .ok (.ixor, 1) := by decide +kernel
theorem dX1_stroke_289 : decode cX1_stroke 289 = .ok (.iand, 1) := by decide +kernel
theorem dX1_stroke_290 : decode cX1_stroke 290 = .ok (.iastore, 1) := by decide +kernel
theorem dX1_stroke_291 : decode cX1_stroke 291 = .ok (.iinc 15 1, 3) := by decide +kernel
theorem dX1_stroke_294 : decode cX1_stroke 294 = .ok (.goto (-107), 3) := by decide +kernel
theorem dX1_stroke_297 : decode cX1_stroke 297 = .ok (.iload 14, 2) := by decide +kernel
theorem dX1_stroke_299 : decode cX1_stroke 299 = .ok (.aload_n 0, 1) := by decide +kernel
theorem dX1_stroke_300 : decode cX1_stroke 300 = .ok (.getfield 7, 3) := by decide +kernel
theorem dX1_stroke_303 : decode cX1_stroke 303 = .ok (.iload_n 1, 1) := by decide +kernel
theorem dX1_stroke_304 : decode cX1_stroke 304 = .ok (.iaload, 1) := by decide +kernel
theorem dX1_stroke_305 : decode cX1_stroke 305 = .ok (.ixor, 1) := by decide +kernel
theorem dX1_stroke_306 : decode cX1_stroke 306 = .ok (.invokestatic 63, 3) := by decide +kernel
theorem dX1_stroke_309 : decode cX1_stroke 309 = .ok (.ireturn, 1) := by decide +kernel
set_option maxRecDepth 20000 in
theorem ggX1_difference_X1_isGlyph : GoodIn wsX1_difference wsX1_isGlyph := goodIn_r _ [6, 7, 8, 5, 9] (by decide +kernel) (by decide +kernel)
set_option maxRecDepth 20000 in
theorem gX1_difference_X1_isGlyph : GoodIn wsX1_difference (va_wsS RX1 57 yX1_isGlyph wsX1_isGlyph) := goodIn_app (goodIn_of _ (by decide +kernel)) ggX1_difference_X1_isGlyph
set_option maxRecDepth 20000 in
theorem ggX1_difference_X1_bits : GoodIn wsX1_difference wsX1_bits := goodIn_r _ [12] (by decide +kernel) (by decide +kernel)
set_option maxRecDepth 20000 in
theorem gX1_difference_X1_bits : GoodIn wsX1_difference (va_wsS RX1 63 yX1_bits wsX1_bits) := goodIn_app (goodIn_of _ (by decide +kernel)) ggX1_difference_X1_bits
set_option maxRecDepth 20000 in
theorem ggX1_difference_X1_fails : GoodIn wsX1_difference wsX1_fails := goodIn_r _ [16, 1, 17, 18, 19, 20, 21, 22, 23, 24, 25, 26, 27, 28, 29, 30, 31] (by decide +kernel) (by decide +kernel)
set_option maxRecDepth 20000 in
theorem gX1_difference_X1_fails : GoodIn wsX1_difference (wsV RX1 60 RX1 yX1_fails wsX1_fails) := goodIn_app (goodIn_of _ (by decide +kernel)) ggX1_difference_X1_fails
theorem dX1_difference_0 : decode cX1_difference 0 = .ok (.aload_n 0, 1) := by decide +kernel
theorem dX1_difference_1 : decode cX1_difference 1 = .ok (.iconst 0, 1) := by decide +kernel
theorem dX1_difference_2 : decode cX1_difference 2 = .ok (.putfield 41, 3) := by decide +kernel
theorem dX1_difference_5 : decode cX1_difference 5 = .ok (.iload_n 1, 1) := by decide +kernel
theorem dX1_difference_6 : decode cX1_difference 6 = .ok (.invokestatic 57, 3) := by decide +kernel
theorem dX1_difference_9 : decode cX1_difference 9 = .ok (.ifCond .eq 29, 3) := by decide +kernel
theorem dX1_difference_12 : decode cX1_difference 12 = .ok (.iload_n 2, 1) := by decide +kernel
theorem dX1_difference_13 : decode cX1_difference 13 = .ok (.invokestatic 57, 3) := by decide +kernel
theorem dX1_difference_16 : decode cX1_difference 16 = .ok (.ifCond .eq 22, 3) := by decide +kernel
theorem dX1_difference_19 : decode cX1_difference 19 = .ok (.aload_n 0, 1) := by decide +kernel
theorem dX1_difference_20 : decode cX1_difference 20 = .ok (.getfield 7, 3) := by decide +kernel
theorem dX1_difference_23 : decode cX1_difference 23 = .ok (.iload_n 1, 1) := by decide +kernel
theorem dX1_difference_24 : decode cX1_difference 24 = .ok (.iaload, 1) := by decide +kernel
theorem dX1_difference_25 : decode cX1_difference 25 = .ok (.aload_n 0, 1) := by decide +kernel
theorem dX1_difference_26 : decode cX1_difference 26 = .ok (.getfield 7, 3) := by decide +kernel
theorem dX1_difference_29 : decode cX1_difference 29 = .ok (.iload_n 2, 1) := by decide +kernel
theorem dX1_difference_30 : decode cX1_difference 30 = .ok (.iaload, 1) := by decide +kernel
theorem dX1_difference_31 : decode cX1_difference 31 = .ok (.ixor, 1) := by decide +kernel
theorem dX1_difference_32 : decode cX1_difference 32 = .ok (.invokestatic 63, 3) := by decide +kernel
theorem dX1_difference_35 : decode cX1_difference 35 = .ok (.goto 8, 3) := by decide +kernel
theorem dX1_difference_38 : decode cX1_difference 38 = .ok (.aload_n 0, 1) := by decide +kernel
theorem dX1_difference_39 : decode cX1_difference 39 = .ok (.iconst 1, 1) := by decide +kernel
theorem dX1_difference_40 : decode cX1_difference 40 = .ok (.invokevirtual 60, 3) := by decide +kernel
theorem dX1_difference_43 : decode cX1_difference 43 = .ok (.ireturn, 1) := by decide +kernel
theorem dX1_widthOf_0 : decode cX1_widthOf 0 = .ok (.iconst (-1), 1) := by decide +kernel
theorem dX1_widthOf_1 : decode cX1_widthOf 1 = .ok (.istore_n 2, 1) := by decide +kernel
theorem dX1_widthOf_2 : decode cX1_widthOf 2 = .ok (.iconst (-1), 1) := by decide +kernel
theorem dX1_widthOf_3 : decode cX1_widthOf 3 = .ok (.istore_n 3, 1) := by decide +kernel
theorem dX1_widthOf_4 : decode cX1_widthOf 4 = .ok (.iconst 0, 1) := by decide +kernel
theorem dX1_widthOf_5 : decode cX1_widthOf 5 = .ok (.istore 4, 2) := by decide +kernel
theorem dX1_widthOf_7 : decode cX1_widthOf 7 = .ok (.iload 4, 2) := by decide +kernel
theorem dX1_widthOf_9 : decode cX1_widthOf 9 = .ok (.iconst 5, 1) := by decide +kernel
theorem dX1_widthOf_10 : decode cX1_widthOf 10 = .ok (.if_icmp .ge 88, 3) := by decide +kernel
theorem dX1_widthOf_13 : decode cX1_widthOf 13 = .ok (.iconst 0, 1) := by decide +kernel
theorem dX1_widthOf_14 : decode cX1_widthOf 14 = .ok (.istore 5, 2) := by decide +kernel
theorem dX1_widthOf_16 : decode cX1_widthOf 16 = .ok (.iconst 0, 1) := by decide +kernel
theorem dX1_widthOf_17 : decode cX1_widthOf 17 = .ok (.istore 6, 2) := by decide +kernel
theorem dX1_widthOf_19 : decode cX1_widthOf 19 = .ok (.iload 6, 2) := by decide +kernel
theorem dX1_widthOf_21 : decode cX1_widthOf 21 = .ok (.iconst 5, 1) := by decide +kernel
theorem dX1_widthOf_22 : decode cX1_widthOf 22 = .ok (.if_icmp .ge 41, 3) := by decide +kernel
theorem dX1_widthOf_25 : decode cX1_widthOf 25 = .ok (.iload 5, 2) := by decide +kernel
theorem dX1_widthOf_27 : decode cX1_widthOf 27 = .ok (.ifCond .ne 23, 3) := by decide +kernel
theorem dX1_widthOf_30 : decode cX1_widthOf 30 = .ok (.aload_n 0, 1) := by decide +kernel
theorem dX1_widthOf_31 : decode cX1_widthOf 31 = .ok (.getfield 7, 3) := by decide +kernel
theorem dX1_widthOf_34 : decode cX1_widthOf 34 = .ok (.iload_n 1, 1) := by decide +kernel
theorem dX1_widthOf_35 : decode cX1_widthOf 35 = .ok (.iaload, 1) := by decide +kernel
theorem dX1_widthOf_36 : decode cX1_widthOf 36 = .ok (.iconst 5, 1) := by decide +kernel
theorem dX1_widthOf_37 : decode cX1_widthOf 37 = .ok (.iload 6, 2) := by decide +kernel
theorem dX1_widthOf_39 : decode cX1_widthOf 39 = .ok (.imul, 1) := by decide +kernel
theorem dX1_widthOf_40 : decode cX1_widthOf 40 = .ok (.iload 4, 2) := by decide +kernel
theorem dX1_widthOf_42 : decode cX1_widthOf 42 = .ok (.iadd, 1) := by decide +kernel
theorem dX1_widthOf_43 : decode cX1_widthOf 43 = .ok (.ishr, 1) := by decide +kernel
theorem dX1_widthOf_44 : decode cX1_widthOf 44 = .ok (.iconst 1, 1) := by decide +kernel
theorem dX1_widthOf_45 : decode cX1_widthOf 45 = .ok (.iand, 1) := by decide +kernel
theorem dX1_widthOf_46 : decode cX1_widthOf 46 = .ok (.iconst 1, 1) := by decide +kernel
theorem dX1_widthOf_47 : decode cX1_widthOf 47 = .ok (.if_icmp .ne 7, 3) := by decide +kernel
theorem dX1_widthOf_50 : decode cX1_widthOf 50 = .ok (.iconst 1, 1) := by decide +kernel
theorem dX1_widthOf_51 : decode cX1_widthOf 51 = .ok (.goto 4, 3) := by decide +kernel
theorem dX1_widthOf_54 : decode cX1_widthOf 54 = .ok (.iconst 0, 1) := by decide +kernel
theorem dX1_widthOf_55 : decode cX1_widthOf 55 = .ok (.istore 5, 2) := by decide +kernel
theorem dX1_widthOf_57 : decode cX1_widthOf 57 = .ok (.iinc 6 1, 3) := by decide +kernel
theorem dX1_widthOf_60 : decode cX1_widthOf 60 = .ok (.goto (-41), 3) := by decide +kernel
theorem dX1_widthOf_63 : decode cX1_widthOf 63 = .ok (.iload 5, 2) := by decide +kernel
theorem dX1_widthOf_65 : decode cX1_widthOf 65 = .ok (.ifCond .eq 13, 3) := by decide +kernel
theorem dX1_widthOf_68 : decode cX1_widthOf 68 = .ok (.iload_n 2, 1) := by decide +kernel
theorem dX1_widthOf_69 : decode cX1_widthOf 69 = .ok (.iconst (-1), 1) := by decide +kernel
theorem dX1_widthOf_70 : decode cX1_widthOf 70 = .ok (.if_icmp .ne 8, 3) := by decide +kernel
theorem dX1_widthOf_73 : decode cX1_widthOf 73 = .ok (.iload 4, 2) := by decide +kernel
theorem dX1_widthOf_75 : decode cX1_widthOf 75 = .ok (.goto 4, 3) := by decide +kernel
theorem dX1_widthOf_78 : decode cX1_widthOf 78 = .ok (.iload_n 2, 1) := by decide +kernel
theorem dX1_widthOf_79 : decode cX1_widthOf 79 = .ok (.istore_n 2, 1) := by decide +kernel
theorem dX1_widthOf_80 : decode cX1_widthOf 80 = .ok (.iload 5, 2) := by decide +kernel
theorem dX1_widthOf_82 : decode cX1_widthOf 82 = .ok (.ifCond .eq 8, 3) := by decide +kernel
theorem dX1_widthOf_85 : decode cX1_widthOf 85 = .ok (.iload 4, 2) := by decide +kernel
theorem dX1_widthOf_87 : decode cX1_widthOf 87 = .ok (.goto 4, 3) := by decide +kernel
theorem dX1_widthOf_90 : decode cX1_widthOf 90 = .ok (.iload_n 3, 1) := by decide +kernel
theorem dX1_widthOf_91 : decode cX1_widthOf 91 = .ok (.istore_n 3, 1) := by decide +kernel
theorem dX1_widthOf_92 : decode cX1_widthOf 92 = .ok (.iinc 4 1, 3) := by decide +kernel
theorem dX1_widthOf_95 : decode cX1_widthOf 95 = .ok (.goto (-88), 3) := by decide +kernel
theorem dX1_widthOf_98 : decode cX1_widthOf 98 = .ok (.iload_n 2, 1) := by decide +kernel
theorem dX1_widthOf_99 : decode cX1_widthOf 99 = .ok (.iconst (-1), 1) := by decide +kernel
theorem dX1_widthOf_100 : decode cX1_widthOf 100 = .ok (.if_icmp .ne 7, 3) := by decide +kernel
theorem dX1_widthOf_103 : decode cX1_widthOf 103 = .ok (.iconst 2, 1) := by decide +kernel
theorem dX1_widthOf_104 : decode cX1_widthOf 104 = .ok (.goto 8, 3) := by decide +kernel
theorem dX1_widthOf_107 : decode cX1_widthOf 107 = .ok (.iload_n 3, 1) := by decide +kernel
theorem dX1_widthOf_108 : decode cX1_widthOf 108 = .ok (.iload_n 2, 1) := by decide +kernel
theorem dX1_widthOf_109 : decode cX1_widthOf 109 = .ok (.isub, 1) := by decide +kernel
theorem dX1_widthOf_110 : decode cX1_widthOf 110 = .ok (.iconst 1, 1) := by decide +kernel
theorem dX1_widthOf_111 : decode cX1_widthOf 111 = .ok (.iadd, 1) := by decide +kernel
theorem dX1_widthOf_112 : decode cX1_widthOf 112 = .ok (.ireturn, 1) := by decide +kernel
set_option maxRecDepth 20000 in
theorem ggX1_width_X1_isGlyph : GoodIn wsX1_width wsX1_isGlyph := goodIn_r _ [5, 6, 7, 4, 8] (by decide +kernel) (by decide +kernel)
set_option maxRecDepth 20000 in
theorem gX1_width_X1_isGlyph : GoodIn wsX1_width (va_wsS RX1 57 yX1_isGlyph wsX1_isGlyph) := goodIn_app (goodIn_of _ (by decide +kernel)) ggX1_width_X1_isGlyph
set_option maxRecDepth 20000 in
theorem ggX1_width_X1_widthOf : GoodIn wsX1_width wsX1_widthOf := goodIn_r _ [12, 13, 18, 19, 20, 21, 22, 23, 24, 25, 26, 27, 28, 29, 30, 31, 32] (by decide +kernel) (by decide +kernel)
set_option maxRecDepth 20000 in
theorem gX1_width_X1_widthOf : GoodIn wsX1_width (wsV RX1 66 RX1 yX1_widthOf wsX1_widthOf) := goodIn_app (goodIn_of _ (by decide +kernel)) ggX1_width_X1_widthOf
set_option maxRecDepth 20000 in
theorem ggX1_width_X1_fails : GoodIn wsX1_width wsX1_fails := goodIn_r _ [17, 1, 18, 19, 20, 21, 22, 23, 24, 25, 26, 27, 28, 29, 30, 31, 32] (by decide +kernel) (by decide +kernel)
set_option maxRecDepth 20000 in
theorem gX1_width_X1_fails : GoodIn wsX1_width (wsV RX1 60 RX1 yX1_fails wsX1_fails) := goodIn_app (goodIn_of _ (by decide +kernel)) ggX1_width_X1_fails
theorem dX1_width_0 : decode cX1_width 0 = .ok (.aload_n 0, 1) := by decide +kernel
theorem dX1_width_1 : decode cX1_width 1 = .ok (.iconst 0, 1) := by decide +kernel
theorem dX1_width_2 : decode cX1_width 2 = .ok (.putfield 41, 3) := by decide +kernel
theorem dX1_width_5 : decode cX1_width 5 = .ok (.iload_n 1, 1) := by decide +kernel
theorem dX1_width_6 : decode cX1_width 6 = .ok (.invokestatic 57, 3) := by decide +kernel
theorem dX1_width_9 : decode cX1_width 9 = .ok (.ifCond .eq 11, 3) := by decide +kernel
theorem dX1_width_12 : decode cX1_width 12 = .ok (.aload_n 0, 1) := by decide +kernel
theorem dX1_width_13 : decode cX1_width 13 = .ok (.iload_n 1, 1) := by decide +kernel
theorem dX1_width_14 : decode cX1_width 14 = .ok (.invokevirtual 66, 3) := by decide +kernel
theorem dX1_width_17 : decode cX1_width 17 = .ok (.goto 8, 3) := by decide +kernel
theorem dX1_width_20 : decode cX1_width 20 = .ok (.aload_n 0, 1) := by decide +kernel
theorem dX1_width_21 : decode cX1_width 21 = .ok (.iconst 1, 1) := by decide +kernel
theorem dX1_width_22 : decode cX1_width 22 = .ok (.invokevirtual 60, 3) := by decide +kernel
theorem dX1_width_25 : decode cX1_width 25 = .ok (.ireturn, 1) := by decide +kernel
set_option maxRecDepth 20000 in
theorem ggX1_space_X1_isGlyph : GoodIn wsX1_space wsX1_isGlyph := goodIn_r _ [6, 7, 8, 5, 9] (by decide +kernel) (by decide +kernel)
set_option maxRecDepth 20000 in
theorem gX1_space_X1_isGlyph : GoodIn wsX1_space (va_wsS RX1 57 yX1_isGlyph wsX1_isGlyph) := goodIn_app (goodIn_of _ (by decide +kernel)) ggX1_space_X1_isGlyph
set_option maxRecDepth 20000 in
theorem ggX1_space_X1_in : GoodIn wsX1_space wsX1_in := goodIn_r _ [9] (by decide +kernel) (by decide +kernel)
set_option maxRecDepth 20000 in
theorem gX1_space_X1_in : GoodIn wsX1_space (va_wsS RX1 45 yX1_in wsX1_in) := goodIn_app (goodIn_of _ (by decide +kernel)) ggX1_space_X1_in
theorem dX1_space_0 : decode cX1_space 0 = .ok (.aload_n 0, 1) := by decide +kernel
theorem dX1_space_1 : decode cX1_space 1 = .ok (.iload_n 1, 1) := by decide +kernel
theorem dX1_space_2 : decode cX1_space 2 = .ok (.invokestatic 57, 3) := by decide +kernel
theorem dX1_space_5 : decode cX1_space 5 = .ok (.ifCond .eq 10, 3) := by decide +kernel
theorem dX1_space_8 : decode cX1_space 8 = .ok (.iload_n 2, 1) := by decide +kernel
theorem dX1_space_9 : decode cX1_space 9 = .ok (.invokestatic 57, 3) := by decide +kernel
theorem dX1_space_12 : decode cX1_space 12 = .ok (.ifCond .ne 7, 3) := by decide +kernel
theorem dX1_space_15 : decode cX1_space 15 = .ok (.iconst 1, 1) := by decide +kernel
theorem dX1_space_16 : decode cX1_space 16 = .ok (.goto 17, 3) := by decide +kernel
theorem dX1_space_19 : decode cX1_space 19 = .ok (.iload_n 3, 1) := by decide +kernel
theorem dX1_space_20 : decode cX1_space 20 = .ok (.iconst (-1), 1) := by decide +kernel
theorem dX1_space_21 : decode cX1_space 21 = .ok (.iconst 3, 1) := by decide +kernel
theorem dX1_space_22 : decode cX1_space 22 = .ok (.invokestatic 45, 3) := by decide +kernel
theorem dX1_space_25 : decode cX1_space 25 = .ok (.ifCond .eq 7, 3) := by decide +kernel
theorem dX1_space_28 : decode cX1_space 28 = .ok (.iconst 0, 1) := by decide +kernel
theorem dX1_space_29 : decode cX1_space 29 = .ok (.goto 4, 3) := by decide +kernel
theorem dX1_space_32 : decode cX1_space 32 = .ok (.iconst 2, 1) := by decide +kernel
theorem dX1_space_33 : decode cX1_space 33 = .ok (.putfield 41, 3) := by decide +kernel
theorem dX1_space_36 : decode cX1_space 36 = .ok (.aload_n 0, 1) := by decide +kernel
theorem dX1_space_37 : decode cX1_space 37 = .ok (.getfield 41, 3) := by decide +kernel
theorem dX1_space_40 : decode cX1_space 40 = .ok (.ifCond .le 5, 3) := by decide +kernel
theorem dX1_space_43 : decode cX1_space 43 = .ok (.iconst 0, 1) := by decide +kernel
theorem dX1_space_44 : decode cX1_space 44 = .ok (.ireturn, 1) := by decide +kernel
theorem dX1_space_45 : decode cX1_space 45 = .ok (.aload_n 0, 1) := by decide +kernel
theorem dX1_space_46 : decode cX1_space 46 = .ok (.getfield 13, 3) := by decide +kernel
theorem dX1_space_49 : decode cX1_space 49 = .ok (.bipush 8, 2) := by decide +kernel
theorem dX1_space_51 : decode cX1_space 51 = .ok (.iload_n 1, 1) := by decide +kernel
theorem dX1_space_52 : decode cX1_space 52 = .ok (.imul, 1) := by decide +kernel
theorem dX1_space_53 : decode cX1_space 53 = .ok (.iload_n 2, 1) := by decide +kernel
theorem dX1_space_54 : decode cX1_space 54 = .ok (.iadd, 1) := by decide +kernel
theorem dX1_space_55 : decode cX1_space 55 = .ok (.iaload, 1) := by decide +kernel
theorem dX1_space_56 : decode cX1_space 56 = .ok (.istore 4, 2) := by decide +kernel
theorem dX1_space_58 : decode cX1_space 58 = .ok (.aload_n 0, 1) := by decide +kernel
theorem dX1_space_59 : decode cX1_space 59 = .ok (.getfield 13, 3) := by decide +kernel
theorem dX1_space_62 : decode cX1_space 62 = .ok (.bipush 8, 2) := by decide +kernel
theorem dX1_space_64 : decode cX1_space 64 = .ok (.iload_n 1, 1) := by decide +kernel
theorem dX1_space_65 : decode cX1_space 65 = .ok (.imul, 1) := by decide +kernel
theorem dX1_space_66 : decode cX1_space 66 = .ok (.iload_n 2, 1) := by decide +kernel
theorem dX1_space_67 : decode cX1_space 67 = .ok (.iadd, 1) := by decide +kernel
theorem dX1_space_68 : decode cX1_space 68 = .ok (.iload_n 3, 1) := by decide +kernel
theorem dX1_space_69 : decode cX1_space 69 = .ok (.iastore, 1) := by decide +kernel
theorem dX1_space_70 : decode cX1_space 70 = .ok (.iload 4, 2) := by decide +kernel
theorem dX1_space_72 : decode cX1_space 72 = .ok (.ireturn, 1) := by decide +kernel
set_option maxRecDepth 20000 in
theorem ggX1_lead_X1_isExit : GoodIn wsX1_lead wsX1_isExit := goodIn_r _ [6, 7, 8, 5, 9, 10, 11, 12] (by decide +kernel) (by decide +kernel)
set_option maxRecDepth 20000 in
theorem gX1_lead_X1_isExit : GoodIn wsX1_lead (va_wsS RX1 69 yX1_isExit wsX1_isExit) := goodIn_app (goodIn_of _ (by decide +kernel)) ggX1_lead_X1_isExit
set_option maxRecDepth 20000 in
theorem ggX1_lead_X1_isPlace : GoodIn wsX1_lead wsX1_isPlace := goodIn_r _ [9, 10, 11, 5, 12] (by decide +kernel) (by decide +kernel)
set_option maxRecDepth 20000 in
theorem gX1_lead_X1_isPlace : GoodIn wsX1_lead (va_wsS RX1 49 yX1_isPlace wsX1_isPlace) := goodIn_app (goodIn_of _ (by decide +kernel)) ggX1_lead_X1_isPlace
theorem dX1_lead_0 : decode cX1_lead 0 = .ok (.aload_n 0, 1) := by decide +kernel
theorem dX1_lead_1 : decode cX1_lead 1 = .ok (.iload_n 1, 1) := by decide +kernel
theorem dX1_lead_2 : decode cX1_lead 2 = .ok (.iload_n 2, 1) := by decide +kernel
theorem dX1_lead_3 : decode cX1_lead 3 = .ok (.invokestatic 69, 3) := by decide +kernel
theorem dX1_lead_6 : decode cX1_lead 6 = .ok (.ifCond .eq 19, 3) := by decide +kernel
theorem dX1_lead_9 : decode cX1_lead 9 = .ok (.iload_n 3, 1) := by decide +kernel
theorem dX1_lead_10 : decode cX1_lead 10 = .ok (.iconst (-1), 1) := by decide +kernel
theorem dX1_lead_11 : decode cX1_lead 11 = .ok (.if_icmp .eq 10, 3) := by decide +kernel
theorem dX1_lead_14 : decode cX1_lead 14 = .ok (.iload_n 3, 1) := by decide +kernel
theorem dX1_lead_15 : decode cX1_lead 15 = .ok (.invokestatic 49, 3) := by decide +kernel
theorem dX1_lead_18 : decode cX1_lead 18 = .ok (.ifCond .eq 7, 3) := by decide +kernel
theorem dX1_lead_21 : decode cX1_lead 21 = .ok (.iconst 0, 1) := by decide +kernel
theorem dX1_lead_22 : decode cX1_lead 22 = .ok (.goto 4, 3) := by decide +kernel
theorem dX1_lead_25 : decode cX1_lead 25 = .ok (.iconst 1, 1) := by decide +kernel
theorem dX1_lead_26 : decode cX1_lead 26 = .ok (.putfield 41, 3) := by decide +kernel
theorem dX1_lead_29 : decode cX1_lead 29 = .ok (.aload_n 0, 1) := by decide +kernel
theorem dX1_lead_30 : decode cX1_lead 30 = .ok (.getfield 41, 3) := by decide +kernel
theorem dX1_lead_33 : decode cX1_lead 33 = .ok (.ifCond .le 5, 3) := by decide +kernel
theorem dX1_lead_36 : decode cX1_lead 36 = .ok (.iconst 0, 1) := by decide +kernel
theorem dX1_lead_37 : decode cX1_lead 37 = .ok (.ireturn, 1) := by decide +kernel
theorem dX1_lead_38 : decode cX1_lead 38 = .ok (.aload_n 0, 1) := by decide +kernel
theorem dX1_lead_39 : decode cX1_lead 39 = .ok (.getfield 16, 3) := by decide +kernel
theorem dX1_lead_42 : decode cX1_lead 42 = .ok (.iconst 4, 1) := by decide +kernel
theorem dX1_lead_43 : decode cX1_lead 43 = .ok (.iload_n 1, 1) := by decide +kernel
theorem dX1_lead_44 : decode cX1_lead 44 = .ok (.imul, 1) := by decide +kernel
theorem dX1_lead_45 : decode cX1_lead 45 = .ok (.iload_n 2, 1) := by decide +kernel
theorem dX1_lead_46 : decode cX1_lead 46 = .ok (.iadd, 1) := by decide +kernel
theorem dX1_lead_47 : decode cX1_lead 47 = .ok (.iaload, 1) := by decide +kernel
theorem dX1_lead_48 : decode cX1_lead 48 = .ok (.istore 4, 2) := by decide +kernel
theorem dX1_lead_50 : decode cX1_lead 50 = .ok (.aload_n 0, 1) := by decide +kernel
theorem dX1_lead_51 : decode cX1_lead 51 = .ok (.getfield 16, 3) := by decide +kernel
theorem dX1_lead_54 : decode cX1_lead 54 = .ok (.iconst 4, 1) := by decide +kernel
theorem dX1_lead_55 : decode cX1_lead 55 = .ok (.iload_n 1, 1) := by decide +kernel
theorem dX1_lead_56 : decode cX1_lead 56 = .ok (.imul, 1) := by decide +kernel
theorem dX1_lead_57 : decode cX1_lead 57 = .ok (.iload_n 2, 1) := by decide +kernel
theorem dX1_lead_58 : decode cX1_lead 58 = .ok (.iadd, 1) := by decide +kernel
theorem dX1_lead_59 : decode cX1_lead 59 = .ok (.iload_n 3, 1) := by decide +kernel
theorem dX1_lead_60 : decode cX1_lead 60 = .ok (.iastore, 1) := by decide +kernel
theorem dX1_lead_61 : decode cX1_lead 61 = .ok (.iload 4, 2) := by decide +kernel
theorem dX1_lead_63 : decode cX1_lead 63 = .ok (.ireturn, 1) := by decide +kernel
set_option maxRecDepth 20000 in
theorem ggX1_name_X1_isPlace : GoodIn wsX1_name wsX1_isPlace := goodIn_r _ [7, 8, 9, 6, 10] (by decide +kernel) (by decide +kernel)
set_option maxRecDepth 20000 in
theorem gX1_name_X1_isPlace : GoodIn wsX1_name (va_wsS RX1 49 yX1_isPlace wsX1_isPlace) := goodIn_app (goodIn_of _ (by decide +kernel)) ggX1_name_X1_isPlace
set_option maxRecDepth 20000 in
theorem ggX1_name_X1_isText : GoodIn wsX1_name wsX1_isText := goodIn_r _ [13, 8, 9, 6, 10, 14, 15, 16] (by decide +kernel) (by decide +kernel)
set_option maxRecDepth 20000 in
theorem gX1_name_X1_isText : GoodIn wsX1_name (va_wsS RX1 73 yX1_isText wsX1_isText) := goodIn_app (goodIn_of _ (by decide +kernel)) ggX1_name_X1_isText
theorem dX1_name_0 : decode cX1_name 0 = .ok (.aload_n 0, 1) := by decide +kernel
theorem dX1_name_1 : decode cX1_name 1 = .ok (.iload_n 1, 1) := by decide +kernel
theorem dX1_name_2 : decode cX1_name 2 = .ok (.invokestatic 49, 3) := by decide +kernel
theorem dX1_name_5 : decode cX1_name 5 = .ok (.ifCond .ne 7, 3) := by decide +kernel
theorem dX1_name_8 : decode cX1_name 8 = .ok (.iconst 1, 1) := by decide +kernel
theorem dX1_name_9 : decode cX1_name 9 = .ok (.goto 16, 3) := by decide +kernel
theorem dX1_name_12 : decode cX1_name 12 = .ok (.iload_n 2, 1) := by decide +kernel
theorem dX1_name_13 : decode cX1_name 13 = .ok (.iload_n 3, 1) := by decide +kernel
theorem dX1_name_14 : decode cX1_name 14 = .ok (.invokestatic 73, 3) := by decide +kernel
theorem dX1_name_17 : decode cX1_name 17 = .ok (.ifCond .eq 7, 3) := by decide +kernel
theorem dX1_name_20 : decode cX1_name 20 = .ok (.iconst 0, 1) := by decide +kernel
theorem dX1_name_21 : decode cX1_name 21 = .ok (.goto 4, 3) := by decide +kernel
theorem dX1_name_24 : decode cX1_name 24 = .ok (.iconst 2, 1) := by decide +kernel
theorem dX1_name_25 : decode cX1_name 25 = .ok (.putfield 41, 3) := by decide +kernel
theorem dX1_name_28 : decode cX1_name 28 = .ok (.aload_n 0, 1) := by decide +kernel
theorem dX1_name_29 : decode cX1_name 29 = .ok (.getfield 41, 3) := by decide +kernel
theorem dX1_name_32 : decode cX1_name 32 = .ok (.ifCond .ne 17, 3) := by decide +kernel
theorem dX1_name_35 : decode cX1_name 35 = .ok (.aload_n 0, 1) := by decide +kernel
theorem dX1_name_36 : decode cX1_name 36 = .ok (.getfield 19, 3) := by decide +kernel
theorem dX1_name_39 : decode cX1_name 39 = .ok (.iload_n 1, 1) := by decide +kernel
theorem dX1_name_40 : decode cX1_name 40 = .ok (.iload_n 2, 1) := by decide +kernel
theorem dX1_name_41 : decode cX1_name 41 = .ok (.iastore, 1) := by decide +kernel
theorem dX1_name_42 : decode cX1_name 42 = .ok (.aload_n 0, 1) := by decide +kernel
theorem dX1_name_43 : decode cX1_name 43 = .ok (.getfield 22, 3) := by decide +kernel
theorem dX1_name_46 : decode cX1_name 46 = .ok (.iload_n 1, 1) := by decide +kernel
theorem dX1_name_47 : decode cX1_name 47 = .ok (.iload_n 3, 1) := by decide +kernel
theorem dX1_name_48 : decode cX1_name 48 = .ok (.iastore, 1) := by decide +kernel
theorem dX1_name_49 : decode cX1_name 49 = .ok (.return_, 1) := by decide +kernel
set_option maxRecDepth 20000 in
theorem ggX1_widthOfText_X1_glyph : GoodIn wsX1_widthOfText wsX1_glyph := goodIn_r _ [5, 6, 7, 4, 8] (by decide +kernel) (by decide +kernel)
set_option maxRecDepth 20000 in
theorem gX1_widthOfText_X1_glyph : GoodIn wsX1_widthOfText (va_wsS RX1 76 yX1_glyph wsX1_glyph) := goodIn_app (goodIn_of _ (by decide +kernel)) ggX1_widthOfText_X1_glyph
set_option maxRecDepth 20000 in
theorem ggX1_widthOfText_X1_widthOf : GoodIn wsX1_widthOfText wsX1_widthOf := goodIn_r _ [12, 13, 14, 15, 16, 17, 18, 19, 20, 21, 22, 23, 24, 25, 26, 27, 28] (by decide +kernel) (by decide +kernel)
set_option maxRecDepth 20000 in
theorem gX1_widthOfText_X1_widthOf : GoodIn wsX1_widthOfText (wsV RX1 66 RX1 yX1_widthOf wsX1_widthOf) := goodIn_app (goodIn_of _ (by decide +kernel)) ggX1_widthOfText_X1_widthOf
theorem dX1_widthOfText_0 : decode cX1_widthOfText 0 = .ok (.iconst 0, 1) := by decide +kernel
theorem dX1_widthOfText_1 : decode cX1_widthOfText 1 = .ok (.istore_n 3, 1) := by decide +kernel
theorem dX1_widthOfText_2 : decode cX1_widthOfText 2 = .ok (.iconst 0, 1) := by decide +kernel
theorem dX1_widthOfText_3 : decode cX1_widthOfText 3 = .ok (.istore 4, 2) := by decide +kernel
theorem dX1_widthOfText_5 : decode cX1_widthOfText 5 = .ok (.iload 4, 2) := by decide +kernel
theorem dX1_widthOfText_7 : decode cX1_widthOfText 7 = .ok (.iload_n 2, 1) := by decide +kernel
theorem dX1_widthOfText_8 : decode cX1_widthOfText 8 = .ok (.if_icmp .ge 60, 3) := by decide +kernel
theorem dX1_widthOfText_11 : decode cX1_widthOfText 11 = .ok (.iload_n 3, 1) := by decide +kernel
theorem dX1_widthOfText_12 : decode cX1_widthOfText 12 = .ok (.aload_n 0, 1) := by decide +kernel
theorem dX1_widthOfText_13 : decode cX1_widthOfText 13 = .ok (.iload_n 1, 1) := by decide +kernel
theorem dX1_widthOfText_14 : decode cX1_widthOfText 14 = .ok (.iload_n 2, 1) := by decide +kernel
theorem dX1_widthOfText_15 : decode cX1_widthOfText 15 = .ok (.iload 4, 2) := by decide +kernel
theorem dX1_widthOfText_17 : decode cX1_widthOfText 17 = .ok (.invokestatic 76, 3) := by decide +kernel
theorem dX1_widthOfText_20 : decode cX1_widthOfText 20 = .ok (.invokevirtual 66, 3) := by decide +kernel
theorem dX1_widthOfText_23 : decode cX1_widthOfText 23 = .ok (.iadd, 1) := by decide +kernel
theorem dX1_widthOfText_24 : decode cX1_widthOfText 24 = .ok (.istore_n 3, 1) := by decide +kernel
theorem dX1_widthOfText_25 : decode cX1_widthOfText 25 = .ok (.iload_n 3, 1) := by decide +kernel
theorem dX1_widthOfText_26 : decode cX1_widthOfText 26 = .ok (.iload 4, 2) := by decide +kernel
theorem dX1_widthOfText_28 : decode cX1_widthOfText 28 = .ok (.ifCond .le 31, 3) := by decide +kernel
theorem dX1_widthOfText_31 : decode cX1_widthOfText 31 = .ok (.aload_n 0, 1) := by decide +kernel
theorem dX1_widthOfText_32 : decode cX1_widthOfText 32 = .ok (.getfield 13, 3) := by decide +kernel
theorem dX1_widthOfText_35 : decode cX1_widthOfText 35 = .ok (.bipush 8, 2) := by decide +kernel
theorem dX1_widthOfText_37 : decode cX1_widthOfText 37 = .ok (.iload_n 1, 1) := by decide +kernel
theorem dX1_widthOfText_38 : decode cX1_widthOfText 38 = .ok (.iload_n 2, 1) := by decide +kernel
theorem dX1_widthOfText_39 : decode cX1_widthOfText 39 = .ok (.iload 4, 2) := by decide +kernel
theorem dX1_widthOfText_41 : decode cX1_widthOfText 41 = .ok (.iconst 1, 1) := by decide +kernel
theorem dX1_widthOfText_42 : decode cX1_widthOfText 42 = .ok (.isub, 1) := by decide +kernel
theorem dX1_widthOfText_43 : decode cX1_widthOfText 43 = .ok (.invokestatic 76, 3) := by decide +kernel
theorem dX1_widthOfText_46 : decode cX1_widthOfText 46 = .ok (.imul, 1) := by decide +kernel
theorem dX1_widthOfText_47 : decode cX1_widthOfText 47 = .ok (.iload_n 1, 1) := by decide +kernel
theorem dX1_widthOfText_48 : decode cX1_widthOfText 48 = .ok (.iload_n 2, 1) := by decide +kernel
theorem dX1_widthOfText_49 : decode cX1_widthOfText 49 = .ok (.iload 4, 2) := by decide +kernel
theorem dX1_widthOfText_51 : decode cX1_widthOfText 51 = .ok (.invokestatic 76, 3) := by decide +kernel
theorem dX1_widthOfText_54 : decode cX1_widthOfText 54 = .ok (.iadd, 1) := by decide +kernel
theorem dX1_widthOfText_55 : decode cX1_widthOfText 55 = .ok (.iaload, 1) := by decide +kernel
theorem dX1_widthOfText_56 : decode cX1_widthOfText 56 = .ok (.goto 4, 3) := by decide +kernel
theorem dX1_widthOfText_59 : decode cX1_widthOfText 59 = .ok (.iconst 0, 1) := by decide +kernel
theorem dX1_widthOfText_60 : decode cX1_widthOfText 60 = .ok (.iadd, 1) := by decide +kernel
theorem dX1_widthOfText_61 : decode cX1_widthOfText 61 = .ok (.istore_n 3, 1) := by decide +kernel
theorem dX1_widthOfText_62 : decode cX1_widthOfText 62 = .ok (.iinc 4 1, 3) := by decide +kernel
theorem dX1_widthOfText_65 : decode cX1_widthOfText 65 = .ok (.goto (-60), 3) := by decide +kernel
theorem dX1_widthOfText_68 : decode cX1_widthOfText 68 = .ok (.iload_n 3, 1) := by decide +kernel
theorem dX1_widthOfText_69 : decode cX1_widthOfText 69 = .ok (.ireturn, 1) := by decide +kernel
set_option maxRecDepth 20000 in
theorem ggX1_textWidth_X1_isText : GoodIn wsX1_textWidth wsX1_isText := goodIn_r _ [5, 6, 7, 4, 8, 9, 10, 11] (by decide +kernel) (by decide +kernel)
set_option maxRecDepth 20000 in
theorem gX1_textWidth_X1_isText : GoodIn wsX1_textWidth (va_wsS RX1 73 yX1_isText wsX1_isText) := goodIn_app (goodIn_of _ (by decide +kernel)) ggX1_textWidth_X1_isText
set_option maxRecDepth 20000 in
theorem ggX1_textWidth_X1_widthOfText : GoodIn wsX1_textWidth wsX1_widthOfText := goodIn_r _ [15, 16, 17, 18, 4, 19, 9, 10, 11, 20, 21, 22, 23, 24, 29, 30, 31, 32, 33, 34, 35, 36, 37, 38, 39, 40, 41, 42, 43] (by decide +kernel) (by decide +kernel)
set_option maxRecDepth 20000 in
theorem gX1_textWidth_X1_widthOfText : GoodIn wsX1_textWidth (wsV RX1 80 RX1 yX1_widthOfText wsX1_widthOfText) := goodIn_app (goodIn_of _ (by decide +kernel)) ggX1_textWidth_X1_widthOfText
set_option maxRecDepth 20000 in
theorem ggX1_textWidth_X1_fails : GoodIn wsX1_textWidth wsX1_fails := goodIn_r _ [28, 1, 29, 30, 31, 32, 33, 34, 35, 36, 37, 38, 39, 40, 41, 42, 43] (by decide +kernel) (by decide +kernel)
set_option maxRecDepth 20000 in
theorem gX1_textWidth_X1_fails : GoodIn wsX1_textWidth (wsV RX1 60 RX1 yX1_fails wsX1_fails) := goodIn_app (goodIn_of _ (by decide +kernel)) ggX1_textWidth_X1_fails
theorem dX1_textWidth_0 : decode cX1_textWidth 0 = .ok (.aload_n 0, 1) := by decide +kernel
theorem dX1_textWidth_1 : decode cX1_textWidth 1 = .ok (.iconst 0, 1) := by decide +kernel
theorem dX1_textWidth_2 : decode cX1_textWidth 2 = .ok (.putfield 41, 3) := by decide +kernel
theorem dX1_textWidth_5 : decode cX1_textWidth 5 = .ok (.iload_n 1, 1) := by decide +kernel
theorem dX1_textWidth_6 : decode cX1_textWidth 6 = .ok (.iload_n 2, 1) := by decide +kernel
theorem dX1_textWidth_7 : decode cX1_textWidth 7 = .ok (.invokestatic 73, 3) := by decide +kernel
theorem dX1_textWidth_10 : decode cX1_textWidth 10 = .ok (.ifCond .eq 12, 3) := by decide +kernel
theorem dX1_textWidth_13 : decode cX1_textWidth 13 = .ok (.aload_n 0, 1) := by decide +kernel
theorem dX1_textWidth_14 : decode cX1_textWidth 14 = .ok (.iload_n 1, 1) := by decide +kernel
theorem dX1_textWidth_15 : decode cX1_textWidth 15 = .ok (.iload_n 2, 1) := by decide +kernel
theorem dX1_textWidth_16 : decode cX1_textWidth 16 = .ok (.invokevirtual 80, 3) := by decide +kernel
theorem dX1_textWidth_19 : decode cX1_textWidth 19 = .ok (.goto 8, 3) := by decide +kernel
theorem dX1_textWidth_22 : decode cX1_textWidth 22 = .ok (.aload_n 0, 1) := by decide +kernel
theorem dX1_textWidth_23 : decode cX1_textWidth 23 = .ok (.iconst 1, 1) := by decide +kernel
theorem dX1_textWidth_24 : decode cX1_textWidth 24 = .ok (.invokevirtual 60, 3) := by decide +kernel
theorem dX1_textWidth_27 : decode cX1_textWidth 27 = .ok (.ireturn, 1) := by decide +kernel
set_option maxRecDepth 20000 in
theorem ggX1_plate_X1_widthOfText : GoodIn wsX1_plate wsX1_widthOfText := goodIn_r _ [5, 6, 7, 8, 4, 9, 10, 11, 12, 13, 14, 15, 16, 17, 18, 19, 20, 21, 22, 23, 24, 25, 26, 27, 28, 29, 30, 31, 32] (by decide +kernel) (by decide +kernel)
set_option maxRecDepth 20000 in
theorem gX1_plate_X1_widthOfText : GoodIn wsX1_plate (wsV RX1 80 RX1 yX1_widthOfText wsX1_widthOfText) := goodIn_app (goodIn_of _ (by decide +kernel)) ggX1_plate_X1_widthOfText
theorem dX1_plate_0 : decode cX1_plate 0 = .ok (.aload_n 0, 1) := by decide +kernel
theorem dX1_plate_1 : decode cX1_plate 1 = .ok (.iload_n 1, 1) := by decide +kernel
theorem dX1_plate_2 : decode cX1_plate 2 = .ok (.iload_n 2, 1) := by decide +kernel
theorem dX1_plate_3 : decode cX1_plate 3 = .ok (.invokevirtual 80, 3) := by decide +kernel
theorem dX1_plate_6 : decode cX1_plate 6 = .ok (.istore_n 3, 1) := by decide +kernel
theorem dX1_plate_7 : decode cX1_plate 7 = .ok (.iload_n 3, 1) := by decide +kernel
theorem dX1_plate_8 : decode cX1_plate 8 = .ok (.bipush 10, 2) := by decide +kernel
theorem dX1_plate_10 : decode cX1_plate 10 = .ok (.if_icmp .gt 7, 3) := by decide +kernel
theorem dX1_plate_13 : decode cX1_plate 13 = .ok (.iconst 4, 1) := by decide +kernel
theorem dX1_plate_14 : decode cX1_plate 14 = .ok (.goto 26, 3) := by decide +kernel
theorem dX1_plate_17 : decode cX1_plate 17 = .ok (.iload_n 3, 1) := by decide +kernel
theorem dX1_plate_18 : decode cX1_plate 18 = .ok (.bipush 20, 2) := by decide +kernel
theorem dX1_plate_20 : decode cX1_plate 20 = .ok (.if_icmp .gt 8, 3) := by decide +kernel
theorem dX1_plate_23 : decode cX1_plate 23 = .ok (.bipush 7, 2) := by decide +kernel
theorem dX1_plate_25 : decode cX1_plate 25 = .ok (.goto 15, 3) := by decide +kernel
theorem dX1_plate_28 : decode cX1_plate 28 = .ok (.iload_n 3, 1) := by decide +kernel
theorem dX1_plate_29 : decode cX1_plate 29 = .ok (.bipush 30, 2) := by decide +kernel
theorem dX1_plate_31 : decode cX1_plate 31 = .ok (.if_icmp .gt 8, 3) := by decide +kernel
theorem dX1_plate_34 : decode cX1_plate 34 = .ok (.bipush 10, 2) := by decide +kernel
theorem dX1_plate_36 : decode cX1_plate 36 = .ok (.goto 4, 3) := by decide +kernel
theorem dX1_plate_39 : decode cX1_plate 39 = .ok (.iconst (-1), 1) := by decide +kernel
theorem dX1_plate_40 : decode cX1_plate 40 = .ok (.ireturn, 1) := by decide +kernel
set_option maxRecDepth 20000 in
theorem ggX1_cuts_X1_glyph : GoodIn wsX1_cuts wsX1_glyph := goodIn_r _ [9, 10, 11, 8, 12] (by decide +kernel) (by decide +kernel)
set_option maxRecDepth 20000 in
theorem gX1_cuts_X1_glyph : GoodIn wsX1_cuts (va_wsS RX1 76 yX1_glyph wsX1_glyph) := goodIn_app (goodIn_of _ (by decide +kernel)) ggX1_cuts_X1_glyph
set_option maxRecDepth 20000 in
theorem ggX1_cuts_X1_plate : GoodIn wsX1_cuts wsX1_plate := goodIn_r _ [16, 17, 18, 19, 8, 20, 21, 6, 7, 9, 10, 11, 12, 22, 23, 24, 25, 3, 26, 27, 28, 29, 30, 31, 32, 33, 34, 35, 36, 37, 38, 39, 40] (by decide +kernel) (by decide +kernel)
set_option maxRecDepth 20000 in
theorem gX1_cuts_X1_plate : GoodIn wsX1_cuts (wsV RX1 88 RX1 yX1_plate wsX1_plate) := goodIn_app (goodIn_of _ (by decide +kernel)) ggX1_cuts_X1_plate
theorem dX1_cuts_0 : decode cX1_cuts 0 = .ok (.iconst 0, 1) := by decide +kernel
theorem dX1_cuts_1 : decode cX1_cuts 1 = .ok (.istore_n 2, 1) := by decide +kernel
theorem dX1_cuts_2 : decode cX1_cuts 2 = .ok (.iload_n 2, 1) := by decide +kernel
theorem dX1_cuts_3 : decode cX1_cuts 3 = .ok (.aload_n 0, 1) := by decide +kernel
theorem dX1_cuts_4 : decode cX1_cuts 4 = .ok (.getfield 28, 3) := by decide +kernel
theorem dX1_cuts_7 : decode cX1_cuts 7 = .ok (.iload_n 1, 1) := by decide +kernel
theorem dX1_cuts_8 : decode cX1_cuts 8 = .ok (.iaload, 1) := by decide +kernel
theorem dX1_cuts_9 : decode cX1_cuts 9 = .ok (.if_icmp .ge 40, 3) := by decide +kernel
theorem dX1_cuts_12 : decode cX1_cuts 12 = .ok (.aload_n 0, 1) := by decide +kernel
theorem dX1_cuts_13 : decode cX1_cuts 13 = .ok (.getfield 34, 3) := by decide +kernel
theorem dX1_cuts_16 : decode cX1_cuts 16 = .ok (.iconst 5, 1) := by decide +kernel
theorem dX1_cuts_17 : decode cX1_cuts 17 = .ok (.iload_n 1, 1) := by decide +kernel
theorem dX1_cuts_18 : decode cX1_cuts 18 = .ok (.imul, 1) := by decide +kernel
theorem dX1_cuts_19 : decode cX1_cuts 19 = .ok (.iload_n 2, 1) := by decide +kernel
theorem dX1_cuts_20 : decode cX1_cuts 20 = .ok (.iadd, 1) := by decide +kernel
theorem dX1_cuts_21 : decode cX1_cuts 21 = .ok (.aload_n 0, 1) := by decide +kernel
theorem dX1_cuts_22 : decode cX1_cuts 22 = .ok (.getfield 7, 3) := by decide +kernel
theorem dX1_cuts_25 : decode cX1_cuts 25 = .ok (.aload_n 0, 1) := by decide +kernel
theorem dX1_cuts_26 : decode cX1_cuts 26 = .ok (.getfield 25, 3) := by decide +kernel
theorem dX1_cuts_29 : decode cX1_cuts 29 = .ok (.iload_n 1, 1) := by decide +kernel
theorem dX1_cuts_30 : decode cX1_cuts 30 = .ok (.iaload, 1) := by decide +kernel
theorem dX1_cuts_31 : decode cX1_cuts 31 = .ok (.aload_n 0, 1) := by decide +kernel
theorem dX1_cuts_32 : decode cX1_cuts 32 = .ok (.getfield 28, 3) := by decide +kernel
theorem dX1_cuts_35 : decode cX1_cuts 35 = .ok (.iload_n 1, 1) := by decide +kernel
theorem dX1_cuts_36 : decode cX1_cuts 36 = .ok (.iaload, 1) := by decide +kernel
theorem dX1_cuts_37 : decode cX1_cuts 37 = .ok (.iload_n 2, 1) := by decide +kernel
theorem dX1_cuts_38 : decode cX1_cuts 38 = .ok (.invokestatic 76, 3) := by decide +kernel
theorem dX1_cuts_41 : decode cX1_cuts 41 = .ok (.iaload, 1) := by decide +kernel
theorem dX1_cuts_42 : decode cX1_cuts 42 = .ok (.iastore, 1) := by decide +kernel
theorem dX1_cuts_43 : decode cX1_cuts 43 = .ok (.iinc 2 1, 3) := by decide +kernel
theorem dX1_cuts_46 : decode cX1_cuts 46 = .ok (.goto (-44), 3) := by decide +kernel
theorem dX1_cuts_49 : decode cX1_cuts 49 = .ok (.aload_n 0, 1) := by decide +kernel
theorem dX1_cuts_50 : decode cX1_cuts 50 = .ok (.dup, 1) := by decide +kernel
theorem dX1_cuts_51 : decode cX1_cuts 51 = .ok (.getfield 84, 3) := by decide +kernel
theorem dX1_cuts_54 : decode cX1_cuts 54 = .ok (.aload_n 0, 1) := by decide +kernel
theorem dX1_cuts_55 : decode cX1_cuts 55 = .ok (.aload_n 0, 1) := by decide +kernel
theorem dX1_cuts_56 : decode cX1_cuts 56 = .ok (.getfield 25, 3) := by decide +kernel
theorem dX1_cuts_59 : decode cX1_cuts 59 = .ok (.iload_n 1, 1) := by decide +kernel
theorem dX1_cuts_60 : decode cX1_cuts 60 = .ok (.iaload, 1) := by decide +kernel
theorem dX1_cuts_61 : decode cX1_cuts 61 = .ok (.aload_n 0, 1) := by decide +kernel
theorem dX1_cuts_62 : decode cX1_cuts 62 = .ok (.getfield 28, 3) := by decide +kernel
theorem dX1_cuts_65 : decode cX1_cuts 65 = .ok (.iload_n 1, 1) := by decide +kernel
theorem dX1_cuts_66 : decode cX1_cuts 66 = .ok (.iaload, 1) := by decide +kernel
theorem dX1_cuts_67 : decode cX1_cuts 67 = .ok (.invokevirtual 88, 3) := by decide +kernel
theorem dX1_cuts_70 : decode cX1_cuts 70 = .ok (.i2l, 1) := by decide +kernel
theorem dX1_cuts_71 : decode cX1_cuts 71 = .ok (.ladd, 1) := by decide +kernel
theorem dX1_cuts_72 : decode cX1_cuts 72 = .ok (.putfield 84, 3) := by decide +kernel
theorem dX1_cuts_75 : decode cX1_cuts 75 = .ok (.return_, 1) := by decide +kernel
set_option maxRecDepth 20000 in
theorem ggX1_cut_X1_isExit : GoodIn wsX1_cut wsX1_isExit := goodIn_r _ [8, 9, 10, 7, 11, 12, 13, 14] (by decide +kernel) (by decide +kernel)
set_option maxRecDepth 20000 in
theorem gX1_cut_X1_isExit : GoodIn wsX1_cut (va_wsS RX1 69 yX1_isExit wsX1_isExit) := goodIn_app (goodIn_of _ (by decide +kernel)) ggX1_cut_X1_isExit
set_option maxRecDepth 20000 in
theorem ggX1_cut_X1_fails : GoodIn wsX1_cut wsX1_fails := goodIn_r _ [18, 1, 48, 49, 50, 51, 52, 53, 54, 55, 56, 57, 58, 59, 60, 61, 62] (by decide +kernel) (by decide +kernel)
set_option maxRecDepth 20000 in
theorem gX1_cut_X1_fails : GoodIn wsX1_cut (wsV RX1 60 RX1 yX1_fails wsX1_fails) := goodIn_app (goodIn_of _ (by decide +kernel)) ggX1_cut_X1_fails
set_option maxRecDepth 20000 in
theorem ggX1_cut_X1_isText : GoodIn wsX1_cut wsX1_isText := goodIn_r _ [21, 12, 13, 7, 14, 22, 23, 24] (by decide +kernel) (by decide +kernel)
set_option maxRecDepth 20000 in
theorem gX1_cut_X1_isText : GoodIn wsX1_cut (va_wsS RX1 73 yX1_isText wsX1_isText) := goodIn_app (goodIn_of _ (by decide +kernel)) ggX1_cut_X1_isText
set_option maxRecDepth 20000 in
theorem ggX1_cut_X1_in : GoodIn wsX1_cut wsX1_in := goodIn_r _ [14] (by decide +kernel) (by decide +kernel)
set_option maxRecDepth 20000 in
theorem gX1_cut_X1_in : GoodIn wsX1_cut (va_wsS RX1 45 yX1_in wsX1_in) := goodIn_app (goodIn_of _ (by decide +kernel)) ggX1_cut_X1_in
set_option maxRecDepth 20000 in
theorem ggX1_cut_X1_plate : GoodIn wsX1_cut wsX1_plate := goodIn_r _ [28, 29, 30, 31, 7, 32, 33, 34, 35, 36, 22, 23, 24, 37, 38, 39, 40, 41, 48, 49, 50, 51, 52, 53, 54, 55, 56, 57, 58, 59, 60, 61, 62] (by decide +kernel) (by decide +kernel)
set_option maxRecDepth 20000 in
theorem gX1_cut_X1_plate : GoodIn wsX1_cut (wsV RX1 88 RX1 yX1_plate wsX1_plate) := goodIn_app (goodIn_of _ (by decide +kernel)) ggX1_cut_X1_plate
set_option maxRecDepth 20000 in
theorem ggX1_cut_X1_cuts : GoodIn wsX1_cut wsX1_cuts := goodIn_r _ [45, 3, 46, 41, 2, 47, 34, 35, 7, 36, 22, 23, 24, 25, 26, 27, 28, 29, 30, 31, 32, 33, 37, 38, 39, 40, 48, 49, 50, 51, 52, 53, 54, 55, 56, 57, 58, 59, 60, 61, 62] (by decide +kernel) (by decide +kernel)
set_option maxRecDepth 20000 in
theorem gX1_cut_X1_cuts : GoodIn wsX1_cut (wsV RX1 91 RX1 yX1_cuts wsX1_cuts) := goodIn_app (goodIn_of _ (by decide +kernel)) ggX1_cut_X1_cuts
theorem dX1_cut_0 : decode cX1_cut 0 = .ok (.iload_n 1, 1) := by decide +kernel
theorem dX1_cut_1 : decode cX1_cut 1 = .ok (.iload_n 2, 1) := by decide +kernel
theorem dX1_cut_2 : decode cX1_cut 2 = .ok (.invokestatic 69, 3) := by decide +kernel
theorem dX1_cut_5 : decode cX1_cut 5 = .ok (.ifCond .ne 9, 3) := by decide +kernel
theorem dX1_cut_8 : decode cX1_cut 8 = .ok (.aload_n 0, 1) := by decide +kernel
theorem dX1_cut_9 : decode cX1_cut 9 = .ok (.iconst 1, 1) := by decide +kernel
theorem dX1_cut_10 : decode cX1_cut 10 = .ok (.invokevirtual 60, 3) := by decide +kernel
theorem dX1_cut_13 : decode cX1_cut 13 = .ok (.ireturn, 1) := by decide +kernel
theorem dX1_cut_14 : decode cX1_cut 14 = .ok (.iload_n 3, 1) := by decide +kernel
theorem dX1_cut_15 : decode cX1_cut 15 = .ok (.iload 4, 2) := by decide +kernel
theorem dX1_cut_17 : decode cX1_cut 17 = .ok (.invokestatic 73, 3) := by decide +kernel
theorem dX1_cut_20 : decode cX1_cut 20 = .ok (.ifCond .eq 14, 3) := by decide +kernel
theorem dX1_cut_23 : decode cX1_cut 23 = .ok (.iload 5, 2) := by decide +kernel
theorem dX1_cut_25 : decode cX1_cut 25 = .ok (.iconst 0, 1) := by decide +kernel
theorem dX1_cut_26 : decode cX1_cut 26 = .ok (.bipush 9, 2) := by decide +kernel
theorem dX1_cut_28 : decode cX1_cut 28 = .ok (.invokestatic 45, 3) := by decide +kernel
theorem dX1_cut_31 : decode cX1_cut 31 = .ok (.ifCond .ne 9, 3) := by decide +kernel
theorem dX1_cut_34 : decode cX1_cut 34 = .ok (.aload_n 0, 1) := by decide +kernel
theorem dX1_cut_35 : decode cX1_cut 35 = .ok (.iconst 2, 1) := by decide +kernel
theorem dX1_cut_36 : decode cX1_cut 36 = .ok (.invokevirtual 60, 3) := by decide +kernel
theorem dX1_cut_39 : decode cX1_cut 39 = .ok (.ireturn, 1) := by decide +kernel
theorem dX1_cut_40 : decode cX1_cut 40 = .ok (.aload_n 0, 1) := by decide +kernel
theorem dX1_cut_41 : decode cX1_cut 41 = .ok (.iload_n 3, 1) := by decide +kernel
theorem dX1_cut_42 : decode cX1_cut 42 = .ok (.iload 4, 2) := by decide +kernel
theorem dX1_cut_44 : decode cX1_cut 44 = .ok (.invokevirtual 88, 3) := by decide +kernel
theorem dX1_cut_47 : decode cX1_cut 47 = .ok (.istore 6, 2) := by decide +kernel
theorem dX1_cut_49 : decode cX1_cut 49 = .ok (.aload_n 0, 1) := by decide +kernel
theorem dX1_cut_50 : decode cX1_cut 50 = .ok (.iload 6, 2) := by decide +kernel
theorem dX1_cut_52 : decode cX1_cut 52 = .ok (.iconst (-1), 1) := by decide +kernel
theorem dX1_cut_53 : decode cX1_cut 53 = .ok (.if_icmp .ne 7, 3) := by decide +kernel
theorem dX1_cut_56 : decode cX1_cut 56 = .ok (.iconst 3, 1) := by decide +kernel
theorem dX1_cut_57 : decode cX1_cut 57 = .ok (.goto 4, 3) := by decide +kernel
theorem dX1_cut_60 : decode cX1_cut 60 = .ok (.iconst 0, 1) := by decide +kernel
theorem dX1_cut_61 : decode cX1_cut 61 = .ok (.putfield 41, 3) := by decide +kernel
theorem dX1_cut_64 : decode cX1_cut 64 = .ok (.aload_n 0, 1) := by decide +kernel
theorem dX1_cut_65 : decode cX1_cut 65 = .ok (.getfield 41, 3) := by decide +kernel
theorem dX1_cut_68 : decode cX1_cut 68 = .ok (.ifCond .le 5, 3) := by decide +kernel
theorem dX1_cut_71 : decode cX1_cut 71 = .ok (.iconst 0, 1) := by decide +kernel
theorem dX1_cut_72 : decode cX1_cut 72 = .ok (.ireturn, 1) := by decide +kernel
theorem dX1_cut_73 : decode cX1_cut 73 = .ok (.iconst 4, 1) := by decide +kernel
theorem dX1_cut_74 : decode cX1_cut 74 = .ok (.iload_n 1, 1) := by decide +kernel
theorem dX1_cut_75 : decode cX1_cut 75 = .ok (.imul, 1) := by decide +kernel
theorem dX1_cut_76 : decode cX1_cut 76 = .ok (.iload_n 2, 1) := by decide +kernel
theorem dX1_cut_77 : decode cX1_cut 77 = .ok (.iadd, 1) := by decide +kernel
theorem dX1_cut_78 : decode cX1_cut 78 = .ok (.istore 7, 2) := by decide +kernel
theorem dX1_cut_80 : decode cX1_cut 80 = .ok (.aload_n 0, 1) := by decide +kernel
theorem dX1_cut_81 : decode cX1_cut 81 = .ok (.getfield 25, 3) := by decide +kernel
theorem dX1_cut_84 : decode cX1_cut 84 = .ok (.iload 7, 2) := by decide +kernel
theorem dX1_cut_86 : decode cX1_cut 86 = .ok (.iload_n 3, 1) := by decide +kernel
theorem dX1_cut_87 : decode cX1_cut 87 = .ok (.iastore, 1) := by decide +kernel
theorem dX1_cut_88 : decode cX1_cut 88 = .ok (.aload_n 0, 1) := by decide +kernel
theorem dX1_cut_89 : decode cX1_cut 89 = .ok (.getfield 28, 3) := by decide +kernel
theorem dX1_cut_92 : decode cX1_cut 92 = .ok (.iload 7, 2) := by decide +kernel
theorem dX1_cut_94 : decode cX1_cut 94 = .ok (.iload 4, 2) := by decide +kernel
theorem dX1_cut_96 : decode cX1_cut 96 = .ok (.iastore, 1) := by decide +kernel
theorem dX1_cut_97 : decode cX1_cut 97 = .ok (.aload_n 0, 1) := by decide +kernel
theorem dX1_cut_98 : decode cX1_cut 98 = .ok (.getfield 31, 3) := by decide +kernel
theorem dX1_cut_101 : decode cX1_cut 101 = .ok (.iload 7, 2) := by decide +kernel
theorem dX1_cut_103 : decode cX1_cut 103 = .ok (.iload 5, 2) := by decide +kernel
theorem dX1_cut_105 : decode cX1_cut 105 = .ok (.iastore, 1) := by decide +kernel
theorem dX1_cut_106 : decode cX1_cut 106 = .ok (.aload_n 0, 1) := by decide +kernel
theorem dX1_cut_107 : decode cX1_cut 107 = .ok (.iload 7, 2) := by decide +kernel
theorem dX1_cut_109 : decode cX1_cut 109 = .ok (.invokevirtual 91, 3) := by decide +kernel
theorem dX1_cut_112 : decode cX1_cut 112 = .ok (.iload 6, 2) := by decide +kernel
theorem dX1_cut_114 : decode cX1_cut 114 = .ok (.ireturn, 1) := by decide +kernel
set_option maxRecDepth 20000 in
theorem ggX1_remove_X1_isExit : GoodIn wsX1_remove wsX1_isExit := goodIn_r _ [6, 7, 8, 5, 9, 10, 11, 12] (by decide +kernel) (by decide +kernel)
set_option maxRecDepth 20000 in
theorem gX1_remove_X1_isExit : GoodIn wsX1_remove (va_wsS RX1 69 yX1_isExit wsX1_isExit) := goodIn_app (goodIn_of _ (by decide +kernel)) ggX1_remove_X1_isExit
theorem dX1_remove_0 : decode cX1_remove 0 = .ok (.aload_n 0, 1) := by decide +kernel
theorem dX1_remove_1 : decode cX1_remove 1 = .ok (.iload_n 1, 1) := by decide +kernel
theorem dX1_remove_2 : decode cX1_remove 2 = .ok (.iload_n 2, 1) := by decide +kernel
theorem dX1_remove_3 : decode cX1_remove 3 = .ok (.invokestatic 69, 3) := by decide +kernel
theorem dX1_remove_6 : decode cX1_remove 6 = .ok (.ifCond .eq 7, 3) := by decide +kernel
theorem dX1_remove_9 : decode cX1_remove 9 = .ok (.iconst 0, 1) := by decide +kernel
theorem dX1_remove_10 : decode cX1_remove 10 = .ok (.goto 4, 3) := by decide +kernel
theorem dX1_remove_13 : decode cX1_remove 13 = .ok (.iconst 1, 1) := by decide +kernel
theorem dX1_remove_14 : decode cX1_remove 14 = .ok (.putfield 41, 3) := by decide +kernel
theorem dX1_remove_17 : decode cX1_remove 17 = .ok (.aload_n 0, 1) := by decide +kernel
theorem dX1_remove_18 : decode cX1_remove 18 = .ok (.getfield 41, 3) := by decide +kernel
theorem dX1_remove_21 : decode cX1_remove 21 = .ok (.ifCond .le 5, 3) := by decide +kernel
theorem dX1_remove_24 : decode cX1_remove 24 = .ok (.iconst 0, 1) := by decide +kernel
theorem dX1_remove_25 : decode cX1_remove 25 = .ok (.ireturn, 1) := by decide +kernel
theorem dX1_remove_26 : decode cX1_remove 26 = .ok (.aload_n 0, 1) := by decide +kernel
theorem dX1_remove_27 : decode cX1_remove 27 = .ok (.getfield 28, 3) := by decide +kernel
theorem dX1_remove_30 : decode cX1_remove 30 = .ok (.iconst 4, 1) := by decide +kernel
theorem dX1_remove_31 : decode cX1_remove 31 = .ok (.iload_n 1, 1) := by decide +kernel
theorem dX1_remove_32 : decode cX1_remove 32 = .ok (.imul, 1) := by decide +kernel
theorem dX1_remove_33 : decode cX1_remove 33 = .ok (.iload_n 2, 1) := by decide +kernel
theorem dX1_remove_34 : decode cX1_remove 34 = .ok (.iadd, 1) := by decide +kernel
theorem dX1_remove_35 : decode cX1_remove 35 = .ok (.iaload, 1) := by decide +kernel
theorem dX1_remove_36 : decode cX1_remove 36 = .ok (.ifCond .le 7, 3) := by decide +kernel
theorem dX1_remove_39 : decode cX1_remove 39 = .ok (.iconst 1, 1) := by decide +kernel
theorem dX1_remove_40 : decode cX1_remove 40 = .ok (.goto 4, 3) := by decide +kernel
theorem dX1_remove_43 : decode cX1_remove 43 = .ok (.iconst 0, 1) := by decide +kernel
theorem dX1_remove_44 : decode cX1_remove 44 = .ok (.istore_n 3, 1) := by decide +kernel
theorem dX1_remove_45 : decode cX1_remove 45 = .ok (.aload_n 0, 1) := by decide +kernel
theorem dX1_remove_46 : decode cX1_remove 46 = .ok (.getfield 28, 3) := by decide +kernel
theorem dX1_remove_49 : decode cX1_remove 49 = .ok (.iconst 4, 1) := by decide +kernel
theorem dX1_remove_50 : decode cX1_remove 50 = .ok (.iload_n 1, 1) := by decide +kernel
theorem dX1_remove_51 : decode cX1_remove 51 = .ok (.imul, 1) := by decide +kernel
theorem dX1_remove_52 : decode cX1_remove 52 = .ok (.iload_n 2, 1) := by decide +kernel
theorem dX1_remove_53 : decode cX1_remove 53 = .ok (.iadd, 1) := by decide +kernel
theorem dX1_remove_54 : decode cX1_remove 54 = .ok (.iconst 0, 1) := by decide +kernel
theorem dX1_remove_55 : decode cX1_remove 55 = .ok (.iastore, 1) := by decide +kernel
theorem dX1_remove_56 : decode cX1_remove 56 = .ok (.iload_n 3, 1) := by decide +kernel
theorem dX1_remove_57 : decode cX1_remove 57 = .ok (.ireturn, 1) := by decide +kernel
set_option maxRecDepth 20000 in
theorem ggX1_old_X1_glyph : GoodIn wsX1_old wsX1_glyph := goodIn_r _ [8, 9, 10, 7, 11] (by decide +kernel) (by decide +kernel)
set_option maxRecDepth 20000 in
theorem gX1_old_X1_glyph : GoodIn wsX1_old (va_wsS RX1 76 yX1_glyph wsX1_glyph) := goodIn_app (goodIn_of _ (by decide +kernel)) ggX1_old_X1_glyph
theorem dX1_old_0 : decode cX1_old 0 = .ok (.iconst 0, 1) := by decide +kernel
theorem dX1_old_1 : decode cX1_old 1 = .ok (.istore_n 2, 1) := by decide +kernel
theorem dX1_old_2 : decode cX1_old 2 = .ok (.iconst 0, 1) := by decide +kernel
theorem dX1_old_3 : decode cX1_old 3 = .ok (.istore_n 3, 1) := by decide +kernel
theorem dX1_old_4 : decode cX1_old 4 = .ok (.iload_n 3, 1) := by decide +kernel
theorem dX1_old_5 : decode cX1_old 5 = .ok (.aload_n 0, 1) := by decide +kernel
theorem dX1_old_6 : decode cX1_old 6 = .ok (.getfield 28, 3) := by decide +kernel
theorem dX1_old_9 : decode cX1_old 9 = .ok (.iload_n 1, 1) := by decide +kernel
theorem dX1_old_10 : decode cX1_old 10 = .ok (.iaload, 1) := by decide +kernel
theorem dX1_old_11 : decode cX1_old 11 = .ok (.if_icmp .ge 53, 3) := by decide +kernel
theorem dX1_old_14 : decode cX1_old 14 = .ok (.iload_n 2, 1) := by decide +kernel
theorem dX1_old_15 : decode cX1_old 15 = .ok (.ifCond .ne 37, 3) := by decide +kernel
theorem dX1_old_18 : decode cX1_old 18 = .ok (.aload_n 0, 1) := by decide +kernel
theorem dX1_old_19 : decode cX1_old 19 = .ok (.getfield 34, 3) := by decide +kernel
theorem dX1_old_22 : decode cX1_old 22 = .ok (.iconst 5, 1) := by decide +kernel
theorem dX1_old_23 : decode cX1_old 23 = .ok (.iload_n 1, 1) := by decide +kernel
theorem dX1_old_24 : decode cX1_old 24 = .ok (.imul, 1) := by decide +kernel
theorem dX1_old_25 : decode cX1_old 25 = .ok (.iload_n 3, 1) := by decide +kernel
theorem dX1_old_26 : decode cX1_old 26 = .ok (.iadd, 1) := by decide +kernel
theorem dX1_old_27 : decode cX1_old 27 = .ok (.iaload, 1) := by decide +kernel
theorem dX1_old_28 : decode cX1_old 28 = .ok (.aload_n 0, 1) := by decide +kernel
theorem dX1_old_29 : decode cX1_old 29 = .ok (.getfield 7, 3) := by decide +kernel
theorem dX1_old_32 : decode cX1_old 32 = .ok (.aload_n 0, 1) := by decide +kernel
theorem dX1_old_33 : decode cX1_old 33 = .ok (.getfield 25, 3) := by decide +kernel
theorem dX1_old_36 : decode cX1_old 36 = .ok (.iload_n 1, 1) := by decide +kernel
theorem dX1_old_37 : decode cX1_old 37 = .ok (.iaload, 1) := by decide +kernel
theorem dX1_old_38 : decode cX1_old 38 = .ok (.aload_n 0, 1) := by decide +kernel
theorem dX1_old_39 : decode cX1_old 39 = .ok (.getfield 28, 3) := by decide +kernel
theorem dX1_old_42 : decode cX1_old 42 = .ok (.iload_n 1, 1) := by decide +kernel
theorem dX1_old_43 : decode cX1_old 43 = .ok (.iaload, 1) := by decide +kernel
theorem dX1_old_44 : decode cX1_old 44 = .ok (.iload_n 3, 1) := by decide +kernel
theorem dX1_old_45 : decode cX1_old 45 = .ok (.invokestatic 76, 3) := by decide +kernel
theorem dX1_old_48 : decode cX1_old 48 = .ok (.iaload, 1) := by decide +kernel
theorem dX1_old_49 : decode cX1_old 49 = .ok (.if_icmp .eq 7, 3) := by decide +kernel
theorem dX1_old_52 : decode cX1_old 52 = .ok (.iconst 1, 1) := by decide +kernel
theorem dX1_old_53 : decode cX1_old 53 = .ok (.goto 4, 3) := by decide +kernel
theorem dX1_old_56 : decode cX1_old 56 = .ok (.iconst 0, 1) := by decide +kernel
theorem dX1_old_57 : decode cX1_old 57 = .ok (.istore_n 2, 1) := by decide +kernel
theorem dX1_old_58 : decode cX1_old 58 = .ok (.iinc 3 1, 3) := by decide +kernel
theorem dX1_old_61 : decode cX1_old 61 = .ok (.goto (-57), 3) := by decide +kernel
theorem dX1_old_64 : decode cX1_old 64 = .ok (.iload_n 2, 1) := by decide +kernel
theorem dX1_old_65 : decode cX1_old 65 = .ok (.ireturn, 1) := by decide +kernel
set_option maxRecDepth 20000 in
theorem ggX1_isOld_X1_isExit : GoodIn wsX1_isOld wsX1_isExit := goodIn_r _ [5, 6, 7, 4, 8, 9, 10, 11] (by decide +kernel) (by decide +kernel)
set_option maxRecDepth 20000 in
theorem gX1_isOld_X1_isExit : GoodIn wsX1_isOld (va_wsS RX1 69 yX1_isExit wsX1_isExit) := goodIn_app (goodIn_of _ (by decide +kernel)) ggX1_isOld_X1_isExit
set_option maxRecDepth 20000 in
theorem ggX1_isOld_X1_old : GoodIn wsX1_isOld wsX1_old := goodIn_r _ [15, 16, 17, 18, 19, 20, 21, 4, 22, 23, 24, 25, 26, 27, 28, 29, 30, 31, 32, 33, 34, 35, 36, 37, 38, 39, 40] (by decide +kernel) (by decide +kernel)
set_option maxRecDepth 20000 in
theorem gX1_isOld_X1_old : GoodIn wsX1_isOld (wsV RX1 94 RX1 yX1_old wsX1_old) := goodIn_app (goodIn_of _ (by decide +kernel)) ggX1_isOld_X1_old
theorem dX1_isOld_0 : decode cX1_isOld 0 = .ok (.aload_n 0, 1) := by decide +kernel
theorem dX1_isOld_1 : decode cX1_isOld 1 = .ok (.iload_n 1, 1) := by decide +kernel
theorem dX1_isOld_2 : decode cX1_isOld 2 = .ok (.iload_n 2, 1) := by decide +kernel
theorem dX1_isOld_3 : decode cX1_isOld 3 = .ok (.invokestatic 69, 3) := by decide +kernel
theorem dX1_isOld_6 : decode cX1_isOld 6 = .ok (.ifCond .eq 7, 3) := by decide +kernel
theorem dX1_isOld_9 : decode cX1_isOld 9 = .ok (.iconst 0, 1) := by decide +kernel
theorem dX1_isOld_10 : decode cX1_isOld 10 = .ok (.goto 4, 3) := by decide +kernel
theorem dX1_isOld_13 : decode cX1_isOld 13 = .ok (.iconst 1, 1) := by decide +kernel
theorem dX1_isOld_14 : decode cX1_isOld 14 = .ok (.putfield 41, 3) := by decide +kernel
theorem dX1_isOld_17 : decode cX1_isOld 17 = .ok (.aload_n 0, 1) := by decide +kernel
theorem dX1_isOld_18 : decode cX1_isOld 18 = .ok (.getfield 41, 3) := by decide +kernel
theorem dX1_isOld_21 : decode cX1_isOld 21 = .ok (.ifCond .ne 19, 3) := by decide +kernel
theorem dX1_isOld_24 : decode cX1_isOld 24 = .ok (.aload_n 0, 1) := by decide +kernel
theorem dX1_isOld_25 : decode cX1_isOld 25 = .ok (.iconst 4, 1) := by decide +kernel
theorem dX1_isOld_26 : decode cX1_isOld 26 = .ok (.iload_n 1, 1) := by decide +kernel
theorem dX1_isOld_27 : decode cX1_isOld 27 = .ok (.imul, 1) := by decide +kernel
theorem dX1_isOld_28 : decode cX1_isOld 28 = .ok (.iload_n 2, 1) := by decide +kernel
theorem dX1_isOld_29 : decode cX1_isOld 29 = .ok (.iadd, 1) := by decide +kernel
theorem dX1_isOld_30 : decode cX1_isOld 30 = .ok (.invokevirtual 94, 3) := by decide +kernel
theorem dX1_isOld_33 : decode cX1_isOld 33 = .ok (.ifCond .eq 7, 3) := by decide +kernel
theorem dX1_isOld_36 : decode cX1_isOld 36 = .ok (.iconst 1, 1) := by decide +kernel
theorem dX1_isOld_37 : decode cX1_isOld 37 = .ok (.goto 4, 3) := by decide +kernel
theorem dX1_isOld_40 : decode cX1_isOld 40 = .ok (.iconst 0, 1) := by decide +kernel
theorem dX1_isOld_41 : decode cX1_isOld 41 = .ok (.ireturn, 1) := by decide +kernel
set_option maxRecDepth 20000 in
theorem ggX1_remake_X1_old : GoodIn wsX1_remake wsX1_old := goodIn_r _ [8, 3, 9, 10, 2, 11, 12, 7, 13, 14, 15, 16, 35, 36, 37, 38, 39, 40, 41, 42, 43, 44, 45, 46, 47, 48, 49] (by decide +kernel) (by decide +kernel)
set_option maxRecDepth 20000 in
theorem gX1_remake_X1_old : GoodIn wsX1_remake (wsV RX1 94 RX1 yX1_old wsX1_old) := goodIn_app (goodIn_of _ (by decide +kernel)) ggX1_remake_X1_old
set_option maxRecDepth 20000 in
theorem ggX1_remake_X1_plate : GoodIn wsX1_remake wsX1_plate := goodIn_r _ [20, 21, 22, 23, 7, 24, 25, 11, 12, 13, 14, 15, 16, 26, 27, 28, 29, 10, 35, 36, 37, 38, 39, 40, 41, 42, 43, 44, 45, 46, 47, 48, 49] (by decide +kernel) (by decide +kernel)
set_option maxRecDepth 20000 in
theorem gX1_remake_X1_plate : GoodIn wsX1_remake (wsV RX1 88 RX1 yX1_plate wsX1_plate) := goodIn_app (goodIn_of _ (by decide +kernel)) ggX1_remake_X1_plate
set_option maxRecDepth 20000 in
theorem ggX1_remake_X1_cuts : GoodIn wsX1_remake wsX1_cuts := goodIn_r _ [33, 3, 9, 10, 2, 34, 11, 12, 7, 13, 14, 15, 16, 17, 18, 19, 20, 21, 22, 23, 24, 25, 26, 27, 28, 29, 35, 36, 37, 38, 39, 40, 41, 42, 43, 44, 45, 46, 47, 48, 49] (by decide +kernel) (by decide +kernel)
set_option maxRecDepth 20000 in
theorem gX1_remake_X1_cuts : GoodIn wsX1_remake (wsV RX1 91 RX1 yX1_cuts wsX1_cuts) := goodIn_app (goodIn_of _ (by decide +kernel)) ggX1_remake_X1_cuts
theorem dX1_remake_0 : decode cX1_remake 0 = .ok (.aload_n 0, 1) := by decide +kernel
theorem dX1_remake_1 : decode cX1_remake 1 = .ok (.iconst 0, 1) := by decide +kernel
theorem dX1_remake_2 : decode cX1_remake 2 = .ok (.putfield 41, 3) := by decide +kernel
theorem dX1_remake_5 : decode cX1_remake 5 = .ok (.iconst 0, 1) := by decide +kernel
theorem dX1_remake_6 : decode cX1_remake 6 = .ok (.istore_n 1, 1) := by decide +kernel
theorem dX1_remake_7 : decode cX1_remake 7 = .ok (.iconst 0, 1) := by decide +kernel
theorem dX1_remake_8 : decode cX1_remake 8 = .ok (.istore_n 2, 1) := by decide +kernel
theorem dX1_remake_9 : decode cX1_remake 9 = .ok (.iload_n 2, 1) := by decide +kernel
theorem dX1_remake_10 : decode cX1_remake 10 = .ok (.bipush 32, 2) := by decide +kernel
theorem dX1_remake_12 : decode cX1_remake 12 = .ok (.if_icmp .ge 63, 3) := by decide +kernel
theorem dX1_remake_15 : decode cX1_remake 15 = .ok (.aload_n 0, 1) := by decide +kernel
theorem dX1_remake_16 : decode cX1_remake 16 = .ok (.iload_n 2, 1) := by decide +kernel
theorem dX1_remake_17 : decode cX1_remake 17 = .ok (.invokevirtual 94, 3) := by decide +kernel
theorem dX1_remake_20 : decode cX1_remake 20 = .ok (.istore_n 3, 1) := by decide +kernel
theorem dX1_remake_21 : decode cX1_remake 21 = .ok (.iload_n 1, 1) := by decide +kernel
theorem dX1_remake_22 : decode cX1_remake 22 = .ok (.iload_n 3, 1) := by decide +kernel
theorem dX1_remake_23 : decode cX1_remake 23 = .ok (.ifCond .eq 7, 3) := by decide +kernel
theorem dX1_remake_26 : decode cX1_remake 26 = .ok (.iconst 1, 1) := by decide +kernel
theorem dX1_remake_27 : decode cX1_remake 27 = .ok (.goto 4, 3) := by decide +kernel
theorem dX1_remake_30 : decode cX1_remake 30 = .ok (.iconst 0, 1) := by decide +kernel
theorem dX1_remake_31 : decode cX1_remake 31 = .ok (.iadd, 1) := by decide +kernel
theorem dX1_remake_32 : decode cX1_remake 32 = .ok (.istore_n 1, 1) := by decide +kernel
theorem dX1_remake_33 : decode cX1_remake 33 = .ok (.aload_n 0, 1) := by decide +kernel
theorem dX1_remake_34 : decode cX1_remake 34 = .ok (.iload_n 3, 1) := by decide +kernel
theorem dX1_remake_35 : decode cX1_remake 35 = .ok (.ifCond .eq 27, 3) := by decide +kernel
theorem dX1_remake_38 : decode cX1_remake 38 = .ok (.aload_n 0, 1) := by decide +kernel
theorem dX1_remake_39 : decode cX1_remake 39 = .ok (.aload_n 0, 1) := by decide +kernel
theorem dX1_remake_40 : decode cX1_remake 40 = .ok (.getfield 25, 3) := by decide +kernel
theorem dX1_remake_43 : decode cX1_remake 43 = .ok (.iload_n 2, 1) := by decide +kernel
theorem dX1_remake_44 : decode cX1_remake 44 = .ok (.iaload, 1) := by decide +kernel
theorem dX1_remake_45 : decode cX1_remake 45 = .ok (.aload_n 0, 1) := by decide +kernel
theorem dX1_remake_46 : decode cX1_remake 46 = .ok (.getfield 28, 3) := by decide +kernel
theorem dX1_remake_49 : decode cX1_remake 49 = .ok (.iload_n 2, 1) := by decide +kernel
theorem dX1_remake_50 : decode cX1_remake 50 = .ok (.iaload, 1) := by decide +kernel
theorem dX1_remake_51 : decode cX1_remake 51 = .ok (.invokevirtual 88, 3) := by decide +kernel
theorem dX1_remake_54 : decode cX1_remake 54 = .ok (.iconst (-1), 1) := by decide +kernel
theorem dX1_remake_55 : decode cX1_remake 55 = .ok (.if_icmp .ne 7, 3) := by decide +kernel
theorem dX1_remake_58 : decode cX1_remake 58 = .ok (.iconst 1, 1) := by decide +kernel
theorem dX1_remake_59 : decode cX1_remake 59 = .ok (.goto 7, 3) := by decide +kernel
theorem dX1_remake_62 : decode cX1_remake 62 = .ok (.aload_n 0, 1) := by decide +kernel
theorem dX1_remake_63 : decode cX1_remake 63 = .ok (.getfield 41, 3) := by decide +kernel
theorem dX1_remake_66 : decode cX1_remake 66 = .ok (.putfield 41, 3) := by decide +kernel
theorem dX1_remake_69 : decode cX1_remake 69 = .ok (.iinc 2 1, 3) := by decide +kernel
theorem dX1_remake_72 : decode cX1_remake 72 = .ok (.goto (-63), 3) := by decide +kernel
theorem dX1_remake_75 : decode cX1_remake 75 = .ok (.iconst 0, 1) := by decide +kernel
theorem dX1_remake_76 : decode cX1_remake 76 = .ok (.istore_n 2, 1) := by decide +kernel
theorem dX1_remake_77 : decode cX1_remake 77 = .ok (.iload_n 2, 1) := by decide +kernel
theorem dX1_remake_78 : decode cX1_remake 78 = .ok (.bipush 32, 2) := by decide +kernel
theorem dX1_remake_80 : decode cX1_remake 80 = .ok (.if_icmp .ge 29, 3) := by decide +kernel
theorem dX1_remake_83 : decode cX1_remake 83 = .ok (.aload_n 0, 1) := by decide +kernel
theorem dX1_remake_84 : decode cX1_remake 84 = .ok (.getfield 41, 3) := by decide +kernel
theorem dX1_remake_87 : decode cX1_remake 87 = .ok (.ifCond .ne 22, 3) := by decide +kernel
theorem dX1_remake_90 : decode cX1_remake 90 = .ok (.aload_n 0, 1) := by decide +kernel
theorem dX1_remake_91 : decode cX1_remake 91 = .ok (.iload_n 2, 1) := by decide +kernel
theorem dX1_remake_92 : decode cX1_remake 92 = .ok (.invokevirtual 94, 3) := by decide +kernel
theorem dX1_remake_95 : decode cX1_remake 95 = .ok (.ifCond .eq 8, 3) := by decide +kernel
theorem dX1_remake_98 : decode cX1_remake 98 = .ok (.aload_n 0, 1) := by decide +kernel
theorem dX1_remake_99 : decode cX1_remake 99 = .ok (.iload_n 2, 1) := by decide +kernel
theorem dX1_remake_100 : decode cX1_remake 100 = .ok (.invokevirtual 91, 3) := by decide +kernel
theorem dX1_remake_103 : decode cX1_remake 103 = .ok (.iinc 2 1, 3) := by decide +kernel
theorem dX1_remake_106 : decode cX1_remake 106 = .ok (.goto (-29), 3) := by decide +kernel
theorem dX1_remake_109 : decode cX1_remake 109 = .ok (.aload_n 0, 1) := by decide +kernel
theorem dX1_remake_110 : decode cX1_remake 110 = .ok (.getfield 41, 3) := by decide +kernel
theorem dX1_remake_113 : decode cX1_remake 113 = .ok (.ifCond .le 7, 3) := by decide +kernel
theorem dX1_remake_116 : decode cX1_remake 116 = .ok (.iconst 0, 1) := by decide +kernel
theorem dX1_remake_117 : decode cX1_remake 117 = .ok (.goto 4, 3) := by decide +kernel
theorem dX1_remake_120 : decode cX1_remake 120 = .ok (.iload_n 1, 1) := by decide +kernel
theorem dX1_remake_121 : decode cX1_remake 121 = .ok (.ireturn, 1) := by decide +kernel
set_option maxRecDepth 20000 in
theorem ggX1_nearest_X1_bits : GoodIn wsX1_nearest wsX1_bits := goodIn_r _ [5] (by decide +kernel) (by decide +kernel)
set_option maxRecDepth 20000 in
theorem gX1_nearest_X1_bits : GoodIn wsX1_nearest (va_wsS RX1 63 yX1_bits wsX1_bits) := goodIn_app (goodIn_of _ (by decide +kernel)) ggX1_nearest_X1_bits
theorem dX1_nearest_0 : decode cX1_nearest 0 = .ok (.iconst (-1), 1) := by decide +kernel
theorem dX1_nearest_1 : decode cX1_nearest 1 = .ok (.istore_n 3, 1) := by decide +kernel
theorem dX1_nearest_2 : decode cX1_nearest 2 = .ok (.iconst 0, 1) := by decide +kernel
theorem dX1_nearest_3 : decode cX1_nearest 3 = .ok (.istore 4, 2) := by decide +kernel
theorem dX1_nearest_5 : decode cX1_nearest 5 = .ok (.iload 4, 2) := by decide +kernel
theorem dX1_nearest_7 : decode cX1_nearest 7 = .ok (.bipush 8, 2) := by decide +kernel
theorem dX1_nearest_9 : decode cX1_nearest 9 = .ok (.if_icmp .ge 65, 3) := by decide +kernel
theorem dX1_nearest_12 : decode cX1_nearest 12 = .ok (.iload 4, 2) := by decide +kernel
theorem dX1_nearest_14 : decode cX1_nearest 14 = .ok (.iload_n 2, 1) := by decide +kernel
theorem dX1_nearest_15 : decode cX1_nearest 15 = .ok (.if_icmp .eq 38, 3) := by decide +kernel
theorem dX1_nearest_18 : decode cX1_nearest 18 = .ok (.iload_n 3, 1) := by decide +kernel
theorem dX1_nearest_19 : decode cX1_nearest 19 = .ok (.iconst (-1), 1) := by decide +kernel
theorem dX1_nearest_20 : decode cX1_nearest 20 = .ok (.if_icmp .eq 29, 3) := by decide +kernel
theorem dX1_nearest_23 : decode cX1_nearest 23 = .ok (.aload_n 0, 1) := by decide +kernel
theorem dX1_nearest_24 : decode cX1_nearest 24 = .ok (.getfield 7, 3) := by decide +kernel
theorem dX1_nearest_27 : decode cX1_nearest 27 = .ok (.iload 4, 2) := by decide +kernel
theorem dX1_nearest_29 : decode cX1_nearest 29 = .ok (.iaload, 1) := by decide +kernel
theorem dX1_nearest_30 : decode cX1_nearest 30 = .ok (.iload_n 1, 1) := by decide +kernel
theorem dX1_nearest_31 : decode cX1_nearest 31 = .ok (.ixor, 1) := by decide +kernel
theorem dX1_nearest_32 : decode cX1_nearest 32 = .ok (.invokestatic 63, 3) := by decide +kernel
theorem dX1_nearest_35 : decode cX1_nearest 35 = .ok (.aload_n 0, 1) := by decide +kernel
theorem dX1_nearest_36 : decode cX1_nearest 36 = .ok (.getfield 7, 3) := by decide +kernel
theorem dX1_nearest_39 : decode cX1_nearest 39 = .ok (.iload_n 3, 1) := by decide +kernel
theorem dX1_nearest_40 : decode cX1_nearest 40 = .ok (.iaload, 1) := by decide +kernel
theorem dX1_nearest_41 : decode cX1_nearest 41 = .ok (.iload_n 1, 1) := by decide +kernel
theorem dX1_nearest_42 : decode cX1_nearest 42 = .ok (.ixor, 1) := by decide +kernel
theorem dX1_nearest_43 : decode cX1_nearest 43 = .ok (.invokestatic 63, 3) := by decide +kernel
theorem dX1_nearest_46 : decode cX1_nearest 46 = .ok (.if_icmp .ge 7, 3) := by decide +kernel
theorem dX1_nearest_49 : decode cX1_nearest 49 = .ok (.iconst 1, 1) := by decide +kernel
theorem dX1_nearest_50 : decode cX1_nearest 50 = .ok (.goto 4, 3) := by decide +kernel
theorem dX1_nearest_53 : decode cX1_nearest 53 = .ok (.iconst 0, 1) := by decide +kernel
theorem dX1_nearest_54 : decode cX1_nearest 54 = .ok (.istore 5, 2) := by decide +kernel
theorem dX1_nearest_56 : decode cX1_nearest 56 = .ok (.iload 5, 2) := by decide +kernel
theorem dX1_nearest_58 : decode cX1_nearest 58 = .ok (.ifCond .eq 8, 3) := by decide +kernel
theorem dX1_nearest_61 : decode cX1_nearest 61 = .ok (.iload 4, 2) := by decide +kernel
theorem dX1_nearest_63 : decode cX1_nearest 63 = .ok (.goto 4, 3) := by decide +kernel
theorem dX1_nearest_66 : decode cX1_nearest 66 = .ok (.iload_n 3, 1) := by decide +kernel
theorem dX1_nearest_67 : decode cX1_nearest 67 = .ok (.istore_n 3, 1) := by decide +kernel
theorem dX1_nearest_68 : decode cX1_nearest 68 = .ok (.iinc 4 1, 3) := by decide +kernel
theorem dX1_nearest_71 : decode cX1_nearest 71 = .ok (.goto (-66), 3) := by decide +kernel
theorem dX1_nearest_74 : decode cX1_nearest 74 = .ok (.iload_n 3, 1) := by decide +kernel
theorem dX1_nearest_75 : decode cX1_nearest 75 = .ok (.ireturn, 1) := by decide +kernel
set_option maxRecDepth 20000 in
theorem ggX1_reads_X1_nearest : GoodIn wsX1_reads wsX1_nearest := goodIn_r _ [9, 3, 10, 11, 8, 12, 13, 14, 15, 16, 17, 18, 19, 20, 21, 22, 23, 24, 25, 26, 27] (by decide +kernel) (by decide +kernel)
set_option maxRecDepth 20000 in
theorem gX1_reads_X1_nearest : GoodIn wsX1_reads (wsV RX1 97 RX1 yX1_nearest wsX1_nearest) := goodIn_app (goodIn_of _ (by decide +kernel)) ggX1_reads_X1_nearest
set_option maxRecDepth 20000 in
theorem ggX1_reads_X1_bits : GoodIn wsX1_reads wsX1_bits := goodIn_r _ [12] (by decide +kernel) (by decide +kernel)
set_option maxRecDepth 20000 in
theorem gX1_reads_X1_bits : GoodIn wsX1_reads (va_wsS RX1 63 yX1_bits wsX1_bits) := goodIn_app (goodIn_of _ (by decide +kernel)) ggX1_reads_X1_bits
theorem dX1_reads_0 : decode cX1_reads 0 = .ok (.iconst 0, 1) := by decide +kernel
theorem dX1_reads_1 : decode cX1_reads 1 = .ok (.istore_n 2, 1) := by decide +kernel
theorem dX1_reads_2 : decode cX1_reads 2 = .ok (.iconst 0, 1) := by decide +kernel
theorem dX1_reads_3 : decode cX1_reads 3 = .ok (.istore_n 3, 1) := by decide +kernel
theorem dX1_reads_4 : decode cX1_reads 4 = .ok (.iload_n 3, 1) := by decide +kernel
theorem dX1_reads_5 : decode cX1_reads 5 = .ok (.aload_n 0, 1) := by decide +kernel
theorem dX1_reads_6 : decode cX1_reads 6 = .ok (.getfield 28, 3) := by decide +kernel
theorem dX1_reads_9 : decode cX1_reads 9 = .ok (.iload_n 1, 1) := by decide +kernel
theorem dX1_reads_10 : decode cX1_reads 10 = .ok (.iaload, 1) := by decide +kernel
theorem dX1_reads_11 : decode cX1_reads 11 = .ok (.if_icmp .ge 101, 3) := by decide +kernel
theorem dX1_reads_14 : decode cX1_reads 14 = .ok (.aload_n 0, 1) := by decide +kernel
theorem dX1_reads_15 : decode cX1_reads 15 = .ok (.getfield 34, 3) := by decide +kernel
theorem dX1_reads_18 : decode cX1_reads 18 = .ok (.iconst 5, 1) := by decide +kernel
theorem dX1_reads_19 : decode cX1_reads 19 = .ok (.iload_n 1, 1) := by decide +kernel
theorem dX1_reads_20 : decode cX1_reads 20 = .ok (.imul, 1) := by decide +kernel
theorem dX1_reads_21 : decode cX1_reads 21 = .ok (.iload_n 3, 1) := by decide +kernel
theorem dX1_reads_22 : decode cX1_reads 22 = .ok (.iadd, 1) := by decide +kernel
theorem dX1_reads_23 : decode cX1_reads 23 = .ok (.iaload, 1) := by decide +kernel
theorem dX1_reads_24 : decode cX1_reads 24 = .ok (.istore 4, 2) := by decide +kernel
theorem dX1_reads_26 : decode cX1_reads 26 = .ok (.aload_n 0, 1) := by decide +kernel
theorem dX1_reads_27 : decode cX1_reads 27 = .ok (.iload 4, 2) := by decide +kernel
theorem dX1_reads_29 : decode cX1_reads 29 = .ok (.iconst (-1), 1) := by decide +kernel
theorem dX1_reads_30 : decode cX1_reads 30 = .ok (.invokevirtual 97, 3) := by decide +kernel
theorem dX1_reads_33 : decode cX1_reads 33 = .ok (.istore 5, 2) := by decide +kernel
theorem dX1_reads_35 : decode cX1_reads 35 = .ok (.aload_n 0, 1) := by decide +kernel
theorem dX1_reads_36 : decode cX1_reads 36 = .ok (.iload 4, 2) := by decide +kernel
theorem dX1_reads_38 : decode cX1_reads 38 = .ok (.iload 5, 2) := by decide +kernel
theorem dX1_reads_40 : decode cX1_reads 40 = .ok (.invokevirtual 97, 3) := by decide +kernel
theorem dX1_reads_43 : decode cX1_reads 43 = .ok (.istore 6, 2) := by decide +kernel
theorem dX1_reads_45 : decode cX1_reads 45 = .ok (.aload_n 0, 1) := by decide +kernel
theorem dX1_reads_46 : decode cX1_reads 46 = .ok (.getfield 7, 3) := by decide +kernel
theorem dX1_reads_49 : decode cX1_reads 49 = .ok (.iload 6, 2) := by decide +kernel
theorem dX1_reads_51 : decode cX1_reads 51 = .ok (.iaload, 1) := by decide +kernel
theorem dX1_reads_52 : decode cX1_reads 52 = .ok (.iload 4, 2) := by decide +kernel
theorem dX1_reads_54 : decode cX1_reads 54 = .ok (.ixor, 1) := by decide +kernel
theorem dX1_reads_55 : decode cX1_reads 55 = .ok (.invokestatic 63, 3) := by decide +kernel
theorem dX1_reads_58 : decode cX1_reads 58 = .ok (.aload_n 0, 1) := by decide +kernel
theorem dX1_reads_59 : decode cX1_reads 59 = .ok (.getfield 7, 3) := by decide +kernel
theorem dX1_reads_62 : decode cX1_reads 62 = .ok (.iload 5, 2) := by decide +kernel
theorem dX1_reads_64 : decode cX1_reads 64 = .ok (.iaload, 1) := by decide +kernel
theorem dX1_reads_65 : decode cX1_reads 65 = .ok (.iload 4, 2) := by decide +kernel
theorem dX1_reads_67 : decode cX1_reads 67 = .ok (.ixor, 1) := by decide +kernel
theorem dX1_reads_68 : decode cX1_reads 68 = .ok (.invokestatic 63, 3) := by decide +kernel
theorem dX1_reads_71 : decode cX1_reads 71 = .ok (.isub, 1) := by decide +kernel
theorem dX1_reads_72 : decode cX1_reads 72 = .ok (.aload_n 0, 1) := by decide +kernel
theorem dX1_reads_73 : decode cX1_reads 73 = .ok (.getfield 31, 3) := by decide +kernel
theorem dX1_reads_76 : decode cX1_reads 76 = .ok (.iload_n 1, 1) := by decide +kernel
theorem dX1_reads_77 : decode cX1_reads 77 = .ok (.iaload, 1) := by decide +kernel
theorem dX1_reads_78 : decode cX1_reads 78 = .ok (.if_icmp .lt 7, 3) := by decide +kernel
theorem dX1_reads_81 : decode cX1_reads 81 = .ok (.iconst 1, 1) := by decide +kernel
theorem dX1_reads_82 : decode cX1_reads 82 = .ok (.goto 4, 3) := by decide +kernel
theorem dX1_reads_85 : decode cX1_reads 85 = .ok (.iconst 0, 1) := by decide +kernel
theorem dX1_reads_86 : decode cX1_reads 86 = .ok (.istore 7, 2) := by decide +kernel
theorem dX1_reads_88 : decode cX1_reads 88 = .ok (.bipush 8, 2) := by decide +kernel
theorem dX1_reads_90 : decode cX1_reads 90 = .ok (.iload_n 2, 1) := by decide +kernel
theorem dX1_reads_91 : decode cX1_reads 91 = .ok (.imul, 1) := by decide +kernel
theorem dX1_reads_92 : decode cX1_reads 92 = .ok (.iload 7, 2) := by decide +kernel
theorem dX1_reads_94 : decode cX1_reads 94 = .ok (.ifCond .eq 8, 3) := by decide +kernel
theorem dX1_reads_97 : decode cX1_reads 97 = .ok (.iload 5, 2) := by decide +kernel
theorem dX1_reads_99 : decode cX1_reads 99 = .ok (.goto 5, 3) := by decide +kernel
theorem dX1_reads_102 : decode cX1_reads 102 = .ok (.iload 6, 2) := by decide +kernel
theorem dX1_reads_104 : decode cX1_reads 104 = .ok (.iadd, 1) := by decide +kernel
theorem dX1_reads_105 : decode cX1_reads 105 = .ok (.istore_n 2, 1) := by decide +kernel
theorem dX1_reads_106 : decode cX1_reads 106 = .ok (.iinc 3 1, 3) := by decide +kernel
theorem dX1_reads_109 : decode cX1_reads 109 = .ok (.goto (-105), 3) := by decide +kernel
theorem dX1_reads_112 : decode cX1_reads 112 = .ok (.iload_n 2, 1) := by decide +kernel
theorem dX1_reads_113 : decode cX1_reads 113 = .ok (.ireturn, 1) := by decide +kernel
set_option maxRecDepth 20000 in
theorem ggX1_read_X1_isExit : GoodIn wsX1_read wsX1_isExit := goodIn_r _ [6, 7, 8, 5, 9, 10, 11, 12] (by decide +kernel) (by decide +kernel)
set_option maxRecDepth 20000 in
theorem gX1_read_X1_isExit : GoodIn wsX1_read (va_wsS RX1 69 yX1_isExit wsX1_isExit) := goodIn_app (goodIn_of _ (by decide +kernel)) ggX1_read_X1_isExit
set_option maxRecDepth 20000 in
theorem ggX1_read_X1_reads : GoodIn wsX1_read wsX1_reads := goodIn_r _ [16, 2, 17, 18, 19, 20, 21, 22, 5, 23, 24, 25, 26, 27, 28, 29, 30, 31, 32, 33, 34, 35, 36, 37, 38, 39, 40, 41] (by decide +kernel) (by decide +kernel)
set_option maxRecDepth 20000 in
theorem gX1_read_X1_reads : GoodIn wsX1_read (wsV RX1 100 RX1 yX1_reads wsX1_reads) := goodIn_app (goodIn_of _ (by decide +kernel)) ggX1_read_X1_reads
theorem dX1_read_0 : decode cX1_read 0 = .ok (.aload_n 0, 1) := by decide +kernel
theorem dX1_read_1 : decode cX1_read 1 = .ok (.iload_n 1, 1) := by decide +kernel
theorem dX1_read_2 : decode cX1_read 2 = .ok (.iload_n 2, 1) := by decide +kernel
theorem dX1_read_3 : decode cX1_read 3 = .ok (.invokestatic 69, 3) := by decide +kernel
theorem dX1_read_6 : decode cX1_read 6 = .ok (.ifCond .eq 7, 3) := by decide +kernel
theorem dX1_read_9 : decode cX1_read 9 = .ok (.iconst 0, 1) := by decide +kernel
theorem dX1_read_10 : decode cX1_read 10 = .ok (.goto 4, 3) := by decide +kernel
theorem dX1_read_13 : decode cX1_read 13 = .ok (.iconst 1, 1) := by decide +kernel
theorem dX1_read_14 : decode cX1_read 14 = .ok (.putfield 41, 3) := by decide +kernel
theorem dX1_read_17 : decode cX1_read 17 = .ok (.iconst 4, 1) := by decide +kernel
theorem dX1_read_18 : decode cX1_read 18 = .ok (.iload_n 1, 1) := by decide +kernel
theorem dX1_read_19 : decode cX1_read 19 = .ok (.imul, 1) := by decide +kernel
theorem dX1_read_20 : decode cX1_read 20 = .ok (.iload_n 2, 1) := by decide +kernel
theorem dX1_read_21 : decode cX1_read 21 = .ok (.iadd, 1) := by decide +kernel
theorem dX1_read_22 : decode cX1_read 22 = .ok (.istore_n 3, 1) := by decide +kernel
theorem dX1_read_23 : decode cX1_read 23 = .ok (.aload_n 0, 1) := by decide +kernel
theorem dX1_read_24 : decode cX1_read 24 = .ok (.getfield 41, 3) := by decide +kernel
theorem dX1_read_27 : decode cX1_read 27 = .ok (.ifCond .le 7, 3) := by decide +kernel
theorem dX1_read_30 : decode cX1_read 30 = .ok (.iconst 0, 1) := by decide +kernel
theorem dX1_read_31 : decode cX1_read 31 = .ok (.goto 21, 3) := by decide +kernel
theorem dX1_read_34 : decode cX1_read 34 = .ok (.aload_n 0, 1) := by decide +kernel
theorem dX1_read_35 : decode cX1_read 35 = .ok (.getfield 28, 3) := by decide +kernel
theorem dX1_read_38 : decode cX1_read 38 = .ok (.iload_n 3, 1) := by decide +kernel
theorem dX1_read_39 : decode cX1_read 39 = .ok (.iaload, 1) := by decide +kernel
theorem dX1_read_40 : decode cX1_read 40 = .ok (.ifCond .ne 7, 3) := by decide +kernel
theorem dX1_read_43 : decode cX1_read 43 = .ok (.iconst (-1), 1) := by decide +kernel
theorem dX1_read_44 : decode cX1_read 44 = .ok (.goto 8, 3) := by decide +kernel
theorem dX1_read_47 : decode cX1_read 47 = .ok (.aload_n 0, 1) := by decide +kernel
theorem dX1_read_48 : decode cX1_read 48 = .ok (.iload_n 3, 1) := by decide +kernel
theorem dX1_read_49 : decode cX1_read 49 = .ok (.invokevirtual 100, 3) := by decide +kernel
theorem dX1_read_52 : decode cX1_read 52 = .ok (.ireturn, 1) := by decide +kernel
theorem dX1_cost_0 : decode cX1_cost 0 = .ok (.aload_n 0, 1) := by decide +kernel
theorem dX1_cost_1 : decode cX1_cost 1 = .ok (.iconst 0, 1) := by decide +kernel
theorem dX1_cost_2 : decode cX1_cost 2 = .ok (.putfield 41, 3) := by decide +kernel
theorem dX1_cost_5 : decode cX1_cost 5 = .ok (.aload_n 0, 1) := by decide +kernel
theorem dX1_cost_6 : decode cX1_cost 6 = .ok (.getfield 84, 3) := by decide +kernel
theorem dX1_cost_9 : decode cX1_cost 9 = .ok (.lreturn, 1) := by decide +kernel
set_option maxRecDepth 20000 in
theorem ggX1_takes_X1_reads : GoodIn wsX1_takes wsX1_reads := goodIn_r _ [8, 3, 9, 10, 11, 12, 13, 14, 7, 15, 16, 17, 18, 19, 20, 21, 22, 23, 24, 25, 26, 27, 28, 29, 30, 31, 32, 33] (by decide +kernel) (by decide +kernel)
set_option maxRecDepth 20000 in
theorem gX1_takes_X1_reads : GoodIn wsX1_takes (wsV RX1 100 RX1 yX1_reads wsX1_reads) := goodIn_app (goodIn_of _ (by decide +kernel)) ggX1_takes_X1_reads
theorem dX1_takes_0 : decode cX1_takes 0 = .ok (.iconst (-1), 1) := by decide +kernel
theorem dX1_takes_1 : decode cX1_takes 1 = .ok (.istore 4, 2) := by decide +kernel
theorem dX1_takes_3 : decode cX1_takes 3 = .ok (.iconst (-1), 1) := by decide +kernel
theorem dX1_takes_4 : decode cX1_takes 4 = .ok (.istore 5, 2) := by decide +kernel
theorem dX1_takes_6 : decode cX1_takes 6 = .ok (.iconst 4, 1) := by decide +kernel
theorem dX1_takes_7 : decode cX1_takes 7 = .ok (.iload_n 1, 1) := by decide +kernel
theorem dX1_takes_8 : decode cX1_takes 8 = .ok (.imul, 1) := by decide +kernel
theorem dX1_takes_9 : decode cX1_takes 9 = .ok (.iconst 4, 1) := by decide +kernel
theorem dX1_takes_10 : decode cX1_takes 10 = .ok (.iadd, 1) := by decide +kernel
theorem dX1_takes_11 : decode cX1_takes 11 = .ok (.iconst 1, 1) := by decide +kernel
theorem dX1_takes_12 : decode cX1_takes 12 = .ok (.isub, 1) := by decide +kernel
theorem dX1_takes_13 : decode cX1_takes 13 = .ok (.istore 6, 2) := by decide +kernel
theorem dX1_takes_15 : decode cX1_takes 15 = .ok (.iload 6, 2) := by decide +kernel
theorem dX1_takes_17 : decode cX1_takes 17 = .ok (.iconst 4, 1) := by decide +kernel
theorem dX1_takes_18 : decode cX1_takes 18 = .ok (.iload_n 1, 1) := by decide +kernel
theorem dX1_takes_19 : decode cX1_takes 19 = .ok (.imul, 1) := by decide +kernel
theorem dX1_takes_20 : decode cX1_takes 20 = .ok (.if_icmp .lt 86, 3) := by decide +kernel
theorem dX1_takes_23 : decode cX1_takes 23 = .ok (.aload_n 0, 1) := by decide +kernel
theorem dX1_takes_24 : decode cX1_takes 24 = .ok (.getfield 16, 3) := by decide +kernel
theorem dX1_takes_27 : decode cX1_takes 27 = .ok (.iload 6, 2) := by decide +kernel
theorem dX1_takes_29 : decode cX1_takes 29 = .ok (.iaload, 1) := by decide +kernel
theorem dX1_takes_30 : decode cX1_takes 30 = .ok (.iconst (-1), 1) := by decide +kernel
theorem dX1_takes_31 : decode cX1_takes 31 = .ok (.if_icmp .eq 7, 3) := by decide +kernel
theorem dX1_takes_34 : decode cX1_takes 34 = .ok (.iconst 1, 1) := by decide +kernel
theorem dX1_takes_35 : decode cX1_takes 35 = .ok (.goto 4, 3) := by decide +kernel
theorem dX1_takes_38 : decode cX1_takes 38 = .ok (.iconst 0, 1) := by decide +kernel
theorem dX1_takes_39 : decode cX1_takes 39 = .ok (.istore 7, 2) := by decide +kernel
theorem dX1_takes_41 : decode cX1_takes 41 = .ok (.iload 7, 2) := by decide +kernel
theorem dX1_takes_43 : decode cX1_takes 43 = .ok (.ifCond .eq 18, 3) := by decide +kernel
theorem dX1_takes_46 : decode cX1_takes 46 = .ok (.aload_n 0, 1) := by decide +kernel
theorem dX1_takes_47 : decode cX1_takes 47 = .ok (.getfield 37, 3) := by decide +kernel
theorem dX1_takes_50 : decode cX1_takes 50 = .ok (.iload 6, 2) := by decide +kernel
theorem dX1_takes_52 : decode cX1_takes 52 = .ok (.baload, 1) := by decide +kernel
theorem dX1_takes_53 : decode cX1_takes 53 = .ok (.ifCond .ne 8, 3) := by decide +kernel
theorem dX1_takes_56 : decode cX1_takes 56 = .ok (.iload 6, 2) := by decide +kernel
theorem dX1_takes_58 : decode cX1_takes 58 = .ok (.goto 5, 3) := by decide +kernel
theorem dX1_takes_61 : decode cX1_takes 61 = .ok (.iload 4, 2) := by decide +kernel
theorem dX1_takes_63 : decode cX1_takes 63 = .ok (.istore 4, 2) := by decide +kernel
theorem dX1_takes_65 : decode cX1_takes 65 = .ok (.iload 7, 2) := by decide +kernel
theorem dX1_takes_67 : decode cX1_takes 67 = .ok (.ifCond .eq 29, 3) := by decide +kernel
theorem dX1_takes_70 : decode cX1_takes 70 = .ok (.aload_n 0, 1) := by decide +kernel
theorem dX1_takes_71 : decode cX1_takes 71 = .ok (.getfield 28, 3) := by decide +kernel
theorem dX1_takes_74 : decode cX1_takes 74 = .ok (.iload 6, 2) := by decide +kernel
theorem dX1_takes_76 : decode cX1_takes 76 = .ok (.iaload, 1) := by decide +kernel
theorem dX1_takes_77 : decode cX1_takes 77 = .ok (.iload_n 3, 1) := by decide +kernel
theorem dX1_takes_78 : decode cX1_takes 78 = .ok (.if_icmp .ne 18, 3) := by decide +kernel
theorem dX1_takes_81 : decode cX1_takes 81 = .ok (.aload_n 0, 1) := by decide +kernel
theorem dX1_takes_82 : decode cX1_takes 82 = .ok (.iload 6, 2) := by decide +kernel
theorem dX1_takes_84 : decode cX1_takes 84 = .ok (.invokevirtual 100, 3) := by decide +kernel
theorem dX1_takes_87 : decode cX1_takes 87 = .ok (.iload_n 2, 1) := by decide +kernel
theorem dX1_takes_88 : decode cX1_takes 88 = .ok (.if_icmp .ne 8, 3) := by decide +kernel
theorem dX1_takes_91 : decode cX1_takes 91 = .ok (.iload 6, 2) := by decide +kernel
theorem dX1_takes_93 : decode cX1_takes 93 = .ok (.goto 5, 3) := by decide +kernel
theorem dX1_takes_96 : decode cX1_takes 96 = .ok (.iload 5, 2) := by decide +kernel
theorem dX1_takes_98 : decode cX1_takes 98 = .ok (.istore 5, 2) := by decide +kernel
theorem dX1_takes_100 : decode cX1_takes 100 = .ok (.iinc 6 (-1), 3) := by decide +kernel
theorem dX1_takes_103 : decode cX1_takes 103 = .ok (.goto (-88), 3) := by decide +kernel
theorem dX1_takes_106 : decode cX1_takes 106 = .ok (.iload 5, 2) := by decide +kernel
theorem dX1_takes_108 : decode cX1_takes 108 = .ok (.iconst (-1), 1) := by decide +kernel
theorem dX1_takes_109 : decode cX1_takes 109 = .ok (.if_icmp .eq 8, 3) := by decide +kernel
theorem dX1_takes_112 : decode cX1_takes 112 = .ok (.iload 5, 2) := by decide +kernel
theorem dX1_takes_114 : decode cX1_takes 114 = .ok (.goto 5, 3) := by decide +kernel
theorem dX1_takes_117 : decode cX1_takes 117 = .ok (.iload 4, 2) := by decide +kernel
theorem dX1_takes_119 : decode cX1_takes 119 = .ok (.ireturn, 1) := by decide +kernel
set_option maxRecDepth 20000 in
theorem ggX1_follows_X1_takes : GoodIn wsX1_follows wsX1_takes := goodIn_r _ [12, 7, 1, 13, 14, 15, 16, 11, 17, 18, 19, 20, 21, 22, 23, 24, 25, 26, 27, 28, 29, 30, 31, 32, 33, 34, 35, 36, 37, 38, 39, 40, 41, 42] (by decide +kernel) (by decide +kernel)
set_option maxRecDepth 20000 in
theorem gX1_follows_X1_takes : GoodIn wsX1_follows (wsV RX1 113 RX1 yX1_takes wsX1_takes) := goodIn_app (goodIn_of _ (by decide +kernel)) ggX1_follows_X1_takes
theorem dX1_follows_0 : decode cX1_follows 0 = .ok (.iconst 0, 1) := by decide +kernel
theorem dX1_follows_1 : decode cX1_follows 1 = .ok (.istore 5, 2) := by decide +kernel
theorem dX1_follows_3 : decode cX1_follows 3 = .ok (.iload 5, 2) := by decide +kernel
theorem dX1_follows_5 : decode cX1_follows 5 = .ok (.bipush 32, 2) := by decide +kernel
theorem dX1_follows_7 : decode cX1_follows 7 = .ok (.if_icmp .ge 17, 3) := by decide +kernel
theorem dX1_follows_10 : decode cX1_follows 10 = .ok (.aload_n 0, 1) := by decide +kernel
theorem dX1_follows_11 : decode cX1_follows 11 = .ok (.getfield 37, 3) := by decide +kernel
theorem dX1_follows_14 : decode cX1_follows 14 = .ok (.iload 5, 2) := by decide +kernel
theorem dX1_follows_16 : decode cX1_follows 16 = .ok (.iconst 0, 1) := by decide +kernel
theorem dX1_follows_17 : decode cX1_follows 17 = .ok (.bastore, 1) := by decide +kernel
theorem dX1_follows_18 : decode cX1_follows 18 = .ok (.iinc 5 1, 3) := by decide +kernel
theorem dX1_follows_21 : decode cX1_follows 21 = .ok (.goto (-18), 3) := by decide +kernel
theorem dX1_follows_24 : decode cX1_follows 24 = .ok (.aload_n 0, 1) := by decide +kernel
theorem dX1_follows_25 : decode cX1_follows 25 = .ok (.iconst 0, 1) := by decide +kernel
theorem dX1_follows_26 : decode cX1_follows 26 = .ok (.putfield 103, 3) := by decide +kernel
theorem dX1_follows_29 : decode cX1_follows 29 = .ok (.aload_n 0, 1) := by decide +kernel
theorem dX1_follows_30 : decode cX1_follows 30 = .ok (.iload_n 1, 1) := by decide +kernel
theorem dX1_follows_31 : decode cX1_follows 31 = .ok (.putfield 106, 3) := by decide +kernel
theorem dX1_follows_34 : decode cX1_follows 34 = .ok (.aload_n 0, 1) := by decide +kernel
theorem dX1_follows_35 : decode cX1_follows 35 = .ok (.aload_n 0, 1) := by decide +kernel
theorem dX1_follows_36 : decode cX1_follows 36 = .ok (.getfield 22, 3) := by decide +kernel
theorem dX1_follows_39 : decode cX1_follows 39 = .ok (.aload_n 0, 1) := by decide +kernel
theorem dX1_follows_40 : decode cX1_follows 40 = .ok (.getfield 106, 3) := by decide +kernel
theorem dX1_follows_43 : decode cX1_follows 43 = .ok (.iaload, 1) := by decide +kernel
theorem dX1_follows_44 : decode cX1_follows 44 = .ok (.iload_n 3, 1) := by decide +kernel
theorem dX1_follows_45 : decode cX1_follows 45 = .ok (.if_icmp .ne 20, 3) := by decide +kernel
theorem dX1_follows_48 : decode cX1_follows 48 = .ok (.aload_n 0, 1) := by decide +kernel
theorem dX1_follows_49 : decode cX1_follows 49 = .ok (.getfield 19, 3) := by decide +kernel
theorem dX1_follows_52 : decode cX1_follows 52 = .ok (.aload_n 0, 1) := by decide +kernel
theorem dX1_follows_53 : decode cX1_follows 53 = .ok (.getfield 106, 3) := by decide +kernel
theorem dX1_follows_56 : decode cX1_follows 56 = .ok (.iaload, 1) := by decide +kernel
theorem dX1_follows_57 : decode cX1_follows 57 = .ok (.iload_n 2, 1) := by decide +kernel
theorem dX1_follows_58 : decode cX1_follows 58 = .ok (.if_icmp .ne 7, 3) := by decide +kernel
theorem dX1_follows_61 : decode cX1_follows 61 = .ok (.iconst 1, 1) := by decide +kernel
theorem dX1_follows_62 : decode cX1_follows 62 = .ok (.goto 4, 3) := by decide +kernel
theorem dX1_follows_65 : decode cX1_follows 65 = .ok (.iconst 0, 1) := by decide +kernel
theorem dX1_follows_66 : decode cX1_follows 66 = .ok (.putfield 109, 3) := by decide +kernel
theorem dX1_follows_69 : decode cX1_follows 69 = .ok (.iconst 0, 1) := by decide +kernel
theorem dX1_follows_70 : decode cX1_follows 70 = .ok (.istore 5, 2) := by decide +kernel
theorem dX1_follows_72 : decode cX1_follows 72 = .ok (.aload_n 0, 1) := by decide +kernel
theorem dX1_follows_73 : decode cX1_follows 73 = .ok (.getfield 109, 3) := by decide +kernel
theorem dX1_follows_76 : decode cX1_follows 76 = .ok (.ifCond .ne 114, 3) := by decide +kernel
theorem dX1_follows_79 : decode cX1_follows 79 = .ok (.iload 5, 2) := by decide +kernel
theorem dX1_follows_81 : decode cX1_follows 81 = .ok (.ifCond .ne 109, 3) := by decide +kernel
theorem dX1_follows_84 : decode cX1_follows 84 = .ok (.aload_n 0, 1) := by decide +kernel
theorem dX1_follows_85 : decode cX1_follows 85 = .ok (.getfield 103, 3) := by decide +kernel
theorem dX1_follows_88 : decode cX1_follows 88 = .ok (.iload 4, 2) := by decide +kernel
theorem dX1_follows_90 : decode cX1_follows 90 = .ok (.if_icmp .ge 100, 3) := by decide +kernel
theorem dX1_follows_93 : decode cX1_follows 93 = .ok (.aload_n 0, 1) := by decide +kernel
theorem dX1_follows_94 : decode cX1_follows 94 = .ok (.aload_n 0, 1) := by decide +kernel
theorem dX1_follows_95 : decode cX1_follows 95 = .ok (.getfield 106, 3) := by decide +kernel
theorem dX1_follows_98 : decode cX1_follows 98 = .ok (.iload_n 2, 1) := by decide +kernel
theorem dX1_follows_99 : decode cX1_follows 99 = .ok (.iload_n 3, 1) := by decide +kernel
theorem dX1_follows_100 : decode cX1_follows 100 = .ok (.invokevirtual 113, 3) := by decide +kernel
theorem dX1_follows_103 : decode cX1_follows 103 = .ok (.istore 6, 2) := by decide +kernel
theorem dX1_follows_105 : decode cX1_follows 105 = .ok (.iload 6, 2) := by decide +kernel
theorem dX1_follows_107 : decode cX1_follows 107 = .ok (.iconst (-1), 1) := by decide +kernel
theorem dX1_follows_108 : decode cX1_follows 108 = .ok (.if_icmp .ne 7, 3) := by decide +kernel
theorem dX1_follows_111 : decode cX1_follows 111 = .ok (.iconst 1, 1) := by decide +kernel
theorem dX1_follows_112 : decode cX1_follows 112 = .ok (.goto 4, 3) := by decide +kernel
theorem dX1_follows_115 : decode cX1_follows 115 = .ok (.iconst 0, 1) := by decide +kernel
theorem dX1_follows_116 : decode cX1_follows 116 = .ok (.istore 5, 2) := by decide +kernel
theorem dX1_follows_118 : decode cX1_follows 118 = .ok (.iload 5, 2) := by decide +kernel
theorem dX1_follows_120 : decode cX1_follows 120 = .ok (.ifCond .ne 67, 3) := by decide +kernel
theorem dX1_follows_123 : decode cX1_follows 123 = .ok (.aload_n 0, 1) := by decide +kernel
theorem dX1_follows_124 : decode cX1_follows 124 = .ok (.getfield 37, 3) := by decide +kernel
theorem dX1_follows_127 : decode cX1_follows 127 = .ok (.iload 6, 2) := by decide +kernel
theorem dX1_follows_129 : decode cX1_follows 129 = .ok (.iconst 1, 1) := by decide +kernel
theorem dX1_follows_130 : decode cX1_follows 130 = .ok (.bastore, 1) := by decide +kernel
theorem dX1_follows_131 : decode cX1_follows 131 = .ok (.aload_n 0, 1) := by decide +kernel
theorem dX1_follows_132 : decode cX1_follows 132 = .ok (.aload_n 0, 1) := by decide +kernel
theorem dX1_follows_133 : decode cX1_follows 133 = .ok (.getfield 16, 3) := by decide +kernel
theorem dX1_follows_136 : decode cX1_follows 136 = .ok (.iload 6, 2) := by decide +kernel
theorem dX1_follows_138 : decode cX1_follows 138 = .ok (.iaload, 1) := by decide +kernel
theorem dX1_follows_139 : decode cX1_follows 139 = .ok (.putfield 106, 3) := by decide +kernel
theorem dX1_follows_142 : decode cX1_follows 142 = .ok (.aload_n 0, 1) := by decide +kernel
theorem dX1_follows_143 : decode cX1_follows 143 = .ok (.dup, 1) := by decide +kernel
theorem dX1_follows_144 : decode cX1_follows 144 = .ok (.getfield 103, 3) := by decide +kernel
theorem dX1_follows_147 : decode cX1_follows 147 = .ok (.iconst 1, 1) := by decide +kernel
theorem dX1_follows_148 : decode cX1_follows 148 = .ok (.iadd, 1) := by decide +kernel
theorem dX1_follows_149 : decode cX1_follows 149 = .ok (.putfield 103, 3) := by decide +kernel
theorem dX1_follows_152 : decode cX1_follows 152 = .ok (.aload_n 0, 1) := by decide +kernel
theorem dX1_follows_153 : decode cX1_follows 153 = .ok (.aload_n 0, 1) := by decide +kernel
theorem dX1_follows_154 : decode cX1_follows 154 = .ok (.getfield 22, 3) := by decide +kernel
theorem dX1_follows_157 : decode cX1_follows 157 = .ok (.aload_n 0, 1) := by decide +kernel
theorem dX1_follows_158 : decode cX1_follows 158 = .ok (.getfield 106, 3) := by decide +kernel
theorem dX1_follows_161 : decode cX1_follows 161 = .ok (.iaload, 1) := by decide +kernel
theorem dX1_follows_162 : decode cX1_follows 162 = .ok (.iload_n 3, 1) := by decide +kernel
theorem dX1_follows_163 : decode cX1_follows 163 = .ok (.if_icmp .ne 20, 3) := by decide +kernel
theorem dX1_follows_166 : decode cX1_follows 166 = .ok (.aload_n 0, 1) := by decide +kernel
theorem dX1_follows_167 : decode cX1_follows 167 = .ok (.getfield 19, 3) := by decide +kernel
theorem dX1_follows_170 : decode cX1_follows 170 = .ok (.aload_n 0, 1) := by decide +kernel
theorem dX1_follows_171 : decode cX1_follows 171 = .ok (.getfield 106, 3) := by decide +kernel
theorem dX1_follows_174 : decode cX1_follows 174 = .ok (.iaload, 1) := by decide +kernel
theorem dX1_follows_175 : decode cX1_follows 175 = .ok (.iload_n 2, 1) := by decide +kernel
theorem dX1_follows_176 : decode cX1_follows 176 = .ok (.if_icmp .ne 7, 3) := by decide +kernel
theorem dX1_follows_179 : decode cX1_follows 179 = .ok (.iconst 1, 1) := by decide +kernel
theorem dX1_follows_180 : decode cX1_follows 180 = .ok (.goto 4, 3) := by decide +kernel
theorem dX1_follows_183 : decode cX1_follows 183 = .ok (.iconst 0, 1) := by decide +kernel
theorem dX1_follows_184 : decode cX1_follows 184 = .ok (.putfield 109, 3) := by decide +kernel
theorem dX1_follows_187 : decode cX1_follows 187 = .ok (.goto (-115), 3) := by decide +kernel
theorem dX1_follows_190 : decode cX1_follows 190 = .ok (.return_, 1) := by decide +kernel
set_option maxRecDepth 20000 in
theorem ggX1_walk_X1_isPlace : GoodIn wsX1_walk wsX1_isPlace := goodIn_r _ [7, 8, 9, 6, 10] (by decide +kernel) (by decide +kernel)
set_option maxRecDepth 20000 in
theorem gX1_walk_X1_isPlace : GoodIn wsX1_walk (va_wsS RX1 49 yX1_isPlace wsX1_isPlace) := goodIn_app (goodIn_of _ (by decide +kernel)) ggX1_walk_X1_isPlace
set_option maxRecDepth 20000 in
theorem ggX1_walk_X1_isText : GoodIn wsX1_walk wsX1_isText := goodIn_r _ [13, 8, 9, 6, 10, 14, 15, 16] (by decide +kernel) (by decide +kernel)
set_option maxRecDepth 20000 in
theorem gX1_walk_X1_isText : GoodIn wsX1_walk (va_wsS RX1 73 yX1_isText wsX1_isText) := goodIn_app (goodIn_of _ (by decide +kernel)) ggX1_walk_X1_isText
set_option maxRecDepth 20000 in
theorem ggX1_walk_X1_follows : GoodIn wsX1_walk wsX1_follows := goodIn_r _ [20, 21, 3, 22, 23, 24, 2, 25, 26, 27, 28, 6, 29, 30, 31, 32, 33, 34, 35, 36, 37, 38, 39, 40, 41, 42, 43, 44, 45, 46, 47, 48, 49, 50, 51, 52, 53, 54, 55, 56, 57, 58, 59] (by decide +kernel) (by decide +kernel)
set_option maxRecDepth 20000 in
theorem gX1_walk_X1_follows : GoodIn wsX1_walk (wsV RX1 116 RX1 yX1_follows wsX1_follows) := goodIn_app (goodIn_of _ (by decide +kernel)) ggX1_walk_X1_follows
theorem dX1_walk_0 : decode cX1_walk 0 = .ok (.aload_n 0, 1) := by decide +kernel
theorem dX1_walk_1 : decode cX1_walk 1 = .ok (.iload_n 1, 1) := by decide +kernel
theorem dX1_walk_2 : decode cX1_walk 2 = .ok (.invokestatic 49, 3) := by decide +kernel
theorem dX1_walk_5 : decode cX1_walk 5 = .ok (.ifCond .ne 7, 3) := by decide +kernel
theorem dX1_walk_8 : decode cX1_walk 8 = .ok (.iconst 1, 1) := by decide +kernel
theorem dX1_walk_9 : decode cX1_walk 9 = .ok (.goto 16, 3) := by decide +kernel
theorem dX1_walk_12 : decode cX1_walk 12 = .ok (.iload_n 2, 1) := by decide +kernel
theorem dX1_walk_13 : decode cX1_walk 13 = .ok (.iload_n 3, 1) := by decide +kernel
theorem dX1_walk_14 : decode cX1_walk 14 = .ok (.invokestatic 73, 3) := by decide +kernel
theorem dX1_walk_17 : decode cX1_walk 17 = .ok (.ifCond .eq 7, 3) := by decide +kernel
theorem dX1_walk_20 : decode cX1_walk 20 = .ok (.iconst 0, 1) := by decide +kernel
theorem dX1_walk_21 : decode cX1_walk 21 = .ok (.goto 4, 3) := by decide +kernel
theorem dX1_walk_24 : decode cX1_walk 24 = .ok (.iconst 2, 1) := by decide +kernel
theorem dX1_walk_25 : decode cX1_walk 25 = .ok (.putfield 41, 3) := by decide +kernel
theorem dX1_walk_28 : decode cX1_walk 28 = .ok (.aload_n 0, 1) := by decide +kernel
theorem dX1_walk_29 : decode cX1_walk 29 = .ok (.getfield 41, 3) := by decide +kernel
theorem dX1_walk_32 : decode cX1_walk 32 = .ok (.ifCond .le 5, 3) := by decide +kernel
theorem dX1_walk_35 : decode cX1_walk 35 = .ok (.iconst 0, 1) := by decide +kernel
theorem dX1_walk_36 : decode cX1_walk 36 = .ok (.ireturn, 1) := by decide +kernel
theorem dX1_walk_37 : decode cX1_walk 37 = .ok (.aload_n 0, 1) := by decide +kernel
theorem dX1_walk_38 : decode cX1_walk 38 = .ok (.iload_n 1, 1) := by decide +kernel
theorem dX1_walk_39 : decode cX1_walk 39 = .ok (.iload_n 2, 1) := by decide +kernel
theorem dX1_walk_40 : decode cX1_walk 40 = .ok (.iload_n 3, 1) := by decide +kernel
theorem dX1_walk_41 : decode cX1_walk 41 = .ok (.bipush 30, 2) := by decide +kernel
theorem dX1_walk_43 : decode cX1_walk 43 = .ok (.invokevirtual 116, 3) := by decide +kernel
theorem dX1_walk_46 : decode cX1_walk 46 = .ok (.aload_n 0, 1) := by decide +kernel
theorem dX1_walk_47 : decode cX1_walk 47 = .ok (.getfield 109, 3) := by decide +kernel
theorem dX1_walk_50 : decode cX1_walk 50 = .ok (.ifCond .eq 10, 3) := by decide +kernel
theorem dX1_walk_53 : decode cX1_walk 53 = .ok (.aload_n 0, 1) := by decide +kernel
theorem dX1_walk_54 : decode cX1_walk 54 = .ok (.getfield 103, 3) := by decide +kernel
theorem dX1_walk_57 : decode cX1_walk 57 = .ok (.goto 4, 3) := by decide +kernel
theorem dX1_walk_60 : decode cX1_walk 60 = .ok (.iconst (-1), 1) := by decide +kernel
theorem dX1_walk_61 : decode cX1_walk 61 = .ok (.ireturn, 1) := by decide +kernel
set_option maxRecDepth 20000 in
theorem ggX1_walkBySteps_X1_walk : GoodIn wsX1_walkBySteps wsX1_walk := goodIn_r _ [5, 6, 7, 8, 9, 10, 4, 11, 12, 13, 14, 15, 16, 17, 18, 19, 20, 21, 22, 23, 24, 25, 26, 27, 28, 29, 30, 31, 32, 33, 34, 35, 36, 37, 38, 39, 40, 41, 42, 43, 44, 45, 46, 47, 48, 49, 50, 51, 52, 53, 54, 55, 56, 57, 58, 59, 60, 61, 62, 63] (by decide +kernel) (by decide +kernel)
set_option maxRecDepth 20000 in
theorem gX1_walkBySteps_X1_walk : GoodIn wsX1_walkBySteps (wsV RX1 120 RX1 yX1_walk wsX1_walk) := goodIn_app (goodIn_of _ (by decide +kernel)) ggX1_walkBySteps_X1_walk
theorem dX1_walkBySteps_0 : decode cX1_walkBySteps 0 = .ok (.aload_n 0, 1) := by decide +kernel
theorem dX1_walkBySteps_1 : decode cX1_walkBySteps 1 = .ok (.iload_n 1, 1) := by decide +kernel
theorem dX1_walkBySteps_2 : decode cX1_walkBySteps 2 = .ok (.iload_n 2, 1) := by decide +kernel
theorem dX1_walkBySteps_3 : decode cX1_walkBySteps 3 = .ok (.iload_n 3, 1) := by decide +kernel
theorem dX1_walkBySteps_4 : decode cX1_walkBySteps 4 = .ok (.invokevirtual 120, 3) := by decide +kernel
theorem dX1_walkBySteps_7 : decode cX1_walkBySteps 7 = .ok (.ireturn, 1) := by decide +kernel
set_option maxRecDepth 20000 in
theorem ggX1_placeBehind_X1_isPlace : GoodIn wsX1_placeBehind wsX1_isPlace := goodIn_r _ [6, 7, 8, 5, 9] (by decide +kernel) (by decide +kernel)
set_option maxRecDepth 20000 in
theorem gX1_placeBehind_X1_isPlace : GoodIn wsX1_placeBehind (va_wsS RX1 49 yX1_isPlace wsX1_isPlace) := goodIn_app (goodIn_of _ (by decide +kernel)) ggX1_placeBehind_X1_isPlace
set_option maxRecDepth 20000 in
theorem ggX1_placeBehind_X1_isText : GoodIn wsX1_placeBehind wsX1_isText := goodIn_r _ [12, 7, 8, 5, 9, 13, 14, 15] (by decide +kernel) (by decide +kernel)
set_option maxRecDepth 20000 in
theorem gX1_placeBehind_X1_isText : GoodIn wsX1_placeBehind (va_wsS RX1 73 yX1_isText wsX1_isText) := goodIn_app (goodIn_of _ (by decide +kernel)) ggX1_placeBehind_X1_isText
set_option maxRecDepth 20000 in
theorem ggX1_placeBehind_X1_in : GoodIn wsX1_placeBehind wsX1_in := goodIn_r _ [9] (by decide +kernel) (by decide +kernel)
set_option maxRecDepth 20000 in
theorem gX1_placeBehind_X1_in : GoodIn wsX1_placeBehind (va_wsS RX1 45 yX1_in wsX1_in) := goodIn_app (goodIn_of _ (by decide +kernel)) ggX1_placeBehind_X1_in
set_option maxRecDepth 20000 in
theorem ggX1_placeBehind_X1_follows : GoodIn wsX1_placeBehind wsX1_follows := goodIn_r _ [19, 20, 21, 2, 22, 23, 24, 25, 26, 27, 28, 5, 29, 30, 31, 32, 33, 34, 35, 36, 37, 38, 39, 40, 41, 42, 43, 44, 45, 46, 47, 48, 49, 50, 51, 52, 53, 54, 55, 56, 57, 58, 59] (by decide +kernel) (by decide +kernel)
set_option maxRecDepth 20000 in
theorem gX1_placeBehind_X1_follows : GoodIn wsX1_placeBehind (wsV RX1 116 RX1 yX1_follows wsX1_follows) := goodIn_app (goodIn_of _ (by decide +kernel)) ggX1_placeBehind_X1_follows
theorem dX1_placeBehind_0 : decode cX1_placeBehind 0 = .ok (.aload_n 0, 1) := by decide +kernel
theorem dX1_placeBehind_1 : decode cX1_placeBehind 1 = .ok (.iload_n 1, 1) := by decide +kernel
theorem dX1_placeBehind_2 : decode cX1_placeBehind 2 = .ok (.invokestatic 49, 3) := by decide +kernel
theorem dX1_placeBehind_5 : decode cX1_placeBehind 5 = .ok (.ifCond .ne 7, 3) := by decide +kernel
theorem dX1_placeBehind_8 : decode cX1_placeBehind 8 = .ok (.iconst 1, 1) := by decide +kernel
theorem dX1_placeBehind_9 : decode cX1_placeBehind 9 = .ok (.goto 27, 3) := by decide +kernel
theorem dX1_placeBehind_12 : decode cX1_placeBehind 12 = .ok (.iload_n 2, 1) := by decide +kernel
theorem dX1_placeBehind_13 : decode cX1_placeBehind 13 = .ok (.iload_n 3, 1) := by decide +kernel
theorem dX1_placeBehind_14 : decode cX1_placeBehind 14 = .ok (.invokestatic 73, 3) := by decide +kernel
theorem dX1_placeBehind_17 : decode cX1_placeBehind 17 = .ok (.ifCond .eq 18, 3) := by decide +kernel
theorem dX1_placeBehind_20 : decode cX1_placeBehind 20 = .ok (.iload 4, 2) := by decide +kernel
theorem dX1_placeBehind_22 : decode cX1_placeBehind 22 = .ok (.iconst 0, 1) := by decide +kernel
theorem dX1_placeBehind_23 : decode cX1_placeBehind 23 = .ok (.bipush 30, 2) := by decide +kernel
theorem dX1_placeBehind_25 : decode cX1_placeBehind 25 = .ok (.invokestatic 45, 3) := by decide +kernel
theorem dX1_placeBehind_28 : decode cX1_placeBehind 28 = .ok (.ifCond .eq 7, 3) := by decide +kernel
theorem dX1_placeBehind_31 : decode cX1_placeBehind 31 = .ok (.iconst 0, 1) := by decide +kernel
theorem dX1_placeBehind_32 : decode cX1_placeBehind 32 = .ok (.goto 4, 3) := by decide +kernel
theorem dX1_placeBehind_35 : decode cX1_placeBehind 35 = .ok (.iconst 2, 1) := by decide +kernel
theorem dX1_placeBehind_36 : decode cX1_placeBehind 36 = .ok (.putfield 41, 3) := by decide +kernel
theorem dX1_placeBehind_39 : decode cX1_placeBehind 39 = .ok (.aload_n 0, 1) := by decide +kernel
theorem dX1_placeBehind_40 : decode cX1_placeBehind 40 = .ok (.getfield 41, 3) := by decide +kernel
theorem dX1_placeBehind_43 : decode cX1_placeBehind 43 = .ok (.ifCond .le 5, 3) := by decide +kernel
theorem dX1_placeBehind_46 : decode cX1_placeBehind 46 = .ok (.iconst 0, 1) := by decide +kernel
theorem dX1_placeBehind_47 : decode cX1_placeBehind 47 = .ok (.ireturn, 1) := by decide +kernel
theorem dX1_placeBehind_48 : decode cX1_placeBehind 48 = .ok (.aload_n 0, 1) := by decide +kernel
theorem dX1_placeBehind_49 : decode cX1_placeBehind 49 = .ok (.iload_n 1, 1) := by decide +kernel
theorem dX1_placeBehind_50 : decode cX1_placeBehind 50 = .ok (.iload_n 2, 1) := by decide +kernel
theorem dX1_placeBehind_51 : decode cX1_placeBehind 51 = .ok (.iload_n 3, 1) := by decide +kernel
theorem dX1_placeBehind_52 : decode cX1_placeBehind 52 = .ok (.iload 4, 2) := by decide +kernel
theorem dX1_placeBehind_54 : decode cX1_placeBehind 54 = .ok (.invokevirtual 116, 3) := by decide +kernel
theorem dX1_placeBehind_57 : decode cX1_placeBehind 57 = .ok (.aload_n 0, 1) := by decide +kernel
theorem dX1_placeBehind_58 : decode cX1_placeBehind 58 = .ok (.getfield 106, 3) := by decide +kernel
theorem dX1_placeBehind_61 : decode cX1_placeBehind 61 = .ok (.ireturn, 1) := by decide +kernel
