set_option maxRecDepth 20000 in
theorem ggL_law_X0_init : GoodIn wsL_law wsX0_init := goodIn_r _ [6, 7, 8, 9, 3, 10, 11, 12, 13, 14, 15, 16, 17, 18, 19, 20, 21, 22, 23, 213, 214, 215, 216, 217, 218, 219, 220, 221, 222] (by decide +kernel) (by decide +kernel)
set_option maxRecDepth 20000 in
theorem gL_law_X0_init : GoodIn wsL_law (wsX0_init) := ggL_law_X0_init
set_option maxRecDepth 20000 in
theorem ggL_law_L_cell : GoodIn wsL_law wsL_cell := goodIn_r _ [27] (by decide +kernel) (by decide +kernel)
set_option maxRecDepth 20000 in
theorem gL_law_L_cell : GoodIn wsL_law (va_wsS RL 30 yL_cell wsL_cell) := goodIn_app (goodIn_of _ (by decide +kernel)) ggL_law_L_cell
set_option maxRecDepth 20000 in
theorem ggL_law_L_low : GoodIn wsL_law wsL_low := goodIn_r _ [30, 31] (by decide +kernel) (by decide +kernel)
set_option maxRecDepth 20000 in
theorem gL_law_L_low : GoodIn wsL_law (va_wsS RL 36 yL_low wsL_low) := goodIn_app (goodIn_of _ (by decide +kernel)) ggL_law_L_low
set_option maxRecDepth 20000 in
theorem ggL_law_X0_stroke : GoodIn wsL_law wsX0_stroke := goodIn_ca (goodIn_ca (goodIn_r _ [35, 10, 36, 37, 2, 38, 39, 40, 41, 42, 43, 44, 45, 46, 47, 48, 49, 50, 51, 52, 53, 54, 55, 56, 57, 58, 59, 60, 61, 62, 63, 64, 65, 18, 66, 67, 68, 69, 70, 71, 72, 73, 74, 75, 213, 214, 215, 216, 217, 218, 219, 220, 221, 222] (by decide +kernel) (by decide +kernel)) (goodIn_sub (fun _ h => List.mem_append_left _ (List.mem_append_left _ (List.mem_append_right _ h))) (by decide +kernel))) (goodIn_sub (fun _ h => List.mem_append_left _ (List.mem_append_right _ h)) (by decide +kernel))
set_option maxRecDepth 20000 in
theorem gL_law_X0_stroke : GoodIn wsL_law (wsV RL 39 RX0 yX0_stroke wsX0_stroke) := goodIn_app (goodIn_of _ (by decide +kernel)) ggL_law_X0_stroke
set_option maxRecDepth 20000 in
theorem ggL_law_X0_space : GoodIn wsL_law wsX0_space := goodIn_ca (goodIn_ca (goodIn_r _ [79, 44, 45, 11, 36, 37, 2, 38, 39, 40, 80, 81, 82, 213, 214, 215, 216, 217, 218, 219, 220, 221, 222] (by decide +kernel) (by decide +kernel)) (goodIn_sub (fun _ h => List.mem_append_left _ (List.mem_append_right _ h)) (by decide +kernel))) (goodIn_sub (fun _ h => List.mem_append_left _ (List.mem_append_left _ (List.mem_append_right _ h))) (by decide +kernel))
set_option maxRecDepth 20000 in
theorem gL_law_X0_space : GoodIn wsL_law (wsV RL 43 RX0 yX0_space wsX0_space) := goodIn_app (goodIn_of _ (by decide +kernel)) ggL_law_X0_space
set_option maxRecDepth 20000 in
theorem ggL_law_X0_lead : GoodIn wsL_law wsX0_lead := goodIn_ca (goodIn_r _ [86, 12, 87, 88, 2, 89, 39, 40, 90, 91, 92, 93, 94, 95, 62, 63, 64, 65, 18, 213, 214, 215, 216, 217, 218, 219, 220, 221, 222] (by decide +kernel) (by decide +kernel)) (goodIn_sub (fun _ h => List.mem_append_left _ (List.mem_append_left _ (List.mem_append_right _ h))) (by decide +kernel))
set_option maxRecDepth 20000 in
theorem gL_law_X0_lead : GoodIn wsL_law (wsV RL 46 RX0 yX0_lead wsX0_lead) := goodIn_app (goodIn_of _ (by decide +kernel)) ggL_law_X0_lead
set_option maxRecDepth 20000 in
theorem ggL_law_X0_name : GoodIn wsL_law wsX0_name := goodIn_ca (goodIn_ca (goodIn_r _ [99, 13, 90, 91, 2, 92, 39, 40, 100, 101, 102, 44, 45, 103, 104, 105, 62, 63, 64, 65, 18, 213, 214, 215, 216, 217, 218, 219, 220, 221, 222] (by decide +kernel) (by decide +kernel)) (goodIn_sub (fun _ h => List.mem_append_left _ (List.mem_append_left _ (List.mem_append_right _ h))) (by decide +kernel))) (goodIn_sub (fun _ h => List.mem_append_left _ (List.mem_append_right _ h)) (by decide +kernel))
set_option maxRecDepth 20000 in
theorem gL_law_X0_name : GoodIn wsL_law (wsV RL 49 RX0 yX0_name wsX0_name) := goodIn_app (goodIn_of _ (by decide +kernel)) ggL_law_X0_name
set_option maxRecDepth 20000 in
theorem ggL_law_X0_walk : GoodIn wsL_law wsX0_walk := goodIn_ca (goodIn_ca (goodIn_r _ [109, 18, 19, 90, 91, 2, 92, 39, 40, 100, 101, 102, 44, 45, 103, 104, 105, 20, 21, 22, 23, 110, 111, 112, 113, 13, 12, 114, 115, 116, 117, 93, 94, 95, 118, 119, 120, 121, 14, 16, 15, 122, 123, 124, 125, 126, 127, 128, 10, 129, 130, 131, 132, 66, 67, 68, 69, 70, 71, 72, 73, 74, 75, 213, 214, 215, 216, 217, 218, 219, 220, 221, 222] (by decide +kernel) (by decide +kernel)) (goodIn_sub (fun _ h => List.mem_append_left _ (List.mem_append_left _ (List.mem_append_right _ h))) (by decide +kernel))) (goodIn_sub (fun _ h => List.mem_append_left _ (List.mem_append_right _ h)) (by decide +kernel))
set_option maxRecDepth 20000 in
theorem gL_law_X0_walk : GoodIn wsL_law (wsV RL 8 RX0 yX0_walk wsX0_walk) := goodIn_app (goodIn_of _ (by decide +kernel)) ggL_law_X0_walk
set_option maxRecDepth 20000 in
theorem ggL_law_X0_textWidth : GoodIn wsL_law wsX0_textWidth := goodIn_ca (goodIn_r _ [136, 100, 101, 2, 102, 44, 45, 103, 104, 105, 137, 138, 139, 140, 10, 11, 122, 123, 124, 141, 142, 143, 144, 145, 146, 147, 148, 149, 53, 54, 55, 46, 47, 48, 49, 56, 57, 58, 59, 60, 61, 80, 81, 82, 213, 214, 215, 216, 217, 218, 219, 220, 221, 222] (by decide +kernel) (by decide +kernel)) (goodIn_sub (fun _ h => List.mem_append_left _ (List.mem_append_right _ h)) (by decide +kernel))
set_option maxRecDepth 20000 in
theorem gL_law_X0_textWidth : GoodIn wsL_law (wsV RL 53 RX0 yX0_textWidth wsX0_textWidth) := goodIn_app (goodIn_of _ (by decide +kernel)) ggL_law_X0_textWidth
set_option maxRecDepth 20000 in
theorem ggL_law_X0_cut : GoodIn wsL_law wsX0_cut := goodIn_ca (goodIn_ca (goodIn_ca (goodIn_r _ [153, 44, 45, 154, 155, 14, 15, 87, 88, 2, 89, 39, 40, 90, 91, 92, 100, 101, 102, 103, 104, 105, 156, 157, 158, 159, 137, 138, 139, 140, 10, 11, 122, 123, 124, 141, 142, 143, 144, 145, 146, 147, 148, 149, 53, 54, 55, 46, 47, 48, 49, 56, 57, 58, 59, 60, 61, 80, 81, 82, 93, 94, 95, 160, 161, 162, 163, 16, 17, 62, 63, 64, 65, 18, 213, 214, 215, 216, 217, 218, 219, 220, 221, 222] (by decide +kernel) (by decide +kernel)) (goodIn_sub (fun _ h => List.mem_append_left _ (List.mem_append_right _ h)) (by decide +kernel))) (goodIn_sub (fun _ h => List.mem_append_right _ h) (by decide +kernel))) (goodIn_sub (fun _ h => List.mem_append_left _ (List.mem_append_left _ (List.mem_append_right _ h))) (by decide +kernel))
set_option maxRecDepth 20000 in
theorem gL_law_X0_cut : GoodIn wsL_law (wsV RL 56 RX0 yX0_cut wsX0_cut) := goodIn_app (goodIn_of _ (by decide +kernel)) ggL_law_X0_cut
set_option maxRecDepth 20000 in
theorem ggL_law_X0_isOld : GoodIn wsL_law wsX0_isOld := goodIn_ca (goodIn_r _ [167, 87, 88, 2, 89, 39, 40, 90, 91, 92, 93, 94, 95, 168, 169, 170, 171, 14, 16, 10, 122, 123, 124, 141, 142, 143, 213, 214, 215, 216, 217, 218, 219, 220, 221, 222] (by decide +kernel) (by decide +kernel)) (goodIn_sub (fun _ h => List.mem_append_left _ (List.mem_append_left _ (List.mem_append_right _ h))) (by decide +kernel))
set_option maxRecDepth 20000 in
theorem gL_law_X0_isOld : GoodIn wsL_law (wsV RL 60 RX0 yX0_isOld wsX0_isOld) := goodIn_app (goodIn_of _ (by decide +kernel)) ggL_law_X0_isOld
set_option maxRecDepth 20000 in
theorem ggL_law_X0_remove : GoodIn wsL_law wsX0_remove := goodIn_ca (goodIn_r _ [175, 14, 87, 88, 2, 89, 39, 40, 90, 91, 92, 93, 94, 95, 62, 63, 64, 65, 18, 213, 214, 215, 216, 217, 218, 219, 220, 221, 222] (by decide +kernel) (by decide +kernel)) (goodIn_sub (fun _ h => List.mem_append_left _ (List.mem_append_left _ (List.mem_append_right _ h))) (by decide +kernel))
set_option maxRecDepth 20000 in
theorem gL_law_X0_remove : GoodIn wsL_law (wsV RL 64 RX0 yX0_remove wsX0_remove) := goodIn_app (goodIn_of _ (by decide +kernel)) ggL_law_X0_remove
set_option maxRecDepth 20000 in
theorem ggL_law_L_isWalk : GoodIn wsL_law wsL_isWalk := goodIn_ca (goodIn_ca (goodIn_r _ [178, 106, 107, 108, 2, 109, 18, 19, 90, 91, 92, 39, 40, 100, 101, 102, 44, 45, 103, 104, 105, 20, 21, 22, 23, 110, 111, 112, 113, 13, 12, 114, 115, 116, 117, 93, 94, 95, 118, 119, 120, 121, 14, 16, 15, 122, 123, 124, 125, 126, 127, 128, 10, 129, 130, 131, 132, 66, 67, 68, 69, 70, 71, 72, 73, 74, 75, 179, 180, 181, 182, 183, 184, 185, 186, 187, 188, 189, 190, 213, 214, 215, 216, 217, 218, 219, 220, 221, 222] (by decide +kernel) (by decide +kernel)) (goodIn_sub (fun _ h => List.mem_append_left _ (List.mem_append_left _ (List.mem_append_right _ h))) (by decide +kernel))) (goodIn_sub (fun _ h => List.mem_append_left _ (List.mem_append_right _ h)) (by decide +kernel))
set_option maxRecDepth 20000 in
theorem gL_law_L_isWalk : GoodIn wsL_law (va_wsS RL 67 yL_isWalk wsL_isWalk) := goodIn_app (goodIn_of _ (by decide +kernel)) ggL_law_L_isWalk
set_option maxRecDepth 20000 in
theorem ggL_law_X0_read : GoodIn wsL_law wsX0_read := goodIn_ca (goodIn_r _ [194, 14, 87, 88, 2, 89, 39, 40, 90, 91, 92, 93, 94, 95, 118, 119, 120, 121, 16, 15, 122, 123, 124, 125, 126, 127, 128, 10, 129, 130, 131, 132, 66, 67, 68, 69, 70, 71, 72, 73, 74, 75, 103, 104, 105, 195, 196, 197, 213, 214, 215, 216, 217, 218, 219, 220, 221, 222] (by decide +kernel) (by decide +kernel)) (goodIn_sub (fun _ h => List.mem_append_left _ (List.mem_append_left _ (List.mem_append_right _ h))) (by decide +kernel))
set_option maxRecDepth 20000 in
theorem gL_law_X0_read : GoodIn wsL_law (wsV RL 71 RX0 yX0_read wsX0_read) := goodIn_app (goodIn_of _ (by decide +kernel)) ggL_law_X0_read
set_option maxRecDepth 20000 in
theorem ggL_law_X0_cost : GoodIn wsL_law wsX0_cost := goodIn_r _ [201, 17, 213, 214, 215, 216, 217, 218, 219, 220, 221, 222] (by decide +kernel) (by decide +kernel)
set_option maxRecDepth 20000 in
theorem gL_law_X0_cost : GoodIn wsL_law (wsV RL 74 RX0 yX0_cost wsX0_cost) := goodIn_app (goodIn_of _ (by decide +kernel)) ggL_law_X0_cost
set_option maxRecDepth 20000 in
theorem ggL_law_L_areGlyphs : GoodIn wsL_law wsL_areGlyphs := goodIn_ca (goodIn_r _ [204, 205, 206, 207, 2, 208, 10, 36, 37, 38, 39, 40, 66, 67, 68, 69, 70, 71, 72, 73, 74, 75, 209, 210, 211, 212, 144, 145, 146, 147, 148, 149, 53, 54, 55, 46, 47, 48, 49, 56, 57, 58, 59, 60, 61, 213, 214, 215, 216, 217, 218, 219, 220, 221, 222] (by decide +kernel) (by decide +kernel)) (goodIn_sub (fun _ h => List.mem_append_left _ (List.mem_append_left _ (List.mem_append_right _ h))) (by decide +kernel))
set_option maxRecDepth 20000 in
theorem gL_law_L_areGlyphs : GoodIn wsL_law (va_wsS RL 78 yL_areGlyphs wsL_areGlyphs) := goodIn_app (goodIn_of _ (by decide +kernel)) ggL_law_L_areGlyphs
