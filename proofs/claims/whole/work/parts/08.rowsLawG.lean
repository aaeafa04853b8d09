set_option maxRecDepth 20000 in
theorem ggL_law_X0_init : GoodIn wsL_law wsX0_init := goodIn_r _ [9, 10, 11, 12, 13, 14, 15, 16, 17, 18, 19, 20, 21, 22, 23, 24, 25, 26, 27, 413, 414, 415, 416, 417, 418, 419, 420, 421, 422] (by decide +kernel) (by decide +kernel)
set_option maxRecDepth 20000 in
theorem gL_law_X0_init : GoodIn wsL_law (wsX0_init) := ggL_law_X0_init
set_option maxRecDepth 20000 in
theorem ggL_law_X1_init : GoodIn wsL_law wsX1_init := goodIn_r _ [30, 31, 11, 12, 13, 32, 33, 34, 35, 36, 37, 38, 39, 40, 41, 42, 423, 424, 425, 426, 427, 428, 429, 430, 431, 432, 433, 434, 435, 436, 437] (by decide +kernel) (by decide +kernel)
set_option maxRecDepth 20000 in
theorem gL_law_X1_init : GoodIn wsL_law (wsX1_init) := ggL_law_X1_init
set_option maxRecDepth 20000 in
theorem ggL_law_L_stroke : GoodIn wsL_law wsL_stroke := goodIn_ca (goodIn_ca (goodIn_r _ [46, 47, 48, 49, 50, 51, 2, 52, 14, 53, 54, 55, 56, 57, 58, 59, 60, 61, 62, 63, 64, 65, 66, 67, 68, 69, 70, 71, 72, 73, 74, 75, 76, 77, 78, 79, 80, 81, 82, 22, 83, 84, 85, 86, 87, 88, 89, 90, 91, 92, 413, 414, 415, 416, 417, 418, 419, 420, 421, 422] (by decide +kernel) (by decide +kernel)) (goodIn_sub (fun _ h => List.mem_append_left _ (List.mem_append_left _ (List.mem_append_right _ h))) (by decide +kernel))) (goodIn_sub (fun _ h => List.mem_append_left _ (List.mem_append_right _ h)) (by decide +kernel))
set_option maxRecDepth 20000 in
theorem gL_law_L_stroke : GoodIn wsL_law (va_wsS RL 73 yL_stroke wsL_stroke) := goodIn_app (goodIn_of _ (by decide +kernel)) ggL_law_L_stroke
set_option maxRecDepth 20000 in
theorem ggL_law_X1_stroke : GoodIn wsL_law wsX1_stroke := goodIn_r _ [96, 97, 32, 98, 99, 5, 100, 101, 102, 103, 104, 105, 106, 107, 108, 109, 110, 423, 424, 425, 426, 427, 428, 429, 430, 431, 432, 433, 434, 435, 436, 437] (by decide +kernel) (by decide +kernel)
set_option maxRecDepth 20000 in
theorem gL_law_X1_stroke : GoodIn wsL_law (wsV RL 78 RX1 yX1_stroke wsX1_stroke) := goodIn_app (goodIn_of _ (by decide +kernel)) ggL_law_X1_stroke
set_option maxRecDepth 20000 in
theorem ggL_law_X1_thrown : GoodIn wsL_law wsX1_thrown := goodIn_r _ [114, 97, 423, 424, 425, 426, 427, 428, 429, 430, 431, 432, 433, 434, 435, 436, 437] (by decide +kernel) (by decide +kernel)
set_option maxRecDepth 20000 in
theorem gL_law_X1_thrown : GoodIn wsL_law (wsV RL 79 RX1 yX1_thrown wsX1_thrown) := goodIn_app (goodIn_of _ (by decide +kernel)) ggL_law_X1_thrown
set_option maxRecDepth 20000 in
theorem ggL_law_L_difference : GoodIn wsL_law wsL_difference := goodIn_ca (goodIn_r _ [117, 47, 118, 119, 120, 2, 121, 14, 53, 54, 55, 56, 57, 83, 84, 85, 86, 87, 88, 89, 90, 91, 92, 413, 414, 415, 416, 417, 418, 419, 420, 421, 422] (by decide +kernel) (by decide +kernel)) (goodIn_sub (fun _ h => List.mem_append_left _ (List.mem_append_left _ (List.mem_append_right _ h))) (by decide +kernel))
set_option maxRecDepth 20000 in
theorem gL_law_L_difference : GoodIn wsL_law (va_wsS RL 82 yL_difference wsL_difference) := goodIn_app (goodIn_of _ (by decide +kernel)) ggL_law_L_difference
set_option maxRecDepth 20000 in
theorem ggL_law_X1_difference : GoodIn wsL_law wsX1_difference := goodIn_r _ [125, 97, 32, 101, 102, 5, 103, 98, 99, 100, 108, 109, 110, 104, 105, 106, 107, 423, 424, 425, 426, 427, 428, 429, 430, 431, 432, 433, 434, 435, 436, 437] (by decide +kernel) (by decide +kernel)
set_option maxRecDepth 20000 in
theorem gL_law_X1_difference : GoodIn wsL_law (wsV RL 85 RX1 yX1_difference wsX1_difference) := goodIn_app (goodIn_of _ (by decide +kernel)) ggL_law_X1_difference
set_option maxRecDepth 20000 in
theorem ggL_law_L_width : GoodIn wsL_law wsL_width := goodIn_ca (goodIn_r _ [128, 47, 129, 130, 131, 2, 132, 14, 53, 54, 55, 56, 57, 133, 134, 135, 136, 137, 138, 70, 71, 72, 63, 64, 65, 66, 73, 74, 75, 76, 77, 78, 413, 414, 415, 416, 417, 418, 419, 420, 421, 422] (by decide +kernel) (by decide +kernel)) (goodIn_sub (fun _ h => List.mem_append_left _ (List.mem_append_left _ (List.mem_append_right _ h))) (by decide +kernel))
set_option maxRecDepth 20000 in
theorem gL_law_L_width : GoodIn wsL_law (va_wsS RL 86 yL_width wsL_width) := goodIn_app (goodIn_of _ (by decide +kernel)) ggL_law_L_width
set_option maxRecDepth 20000 in
theorem ggL_law_X1_width : GoodIn wsL_law wsX1_width := goodIn_r _ [142, 97, 101, 102, 5, 103, 98, 99, 100, 143, 144, 145, 146, 32, 104, 105, 106, 107, 423, 424, 425, 426, 427, 428, 429, 430, 431, 432, 433, 434, 435, 436, 437] (by decide +kernel) (by decide +kernel)
set_option maxRecDepth 20000 in
theorem gL_law_X1_width : GoodIn wsL_law (wsV RL 89 RX1 yX1_width wsX1_width) := goodIn_app (goodIn_of _ (by decide +kernel)) ggL_law_X1_width
set_option maxRecDepth 20000 in
theorem ggL_law_L_space : GoodIn wsL_law wsL_space := goodIn_ca (goodIn_ca (goodIn_r _ [149, 47, 48, 150, 151, 152, 2, 153, 61, 62, 15, 53, 54, 55, 56, 57, 154, 155, 156, 413, 414, 415, 416, 417, 418, 419, 420, 421, 422] (by decide +kernel) (by decide +kernel)) (goodIn_sub (fun _ h => List.mem_append_left _ (List.mem_append_right _ h)) (by decide +kernel))) (goodIn_sub (fun _ h => List.mem_append_left _ (List.mem_append_left _ (List.mem_append_right _ h))) (by decide +kernel))
set_option maxRecDepth 20000 in
theorem gL_law_L_space : GoodIn wsL_law (va_wsS RL 90 yL_space wsL_space) := goodIn_app (goodIn_of _ (by decide +kernel)) ggL_law_L_space
set_option maxRecDepth 20000 in
theorem ggL_law_X1_space : GoodIn wsL_law wsX1_space := goodIn_r _ [160, 97, 33, 101, 102, 5, 103, 98, 99, 100, 423, 424, 425, 426, 427, 428, 429, 430, 431, 432, 433, 434, 435, 436, 437] (by decide +kernel) (by decide +kernel)
set_option maxRecDepth 20000 in
theorem gL_law_X1_space : GoodIn wsL_law (wsV RL 93 RX1 yX1_space wsX1_space) := goodIn_app (goodIn_of _ (by decide +kernel)) ggL_law_X1_space
set_option maxRecDepth 20000 in
theorem ggL_law_L_lead : GoodIn wsL_law wsL_lead := goodIn_ca (goodIn_r _ [163, 47, 164, 165, 166, 2, 167, 16, 168, 169, 170, 56, 57, 171, 172, 173, 174, 175, 176, 79, 80, 81, 82, 22, 413, 414, 415, 416, 417, 418, 419, 420, 421, 422] (by decide +kernel) (by decide +kernel)) (goodIn_sub (fun _ h => List.mem_append_left _ (List.mem_append_left _ (List.mem_append_right _ h))) (by decide +kernel))
set_option maxRecDepth 20000 in
theorem gL_law_L_lead : GoodIn wsL_law (va_wsS RL 94 yL_lead wsL_lead) := goodIn_app (goodIn_of _ (by decide +kernel)) ggL_law_L_lead
set_option maxRecDepth 20000 in
theorem ggL_law_X1_lead : GoodIn wsL_law wsX1_lead := goodIn_r _ [180, 97, 34, 181, 182, 5, 183, 184, 185, 186, 98, 99, 100, 423, 424, 425, 426, 427, 428, 429, 430, 431, 432, 433, 434, 435, 436, 437] (by decide +kernel) (by decide +kernel)
set_option maxRecDepth 20000 in
theorem gL_law_X1_lead : GoodIn wsL_law (wsV RL 96 RX1 yX1_lead wsX1_lead) := goodIn_app (goodIn_of _ (by decide +kernel)) ggL_law_X1_lead
set_option maxRecDepth 20000 in
theorem ggL_law_L_name : GoodIn wsL_law wsL_name := goodIn_ca (goodIn_ca (goodIn_r _ [189, 47, 48, 190, 191, 192, 2, 193, 17, 171, 172, 173, 56, 57, 194, 195, 196, 61, 62, 197, 198, 199, 79, 80, 81, 82, 22, 413, 414, 415, 416, 417, 418, 419, 420, 421, 422] (by decide +kernel) (by decide +kernel)) (goodIn_sub (fun _ h => List.mem_append_left _ (List.mem_append_left _ (List.mem_append_right _ h))) (by decide +kernel))) (goodIn_sub (fun _ h => List.mem_append_left _ (List.mem_append_right _ h)) (by decide +kernel))
set_option maxRecDepth 20000 in
theorem gL_law_L_name : GoodIn wsL_law (va_wsS RL 97 yL_name wsL_name) := goodIn_app (goodIn_of _ (by decide +kernel)) ggL_law_L_name
set_option maxRecDepth 20000 in
theorem ggL_law_X1_name : GoodIn wsL_law wsX1_name := goodIn_r _ [203, 97, 35, 36, 184, 185, 5, 186, 98, 99, 100, 204, 205, 206, 207, 208, 209, 423, 424, 425, 426, 427, 428, 429, 430, 431, 432, 433, 434, 435, 436, 437] (by decide +kernel) (by decide +kernel)
set_option maxRecDepth 20000 in
theorem gL_law_X1_name : GoodIn wsL_law (wsV RL 100 RX1 yX1_name wsX1_name) := goodIn_app (goodIn_of _ (by decide +kernel)) ggL_law_X1_name
set_option maxRecDepth 20000 in
theorem ggL_law_L_textWidth : GoodIn wsL_law wsL_textWidth := goodIn_ca (goodIn_r _ [212, 48, 213, 214, 215, 2, 216, 194, 195, 196, 61, 62, 197, 198, 199, 217, 218, 219, 220, 14, 15, 221, 222, 223, 224, 225, 226, 133, 134, 135, 136, 137, 138, 70, 71, 72, 63, 64, 65, 66, 73, 74, 75, 76, 77, 78, 154, 155, 156, 413, 414, 415, 416, 417, 418, 419, 420, 421, 422] (by decide +kernel) (by decide +kernel)) (goodIn_sub (fun _ h => List.mem_append_left _ (List.mem_append_right _ h)) (by decide +kernel))
set_option maxRecDepth 20000 in
theorem gL_law_L_textWidth : GoodIn wsL_law (va_wsS RL 101 yL_textWidth wsL_textWidth) := goodIn_app (goodIn_of _ (by decide +kernel)) ggL_law_L_textWidth
set_option maxRecDepth 20000 in
theorem ggL_law_X1_textWidth : GoodIn wsL_law wsX1_textWidth := goodIn_r _ [230, 97, 204, 205, 5, 206, 98, 99, 100, 207, 208, 209, 231, 232, 233, 234, 33, 235, 236, 237, 143, 144, 145, 146, 32, 104, 105, 106, 107, 423, 424, 425, 426, 427, 428, 429, 430, 431, 432, 433, 434, 435, 436, 437] (by decide +kernel) (by decide +kernel)
set_option maxRecDepth 20000 in
theorem gL_law_X1_textWidth : GoodIn wsL_law (wsV RL 103 RX1 yX1_textWidth wsX1_textWidth) := goodIn_app (goodIn_of _ (by decide +kernel)) ggL_law_X1_textWidth
set_option maxRecDepth 20000 in
theorem ggL_law_L_cut : GoodIn wsL_law wsL_cut := goodIn_ca (goodIn_ca (goodIn_ca (goodIn_r _ [240, 47, 48, 241, 242, 243, 244, 2, 245, 61, 62, 246, 247, 18, 19, 168, 169, 170, 56, 57, 171, 172, 173, 194, 195, 196, 197, 198, 199, 248, 249, 250, 251, 217, 218, 219, 220, 14, 15, 221, 222, 223, 224, 225, 226, 133, 134, 135, 136, 137, 138, 70, 71, 72, 63, 64, 65, 66, 73, 74, 75, 76, 77, 78, 154, 155, 156, 174, 175, 176, 252, 253, 254, 255, 20, 21, 79, 80, 81, 82, 22, 413, 414, 415, 416, 417, 418, 419, 420, 421, 422] (by decide +kernel) (by decide +kernel)) (goodIn_sub (fun _ h => List.mem_append_left _ (List.mem_append_right _ h)) (by decide +kernel))) (goodIn_sub (fun _ h => List.mem_append_right _ h) (by decide +kernel))) (goodIn_sub (fun _ h => List.mem_append_left _ (List.mem_append_left _ (List.mem_append_right _ h))) (by decide +kernel))
set_option maxRecDepth 20000 in
theorem gL_law_L_cut : GoodIn wsL_law (va_wsS RL 104 yL_cut wsL_cut) := goodIn_app (goodIn_of _ (by decide +kernel)) ggL_law_L_cut
set_option maxRecDepth 20000 in
theorem ggL_law_X1_cut : GoodIn wsL_law wsX1_cut := goodIn_r _ [259, 97, 37, 38, 39, 181, 182, 5, 183, 184, 185, 186, 98, 99, 100, 104, 105, 106, 107, 204, 205, 206, 207, 208, 209, 260, 261, 262, 263, 231, 232, 233, 234, 33, 235, 236, 237, 143, 144, 145, 146, 32, 264, 265, 266, 267, 40, 268, 423, 424, 425, 426, 427, 428, 429, 430, 431, 432, 433, 434, 435, 436, 437] (by decide +kernel) (by decide +kernel)
set_option maxRecDepth 20000 in
theorem gL_law_X1_cut : GoodIn wsL_law (wsV RL 107 RX1 yX1_cut wsX1_cut) := goodIn_app (goodIn_of _ (by decide +kernel)) ggL_law_X1_cut
set_option maxRecDepth 20000 in
theorem ggL_law_L_remove : GoodIn wsL_law wsL_remove := goodIn_ca (goodIn_r _ [271, 47, 272, 273, 274, 2, 275, 18, 168, 169, 170, 56, 57, 171, 172, 173, 174, 175, 176, 79, 80, 81, 82, 22, 413, 414, 415, 416, 417, 418, 419, 420, 421, 422] (by decide +kernel) (by decide +kernel)) (goodIn_sub (fun _ h => List.mem_append_left _ (List.mem_append_left _ (List.mem_append_right _ h))) (by decide +kernel))
set_option maxRecDepth 20000 in
theorem gL_law_L_remove : GoodIn wsL_law (va_wsS RL 108 yL_remove wsL_remove) := goodIn_app (goodIn_of _ (by decide +kernel)) ggL_law_L_remove
set_option maxRecDepth 20000 in
theorem ggL_law_X1_remove : GoodIn wsL_law wsX1_remove := goodIn_r _ [279, 97, 38, 181, 182, 5, 183, 184, 185, 186, 98, 99, 100, 423, 424, 425, 426, 427, 428, 429, 430, 431, 432, 433, 434, 435, 436, 437] (by decide +kernel) (by decide +kernel)
set_option maxRecDepth 20000 in
theorem gL_law_X1_remove : GoodIn wsL_law (wsV RL 110 RX1 yX1_remove wsX1_remove) := goodIn_app (goodIn_of _ (by decide +kernel)) ggL_law_X1_remove
set_option maxRecDepth 20000 in
theorem ggL_law_L_isOld : GoodIn wsL_law wsL_isOld := goodIn_ca (goodIn_r _ [282, 47, 283, 284, 285, 2, 286, 168, 169, 170, 56, 57, 171, 172, 173, 174, 175, 176, 287, 288, 289, 290, 18, 20, 14, 221, 222, 223, 224, 225, 226, 413, 414, 415, 416, 417, 418, 419, 420, 421, 422] (by decide +kernel) (by decide +kernel)) (goodIn_sub (fun _ h => List.mem_append_left _ (List.mem_append_left _ (List.mem_append_right _ h))) (by decide +kernel))
set_option maxRecDepth 20000 in
theorem gL_law_L_isOld : GoodIn wsL_law (va_wsS RL 111 yL_isOld wsL_isOld) := goodIn_app (goodIn_of _ (by decide +kernel)) ggL_law_L_isOld
set_option maxRecDepth 20000 in
theorem ggL_law_X1_isOld : GoodIn wsL_law wsX1_isOld := goodIn_r _ [294, 97, 181, 182, 5, 183, 184, 185, 186, 98, 99, 100, 295, 296, 297, 298, 38, 40, 32, 37, 235, 236, 237, 207, 208, 209, 423, 424, 425, 426, 427, 428, 429, 430, 431, 432, 433, 434, 435, 436, 437] (by decide +kernel) (by decide +kernel)
set_option maxRecDepth 20000 in
theorem gL_law_X1_isOld : GoodIn wsL_law (wsV RL 113 RX1 yX1_isOld wsX1_isOld) := goodIn_app (goodIn_of _ (by decide +kernel)) ggL_law_X1_isOld
set_option maxRecDepth 20000 in
theorem ggL_law_L_remake : GoodIn wsL_law wsL_remake := goodIn_ca (goodIn_r _ [301, 241, 302, 303, 304, 2, 305, 18, 306, 307, 308, 309, 246, 247, 287, 288, 289, 290, 20, 14, 221, 222, 223, 224, 225, 226, 248, 249, 250, 251, 217, 218, 219, 220, 15, 133, 134, 135, 136, 137, 138, 70, 71, 72, 63, 64, 65, 66, 73, 74, 75, 76, 77, 78, 154, 155, 156, 252, 253, 254, 255, 21, 79, 80, 81, 82, 22, 413, 414, 415, 416, 417, 418, 419, 420, 421, 422] (by decide +kernel) (by decide +kernel)) (goodIn_sub (fun _ h => List.mem_append_right _ h) (by decide +kernel))
set_option maxRecDepth 20000 in
theorem gL_law_L_remake : GoodIn wsL_law (va_wsS RL 114 yL_remake wsL_remake) := goodIn_app (goodIn_of _ (by decide +kernel)) ggL_law_L_remake
set_option maxRecDepth 20000 in
theorem ggL_law_X1_remake : GoodIn wsL_law wsX1_remake := goodIn_r _ [313, 97, 37, 38, 295, 296, 297, 5, 298, 40, 32, 235, 236, 237, 207, 208, 209, 260, 261, 262, 263, 231, 232, 233, 234, 33, 143, 144, 145, 146, 264, 265, 266, 267, 268, 423, 424, 425, 426, 427, 428, 429, 430, 431, 432, 433, 434, 435, 436, 437] (by decide +kernel) (by decide +kernel)
set_option maxRecDepth 20000 in
theorem gL_law_X1_remake : GoodIn wsL_law (wsV RL 117 RX1 yX1_remake wsX1_remake) := goodIn_app (goodIn_of _ (by decide +kernel)) ggL_law_X1_remake
set_option maxRecDepth 20000 in
theorem ggL_law_L_read : GoodIn wsL_law wsL_read := goodIn_ca (goodIn_r _ [316, 47, 317, 318, 319, 2, 320, 18, 168, 169, 170, 56, 57, 171, 172, 173, 174, 175, 176, 321, 322, 323, 324, 20, 19, 221, 222, 223, 325, 326, 327, 328, 14, 329, 330, 331, 332, 83, 84, 85, 86, 87, 88, 89, 90, 91, 92, 197, 198, 199, 333, 334, 335, 413, 414, 415, 416, 417, 418, 419, 420, 421, 422] (by decide +kernel) (by decide +kernel)) (goodIn_sub (fun _ h => List.mem_append_left _ (List.mem_append_left _ (List.mem_append_right _ h))) (by decide +kernel))
set_option maxRecDepth 20000 in
theorem gL_law_L_read : GoodIn wsL_law (va_wsS RL 118 yL_read wsL_read) := goodIn_app (goodIn_of _ (by decide +kernel)) ggL_law_L_read
set_option maxRecDepth 20000 in
theorem ggL_law_X1_read : GoodIn wsL_law wsX1_read := goodIn_r _ [339, 97, 38, 181, 182, 5, 183, 184, 185, 186, 98, 99, 100, 340, 341, 342, 343, 40, 32, 39, 344, 345, 346, 347, 108, 109, 110, 423, 424, 425, 426, 427, 428, 429, 430, 431, 432, 433, 434, 435, 436, 437] (by decide +kernel) (by decide +kernel)
set_option maxRecDepth 20000 in
theorem gL_law_X1_read : GoodIn wsL_law (wsV RL 120 RX1 yX1_read wsX1_read) := goodIn_app (goodIn_of _ (by decide +kernel)) ggL_law_X1_read
set_option maxRecDepth 20000 in
theorem ggL_law_X0_cost : GoodIn wsL_law wsX0_cost := goodIn_r _ [351, 21, 413, 414, 415, 416, 417, 418, 419, 420, 421, 422] (by decide +kernel) (by decide +kernel)
set_option maxRecDepth 20000 in
theorem gL_law_X0_cost : GoodIn wsL_law (wsV RL 121 RX0 yX0_cost wsX0_cost) := goodIn_app (goodIn_of _ (by decide +kernel)) ggL_law_X0_cost
set_option maxRecDepth 20000 in
theorem ggL_law_X1_cost : GoodIn wsL_law wsX1_cost := goodIn_r _ [355, 97, 268, 423, 424, 425, 426, 427, 428, 429, 430, 431, 432, 433, 434, 435, 436, 437] (by decide +kernel) (by decide +kernel)
set_option maxRecDepth 20000 in
theorem gL_law_X1_cost : GoodIn wsL_law (wsV RL 125 RX1 yX1_cost wsX1_cost) := goodIn_app (goodIn_of _ (by decide +kernel)) ggL_law_X1_cost
set_option maxRecDepth 20000 in
theorem ggL_law_L_walk : GoodIn wsL_law wsL_walk := goodIn_ca (goodIn_ca (goodIn_r _ [358, 47, 48, 359, 360, 361, 2, 362, 22, 23, 171, 172, 173, 56, 57, 194, 195, 196, 61, 62, 197, 198, 199, 24, 25, 26, 27, 363, 364, 365, 366, 17, 16, 367, 368, 369, 370, 174, 175, 176, 321, 322, 323, 324, 18, 20, 19, 221, 222, 223, 325, 326, 327, 328, 14, 329, 330, 331, 332, 83, 84, 85, 86, 87, 88, 89, 90, 91, 92, 413, 414, 415, 416, 417, 418, 419, 420, 421, 422] (by decide +kernel) (by decide +kernel)) (goodIn_sub (fun _ h => List.mem_append_left _ (List.mem_append_left _ (List.mem_append_right _ h))) (by decide +kernel))) (goodIn_sub (fun _ h => List.mem_append_left _ (List.mem_append_right _ h)) (by decide +kernel))
set_option maxRecDepth 20000 in
theorem gL_law_L_walk : GoodIn wsL_law (va_wsS RL 126 yL_walk wsL_walk) := goodIn_app (goodIn_of _ (by decide +kernel)) ggL_law_L_walk
set_option maxRecDepth 20000 in
theorem ggL_law_X1_walk : GoodIn wsL_law wsX1_walk := goodIn_r _ [374, 97, 375, 376, 184, 185, 5, 186, 98, 99, 100, 204, 205, 206, 207, 208, 209, 377, 378, 379, 380, 42, 381, 36, 35, 34, 382, 383, 384, 385, 38, 340, 341, 342, 343, 40, 32, 39, 344, 345, 346, 347, 108, 109, 110, 423, 424, 425, 426, 427, 428, 429, 430, 431, 432, 433, 434, 435, 436, 437] (by decide +kernel) (by decide +kernel)
set_option maxRecDepth 20000 in
theorem gL_law_X1_walk : GoodIn wsL_law (wsV RL 128 RX1 yX1_walk wsX1_walk) := goodIn_app (goodIn_of _ (by decide +kernel)) ggL_law_X1_walk
set_option maxRecDepth 20000 in
theorem ggL_law_L_walkBySteps : GoodIn wsL_law wsL_walkBySteps := goodIn_ca (goodIn_ca (goodIn_r _ [388, 47, 48, 389, 390, 391, 2, 392, 171, 172, 173, 56, 57, 194, 195, 196, 61, 62, 197, 198, 199, 363, 364, 365, 366, 17, 16, 367, 368, 369, 370, 174, 175, 176, 321, 322, 323, 324, 18, 20, 19, 221, 222, 223, 325, 326, 327, 328, 14, 329, 330, 331, 332, 83, 84, 85, 86, 87, 88, 89, 90, 91, 92, 413, 414, 415, 416, 417, 418, 419, 420, 421, 422] (by decide +kernel) (by decide +kernel)) (goodIn_sub (fun _ h => List.mem_append_left _ (List.mem_append_left _ (List.mem_append_right _ h))) (by decide +kernel))) (goodIn_sub (fun _ h => List.mem_append_left _ (List.mem_append_right _ h)) (by decide +kernel))
set_option maxRecDepth 20000 in
theorem gL_law_L_walkBySteps : GoodIn wsL_law (va_wsS RL 129 yL_walkBySteps wsL_walkBySteps) := goodIn_app (goodIn_of _ (by decide +kernel)) ggL_law_L_walkBySteps
set_option maxRecDepth 20000 in
theorem ggL_law_X1_walkBySteps : GoodIn wsL_law wsX1_walkBySteps := goodIn_r _ [396, 397, 372, 373, 5, 374, 97, 375, 376, 184, 185, 186, 98, 99, 100, 204, 205, 206, 207, 208, 209, 377, 378, 379, 380, 42, 381, 36, 35, 34, 382, 383, 384, 385, 38, 340, 341, 342, 343, 40, 32, 39, 344, 345, 346, 347, 108, 109, 110, 423, 424, 425, 426, 427, 428, 429, 430, 431, 432, 433, 434, 435, 436, 437] (by decide +kernel) (by decide +kernel)
set_option maxRecDepth 20000 in
theorem gL_law_X1_walkBySteps : GoodIn wsL_law (wsV RL 131 RX1 yX1_walkBySteps wsX1_walkBySteps) := goodIn_app (goodIn_of _ (by decide +kernel)) ggL_law_X1_walkBySteps
set_option maxRecDepth 20000 in
theorem ggL_law_L_placeBehind : GoodIn wsL_law wsL_placeBehind := goodIn_ca (goodIn_ca (goodIn_r _ [400, 47, 48, 401, 402, 403, 2, 404, 61, 62, 171, 172, 173, 56, 57, 194, 195, 196, 197, 198, 199, 405, 406, 407, 408, 17, 16, 367, 368, 369, 370, 174, 175, 176, 321, 322, 323, 324, 18, 20, 19, 221, 222, 223, 325, 326, 327, 328, 14, 329, 330, 331, 332, 83, 84, 85, 86, 87, 88, 89, 90, 91, 92, 413, 414, 415, 416, 417, 418, 419, 420, 421, 422] (by decide +kernel) (by decide +kernel)) (goodIn_sub (fun _ h => List.mem_append_left _ (List.mem_append_right _ h)) (by decide +kernel))) (goodIn_sub (fun _ h => List.mem_append_left _ (List.mem_append_left _ (List.mem_append_right _ h))) (by decide +kernel))
set_option maxRecDepth 20000 in
theorem gL_law_L_placeBehind : GoodIn wsL_law (va_wsS RL 132 yL_placeBehind wsL_placeBehind) := goodIn_app (goodIn_of _ (by decide +kernel)) ggL_law_L_placeBehind
set_option maxRecDepth 20000 in
theorem ggL_law_X1_placeBehind : GoodIn wsL_law wsX1_placeBehind := goodIn_r _ [412, 97, 381, 184, 185, 5, 186, 98, 99, 100, 204, 205, 206, 207, 208, 209, 377, 378, 379, 380, 42, 376, 36, 35, 375, 34, 382, 383, 384, 385, 38, 340, 341, 342, 343, 40, 32, 39, 344, 345, 346, 347, 108, 109, 110, 423, 424, 425, 426, 427, 428, 429, 430, 431, 432, 433, 434, 435, 436, 437] (by decide +kernel) (by decide +kernel)
set_option maxRecDepth 20000 in
theorem gL_law_X1_placeBehind : GoodIn wsL_law (wsV RL 135 RX1 yX1_placeBehind wsX1_placeBehind) := goodIn_app (goodIn_of _ (by decide +kernel)) ggL_law_X1_placeBehind
