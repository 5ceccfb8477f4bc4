theorem wsL_law_x0 : ∀ w ∈ (vx_atS RX6 53 "java/lang/IllegalArgumentException" ["java/lang/RuntimeException", "java/lang/Exception"]).filter goodWord, w ∈ lw_tbl := by decide +kernel
theorem wsL_law_x1 : ∀ w ∈ (vx_atS RX6 75 "java/lang/IllegalStateException" ["java/lang/RuntimeException", "java/lang/Exception"]).filter goodWord, w ∈ lw_tbl := by decide +kernel
theorem wsL_law_x2 : ∀ w ∈ (vx_atS RX6 231 "java/lang/IndexOutOfBoundsException" ["java/lang/RuntimeException", "java/lang/Exception"]).filter goodWord, w ∈ lw_tbl := by decide +kernel
set_option maxRecDepth 20000 in
theorem ggL_act_L_below : GoodIn wsL_act wsL_below := goodIn_r _ [22, 23] (by decide +kernel) (by decide +kernel)
set_option maxRecDepth 20000 in
theorem gL_act_L_below : GoodIn wsL_act (va_wsS RL 15 yL_below wsL_below) := goodIn_app (goodIn_of _ (by decide +kernel)) ggL_act_L_below
set_option maxRecDepth 20000 in
theorem ggL_act_X7_with : GoodIn wsL_act wsX7_with := goodIn_r _ [27, 28] (by decide +kernel) (by decide +kernel)
set_option maxRecDepth 20000 in
theorem gL_act_X7_with : GoodIn wsL_act (va_wsS RL 21 yX7_with wsX7_with) := goodIn_app (goodIn_of _ (by decide +kernel)) ggL_act_X7_with
set_option maxRecDepth 20000 in
theorem ggL_act_X6_fence : GoodIn wsL_act wsX6_fence := goodIn_ca (goodIn_ca (goodIn_ca (goodIn_r _ [33, 34, 35, 36, 37, 38, 39, 40, 41, 42, 43, 44, 45, 46, 32, 47, 48, 49, 50, 51, 52, 53, 54, 55, 56, 57, 58, 59, 60, 61, 62, 63, 64, 65, 66, 67, 68, 69, 70, 71, 72, 73, 74, 75, 76, 77, 78, 79, 80, 81, 82, 83, 84, 85, 86, 87, 88, 89, 90, 91, 92, 93, 94, 95, 96, 97, 98, 99, 100, 101, 16, 102, 103, 104, 105, 106, 107, 108, 109, 110, 111, 112, 113, 114, 115, 116, 117, 118, 119, 120, 121, 122, 123, 124, 125, 126, 15, 17, 127, 128, 129, 130, 367, 368, 369, 370, 371, 372, 373, 374, 375, 376, 377, 378, 379, 380, 381, 382, 383, 384, 385, 386, 387, 388] (by decide +kernel) (by decide +kernel)) (goodIn_sub (fun _ h => List.mem_cons_of_mem _ (List.mem_append_left _ (List.mem_append_left _ (List.mem_append_right _ h)))) (by decide +kernel))) (goodIn_sub (fun _ h => List.mem_cons_of_mem _ (List.mem_append_left _ (List.mem_append_right _ h))) (by decide +kernel))) (goodIn_sub (fun _ h => List.mem_cons_of_mem _ (List.mem_append_right _ h)) (by decide +kernel))
set_option maxRecDepth 20000 in
theorem gL_act_X6_fence : GoodIn wsL_act (wsV RL 25 RX6 yX6_fence wsX6_fence) := goodIn_app (goodIn_of _ (by decide +kernel)) ggL_act_X6_fence
set_option maxRecDepth 20000 in
theorem ggL_act_X6_change : GoodIn wsL_act wsX6_change := goodIn_ca (goodIn_ca (goodIn_r _ [134, 38, 135, 136, 137, 56, 57, 58, 59, 60, 61, 51, 52, 32, 53, 54, 55, 45, 46, 47, 34, 35, 48, 49, 50, 138, 139, 140, 141, 142, 143, 144, 145, 146, 147, 148, 149, 150, 151, 152, 153, 86, 367, 368, 369, 370, 371, 372, 373, 374, 375, 376, 377, 378, 379, 380, 381, 382, 386, 387, 388] (by decide +kernel) (by decide +kernel)) (goodIn_sub (fun _ h => List.mem_cons_of_mem _ (List.mem_append_right _ h)) (by decide +kernel))) (goodIn_sub (fun _ h => List.mem_cons_of_mem _ (List.mem_append_left _ (List.mem_append_left _ (List.mem_append_right _ h)))) (by decide +kernel))
set_option maxRecDepth 20000 in
theorem gL_act_X6_change : GoodIn wsL_act (wsV RL 39 RX6 yX6_change wsX6_change) := goodIn_app (goodIn_of _ (by decide +kernel)) ggL_act_X6_change
set_option maxRecDepth 20000 in
theorem ggL_act_X7_without : GoodIn wsL_act wsX7_without := goodIn_r _ [156, 28] (by decide +kernel) (by decide +kernel)
set_option maxRecDepth 20000 in
theorem gL_act_X7_without : GoodIn wsL_act (va_wsS RL 43 yX7_without wsX7_without) := goodIn_app (goodIn_of _ (by decide +kernel)) ggL_act_X7_without
set_option maxRecDepth 20000 in
theorem ggL_act_X6_take : GoodIn wsL_act wsX6_take := goodIn_ca (goodIn_r _ [160, 38, 56, 57, 58, 59, 60, 61, 51, 52, 32, 53, 54, 55, 161, 162, 163, 164, 86, 142, 143, 144, 145, 146, 147, 148, 149, 165, 166, 167, 168, 84, 85, 169, 128, 129, 130, 367, 368, 369, 370, 371, 372, 373, 374, 375, 376, 377, 386, 387, 388] (by decide +kernel) (by decide +kernel)) (goodIn_sub (fun _ h => List.mem_cons_of_mem _ (List.mem_append_right _ h)) (by decide +kernel))
set_option maxRecDepth 20000 in
theorem gL_act_X6_take : GoodIn wsL_act (wsV RL 47 RX6 yX6_take wsX6_take) := goodIn_app (goodIn_of _ (by decide +kernel)) ggL_act_X6_take
set_option maxRecDepth 20000 in
theorem ggL_act_X6_road : GoodIn wsL_act wsX6_road := goodIn_ca (goodIn_ca (goodIn_r _ [173, 36, 37, 174, 175, 176, 177, 51, 52, 32, 53, 54, 55, 56, 57, 58, 59, 60, 61, 178, 179, 180, 42, 43, 44, 62, 63, 64, 65, 66, 67, 68, 69, 70, 181, 182, 183, 184, 185, 186, 80, 81, 82, 83, 84, 85, 86, 87, 88, 89, 90, 91, 92, 93, 94, 95, 96, 97, 98, 99, 100, 101, 16, 102, 103, 104, 105, 106, 107, 108, 109, 110, 111, 112, 113, 114, 115, 116, 117, 118, 119, 120, 121, 122, 123, 124, 125, 126, 15, 17, 127, 128, 129, 130, 367, 368, 369, 370, 371, 372, 373, 374, 375, 376, 377, 389, 390, 386, 387, 388, 383, 384, 385] (by decide +kernel) (by decide +kernel)) (goodIn_sub (fun _ h => List.mem_cons_of_mem _ (List.mem_append_left _ (List.mem_append_right _ h))) (by decide +kernel))) (goodIn_sub (fun _ h => List.mem_cons_of_mem _ (List.mem_append_right _ h)) (by decide +kernel))
set_option maxRecDepth 20000 in
theorem gL_act_X6_road : GoodIn wsL_act (wsV RL 54 RX6 yX6_road wsX6_road) := goodIn_app (goodIn_of _ (by decide +kernel)) ggL_act_X6_road
set_option maxRecDepth 20000 in
theorem ggL_act_X6_setLimit : GoodIn wsL_act wsX6_setLimit := goodIn_ca (goodIn_r _ [190, 34, 35, 191, 367, 368, 369, 370, 371, 372, 373, 374, 375, 376, 377] (by decide +kernel) (by decide +kernel)) (goodIn_sub (fun _ h => List.mem_cons_of_mem _ (List.mem_append_left _ (List.mem_append_left _ (List.mem_append_right _ h)))) (by decide +kernel))
set_option maxRecDepth 20000 in
theorem gL_act_X6_setLimit : GoodIn wsL_act (wsV RL 62 RX6 yX6_setLimit wsX6_setLimit) := goodIn_app (goodIn_of _ (by decide +kernel)) ggL_act_X6_setLimit
set_option maxRecDepth 20000 in
theorem ggL_act_X6_setSupply : GoodIn wsL_act wsX6_setSupply := goodIn_ca (goodIn_r _ [195, 34, 35, 196, 367, 368, 369, 370, 371, 372, 373, 374, 375, 376, 377] (by decide +kernel) (by decide +kernel)) (goodIn_sub (fun _ h => List.mem_cons_of_mem _ (List.mem_append_left _ (List.mem_append_left _ (List.mem_append_right _ h)))) (by decide +kernel))
set_option maxRecDepth 20000 in
theorem gL_act_X6_setSupply : GoodIn wsL_act (wsV RL 68 RX6 yX6_setSupply wsX6_setSupply) := goodIn_app (goodIn_of _ (by decide +kernel)) ggL_act_X6_setSupply
set_option maxRecDepth 20000 in
theorem ggL_act_X6_fall : GoodIn wsL_act wsX6_fall := goodIn_ca (goodIn_r _ [200, 34, 35, 201, 202, 203, 15, 16, 17, 204, 205, 206, 207, 208, 209, 210, 211, 212, 44, 213, 68, 70, 214, 215, 216, 217, 218, 219, 220, 221, 222, 223, 367, 368, 369, 370, 371, 372, 373, 374, 375, 376, 377, 383, 384, 385, 391] (by decide +kernel) (by decide +kernel)) (goodIn_sub (fun _ h => List.mem_cons_of_mem _ (List.mem_append_left _ (List.mem_append_left _ (List.mem_append_right _ h)))) (by decide +kernel))
set_option maxRecDepth 20000 in
theorem gL_act_X6_fall : GoodIn wsL_act (wsV RL 79 RX6 yX6_fall wsX6_fall) := goodIn_app (goodIn_of _ (by decide +kernel)) ggL_act_X6_fall
set_option maxRecDepth 20000 in
theorem ggL_act_X7_on : GoodIn wsL_act wsX7_on := goodIn_r _ [227, 228, 359, 360, 361, 362, 363, 364, 365, 366] (by decide +kernel) (by decide +kernel)
set_option maxRecDepth 20000 in
theorem gL_act_X7_on : GoodIn wsL_act (wsV RL 82 RX7 yX7_on wsX7_on) := goodIn_app (goodIn_of _ (by decide +kernel)) ggL_act_X7_on
set_option maxRecDepth 20000 in
theorem ggL_act_X6_plough : GoodIn wsL_act wsX6_plough := goodIn_ca (goodIn_r _ [232, 174, 233, 234, 201, 235, 56, 57, 58, 59, 60, 61, 51, 52, 32, 53, 54, 55, 138, 139, 140, 141, 142, 143, 144, 145, 146, 147, 148, 149, 150, 151, 152, 153, 86, 204, 205, 206, 207, 208, 209, 210, 211, 212, 44, 213, 68, 70, 214, 215, 216, 217, 218, 236, 237, 238, 239, 240, 221, 222, 223, 367, 368, 369, 370, 371, 372, 373, 374, 375, 376, 377, 389, 390, 386, 387, 388, 383, 384, 385, 391] (by decide +kernel) (by decide +kernel)) (goodIn_sub (fun _ h => List.mem_cons_of_mem _ (List.mem_append_right _ h)) (by decide +kernel))
set_option maxRecDepth 20000 in
theorem gL_act_X6_plough : GoodIn wsL_act (wsV RL 89 RX6 yX6_plough wsX6_plough) := goodIn_app (goodIn_of _ (by decide +kernel)) ggL_act_X6_plough
set_option maxRecDepth 20000 in
theorem ggL_act_X6_blow : GoodIn wsL_act wsX6_blow := goodIn_ca (goodIn_ca (goodIn_r _ [244, 201, 245, 246, 247, 196, 248, 249, 250, 251, 32, 252, 51, 52, 53, 54, 55, 253, 254, 255, 34, 35, 256, 257, 258, 259, 260, 261, 262, 263, 38, 135, 264, 136, 137, 265, 266, 267, 268, 269, 270, 271, 272, 273, 274, 275, 56, 57, 58, 59, 60, 61, 138, 139, 140, 141, 142, 143, 144, 145, 146, 147, 148, 149, 150, 151, 152, 153, 86, 276, 277, 278, 279, 280, 281, 211, 212, 44, 213, 68, 70, 282, 283, 284, 285, 286, 287, 288, 289, 66, 67, 290, 291, 292, 293, 294, 295, 296, 297, 298, 299, 300, 301, 302, 303, 304, 305, 306, 307, 308, 309, 310, 311, 312, 313, 314, 315, 316, 101, 16, 102, 317, 318, 319, 320, 321, 322, 215, 216, 207, 217, 218, 323, 324, 325, 326, 327, 15, 17, 328, 329, 330, 331, 332, 221, 222, 223, 367, 368, 369, 370, 371, 372, 373, 374, 375, 376, 377, 392, 393, 394, 395, 396, 397, 398, 399, 400, 401, 378, 379, 380, 381, 382, 402, 403, 386, 387, 388, 383, 384, 385, 391] (by decide +kernel) (by decide +kernel)) (goodIn_sub (fun _ h => List.mem_cons_of_mem _ (List.mem_append_right _ h)) (by decide +kernel))) (goodIn_sub (fun _ h => List.mem_cons_of_mem _ (List.mem_append_left _ (List.mem_append_left _ (List.mem_append_right _ h)))) (by decide +kernel))
set_option maxRecDepth 20000 in
theorem gL_act_X6_blow : GoodIn wsL_act (wsV RL 92 RX6 yX6_blow wsX6_blow) := goodIn_app (goodIn_of _ (by decide +kernel)) ggL_act_X6_blow
set_option maxRecDepth 20000 in
theorem ggL_act_X7_blow : GoodIn wsL_act wsX7_blow := goodIn_r _ [336, 337, 338, 339, 340, 341, 26, 342, 2, 28, 228, 343, 344, 345, 346, 347, 348, 349, 350, 351, 352, 353, 354, 355, 356, 357, 358, 101, 16, 102, 359, 360, 361, 362, 363, 364, 365, 366] (by decide +kernel) (by decide +kernel)
set_option maxRecDepth 20000 in
theorem gL_act_X7_blow : GoodIn wsL_act (wsV RL 95 RX7 yX7_blow wsX7_blow) := goodIn_app (goodIn_of _ (by decide +kernel)) ggL_act_X7_blow
set_option maxRecDepth 20000 in
theorem ggL_build_X7_init : GoodIn wsL_build wsX7_init := goodIn_r _ [7, 8, 9, 10, 11, 12, 13, 14, 4, 15, 16, 375, 376, 377, 378, 379, 380, 381, 382] (by decide +kernel) (by decide +kernel)
set_option maxRecDepth 20000 in
theorem gL_build_X7_init_n96 : GoodIn wsL_build (wsX7_init) := ggL_build_X7_init
set_option maxRecDepth 20000 in
theorem ggL_build_L_cell : GoodIn wsL_build wsL_cell := goodIn_r _ [20, 21] (by decide +kernel) (by decide +kernel)
set_option maxRecDepth 20000 in
theorem gL_build_L_cell : GoodIn wsL_build (va_wsS RL 97 yL_cell wsL_cell) := goodIn_app (goodIn_of _ (by decide +kernel)) ggL_build_L_cell
set_option maxRecDepth 20000 in
theorem ggL_build_L_below : GoodIn wsL_build wsL_below := goodIn_r _ [24, 25] (by decide +kernel) (by decide +kernel)
set_option maxRecDepth 20000 in
theorem gL_build_L_below : GoodIn wsL_build (va_wsS RL 15 yL_below wsL_below) := goodIn_app (goodIn_of _ (by decide +kernel)) ggL_build_L_below
set_option maxRecDepth 20000 in
theorem gL_build_L_act : GoodIn wsL_build (va_wsS RL 101 yL_act wsL_act) := goodIn_app (goodIn_of _ (by decide +kernel)) ggL_build_L_act
set_option maxRecDepth 20000 in
theorem ggL_law_X6_init : GoodIn wsL_law wsX6_init := goodIn_r _ [16, 17, 18, 19, 20, 21, 22, 23, 24, 25, 26, 27, 28, 29, 30, 31, 32, 33, 34, 35, 36, 37, 38, 39, 40, 41, 42, 43, 44, 45, 46, 47, 48, 49, 50, 51, 52, 53, 54, 55, 56, 57, 58, 59, 60, 61, 62, 63, 8, 64, 65, 66, 67, 68, 69, 535, 536, 537, 516, 517, 518, 519, 520, 521, 522, 523, 524, 525, 526, 538, 539, 540, 541, 542, 543] (by decide +kernel) (by decide +kernel)
set_option maxRecDepth 20000 in
theorem gL_law_X6_init : GoodIn wsL_law (wsX6_init) := ggL_law_X6_init
set_option maxRecDepth 20000 in
theorem gL_law_L_build : GoodIn wsL_law (va_wsS RL 106 yL_build wsL_build) := goodIn_app (goodIn_of _ (by decide +kernel)) ggL_law_L_build
set_option maxRecDepth 20000 in
theorem ggL_law_L_cell : GoodIn wsL_law wsL_cell := goodIn_r _ [89, 90] (by decide +kernel) (by decide +kernel)
set_option maxRecDepth 20000 in
theorem gL_law_L_cell : GoodIn wsL_law (va_wsS RL 97 yL_cell wsL_cell) := goodIn_app (goodIn_of _ (by decide +kernel)) ggL_law_L_cell
set_option maxRecDepth 20000 in
theorem gL_law_L_act : GoodIn wsL_law (va_wsS RL 101 yL_act wsL_act) := goodIn_app (goodIn_of _ (by decide +kernel)) ggL_law_L_act
set_option maxRecDepth 20000 in
theorem ggL_law_L_below : GoodIn wsL_law wsL_below := goodIn_r _ [93, 94] (by decide +kernel) (by decide +kernel)
set_option maxRecDepth 20000 in
theorem gL_law_L_below : GoodIn wsL_law (va_wsS RL 15 yL_below wsL_below) := goodIn_app (goodIn_of _ (by decide +kernel)) ggL_law_L_below
set_option maxRecDepth 20000 in
theorem ggL_law_X6_count : GoodIn wsL_law wsX6_count := goodIn_ca (goodIn_r _ [414, 23, 24, 32, 28, 305, 292, 306, 38, 258, 129, 130, 2, 131, 132, 133, 134, 135, 136, 22, 137, 138, 264, 265, 266, 31, 267, 268, 269, 270, 271, 27, 272, 58, 60, 273, 274, 275, 276, 64, 415, 416, 417, 418, 419, 4, 5, 6, 420, 421, 422, 423, 290, 291, 202, 203, 204, 205, 206, 207, 208, 209, 210, 211, 212, 213, 214, 215, 216, 217, 43, 424, 425, 426, 427, 516, 517, 518, 519, 520, 521, 522, 523, 524, 525, 526, 535, 536, 537, 538, 539, 540, 541, 549, 550] (by decide +kernel) (by decide +kernel)) (goodIn_sub (fun _ h => List.mem_append_right _ h) (by decide +kernel))
set_option maxRecDepth 20000 in
theorem gL_law_X6_count : GoodIn wsL_law (wsV RL 110 RX6 yX6_count wsX6_count) := goodIn_app (goodIn_of _ (by decide +kernel)) ggL_law_X6_count
set_option maxRecDepth 20000 in
theorem ggL_law_X6_about : GoodIn wsL_law wsX6_about := goodIn_ca (goodIn_r _ [431, 23, 199, 432, 433, 320, 434, 435, 200, 201, 32, 134, 135, 136, 22, 137, 138, 129, 130, 2, 131, 132, 133, 202, 203, 204, 205, 206, 207, 208, 209, 210, 211, 212, 213, 214, 215, 216, 217, 43, 264, 265, 266, 31, 267, 268, 269, 270, 271, 27, 272, 58, 60, 273, 274, 275, 276, 64, 516, 517, 518, 519, 520, 521, 522, 523, 524, 525, 526, 544, 545, 546, 547, 548, 538, 539, 540, 535, 536, 537, 541] (by decide +kernel) (by decide +kernel)) (goodIn_sub (fun _ h => List.mem_append_right _ h) (by decide +kernel))
set_option maxRecDepth 20000 in
theorem gL_law_X6_about : GoodIn wsL_law (wsV RL 113 RX6 yX6_about wsX6_about) := goodIn_app (goodIn_of _ (by decide +kernel)) ggL_law_X6_about
set_option maxRecDepth 20000 in
theorem ggL_law_X6_snow : GoodIn wsL_law wsX6_snow := goodIn_ca (goodIn_r _ [439, 32, 129, 130, 2, 131, 132, 133, 277, 274, 275, 31, 276, 64, 516, 517, 518, 519, 520, 521, 522, 523, 524, 525, 526, 541] (by decide +kernel) (by decide +kernel)) (goodIn_sub (fun _ h => List.mem_append_right _ h) (by decide +kernel))
set_option maxRecDepth 20000 in
theorem gL_law_X6_snow : GoodIn wsL_law (wsV RL 119 RX6 yX6_snow wsX6_snow) := goodIn_app (goodIn_of _ (by decide +kernel)) ggL_law_X6_snow
set_option maxRecDepth 20000 in
theorem ggL_law_X6_blow : GoodIn wsL_law wsX6_blow := goodIn_ca (goodIn_ca (goodIn_r _ [301, 32, 302, 303, 304, 258, 305, 306, 307, 308, 2, 309, 129, 130, 131, 132, 133, 310, 311, 312, 116, 117, 313, 314, 315, 316, 317, 318, 319, 37, 23, 199, 320, 200, 201, 321, 322, 323, 36, 324, 325, 326, 327, 328, 68, 69, 134, 135, 136, 22, 137, 138, 202, 203, 204, 205, 206, 207, 208, 209, 210, 211, 212, 213, 214, 215, 216, 217, 43, 329, 330, 331, 332, 333, 334, 270, 271, 27, 272, 58, 60, 335, 336, 337, 338, 339, 340, 341, 342, 18, 19, 343, 344, 345, 346, 347, 348, 349, 350, 351, 352, 353, 354, 355, 356, 357, 358, 359, 360, 361, 362, 363, 364, 365, 366, 367, 368, 369, 4, 5, 6, 370, 371, 372, 373, 374, 375, 274, 275, 31, 276, 64, 376, 377, 378, 379, 380, 11, 12, 381, 382, 383, 384, 385, 279, 280, 281, 516, 517, 518, 519, 520, 521, 522, 523, 524, 525, 526, 551, 552, 553, 554, 555, 556, 557, 558, 559, 560, 544, 545, 546, 547, 548, 542, 543, 535, 536, 537, 538, 539, 540, 541] (by decide +kernel) (by decide +kernel)) (goodIn_sub (fun _ h => List.mem_append_right _ h) (by decide +kernel))) (goodIn_sub (fun _ h => List.mem_append_left _ (List.mem_append_left _ (List.mem_append_right _ h))) (by decide +kernel))
set_option maxRecDepth 20000 in
theorem gL_law_X6_blow : GoodIn wsL_law (wsV RL 92 RX6 yX6_blow wsX6_blow) := goodIn_app (goodIn_of _ (by decide +kernel)) ggL_law_X6_blow
set_option maxRecDepth 20000 in
theorem ggL_law_X7_blow : GoodIn wsL_law wsX7_blow := goodIn_r _ [389, 390, 391, 392, 393, 394, 76, 395, 8, 81, 85, 396, 397, 398, 399, 400, 401, 402, 403, 82, 404, 405, 406, 407, 408, 409, 410, 4, 5, 6, 527, 528, 529, 530, 531, 532, 533, 534] (by decide +kernel) (by decide +kernel)
set_option maxRecDepth 20000 in
theorem gL_law_X7_blow : GoodIn wsL_law (wsV RL 95 RX7 yX7_blow wsX7_blow) := goodIn_app (goodIn_of _ (by decide +kernel)) ggL_law_X7_blow
set_option maxRecDepth 20000 in
theorem ggL_law_X6_mean : GoodIn wsL_law wsX6_mean := goodIn_r _ [443, 32, 28, 444, 264, 265, 266, 31, 267, 268, 269, 270, 271, 27, 272, 58, 60, 273, 274, 275, 276, 64, 516, 517, 518, 519, 520, 521, 522, 523, 524, 525, 526, 538, 539, 540, 541] (by decide +kernel) (by decide +kernel)
set_option maxRecDepth 20000 in
theorem gL_law_X6_mean : GoodIn wsL_law (wsV RL 121 RX6 yX6_mean wsX6_mean) := goodIn_app (goodIn_of _ (by decide +kernel)) ggL_law_X6_mean
set_option maxRecDepth 20000 in
theorem ggL_law_X6_digest : GoodIn wsL_law wsX6_digest := goodIn_ca (goodIn_r _ [448, 449, 450, 23, 24, 32, 451, 412, 413, 2, 414, 28, 305, 292, 306, 38, 258, 129, 130, 131, 132, 133, 134, 135, 136, 22, 137, 138, 264, 265, 266, 31, 267, 268, 269, 270, 271, 27, 272, 58, 60, 273, 274, 275, 276, 64, 415, 416, 417, 418, 419, 4, 5, 6, 420, 421, 422, 423, 290, 291, 202, 203, 204, 205, 206, 207, 208, 209, 210, 211, 212, 213, 214, 215, 216, 217, 43, 424, 425, 426, 427, 452, 429, 430, 431, 199, 432, 433, 320, 434, 435, 200, 201, 453, 454, 455, 456, 457, 277, 516, 517, 518, 519, 520, 521, 522, 523, 524, 525, 526, 535, 536, 537, 538, 539, 540, 541, 549, 550, 544, 545, 546, 547, 548] (by decide +kernel) (by decide +kernel)) (goodIn_sub (fun _ h => List.mem_append_right _ h) (by decide +kernel))
set_option maxRecDepth 20000 in
theorem gL_law_X6_digest : GoodIn wsL_law (wsV RL 127 RX6 yX6_digest wsX6_digest) := goodIn_app (goodIn_of _ (by decide +kernel)) ggL_law_X6_digest
set_option maxRecDepth 20000 in
theorem ggL_law_X6_told : GoodIn wsL_law wsX6_told := goodIn_ca (goodIn_r _ [456, 24, 290, 291, 435, 457, 32, 38, 134, 135, 136, 22, 137, 138, 129, 130, 2, 131, 132, 133, 202, 203, 204, 205, 206, 207, 208, 209, 210, 211, 212, 213, 214, 215, 216, 217, 43, 424, 425, 426, 31, 427, 268, 269, 270, 271, 27, 272, 58, 60, 273, 274, 275, 276, 64, 264, 265, 266, 267, 415, 416, 417, 418, 419, 4, 5, 6, 516, 517, 518, 519, 520, 521, 522, 523, 524, 525, 526, 549, 550, 538, 539, 540, 535, 536, 537, 541] (by decide +kernel) (by decide +kernel)) (goodIn_sub (fun _ h => List.mem_append_right _ h) (by decide +kernel))
set_option maxRecDepth 20000 in
theorem gL_law_X6_told : GoodIn wsL_law (wsV RL 131 RX6 yX6_told wsX6_told) := goodIn_app (goodIn_of _ (by decide +kernel)) ggL_law_X6_told
set_option maxRecDepth 20000 in
theorem ggL_law_X6_until : GoodIn wsL_law wsX6_until := goodIn_ca (goodIn_ca (goodIn_r _ [462, 24, 290, 291, 302, 303, 304, 258, 33, 32, 38, 307, 308, 2, 309, 129, 130, 131, 132, 133, 134, 135, 136, 22, 137, 138, 310, 311, 312, 116, 117, 202, 203, 204, 205, 206, 207, 208, 209, 210, 211, 212, 213, 214, 215, 216, 217, 43, 339, 340, 341, 342, 18, 19, 343, 344, 345, 346, 347, 348, 316, 317, 318, 319, 37, 23, 199, 320, 200, 201, 321, 322, 323, 36, 324, 325, 326, 327, 328, 68, 69, 329, 330, 331, 332, 333, 334, 270, 271, 27, 272, 58, 60, 335, 336, 337, 338, 463, 464, 465, 31, 466, 273, 274, 275, 276, 64, 297, 279, 280, 281, 424, 425, 426, 427, 268, 269, 349, 350, 351, 352, 353, 354, 355, 356, 357, 358, 359, 360, 361, 362, 363, 364, 365, 366, 367, 368, 369, 4, 5, 6, 370, 371, 372, 373, 374, 375, 376, 377, 378, 379, 380, 11, 12, 381, 382, 383, 384, 385, 516, 517, 518, 519, 520, 521, 522, 523, 524, 525, 526, 549, 550, 551, 552, 553, 554, 555, 556, 557, 558, 559, 560, 535, 536, 537, 544, 545, 546, 547, 548, 542, 543, 538, 539, 540, 541] (by decide +kernel) (by decide +kernel)) (goodIn_sub (fun _ h => List.mem_append_right _ h) (by decide +kernel))) (goodIn_sub (fun _ h => List.mem_append_left _ (List.mem_append_left _ (List.mem_append_right _ h))) (by decide +kernel))
