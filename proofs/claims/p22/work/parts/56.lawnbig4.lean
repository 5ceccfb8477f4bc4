set_option maxRecDepth 20000 in
theorem ggL_law_X7_isSame_c : GoodIn wsL_law [Cond.code yX7_isSame cX7_isSame 9 (some .boolean)] := goodIn_one (List.mem_append_left _ (List.mem_append_left _ (List.mem_append_left _ (List.mem_append_left _ (List.mem_append_left _ (List.mem_append_left _ (List.mem_append_left _ (List.mem_append_left _ (List.mem_append_left _ (List.mem_append_left _ (List.mem_append_left _ (List.mem_append_left _ (List.mem_append_left _ (List.mem_append_right _ (List.mem_append_right _ (List.mem_append_right _ (List.mem_append_right _ (List.mem_append_right _ (List.mem_append_right _ (List.mem_append_right _ (List.mem_append_right _ (List.mem_append_right _ (List.mem_append_right _ (List.mem_append_right _ (List.mem_append_right _ (List.mem_append_right _ (List.mem_append_right _ (List.mem_append_right _ (List.mem_append_right _ (List.mem_append_right _ (List.mem_append_right _ (List.mem_append_right _ (List.mem_append_right _ (List.mem_append_right _ (List.mem_of_getElem? (l := wsL_law0_r22) (i := 4) rfl))))))))))))))))))))))))))))))))))) rfl
set_option maxRecDepth 20000 in
theorem ggL_law_X7_isSame_r1 : GoodIn wsL_law wsX7_isSame_r1 := goodIn_r _ [85, 410, 4, 5, 6, 82, 83, 8, 390, 509, 391, 86, 396, 510, 511, 437, 438, 2, 439, 32, 129, 130, 131, 132] (by decide +kernel) (by decide +kernel)
set_option maxRecDepth 20000 in
theorem ggL_law_X7_isSame_r2 : GoodIn wsL_law wsX7_isSame_r2 := goodIn_r _ [133, 277, 274, 275, 31, 276, 64, 404, 405, 76, 406, 512, 429, 430, 431, 23, 199, 432, 433, 320, 434, 435, 200, 201] (by decide +kernel) (by decide +kernel)
set_option maxRecDepth 20000 in
theorem ggL_law_X7_isSame_r3 : GoodIn wsL_law wsX7_isSame_r3 := goodIn_r _ [134, 135, 136, 22, 137, 138, 202, 203, 204, 205, 206, 207, 208, 209, 210, 211, 212, 213, 214, 215, 216, 217, 43, 264] (by decide +kernel) (by decide +kernel)
set_option maxRecDepth 20000 in
theorem ggL_law_X7_isSame_r4 : GoodIn wsL_law wsX7_isSame_r4 := goodIn_r _ [265, 266, 267, 268, 269, 270, 271, 27, 272, 58, 60, 273, 504, 283, 284, 285, 500, 501, 502, 503, 513, 454, 455, 456] (by decide +kernel) (by decide +kernel)
set_option maxRecDepth 20000 in
theorem ggL_law_X7_isSame_r5 : GoodIn wsL_law wsX7_isSame_r5 := goodIn_r _ [24, 290, 291, 457, 38, 424, 425, 426, 427, 415, 416, 417, 418, 419, 496, 497, 498, 499, 514, 412, 413, 414, 28, 305] (by decide +kernel) (by decide +kernel)
set_option maxRecDepth 20000 in
theorem ggL_law_X7_isSame_r6 : GoodIn wsL_law wsX7_isSame_r6 := goodIn_r _ [292, 306, 258, 420, 421, 422, 423, 515, 441, 442, 443, 444] (by decide +kernel) (by decide +kernel)
set_option maxRecDepth 20000 in
theorem ggL_law_X7_isSame_wsX70 : GoodIn wsL_law wsX70 := goodIn_r _ [527, 528, 529, 530, 531, 532, 533, 534] (by decide +kernel) (by decide +kernel)
set_option maxRecDepth 20000 in
theorem ggL_law_X7_isSame_wsX60 : GoodIn wsL_law wsX60 := goodIn_r _ [516, 517, 518, 519, 520, 521, 522, 523, 524, 525, 526] (by decide +kernel) (by decide +kernel)
set_option maxRecDepth 20000 in
theorem ggL_law_X7_isSame_wsX10 : GoodIn wsL_law wsX10 := goodIn_r _ [541] (by decide +kernel) (by decide +kernel)
set_option maxRecDepth 20000 in
theorem ggL_law_X7_isSame_wsX00 : GoodIn wsL_law wsX00 := goodIn_r _ [544, 545, 546, 547, 548] (by decide +kernel) (by decide +kernel)
set_option maxRecDepth 20000 in
theorem ggL_law_X7_isSame_wsX40 : GoodIn wsL_law wsX40 := goodIn_r _ [538, 539, 540] (by decide +kernel) (by decide +kernel)
set_option maxRecDepth 20000 in
theorem ggL_law_X7_isSame_wsJx4a65c0 : GoodIn wsL_law wsJx4a65c0 := goodIn_r _ [535, 536, 537] (by decide +kernel) (by decide +kernel)
set_option maxRecDepth 20000 in
theorem ggL_law_X7_isSame_wsX20 : GoodIn wsL_law wsX20 := goodIn_r _ [549, 550] (by decide +kernel) (by decide +kernel)
theorem ggL_law_X7_isSame : GoodIn wsL_law wsX7_isSame := goodIn_ca (goodIn_ca (goodIn_ca (goodIn_ca (goodIn_ca (goodIn_ca (goodIn_ca (goodIn_ca (goodIn_ca (a := []) ggL_law_X7_isSame_c (goodIn_app ggL_law_X7_isSame_r1 (goodIn_app ggL_law_X7_isSame_r2 (goodIn_app ggL_law_X7_isSame_r3 (goodIn_app ggL_law_X7_isSame_r4 (goodIn_app ggL_law_X7_isSame_r5 ggL_law_X7_isSame_r6)))))) ggL_law_X7_isSame_wsX70) ggL_law_X7_isSame_wsX60) ggL_law_X7_isSame_wsX10) ggL_law_X7_isSame_wsX00) ggL_law_X7_isSame_wsX40) ggL_law_X7_isSame_wsJx4a65c0) ggL_law_X7_isSame_wsX20) (goodIn_sub (fun _ h => List.mem_append_right _ h) (by decide +kernel))
