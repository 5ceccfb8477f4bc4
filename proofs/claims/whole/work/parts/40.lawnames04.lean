set_option maxRecDepth 20000 in
theorem gL_law_L_road : GoodIn wsL_law (va_wsS RL 94 yL_road wsL_road) := goodIn_app (goodIn_of _ (by decide +kernel)) ggL_law_L_road
set_option maxRecDepth 20000 in
theorem ggL_law_X7_road : GoodIn wsL_law wsX7_road := goodIn_r _ [276, 174, 277, 69, 70, 176, 177, 5, 178, 179, 180, 181, 182, 680, 681, 682, 683, 684, 685, 686, 687, 688, 689, 690, 691, 692, 693] (by decide +kernel) (by decide +kernel)
set_option maxRecDepth 20000 in
theorem gL_law_X7_road : GoodIn wsL_law (wsV RL 97 RX7 yX7_road wsX7_road) := goodIn_app (goodIn_of _ (by decide +kernel)) ggL_law_X7_road
set_option maxRecDepth 20000 in
theorem ggL_law_L_setLimit : GoodIn wsL_law wsL_setLimit := goodIn_ca (goodIn_r _ [280, 79, 281, 282, 283, 2, 284, 86, 87, 31, 669, 670, 671, 672, 673, 674, 675, 676, 677, 678, 679] (by decide +kernel) (by decide +kernel)) (goodIn_sub (fun _ h => List.mem_append_left _ (List.mem_append_left _ (List.mem_append_right _ h))) (by decide +kernel))
set_option maxRecDepth 20000 in
theorem gL_law_L_setLimit : GoodIn wsL_law (va_wsS RL 98 yL_setLimit wsL_setLimit) := goodIn_app (goodIn_of _ (by decide +kernel)) ggL_law_L_setLimit
set_option maxRecDepth 20000 in
theorem ggL_law_X7_setLimit : GoodIn wsL_law wsX7_setLimit := goodIn_r _ [288, 174, 71, 176, 177, 5, 178, 179, 180, 181, 182, 680, 681, 682, 683, 684, 685, 686, 687, 688, 689, 690, 691, 692, 693] (by decide +kernel) (by decide +kernel)
set_option maxRecDepth 20000 in
theorem gL_law_X7_setLimit : GoodIn wsL_law (wsV RL 100 RX7 yX7_setLimit wsX7_setLimit) := goodIn_app (goodIn_of _ (by decide +kernel)) ggL_law_X7_setLimit
set_option maxRecDepth 20000 in
theorem ggL_law_L_setSupply : GoodIn wsL_law wsL_setSupply := goodIn_ca (goodIn_r _ [291, 79, 292, 293, 294, 2, 295, 86, 87, 296, 669, 670, 671, 672, 673, 674, 675, 676, 677, 678, 679] (by decide +kernel) (by decide +kernel)) (goodIn_sub (fun _ h => List.mem_append_left _ (List.mem_append_left _ (List.mem_append_right _ h))) (by decide +kernel))
set_option maxRecDepth 20000 in
theorem gL_law_L_setSupply : GoodIn wsL_law (va_wsS RL 101 yL_setSupply wsL_setSupply) := goodIn_app (goodIn_of _ (by decide +kernel)) ggL_law_L_setSupply
set_option maxRecDepth 20000 in
theorem ggL_law_X7_setSupply : GoodIn wsL_law wsX7_setSupply := goodIn_r _ [300, 174, 301, 176, 177, 5, 178, 179, 180, 181, 182, 680, 681, 682, 683, 684, 685, 686, 687, 688, 689, 690, 691, 692, 693] (by decide +kernel) (by decide +kernel)
set_option maxRecDepth 20000 in
theorem gL_law_X7_setSupply : GoodIn wsL_law (wsV RL 103 RX7 yX7_setSupply wsX7_setSupply) := goodIn_app (goodIn_of _ (by decide +kernel)) ggL_law_X7_setSupply
set_option maxRecDepth 20000 in
theorem ggL_law_L_fall : GoodIn wsL_law wsL_fall := goodIn_ca (goodIn_r _ [304, 79, 305, 306, 307, 2, 308, 86, 87, 25, 21, 309, 164, 138, 165, 310, 311, 312, 24, 313, 314, 315, 316, 317, 20, 318, 51, 53, 319, 320, 321, 322, 58, 323, 324, 325, 326, 327, 669, 670, 671, 672, 673, 674, 675, 676, 677, 678, 679, 697, 698, 699, 700] (by decide +kernel) (by decide +kernel)) (goodIn_sub (fun _ h => List.mem_append_left _ (List.mem_append_left _ (List.mem_append_right _ h))) (by decide +kernel))
set_option maxRecDepth 20000 in
theorem gL_law_L_fall : GoodIn wsL_law (va_wsS RL 104 yL_fall wsL_fall) := goodIn_app (goodIn_of _ (by decide +kernel)) ggL_law_L_fall
set_option maxRecDepth 20000 in
theorem ggL_law_X7_fall : GoodIn wsL_law wsX7_fall := goodIn_r _ [331, 174, 72, 332, 164, 138, 165, 176, 177, 5, 178, 179, 180, 181, 182, 680, 681, 682, 683, 684, 685, 686, 687, 688, 689, 690, 691, 692, 693] (by decide +kernel) (by decide +kernel)
set_option maxRecDepth 20000 in
theorem gL_law_X7_fall : GoodIn wsL_law (wsV RL 106 RX7 yX7_fall wsX7_fall) := goodIn_app (goodIn_of _ (by decide +kernel)) ggL_law_X7_fall
set_option maxRecDepth 20000 in
theorem ggL_law_L_blow : GoodIn wsL_law wsL_blow := goodIn_ca (goodIn_ca (goodIn_r _ [335, 80, 79, 336, 337, 338, 2, 339, 25, 340, 341, 342, 296, 343, 344, 345, 346, 347, 99, 100, 101, 102, 103, 348, 349, 350, 86, 87, 351, 352, 353, 354, 355, 356, 357, 30, 16, 199, 358, 200, 201, 359, 360, 361, 29, 362, 363, 364, 365, 366, 62, 63, 104, 105, 106, 15, 107, 108, 202, 203, 204, 205, 206, 207, 208, 209, 210, 211, 212, 213, 214, 215, 216, 217, 36, 367, 368, 369, 370, 371, 372, 316, 317, 20, 318, 51, 53, 373, 374, 375, 376, 377, 378, 379, 380, 11, 12, 381, 382, 383, 384, 385, 386, 387, 388, 389, 390, 391, 392, 393, 394, 395, 396, 397, 398, 399, 400, 401, 402, 403, 404, 405, 406, 407, 137, 138, 139, 408, 409, 410, 411, 412, 413, 320, 321, 24, 322, 58, 414, 415, 416, 417, 418, 164, 165, 419, 420, 421, 422, 423, 325, 326, 327, 669, 670, 671, 672, 673, 674, 675, 676, 677, 678, 679, 710, 711, 712, 713, 714, 715, 716, 717, 718, 719, 703, 704, 705, 706, 707, 701, 702, 694, 695, 696, 697, 698, 699, 700] (by decide +kernel) (by decide +kernel)) (goodIn_sub (fun _ h => List.mem_append_right _ h) (by decide +kernel))) (goodIn_sub (fun _ h => List.mem_append_left _ (List.mem_append_left _ (List.mem_append_right _ h))) (by decide +kernel))
set_option maxRecDepth 20000 in
theorem gL_law_L_blow : GoodIn wsL_law (va_wsS RL 107 yL_blow wsL_blow) := goodIn_app (goodIn_of _ (by decide +kernel)) ggL_law_L_blow
set_option maxRecDepth 20000 in
theorem ggL_law_X7_blow : GoodIn wsL_law wsX7_blow := goodIn_r _ [427, 174, 175, 428, 429, 430, 431, 5, 432, 176, 177, 178, 179, 180, 181, 182, 433, 434, 435, 436, 437, 438, 439, 74, 226, 227, 228, 229, 68, 440, 441, 442, 443, 444, 445, 446, 447, 448, 449, 450, 451, 452, 453, 454, 455, 301, 332, 164, 138, 165, 72, 456, 137, 139, 680, 681, 682, 683, 684, 685, 686, 687, 688, 689, 690, 691, 692, 693] (by decide +kernel) (by decide +kernel)
set_option maxRecDepth 20000 in
theorem gL_law_X7_blow : GoodIn wsL_law (wsV RL 109 RX7 yX7_blow wsX7_blow) := goodIn_app (goodIn_of _ (by decide +kernel)) ggL_law_X7_blow
set_option maxRecDepth 20000 in
theorem ggL_law_L_plough : GoodIn wsL_law wsL_plough := goodIn_ca (goodIn_r _ [459, 80, 460, 461, 462, 2, 463, 17, 464, 465, 25, 466, 104, 105, 106, 15, 107, 108, 99, 100, 101, 102, 103, 202, 203, 204, 205, 206, 207, 208, 209, 210, 211, 212, 213, 214, 215, 216, 217, 36, 310, 311, 312, 24, 313, 314, 315, 316, 317, 20, 318, 51, 53, 319, 320, 321, 322, 58, 467, 468, 469, 470, 471, 325, 326, 327, 669, 670, 671, 672, 673, 674, 675, 676, 677, 678, 679, 708, 709, 694, 695, 696, 697, 698, 699, 700] (by decide +kernel) (by decide +kernel)) (goodIn_sub (fun _ h => List.mem_append_right _ h) (by decide +kernel))
set_option maxRecDepth 20000 in
theorem gL_law_L_plough : GoodIn wsL_law (va_wsS RL 110 yL_plough wsL_plough) := goodIn_app (goodIn_of _ (by decide +kernel)) ggL_law_L_plough
set_option maxRecDepth 20000 in
theorem ggL_law_X7_plough : GoodIn wsL_law wsX7_plough := goodIn_r _ [475, 174, 72, 476, 477, 478, 479, 5, 480, 277, 176, 177, 178, 179, 180, 181, 182, 481, 482, 483, 484, 485, 486, 487, 488, 69, 70, 680, 681, 682, 683, 684, 685, 686, 687, 688, 689, 690, 691, 692, 693] (by decide +kernel) (by decide +kernel)
set_option maxRecDepth 20000 in
theorem gL_law_X7_plough : GoodIn wsL_law (wsV RL 112 RX7 yX7_plough wsX7_plough) := goodIn_app (goodIn_of _ (by decide +kernel)) ggL_law_X7_plough
set_option maxRecDepth 20000 in
theorem ggL_law_L_snow : GoodIn wsL_law wsL_snow := goodIn_ca (goodIn_r _ [491, 80, 492, 493, 494, 2, 495, 25, 99, 100, 101, 102, 103, 323, 320, 321, 24, 322, 58, 669, 670, 671, 672, 673, 674, 675, 676, 677, 678, 679, 700] (by decide +kernel) (by decide +kernel)) (goodIn_sub (fun _ h => List.mem_append_right _ h) (by decide +kernel))
set_option maxRecDepth 20000 in
theorem gL_law_L_snow : GoodIn wsL_law (va_wsS RL 113 yL_snow wsL_snow) := goodIn_app (goodIn_of _ (by decide +kernel)) ggL_law_L_snow
set_option maxRecDepth 20000 in
theorem ggL_law_X7_snow : GoodIn wsL_law wsX7_snow := goodIn_r _ [499, 174, 72, 176, 177, 5, 178, 179, 180, 181, 182, 680, 681, 682, 683, 684, 685, 686, 687, 688, 689, 690, 691, 692, 693] (by decide +kernel) (by decide +kernel)
set_option maxRecDepth 20000 in
theorem gL_law_X7_snow : GoodIn wsL_law (wsV RL 116 RX7 yX7_snow wsX7_snow) := goodIn_app (goodIn_of _ (by decide +kernel)) ggL_law_X7_snow
set_option maxRecDepth 20000 in
theorem ggL_law_L_about : GoodIn wsL_law wsL_about := goodIn_ca (goodIn_r _ [502, 80, 503, 504, 505, 2, 506, 16, 199, 507, 508, 358, 509, 510, 200, 201, 25, 104, 105, 106, 15, 107, 108, 99, 100, 101, 102, 103, 202, 203, 204, 205, 206, 207, 208, 209, 210, 211, 212, 213, 214, 215, 216, 217, 36, 310, 311, 312, 24, 313, 314, 315, 316, 317, 20, 318, 51, 53, 319, 320, 321, 322, 58, 669, 670, 671, 672, 673, 674, 675, 676, 677, 678, 679, 703, 704, 705, 706, 707, 697, 698, 699, 694, 695, 696, 700] (by decide +kernel) (by decide +kernel)) (goodIn_sub (fun _ h => List.mem_append_right _ h) (by decide +kernel))
set_option maxRecDepth 20000 in
theorem gL_law_L_about : GoodIn wsL_law (va_wsS RL 117 yL_about wsL_about) := goodIn_app (goodIn_of _ (by decide +kernel)) ggL_law_L_about
set_option maxRecDepth 20000 in
theorem ggL_law_X7_about : GoodIn wsL_law wsX7_about := goodIn_r _ [514, 174, 222, 223, 224, 5, 225, 175, 176, 177, 178, 515, 516, 517, 518, 72, 226, 227, 228, 229, 68, 440, 441, 442, 443, 179, 180, 181, 182, 680, 681, 682, 683, 684, 685, 686, 687, 688, 689, 690, 691, 692, 693] (by decide +kernel) (by decide +kernel)
set_option maxRecDepth 20000 in
theorem gL_law_X7_about : GoodIn wsL_law (wsV RL 119 RX7 yX7_about wsX7_about) := goodIn_app (goodIn_of _ (by decide +kernel)) ggL_law_X7_about
set_option maxRecDepth 20000 in
theorem ggL_law_L_told : GoodIn wsL_law wsL_told := goodIn_ca (goodIn_r _ [521, 80, 522, 523, 524, 2, 525, 17, 464, 465, 510, 526, 25, 31, 104, 105, 106, 15, 107, 108, 99, 100, 101, 102, 103, 202, 203, 204, 205, 206, 207, 208, 209, 210, 211, 212, 213, 214, 215, 216, 217, 36, 527, 528, 529, 24, 530, 314, 315, 316, 317, 20, 318, 51, 53, 319, 320, 321, 322, 58, 310, 311, 312, 313, 531, 532, 533, 534, 535, 137, 138, 139, 669, 670, 671, 672, 673, 674, 675, 676, 677, 678, 679, 708, 709, 697, 698, 699, 694, 695, 696, 700] (by decide +kernel) (by decide +kernel)) (goodIn_sub (fun _ h => List.mem_append_right _ h) (by decide +kernel))
set_option maxRecDepth 20000 in
theorem gL_law_L_told : GoodIn wsL_law (va_wsS RL 120 yL_told wsL_told) := goodIn_app (goodIn_of _ (by decide +kernel)) ggL_law_L_told
set_option maxRecDepth 20000 in
theorem ggL_law_X7_told : GoodIn wsL_law wsX7_told := goodIn_r _ [539, 174, 477, 478, 479, 5, 480, 277, 176, 177, 178, 540, 541, 542, 543, 69, 70, 544, 545, 546, 547, 72, 71, 485, 486, 487, 488, 481, 482, 483, 484, 548, 549, 550, 551, 456, 137, 138, 139, 179, 180, 181, 182, 680, 681, 682, 683, 684, 685, 686, 687, 688, 689, 690, 691, 692, 693] (by decide +kernel) (by decide +kernel)
set_option maxRecDepth 20000 in
theorem gL_law_X7_told : GoodIn wsL_law (wsV RL 122 RX7 yX7_told wsX7_told) := goodIn_app (goodIn_of _ (by decide +kernel)) ggL_law_X7_told
set_option maxRecDepth 20000 in
theorem ggL_law_L_count : GoodIn wsL_law wsL_count := goodIn_ca (goodIn_r _ [554, 80, 555, 556, 557, 2, 558, 16, 17, 25, 21, 343, 466, 344, 31, 296, 99, 100, 101, 102, 103, 104, 105, 106, 15, 107, 108, 310, 311, 312, 24, 313, 314, 315, 316, 317, 20, 318, 51, 53, 319, 320, 321, 322, 58, 531, 532, 533, 534, 535, 137, 138, 139, 559, 560, 561, 562, 464, 465, 202, 203, 204, 205, 206, 207, 208, 209, 210, 211, 212, 213, 214, 215, 216, 217, 36, 527, 528, 529, 530, 669, 670, 671, 672, 673, 674, 675, 676, 677, 678, 679, 694, 695, 696, 697, 698, 699, 700, 708, 709] (by decide +kernel) (by decide +kernel)) (goodIn_sub (fun _ h => List.mem_append_right _ h) (by decide +kernel))
set_option maxRecDepth 20000 in
theorem gL_law_L_count : GoodIn wsL_law (va_wsS RL 123 yL_count wsL_count) := goodIn_app (goodIn_of _ (by decide +kernel)) ggL_law_L_count
set_option maxRecDepth 20000 in
theorem ggL_law_X7_count : GoodIn wsL_law wsX7_count := goodIn_r _ [566, 174, 176, 177, 5, 178, 567, 568, 569, 570, 175, 277, 428, 476, 429, 71, 301, 571, 572, 573, 574, 72, 456, 137, 138, 139, 575, 576, 577, 578, 544, 545, 546, 547, 485, 486, 487, 488, 69, 70, 179, 180, 181, 182, 680, 681, 682, 683, 684, 685, 686, 687, 688, 689, 690, 691, 692, 693] (by decide +kernel) (by decide +kernel)
set_option maxRecDepth 20000 in
theorem gL_law_X7_count : GoodIn wsL_law (wsV RL 125 RX7 yX7_count wsX7_count) := goodIn_app (goodIn_of _ (by decide +kernel)) ggL_law_X7_count
set_option maxRecDepth 20000 in
theorem ggL_law_L_would : GoodIn wsL_law wsL_would := goodIn_ca (goodIn_ca (goodIn_r _ [581, 80, 79, 582, 583, 584, 2, 585, 17, 26, 25, 340, 341, 342, 296, 464, 465, 31, 345, 346, 347, 99, 100, 101, 102, 103, 104, 105, 106, 15, 107, 108, 348, 349, 350, 86, 87, 351, 352, 353, 354, 355, 356, 357, 30, 16, 199, 358, 200, 201, 359, 360, 361, 29, 362, 363, 364, 365, 366, 62, 63, 202, 203, 204, 205, 206, 207, 208, 209, 210, 211, 212, 213, 214, 215, 216, 217, 36, 367, 368, 369, 370, 371, 372, 316, 317, 20, 318, 51, 53, 373, 374, 375, 376, 586, 587, 588, 24, 589, 319, 320, 321, 322, 58, 471, 325, 326, 327, 377, 378, 379, 380, 11, 12, 381, 382, 383, 384, 385, 386, 387, 388, 389, 390, 391, 392, 393, 394, 395, 396, 397, 398, 399, 400, 401, 402, 403, 404, 405, 406, 407, 137, 138, 139, 408, 409, 410, 411, 412, 413, 414, 415, 416, 417, 418, 164, 165, 419, 420, 421, 422, 423, 527, 528, 529, 530, 314, 315, 669, 670, 671, 672, 673, 674, 675, 676, 677, 678, 679, 710, 711, 712, 713, 714, 715, 716, 717, 718, 719, 708, 709, 694, 695, 696, 703, 704, 705, 706, 707, 701, 702, 697, 698, 699, 700] (by decide +kernel) (by decide +kernel)) (goodIn_sub (fun _ h => List.mem_append_right _ h) (by decide +kernel))) (goodIn_sub (fun _ h => List.mem_append_left _ (List.mem_append_left _ (List.mem_append_right _ h))) (by decide +kernel))
set_option maxRecDepth 20000 in
theorem gL_law_L_would : GoodIn wsL_law (va_wsS RL 126 yL_would wsL_would) := goodIn_app (goodIn_of _ (by decide +kernel)) ggL_law_L_would
set_option maxRecDepth 20000 in
theorem ggL_law_X7_would : GoodIn wsL_law wsX7_would := goodIn_r _ [593, 174, 175, 430, 431, 5, 432, 176, 177, 178, 477, 478, 479, 480, 277, 179, 180, 181, 182, 433, 434, 435, 436, 437, 438, 439, 74, 226, 227, 228, 229, 68, 440, 441, 442, 443, 594, 595, 596, 597, 72, 73, 187, 167, 168, 169, 444, 445, 446, 447, 448, 449, 450, 451, 452, 453, 454, 455, 301, 332, 164, 138, 165, 456, 137, 139, 544, 545, 546, 547, 71, 485, 486, 487, 488, 69, 70, 598, 599, 600, 601, 680, 681, 682, 683, 684, 685, 686, 687, 688, 689, 690, 691, 692, 693] (by decide +kernel) (by decide +kernel)
set_option maxRecDepth 20000 in
theorem gL_law_X7_would : GoodIn wsL_law (wsV RL 129 RX7 yX7_would wsX7_would) := goodIn_app (goodIn_of _ (by decide +kernel)) ggL_law_X7_would
set_option maxRecDepth 20000 in
theorem ggL_law_L_until : GoodIn wsL_law wsL_until := goodIn_ca (goodIn_ca (goodIn_r _ [604, 80, 79, 605, 606, 607, 2, 608, 17, 464, 465, 340, 341, 342, 296, 26, 25, 31, 345, 346, 347, 99, 100, 101, 102, 103, 104, 105, 106, 15, 107, 108, 348, 349, 350, 86, 87, 202, 203, 204, 205, 206, 207, 208, 209, 210, 211, 212, 213, 214, 215, 216, 217, 36, 377, 378, 379, 380, 11, 12, 381, 382, 383, 384, 385, 386, 354, 355, 356, 357, 30, 16, 199, 358, 200, 201, 359, 360, 361, 29, 362, 363, 364, 365, 366, 62, 63, 367, 368, 369, 370, 371, 372, 316, 317, 20, 318, 51, 53, 373, 374, 375, 376, 586, 587, 588, 24, 589, 319, 320, 321, 322, 58, 471, 325, 326, 327, 527, 528, 529, 530, 314, 315, 387, 388, 389, 390, 391, 392, 393, 394, 395, 396, 397, 398, 399, 400, 401, 402, 403, 404, 405, 406, 407, 137, 138, 139, 408, 409, 410, 411, 412, 413, 414, 415, 416, 417, 418, 164, 165, 419, 420, 421, 422, 423, 669, 670, 671, 672, 673, 674, 675, 676, 677, 678, 679, 708, 709, 710, 711, 712, 713, 714, 715, 716, 717, 718, 719, 694, 695, 696, 703, 704, 705, 706, 707, 701, 702, 697, 698, 699, 700] (by decide +kernel) (by decide +kernel)) (goodIn_sub (fun _ h => List.mem_append_right _ h) (by decide +kernel))) (goodIn_sub (fun _ h => List.mem_append_left _ (List.mem_append_left _ (List.mem_append_right _ h))) (by decide +kernel))
set_option maxRecDepth 20000 in
theorem gL_law_L_until : GoodIn wsL_law (va_wsS RL 130 yL_until wsL_until) := goodIn_app (goodIn_of _ (by decide +kernel)) ggL_law_L_until
set_option maxRecDepth 20000 in
theorem ggL_law_X7_until : GoodIn wsL_law wsX7_until := goodIn_r _ [612, 174, 175, 430, 431, 5, 432, 176, 177, 178, 477, 478, 479, 480, 277, 179, 180, 181, 182, 433, 434, 435, 436, 437, 438, 439, 74, 226, 227, 228, 229, 68, 440, 441, 442, 443, 594, 595, 596, 597, 72, 73, 187, 167, 168, 169, 544, 545, 546, 547, 71, 485, 486, 487, 488, 69, 70, 448, 449, 450, 451, 452, 453, 454, 455, 301, 332, 164, 138, 165, 456, 137, 139, 598, 599, 600, 601, 680, 681, 682, 683, 684, 685, 686, 687, 688, 689, 690, 691, 692, 693] (by decide +kernel) (by decide +kernel)
set_option maxRecDepth 20000 in
theorem gL_law_X7_until : GoodIn wsL_law (wsV RL 132 RX7 yX7_until wsX7_until) := goodIn_app (goodIn_of _ (by decide +kernel)) ggL_law_X7_until
set_option maxRecDepth 20000 in
theorem ggL_law_L_advise : GoodIn wsL_law wsL_advise := goodIn_ca (goodIn_ca (goodIn_r _ [615, 80, 79, 616, 617, 618, 2, 619, 340, 341, 342, 296, 30, 620, 345, 346, 347, 99, 100, 101, 102, 103, 348, 349, 350, 86, 87, 93, 94, 95, 377, 378, 379, 380, 11, 12, 381, 382, 383, 384, 385, 386, 354, 355, 356, 357, 16, 199, 358, 200, 201, 359, 360, 361, 29, 362, 363, 364, 365, 366, 62, 63, 104, 105, 106, 15, 107, 108, 202, 203, 204, 205, 206, 207, 208, 209, 210, 211, 212, 213, 214, 215, 216, 217, 36, 367, 368, 369, 370, 371, 372, 316, 317, 20, 318, 51, 53, 373, 374, 375, 376, 264, 265, 266, 18, 19, 47, 48, 49, 50, 52, 621, 622, 623, 624, 26, 25, 586, 587, 588, 24, 589, 319, 320, 321, 322, 58, 471, 325, 326, 327, 387, 388, 389, 390, 391, 392, 393, 394, 395, 396, 397, 398, 399, 400, 401, 402, 403, 404, 405, 406, 407, 137, 138, 139, 408, 409, 410, 411, 412, 413, 414, 415, 416, 417, 418, 164, 165, 419, 420, 421, 422, 423, 559, 560, 561, 562, 17, 464, 465, 31, 527, 528, 529, 530, 314, 315, 710, 711, 712, 713, 714, 715, 716, 717, 718, 719, 669, 670, 671, 672, 673, 674, 675, 676, 677, 678, 679, 703, 704, 705, 706, 707, 701, 702, 694, 695, 696, 697, 698, 699, 700, 708, 709] (by decide +kernel) (by decide +kernel)) (goodIn_sub (fun _ h => List.mem_append_right _ h) (by decide +kernel))) (goodIn_sub (fun _ h => List.mem_append_left _ (List.mem_append_left _ (List.mem_append_right _ h))) (by decide +kernel))
set_option maxRecDepth 20000 in
theorem gL_law_L_advise : GoodIn wsL_law (va_wsS RL 133 yL_advise wsL_advise) := goodIn_app (goodIn_of _ (by decide +kernel)) ggL_law_L_advise
set_option maxRecDepth 20000 in
theorem ggL_law_X7_advise : GoodIn wsL_law wsX7_advise := goodIn_r _ [628, 174, 175, 430, 431, 5, 432, 176, 177, 178, 179, 180, 181, 182, 433, 434, 435, 183, 184, 185, 186, 57, 68, 187, 167, 168, 169, 436, 437, 438, 439, 74, 226, 227, 228, 229, 440, 441, 442, 443, 629, 630, 631, 632, 594, 595, 596, 597, 72, 73, 444, 445, 446, 447, 448, 449, 450, 451, 452, 453, 454, 455, 301, 332, 164, 138, 165, 456, 137, 139, 575, 576, 577, 578, 277, 544, 545, 546, 547, 71, 485, 486, 487, 488, 69, 70, 598, 599, 600, 601, 680, 681, 682, 683, 684, 685, 686, 687, 688, 689, 690, 691, 692, 693] (by decide +kernel) (by decide +kernel)
set_option maxRecDepth 20000 in
theorem gL_law_X7_advise : GoodIn wsL_law (wsV RL 135 RX7 yX7_advise wsX7_advise) := goodIn_app (goodIn_of _ (by decide +kernel)) ggL_law_X7_advise
set_option maxRecDepth 20000 in
theorem ggL_law_L_harmful : GoodIn wsL_law wsL_harmful := goodIn_ca (goodIn_ca (goodIn_r _ [635, 80, 79, 636, 637, 638, 2, 639, 340, 341, 342, 296, 16, 345, 346, 347, 99, 100, 101, 102, 103, 348, 349, 350, 86, 87, 377, 378, 379, 380, 11, 12, 381, 382, 383, 384, 385, 386, 354, 355, 356, 357, 30, 199, 358, 200, 201, 359, 360, 361, 29, 362, 363, 364, 365, 366, 62, 63, 104, 105, 106, 15, 107, 108, 202, 203, 204, 205, 206, 207, 208, 209, 210, 211, 212, 213, 214, 215, 216, 217, 36, 367, 368, 369, 370, 371, 372, 316, 317, 20, 318, 51, 53, 373, 374, 375, 376, 621, 622, 623, 624, 26, 25, 586, 587, 588, 24, 589, 319, 320, 321, 322, 58, 471, 325, 326, 327, 387, 388, 389, 390, 391, 392, 393, 394, 395, 396, 397, 398, 399, 400, 401, 402, 403, 404, 405, 406, 407, 137, 138, 139, 408, 409, 410, 411, 412, 413, 414, 415, 416, 417, 418, 164, 165, 419, 420, 421, 422, 423, 559, 560, 561, 562, 17, 464, 465, 31, 527, 528, 529, 530, 314, 315, 710, 711, 712, 713, 714, 715, 716, 717, 718, 719, 669, 670, 671, 672, 673, 674, 675, 676, 677, 678, 679, 703, 704, 705, 706, 707, 701, 702, 694, 695, 696, 697, 698, 699, 700, 708, 709] (by decide +kernel) (by decide +kernel)) (goodIn_sub (fun _ h => List.mem_append_right _ h) (by decide +kernel))) (goodIn_sub (fun _ h => List.mem_append_left _ (List.mem_append_left _ (List.mem_append_right _ h))) (by decide +kernel))
set_option maxRecDepth 20000 in
theorem gL_law_L_harmful : GoodIn wsL_law (va_wsS RL 136 yL_harmful wsL_harmful) := goodIn_app (goodIn_of _ (by decide +kernel)) ggL_law_L_harmful
set_option maxRecDepth 20000 in
theorem ggL_law_X7_harmful : GoodIn wsL_law wsX7_harmful := goodIn_r _ [643, 174, 175, 430, 431, 5, 432, 176, 177, 178, 179, 180, 181, 182, 433, 434, 435, 436, 437, 438, 439, 74, 226, 227, 228, 229, 68, 440, 441, 442, 443, 629, 630, 631, 632, 594, 595, 596, 597, 72, 73, 187, 167, 168, 169, 444, 445, 446, 447, 448, 449, 450, 451, 452, 453, 454, 455, 301, 332, 164, 138, 165, 456, 137, 139, 575, 576, 577, 578, 277, 544, 545, 546, 547, 71, 485, 486, 487, 488, 69, 70, 598, 599, 600, 601, 680, 681, 682, 683, 684, 685, 686, 687, 688, 689, 690, 691, 692, 693] (by decide +kernel) (by decide +kernel)
set_option maxRecDepth 20000 in
theorem gL_law_X7_harmful : GoodIn wsL_law (wsV RL 138 RX7 yX7_harmful wsX7_harmful) := goodIn_app (goodIn_of _ (by decide +kernel)) ggL_law_X7_harmful
set_option maxRecDepth 20000 in
theorem ggL_law_X6_mean : GoodIn wsL_law wsX6_mean := goodIn_r _ [647, 25, 21, 648, 310, 311, 312, 24, 313, 314, 315, 316, 317, 20, 318, 51, 53, 319, 320, 321, 322, 58, 669, 670, 671, 672, 673, 674, 675, 676, 677, 678, 679, 697, 698, 699, 700] (by decide +kernel) (by decide +kernel)
set_option maxRecDepth 20000 in
theorem gL_law_X6_mean : GoodIn wsL_law (wsV RL 139 RX6 yX6_mean wsX6_mean) := goodIn_app (goodIn_of _ (by decide +kernel)) ggL_law_X6_mean
set_option maxRecDepth 20000 in
theorem ggL_law_X7_mean : GoodIn wsL_law wsX7_mean := goodIn_r _ [652, 174, 653, 571, 572, 573, 5, 574, 72, 456, 137, 138, 139, 680, 681, 682, 683, 684, 685, 686, 687, 688, 689, 690, 691, 692, 693] (by decide +kernel) (by decide +kernel)
set_option maxRecDepth 20000 in
theorem gL_law_X7_mean : GoodIn wsL_law (wsV RL 143 RX7 yX7_mean wsX7_mean) := goodIn_app (goodIn_of _ (by decide +kernel)) ggL_law_X7_mean
set_option maxRecDepth 20000 in
theorem ggL_law_X6_digest : GoodIn wsL_law wsX6_digest := goodIn_ca (goodIn_r _ [657, 658, 659, 16, 17, 25, 660, 556, 557, 2, 558, 21, 343, 466, 344, 31, 296, 99, 100, 101, 102, 103, 104, 105, 106, 15, 107, 108, 310, 311, 312, 24, 313, 314, 315, 316, 317, 20, 318, 51, 53, 319, 320, 321, 322, 58, 531, 532, 533, 534, 535, 137, 138, 139, 559, 560, 561, 562, 464, 465, 202, 203, 204, 205, 206, 207, 208, 209, 210, 211, 212, 213, 214, 215, 216, 217, 36, 527, 528, 529, 530, 661, 504, 505, 506, 199, 507, 508, 358, 509, 510, 200, 201, 662, 523, 524, 525, 526, 323, 669, 670, 671, 672, 673, 674, 675, 676, 677, 678, 679, 694, 695, 696, 697, 698, 699, 700, 708, 709, 703, 704, 705, 706, 707] (by decide +kernel) (by decide +kernel)) (goodIn_sub (fun _ h => List.mem_append_right _ h) (by decide +kernel))
set_option maxRecDepth 20000 in
theorem gL_law_X6_digest : GoodIn wsL_law (wsV RL 144 RX6 yX6_digest wsX6_digest) := goodIn_app (goodIn_of _ (by decide +kernel)) ggL_law_X6_digest
set_option maxRecDepth 20000 in
theorem ggL_law_X7_digest : GoodIn wsL_law wsX7_digest := goodIn_r _ [666, 174, 667, 668, 175, 277, 72, 567, 568, 569, 5, 570, 428, 476, 429, 71, 301, 571, 572, 573, 574, 456, 137, 138, 139, 575, 576, 577, 578, 544, 545, 546, 547, 485, 486, 487, 488, 69, 70, 515, 516, 517, 518, 226, 227, 228, 229, 68, 440, 441, 442, 443, 540, 541, 542, 543, 481, 482, 483, 484, 548, 549, 550, 551, 680, 681, 682, 683, 684, 685, 686, 687, 688, 689, 690, 691, 692, 693] (by decide +kernel) (by decide +kernel)
set_option maxRecDepth 20000 in
theorem gL_law_X7_digest : GoodIn wsL_law (wsV RL 148 RX7 yX7_digest wsX7_digest) := goodIn_app (goodIn_of _ (by decide +kernel)) ggL_law_X7_digest
