set_option maxRecDepth 20000 in
theorem gX6_blowOver_X5_crossField : GoodIn wsX6_blowOver (wsV RX6 242 RX5 yX5_crossField wsX5_crossField) := goodIn_app (goodIn_of _ (by decide +kernel)) ggX6_blowOver_X5_crossField
set_option maxRecDepth 20000 in
theorem ggX6_blockedAfterAdvice_X1_becomeLike : GoodIn wsX6_blockedAfterAdvice wsX1_becomeLike := goodIn_r _ [7, 8, 9, 10, 6, 11, 12, 13, 14, 15, 16, 127] (by decide +kernel) (by decide +kernel)
set_option maxRecDepth 20000 in
theorem gX6_blockedAfterAdvice_X1_becomeLike : GoodIn wsX6_blockedAfterAdvice (wsV RX6 200 RX1 yX1_becomeLike wsX1_becomeLike) := goodIn_app (goodIn_of _ (by decide +kernel)) ggX6_blockedAfterAdvice_X1_becomeLike
set_option maxRecDepth 20000 in
theorem ggX6_blockedAfterAdvice_X6_blowOver : GoodIn wsX6_blockedAfterAdvice wsX6_blowOver := goodIn_r _ [21, 22, 23, 24, 25, 26, 27, 28, 29, 30, 31, 32, 33, 34, 35, 36, 37, 38, 39, 40, 41, 42, 43, 44, 45, 46, 47, 48, 49, 50, 51, 52, 53, 54, 55, 56, 57, 58, 59, 9, 10, 6, 11, 12, 60, 61, 62, 63, 64, 65, 66, 67, 68, 69, 70, 71, 72, 14, 15, 16, 116, 117, 118, 119, 120, 121, 122, 123, 124, 125, 126, 128, 129, 130, 131, 132, 133, 134, 135, 136, 137, 138, 139, 127] (by decide +kernel) (by decide +kernel)
set_option maxRecDepth 20000 in
theorem gX6_blockedAfterAdvice_X6_blowOver : GoodIn wsX6_blockedAfterAdvice (wsV RX6 152 RX6 yX6_blowOver wsX6_blowOver) := goodIn_app (goodIn_of _ (by decide +kernel)) ggX6_blockedAfterAdvice_X6_blowOver
set_option maxRecDepth 20000 in
theorem ggX6_blockedAfterAdvice_X6_blockedOnRoads : GoodIn wsX6_blockedAfterAdvice wsX6_blockedOnRoads := goodIn_r _ [76, 77, 78, 79, 80, 81, 82, 83, 84, 85, 86, 87, 88, 89, 90, 91, 92, 93, 94, 95, 96, 97, 98, 99, 100, 101, 102, 103, 104, 105, 106, 6, 107, 108, 109, 110, 111, 112, 113, 114, 115, 8, 9, 10, 11, 12, 116, 117, 118, 119, 120, 121, 122, 123, 124, 125, 126, 140, 141, 142, 143, 144, 145, 146, 147, 127] (by decide +kernel) (by decide +kernel)
set_option maxRecDepth 20000 in
theorem gX6_blockedAfterAdvice_X6_blockedOnRoads : GoodIn wsX6_blockedAfterAdvice (wsV RX6 196 RX6 yX6_blockedOnRoads wsX6_blockedOnRoads) := goodIn_app (goodIn_of _ (by decide +kernel)) ggX6_blockedAfterAdvice_X6_blockedOnRoads
set_option maxRecDepth 20000 in
theorem ggX6_blockedOnRoads_Jx4a65c_size_8abf5 : GoodIn wsX6_blockedOnRoads wsJx4a65c_size_8abf5 := goodIn_r _ [9, 10, 59, 60, 61] (by decide +kernel) (by decide +kernel)
set_option maxRecDepth 20000 in
theorem gX6_blockedOnRoads_Jx4a65c_size_8abf5 : GoodIn wsX6_blockedOnRoads (wsV RX6 67 RJx4a65c yJx4a65c_size_8abf5 wsJx4a65c_size_8abf5) := goodIn_app (goodIn_of _ (by decide +kernel)) ggX6_blockedOnRoads_Jx4a65c_size_8abf5
set_option maxRecDepth 20000 in
theorem ggX6_blockedOnRoads_Jx4a65c_get_915e3 : GoodIn wsX6_blockedOnRoads wsJx4a65c_get_915e3 := goodIn_r _ [14, 10, 15, 16, 17, 18, 19, 20, 21, 22, 23, 24, 25, 8, 26, 27, 59, 60, 61] (by decide +kernel) (by decide +kernel)
set_option maxRecDepth 20000 in
theorem gX6_blockedOnRoads_Jx4a65c_get_915e3 : GoodIn wsX6_blockedOnRoads (wsV RX6 85 RJx4a65c yJx4a65c_get_915e3 wsJx4a65c_get_915e3) := goodIn_app (goodIn_of _ (by decide +kernel)) ggX6_blockedOnRoads_Jx4a65c_get_915e3
set_option maxRecDepth 20000 in
theorem ggX6_blockedOnRoads_X1_blocked : GoodIn wsX6_blockedOnRoads wsX1_blocked := goodIn_r _ [32, 33, 34, 35, 36, 37, 38, 39, 40, 41, 42, 43, 31, 44, 45, 62, 63, 64, 65] (by decide +kernel) (by decide +kernel)
set_option maxRecDepth 20000 in
theorem gX6_blockedOnRoads_X1_blocked : GoodIn wsX6_blockedOnRoads (wsV RX6 189 RX1 yX1_blocked wsX1_blocked) := goodIn_app (goodIn_of _ (by decide +kernel)) ggX6_blockedOnRoads_X1_blocked
set_option maxRecDepth 20000 in
theorem ggX7_copy_X7_init : GoodIn wsX7_copy wsX7_init := goodIn_r _ [17, 18, 19, 20, 12, 4, 5, 21, 22, 6, 13, 23, 24, 25, 26, 27, 28, 29, 30] (by decide +kernel) (by decide +kernel)
set_option maxRecDepth 20000 in
theorem gX7_copy_X7_init : GoodIn wsX7_copy (wsX7_init) := ggX7_copy_X7_init
set_option maxRecDepth 20000 in
theorem ggX7_highest_X7_isOn : GoodIn wsX7_highest wsX7_isOn := goodIn_r _ [6] (by decide +kernel) (by decide +kernel)
set_option maxRecDepth 20000 in
theorem gX7_highest_X7_isOn : GoodIn wsX7_highest (va_wsS RX7 34 yX7_isOn wsX7_isOn) := goodIn_app (goodIn_of _ (by decide +kernel)) ggX7_highest_X7_isOn
set_option maxRecDepth 20000 in
theorem ggX7_hour_X7_spot : GoodIn wsX7_hour wsX7_spot := goodIn_r _ [8, 1] (by decide +kernel) (by decide +kernel)
set_option maxRecDepth 20000 in
theorem gX7_hour_X7_spot : GoodIn wsX7_hour (va_wsS RX7 44 yX7_spot wsX7_spot) := goodIn_app (goodIn_of _ (by decide +kernel)) ggX7_hour_X7_spot
set_option maxRecDepth 20000 in
theorem ggX7_hour_X7_highest : GoodIn wsX7_hour wsX7_highest := goodIn_r _ [12, 1, 13, 14, 15, 7, 16, 24, 25, 26, 27, 28, 29, 30, 31] (by decide +kernel) (by decide +kernel)
set_option maxRecDepth 20000 in
theorem gX7_hour_X7_highest : GoodIn wsX7_hour (wsV RX7 48 RX7 yX7_highest wsX7_highest) := goodIn_app (goodIn_of _ (by decide +kernel)) ggX7_hour_X7_highest
set_option maxRecDepth 20000 in
theorem ggX7_hour_X7_over : GoodIn wsX7_hour wsX7_over := goodIn_r _ [19, 1, 20, 21, 22, 23] (by decide +kernel) (by decide +kernel)
set_option maxRecDepth 20000 in
theorem gX7_hour_X7_over : GoodIn wsX7_hour (va_wsS RX7 52 yX7_over wsX7_over) := goodIn_app (goodIn_of _ (by decide +kernel)) ggX7_hour_X7_over
set_option maxRecDepth 20000 in
theorem ggX7_blow_X7_hour : GoodIn wsX7_blow wsX7_hour := goodIn_r _ [7, 8, 9, 10, 11, 12, 13, 6, 14, 15, 16, 17, 18, 19, 20, 21, 22, 23, 24, 25, 26, 27, 28, 29, 30, 31, 32, 33, 34, 35, 36, 37] (by decide +kernel) (by decide +kernel)
set_option maxRecDepth 20000 in
theorem gX7_blow_X7_hour : GoodIn wsX7_blow (wsV RX7 56 RX7 yX7_hour wsX7_hour) := goodIn_app (goodIn_of _ (by decide +kernel)) ggX7_blow_X7_hour
set_option maxRecDepth 20000 in
theorem ggX7_blocked_X7_on : GoodIn wsX7_blocked wsX7_on := goodIn_r _ [6, 7, 8, 9, 10, 11, 12, 13, 14, 15] (by decide +kernel) (by decide +kernel)
set_option maxRecDepth 20000 in
theorem gX7_blocked_X7_on : GoodIn wsX7_blocked (wsV RX7 65 RX7 yX7_on wsX7_on) := goodIn_app (goodIn_of _ (by decide +kernel)) ggX7_blocked_X7_on
set_option maxRecDepth 20000 in
theorem ggX7_allBlocked_X7_blocked : GoodIn wsX7_allBlocked wsX7_blocked := goodIn_r _ [6, 7, 8, 9, 10, 5, 11, 12, 13, 14, 15, 16, 17, 18, 19, 20] (by decide +kernel) (by decide +kernel)
set_option maxRecDepth 20000 in
theorem gX7_allBlocked_X7_blocked : GoodIn wsX7_allBlocked (wsV RX7 69 RX7 yX7_blocked wsX7_blocked) := goodIn_app (goodIn_of _ (by decide +kernel)) ggX7_allBlocked_X7_blocked
set_option maxRecDepth 20000 in
theorem ggX7_tried_X7_copy : GoodIn wsX7_tried wsX7_copy := goodIn_r _ [6, 7, 8, 5, 1, 9, 10, 11, 12, 13, 14, 15, 16, 17, 18, 19, 20, 21, 22, 23, 24, 25, 26, 66, 67, 68, 69, 70, 71, 72, 73] (by decide +kernel) (by decide +kernel)
set_option maxRecDepth 20000 in
theorem gX7_tried_X7_copy : GoodIn wsX7_tried (wsV RX7 73 RX7 yX7_copy wsX7_copy) := goodIn_app (goodIn_of _ (by decide +kernel)) ggX7_tried_X7_copy
set_option maxRecDepth 20000 in
theorem ggX7_tried_X7_blow : GoodIn wsX7_tried wsX7_blow := goodIn_r _ [30, 31, 32, 33, 34, 35, 5, 36, 26, 16, 10, 18, 37, 38, 39, 40, 41, 42, 43, 1, 44, 45, 46, 47, 48, 49, 50, 51, 52, 53, 66, 67, 68, 69, 70, 71, 72, 73] (by decide +kernel) (by decide +kernel)
set_option maxRecDepth 20000 in
theorem gX7_tried_X7_blow : GoodIn wsX7_tried (wsV RX7 77 RX7 yX7_blow wsX7_blow) := goodIn_app (goodIn_of _ (by decide +kernel)) ggX7_tried_X7_blow
set_option maxRecDepth 20000 in
theorem ggX7_tried_X7_allBlocked : GoodIn wsX7_tried wsX7_allBlocked := goodIn_r _ [57, 9, 58, 59, 60, 5, 61, 17, 62, 63, 64, 65, 10, 66, 67, 68, 69, 70, 71, 72, 73] (by decide +kernel) (by decide +kernel)
set_option maxRecDepth 20000 in
theorem gX7_tried_X7_allBlocked : GoodIn wsX7_tried (wsV RX7 81 RX7 yX7_allBlocked wsX7_allBlocked) := goodIn_app (goodIn_of _ (by decide +kernel)) ggX7_tried_X7_allBlocked
set_option maxRecDepth 20000 in
theorem ggX7_isSame_X6_snow : GoodIn wsX7_isSame wsX6_snow := goodIn_ca (goodIn_r _ [19, 20, 21, 22, 18, 23, 24, 25, 26, 27, 28, 29, 30, 31, 141, 142, 143, 144, 145, 146, 147, 148, 149, 150, 151, 152] (by decide +kernel) (by decide +kernel)) (goodIn_sub (fun _ h => List.mem_cons_of_mem _ (List.mem_append_right _ h)) (by decide +kernel))
set_option maxRecDepth 20000 in
theorem gX7_isSame_X6_snow : GoodIn wsX7_isSame (wsV RX7 85 RX6 yX6_snow wsX6_snow) := goodIn_app (goodIn_of _ (by decide +kernel)) ggX7_isSame_X6_snow
set_option maxRecDepth 20000 in
theorem ggX7_isSame_X7_isOn : GoodIn wsX7_isSame wsX7_isOn := goodIn_r _ [35] (by decide +kernel) (by decide +kernel)
set_option maxRecDepth 20000 in
theorem gX7_isSame_X7_isOn : GoodIn wsX7_isSame (va_wsS RX7 34 yX7_isOn wsX7_isOn) := goodIn_app (goodIn_of _ (by decide +kernel)) ggX7_isSame_X7_isOn
set_option maxRecDepth 20000 in
theorem ggX7_isSame_X6_about : GoodIn wsX7_isSame wsX6_about := goodIn_ca (goodIn_r _ [39, 40, 41, 42, 43, 44, 45, 46, 47, 48, 20, 49, 50, 51, 52, 53, 54, 21, 22, 18, 23, 24, 25, 55, 56, 57, 58, 59, 60, 61, 62, 63, 64, 65, 66, 67, 68, 69, 70, 71, 72, 73, 74, 29, 75, 76, 77, 78, 79, 80, 81, 82, 83, 84, 27, 28, 30, 31, 141, 142, 143, 144, 145, 146, 147, 148, 149, 150, 151, 153, 154, 155, 156, 157, 158, 159, 160, 161, 162, 163, 152] (by decide +kernel) (by decide +kernel)) (goodIn_sub (fun _ h => List.mem_cons_of_mem _ (List.mem_append_right _ h)) (by decide +kernel))
set_option maxRecDepth 20000 in
theorem gX7_isSame_X6_about : GoodIn wsX7_isSame (wsV RX7 89 RX6 yX6_about wsX6_about) := goodIn_app (goodIn_of _ (by decide +kernel)) ggX7_isSame_X6_about
set_option maxRecDepth 20000 in
theorem ggX7_isSame_X7_on : GoodIn wsX7_isSame wsX7_on := goodIn_r _ [88, 1, 133, 134, 135, 136, 137, 138, 139, 140] (by decide +kernel) (by decide +kernel)
set_option maxRecDepth 20000 in
theorem gX7_isSame_X7_on : GoodIn wsX7_isSame (wsV RX7 65 RX7 yX7_on wsX7_on) := goodIn_app (goodIn_of _ (by decide +kernel)) ggX7_isSame_X7_on
set_option maxRecDepth 20000 in
theorem ggX7_isSame_X7_blocked : GoodIn wsX7_isSame wsX7_blocked := goodIn_r _ [92, 12, 85, 86, 87, 34, 88, 1, 133, 134, 135, 136, 137, 138, 139, 140] (by decide +kernel) (by decide +kernel)
set_option maxRecDepth 20000 in
theorem gX7_isSame_X7_blocked : GoodIn wsX7_isSame (wsV RX7 69 RX7 yX7_blocked wsX7_blocked) := goodIn_app (goodIn_of _ (by decide +kernel)) ggX7_isSame_X7_blocked
set_option maxRecDepth 20000 in
theorem ggX7_isSame_X6_told : GoodIn wsX7_isSame wsX6_told := goodIn_ca (goodIn_r _ [96, 97, 98, 99, 46, 100, 20, 101, 49, 50, 51, 52, 53, 54, 21, 22, 18, 23, 24, 25, 55, 56, 57, 58, 59, 60, 61, 62, 63, 64, 65, 66, 67, 68, 69, 70, 71, 102, 103, 104, 29, 105, 76, 77, 78, 79, 80, 81, 82, 83, 84, 27, 28, 30, 31, 72, 73, 74, 75, 106, 107, 108, 109, 110, 3, 4, 5, 141, 142, 143, 144, 145, 146, 147, 148, 149, 150, 151, 164, 165, 158, 159, 160, 161, 162, 163, 152] (by decide +kernel) (by decide +kernel)) (goodIn_sub (fun _ h => List.mem_cons_of_mem _ (List.mem_append_right _ h)) (by decide +kernel))
set_option maxRecDepth 20000 in
theorem gX7_isSame_X6_told : GoodIn wsX7_isSame (wsV RX7 92 RX6 yX6_told wsX6_told) := goodIn_app (goodIn_of _ (by decide +kernel)) ggX7_isSame_X6_told
set_option maxRecDepth 20000 in
theorem ggX7_isSame_X7_allBlocked : GoodIn wsX7_isSame wsX7_allBlocked := goodIn_r _ [114, 7, 89, 90, 91, 34, 92, 12, 85, 86, 87, 88, 1, 133, 134, 135, 136, 137, 138, 139, 140] (by decide +kernel) (by decide +kernel)
set_option maxRecDepth 20000 in
theorem gX7_isSame_X7_allBlocked : GoodIn wsX7_isSame (wsV RX7 81 RX7 yX7_allBlocked wsX7_allBlocked) := goodIn_app (goodIn_of _ (by decide +kernel)) ggX7_isSame_X7_allBlocked
set_option maxRecDepth 20000 in
theorem ggX7_isSame_X6_count : GoodIn wsX7_isSame wsX6_count := goodIn_ca (goodIn_r _ [118, 40, 97, 20, 119, 120, 121, 122, 101, 123, 21, 22, 18, 23, 24, 25, 49, 50, 51, 52, 53, 54, 72, 73, 74, 29, 75, 76, 77, 78, 79, 80, 81, 82, 83, 84, 27, 28, 30, 31, 106, 107, 108, 109, 110, 3, 4, 5, 124, 125, 126, 127, 98, 99, 55, 56, 57, 58, 59, 60, 61, 62, 63, 64, 65, 66, 67, 68, 69, 70, 71, 102, 103, 104, 105, 141, 142, 143, 144, 145, 146, 147, 148, 149, 150, 151, 161, 162, 163, 158, 159, 160, 152, 164, 165] (by decide +kernel) (by decide +kernel)) (goodIn_sub (fun _ h => List.mem_cons_of_mem _ (List.mem_append_right _ h)) (by decide +kernel))
set_option maxRecDepth 20000 in
theorem gX7_isSame_X6_count : GoodIn wsX7_isSame (wsV RX7 98 RX6 yX6_count wsX6_count) := goodIn_app (goodIn_of _ (by decide +kernel)) ggX7_isSame_X6_count
set_option maxRecDepth 20000 in
theorem ggX7_isSame_X6_mean : GoodIn wsX7_isSame wsX6_mean := goodIn_r _ [131, 20, 119, 132, 72, 73, 74, 29, 75, 76, 77, 78, 79, 80, 81, 82, 83, 84, 27, 28, 30, 31, 141, 142, 143, 144, 145, 146, 147, 148, 149, 150, 151, 158, 159, 160, 152] (by decide +kernel) (by decide +kernel)
set_option maxRecDepth 20000 in
theorem gX7_isSame_X6_mean : GoodIn wsX7_isSame (wsV RX7 102 RX6 yX6_mean wsX6_mean) := goodIn_app (goodIn_of _ (by decide +kernel)) ggX7_isSame_X6_mean
set_option maxRecDepth 20000 in
theorem ggJxc12de_init_da8c8_Jxa1e45_init_da8c8 : GoodIn wsJxc12de_init_da8c8 wsJxa1e45_init_da8c8 := goodIn_r _ [5, 6, 7, 8] (by decide +kernel) (by decide +kernel)
set_option maxRecDepth 20000 in
theorem gJxc12de_init_da8c8_Jxa1e45_init_da8c8 : GoodIn wsJxc12de_init_da8c8 (wsJxa1e45_init_da8c8) := ggJxc12de_init_da8c8_Jxa1e45_init_da8c8
set_option maxRecDepth 20000 in
theorem ggJx4a65c_init_da8c8_Jxc12de_init_da8c8 : GoodIn wsJx4a65c_init_da8c8 wsJxc12de_init_da8c8 := goodIn_r _ [6, 7, 8, 9, 10, 11, 12, 13, 14, 15, 16, 17] (by decide +kernel) (by decide +kernel)
set_option maxRecDepth 20000 in
theorem gJx4a65c_init_da8c8_Jxc12de_init_da8c8 : GoodIn wsJx4a65c_init_da8c8 (wsJxc12de_init_da8c8) := ggJx4a65c_init_da8c8_Jxc12de_init_da8c8
set_option maxRecDepth 20000 in
theorem ggJx4a65c_grow_92f84_J8_newLength_cabcc : GoodIn wsJx4a65c_grow_92f84 wsJ8_newLength_cabcc := goodIn_r _ [11, 12, 4, 5, 6, 13, 14, 15, 10, 16] (by decide +kernel) (by decide +kernel)
set_option maxRecDepth 20000 in
theorem gJx4a65c_grow_92f84_J8_newLength_cabcc : GoodIn wsJx4a65c_grow_92f84 (va_wsS RJx4a65c 73 yJ8_newLength_cabcc wsJ8_newLength_cabcc) := goodIn_app (goodIn_of _ (by decide +kernel)) ggJx4a65c_grow_92f84_J8_newLength_cabcc
set_option maxRecDepth 20000 in
theorem ggJx4a65c_grow_92f84_J7_copyOf_1904c : GoodIn wsJx4a65c_grow_92f84 wsJ7_copyOf_1904c := goodIn_r _ [20, 21, 22, 23, 24, 25, 26, 19, 27, 28, 29, 30, 31, 5, 32, 33, 34, 35, 36] (by decide +kernel) (by decide +kernel)
set_option maxRecDepth 20000 in
theorem gJx4a65c_grow_92f84_J7_copyOf_1904c : GoodIn wsJx4a65c_grow_92f84 (va_wsS RJx4a65c 66 yJ7_copyOf_1904c wsJ7_copyOf_1904c) := goodIn_app (goodIn_of _ (by decide +kernel)) ggJx4a65c_grow_92f84_J7_copyOf_1904c
set_option maxRecDepth 20000 in
theorem ggJx4a65c_grow_d5877_Jx4a65c_grow_92f84 : GoodIn wsJx4a65c_grow_d5877 wsJx4a65c_grow_92f84 := goodIn_r _ [6, 7, 8, 9, 10, 11, 12, 13, 14, 15, 16, 17, 18, 19, 20, 21, 22, 23, 24, 25, 26, 27, 28, 29, 30, 31, 32, 33, 34, 35, 36, 37, 38, 39, 40, 41, 42, 43, 44, 45] (by decide +kernel) (by decide +kernel)
set_option maxRecDepth 20000 in
theorem gJx4a65c_grow_d5877_Jx4a65c_grow_92f84 : GoodIn wsJx4a65c_grow_d5877 (wsV RJx4a65c 69 RJx4a65c yJx4a65c_grow_92f84 wsJx4a65c_grow_92f84) := goodIn_app (goodIn_of _ (by decide +kernel)) ggJx4a65c_grow_d5877_Jx4a65c_grow_92f84
set_option maxRecDepth 20000 in
theorem ggJx4a65c_get_915e3_J15_checkIndex_7cf53 : GoodIn wsJx4a65c_get_915e3 wsJ15_checkIndex_7cf53 := goodIn_r _ [5, 6, 7, 8, 9] (by decide +kernel) (by decide +kernel)
set_option maxRecDepth 20000 in
theorem gJx4a65c_get_915e3_J15_checkIndex_7cf53 : GoodIn wsJx4a65c_get_915e3 (va_wsS RJx4a65c 118 yJ15_checkIndex_7cf53 wsJ15_checkIndex_7cf53) := goodIn_app (goodIn_of _ (by decide +kernel)) ggJx4a65c_get_915e3_J15_checkIndex_7cf53
set_option maxRecDepth 20000 in
theorem ggJx4a65c_get_915e3_Jx4a65c_elementData_915e3 : GoodIn wsJx4a65c_get_915e3 wsJx4a65c_elementData_915e3 := goodIn_r _ [14, 15, 16, 17, 18] (by decide +kernel) (by decide +kernel)
set_option maxRecDepth 20000 in
theorem gJx4a65c_get_915e3_Jx4a65c_elementData_915e3 : GoodIn wsJx4a65c_get_915e3 (wsV RJx4a65c 123 RJx4a65c yJx4a65c_elementData_915e3 wsJx4a65c_elementData_915e3) := goodIn_app (goodIn_of _ (by decide +kernel)) ggJx4a65c_get_915e3_Jx4a65c_elementData_915e3
set_option maxRecDepth 20000 in
theorem ggJx4a65c_add_72be8_Jx4a65c_grow_d5877 : GoodIn wsJx4a65c_add_72be8 wsJx4a65c_grow_d5877 := goodIn_r _ [6, 1, 7, 8, 9, 5, 10, 11, 12, 13, 14, 15, 16, 17, 18, 19, 20, 21, 22, 23, 24, 25, 26, 27, 28, 29, 30, 31, 32, 33, 34, 35, 36, 37, 38, 39, 40, 41, 42, 43, 44, 45, 46, 47, 48, 49] (by decide +kernel) (by decide +kernel)
set_option maxRecDepth 20000 in
theorem gJx4a65c_add_72be8_Jx4a65c_grow_d5877 : GoodIn wsJx4a65c_add_72be8 (wsV RJx4a65c 129 RJx4a65c yJx4a65c_grow_d5877 wsJx4a65c_grow_d5877) := goodIn_app (goodIn_of _ (by decide +kernel)) ggJx4a65c_add_72be8_Jx4a65c_grow_d5877
set_option maxRecDepth 20000 in
theorem ggJx4a65c_add_9ea2d_Jx4a65c_add_72be8 : GoodIn wsJx4a65c_add_9ea2d wsJx4a65c_add_72be8 := goodIn_r _ [9, 4, 10, 11, 12, 8, 13, 14, 15, 16, 17, 3, 18, 19, 20, 21, 22, 23, 24, 25, 26, 27, 28, 29, 30, 31, 32, 33, 34, 35, 36, 37, 38, 39, 40, 41, 42, 43, 44, 45, 46, 47, 48, 49, 50, 51, 52, 53, 54, 55] (by decide +kernel) (by decide +kernel)
set_option maxRecDepth 20000 in
theorem gJx4a65c_add_9ea2d_Jx4a65c_add_72be8 : GoodIn wsJx4a65c_add_9ea2d (wsV RJx4a65c 131 RJx4a65c yJx4a65c_add_72be8 wsJx4a65c_add_72be8) := goodIn_app (goodIn_of _ (by decide +kernel)) ggJx4a65c_add_9ea2d_Jx4a65c_add_72be8
set_option maxRecDepth 20000 in
theorem ggJx4a65c_remove_915e3_J15_checkIndex_7cf53 : GoodIn wsJx4a65c_remove_915e3 wsJ15_checkIndex_7cf53 := goodIn_r _ [6, 7, 8, 9, 10] (by decide +kernel) (by decide +kernel)
set_option maxRecDepth 20000 in
theorem gJx4a65c_remove_915e3_J15_checkIndex_7cf53 : GoodIn wsJx4a65c_remove_915e3 (va_wsS RJx4a65c 118 yJ15_checkIndex_7cf53 wsJ15_checkIndex_7cf53) := goodIn_app (goodIn_of _ (by decide +kernel)) ggJx4a65c_remove_915e3_J15_checkIndex_7cf53
set_option maxRecDepth 20000 in
theorem ggJx4a65c_remove_915e3_Jx4a65c_fastRemove_b59b0 : GoodIn wsJx4a65c_remove_915e3 wsJx4a65c_fastRemove_b59b0 := goodIn_r _ [15, 16, 17, 1, 18, 19, 20, 21, 22, 23, 24] (by decide +kernel) (by decide +kernel)
set_option maxRecDepth 20000 in
theorem gJx4a65c_remove_915e3_Jx4a65c_fastRemove_b59b0 : GoodIn wsJx4a65c_remove_915e3 (wsV RJx4a65c 144 RJx4a65c yJx4a65c_fastRemove_b59b0 wsJx4a65c_fastRemove_b59b0) := goodIn_app (goodIn_of _ (by decide +kernel)) ggJx4a65c_remove_915e3_Jx4a65c_fastRemove_b59b0
set_option maxRecDepth 20000 in
theorem ggJ7_copyOf_1904c_J7_copyOf_6403c : GoodIn wsJ7_copyOf_1904c wsJ7_copyOf_6403c := goodIn_r _ [8, 9, 10, 11, 12, 13, 14, 15, 16, 17, 18] (by decide +kernel) (by decide +kernel)
set_option maxRecDepth 20000 in
theorem gJ7_copyOf_1904c_J7_copyOf_6403c : GoodIn wsJ7_copyOf_1904c (va_wsS RJ7 300 yJ7_copyOf_6403c wsJ7_copyOf_6403c) := goodIn_app (goodIn_of _ (by decide +kernel)) ggJ7_copyOf_1904c_J7_copyOf_6403c
set_option maxRecDepth 20000 in
theorem ggJ15_checkIndex_7cf53_J3_checkIndex_8e157 : GoodIn wsJ15_checkIndex_7cf53 wsJ3_checkIndex_8e157 := goodIn_r _ [4] (by decide +kernel) (by decide +kernel)
set_option maxRecDepth 20000 in
theorem gJ15_checkIndex_7cf53_J3_checkIndex_8e157 : GoodIn wsJ15_checkIndex_7cf53 (va_wsS RJ15 105 yJ3_checkIndex_8e157 wsJ3_checkIndex_8e157) := goodIn_app (goodIn_of _ (by decide +kernel)) ggJ15_checkIndex_7cf53_J3_checkIndex_8e157
set_option maxRecDepth 20000 in
theorem ggJ8_newLength_cabcc_J8_hugeLength_7cf53 : GoodIn wsJ8_newLength_cabcc wsJ8_hugeLength_7cf53 := goodIn_r _ [9, 5] (by decide +kernel) (by decide +kernel)
set_option maxRecDepth 20000 in
theorem gJ8_newLength_cabcc_J8_hugeLength_7cf53 : GoodIn wsJ8_newLength_cabcc (va_wsS RJ8 201 yJ8_hugeLength_7cf53 wsJ8_hugeLength_7cf53) := goodIn_app (goodIn_of _ (by decide +kernel)) ggJ8_newLength_cabcc_J8_hugeLength_7cf53
abbrev vwCl : List vw_C := [(RJx4a65c, TJx4a65c, 3), (RX0, TX0, 5), (RX1, TX1, 1), (RX2, TX2, 2), (RX3, TX3, 2), (RX4, TX4, 3), (RX5, TX5, 10), (RX6, TX6, 11), (RX7, TX7, 8)]
