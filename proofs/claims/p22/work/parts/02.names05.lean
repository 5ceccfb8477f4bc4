set_option maxRecDepth 20000 in
theorem gX6_fence_Jx4a65c_add_9ea2d : GoodIn wsX6_fence (wsV RX6 81 RJx4a65c yJx4a65c_add_9ea2d wsJx4a65c_add_9ea2d) := goodIn_app (goodIn_of _ (by decide +kernel)) ggX6_fence_Jx4a65c_add_9ea2d
set_option maxRecDepth 20000 in
theorem ggX6_change_Jx4a65c_size_8abf5 : GoodIn wsX6_change wsJx4a65c_size_8abf5 := goodIn_r _ [9, 10, 58, 59, 60] (by decide +kernel) (by decide +kernel)
set_option maxRecDepth 20000 in
theorem gX6_change_Jx4a65c_size_8abf5 : GoodIn wsX6_change (wsV RX6 67 RJx4a65c yJx4a65c_size_8abf5 wsJx4a65c_size_8abf5) := goodIn_app (goodIn_of _ (by decide +kernel)) ggX6_change_Jx4a65c_size_8abf5
set_option maxRecDepth 20000 in
theorem ggX6_change_X6_needIndex : GoodIn wsX6_change wsX6_needIndex := goodIn_ca (goodIn_r _ [14, 15, 16] (by decide +kernel) (by decide +kernel)) (goodIn_sub (fun _ h => List.mem_cons_of_mem _ (List.mem_append_left _ (List.mem_append_right _ h))) (by decide +kernel))
set_option maxRecDepth 20000 in
theorem gX6_change_X6_needIndex : GoodIn wsX6_change (va_wsS RX6 63 yX6_needIndex wsX6_needIndex) := goodIn_app (goodIn_of _ (by decide +kernel)) ggX6_change_X6_needIndex
set_option maxRecDepth 20000 in
theorem ggX6_change_X6_needHeight : GoodIn wsX6_change wsX6_needHeight := goodIn_ca (goodIn_r _ [19, 20, 21] (by decide +kernel) (by decide +kernel)) (goodIn_sub (fun _ h => List.mem_cons_of_mem _ (List.mem_append_right _ h)) (by decide +kernel))
set_option maxRecDepth 20000 in
theorem gX6_change_X6_needHeight : GoodIn wsX6_change (va_wsS RX6 56 yX6_needHeight wsX6_needHeight) := goodIn_app (goodIn_of _ (by decide +kernel)) ggX6_change_X6_needHeight
set_option maxRecDepth 20000 in
theorem ggX6_change_X6_needGap : GoodIn wsX6_change wsX6_needGap := goodIn_ca (goodIn_r _ [24, 20, 21] (by decide +kernel) (by decide +kernel)) (goodIn_sub (fun _ h => List.mem_cons_of_mem _ (List.mem_append_right _ h)) (by decide +kernel))
set_option maxRecDepth 20000 in
theorem gX6_change_X6_needGap : GoodIn wsX6_change (va_wsS RX6 60 yX6_needGap wsX6_needGap) := goodIn_app (goodIn_of _ (by decide +kernel)) ggX6_change_X6_needGap
set_option maxRecDepth 20000 in
theorem ggX6_change_Jx4a65c_get_915e3 : GoodIn wsX6_change wsJx4a65c_get_915e3 := goodIn_r _ [28, 10, 29, 30, 31, 32, 33, 34, 35, 36, 37, 38, 39, 8, 40, 41, 58, 59, 60] (by decide +kernel) (by decide +kernel)
set_option maxRecDepth 20000 in
theorem gX6_change_Jx4a65c_get_915e3 : GoodIn wsX6_change (wsV RX6 85 RJx4a65c yJx4a65c_get_915e3 wsJx4a65c_get_915e3) := goodIn_app (goodIn_of _ (by decide +kernel)) ggX6_change_Jx4a65c_get_915e3
set_option maxRecDepth 20000 in
theorem ggX6_take_Jx4a65c_size_8abf5 : GoodIn wsX6_take wsJx4a65c_size_8abf5 := goodIn_r _ [6, 7, 48, 49, 50] (by decide +kernel) (by decide +kernel)
set_option maxRecDepth 20000 in
theorem gX6_take_Jx4a65c_size_8abf5 : GoodIn wsX6_take (wsV RX6 67 RJx4a65c yJx4a65c_size_8abf5 wsJx4a65c_size_8abf5) := goodIn_app (goodIn_of _ (by decide +kernel)) ggX6_take_Jx4a65c_size_8abf5
set_option maxRecDepth 20000 in
theorem ggX6_take_X6_needIndex : GoodIn wsX6_take wsX6_needIndex := goodIn_ca (goodIn_r _ [11, 12, 13] (by decide +kernel) (by decide +kernel)) (goodIn_sub (fun _ h => List.mem_cons_of_mem _ (List.mem_append_right _ h)) (by decide +kernel))
set_option maxRecDepth 20000 in
theorem gX6_take_X6_needIndex : GoodIn wsX6_take (va_wsS RX6 63 yX6_needIndex wsX6_needIndex) := goodIn_app (goodIn_of _ (by decide +kernel)) ggX6_take_X6_needIndex
set_option maxRecDepth 20000 in
theorem ggX6_take_Jx4a65c_remove_915e3 : GoodIn wsX6_take wsJx4a65c_remove_915e3 := goodIn_r _ [17, 7, 18, 19, 20, 21, 22, 23, 24, 25, 26, 27, 28, 29, 5, 30, 31, 32, 33, 34, 35, 36, 48, 49, 50] (by decide +kernel) (by decide +kernel)
set_option maxRecDepth 20000 in
theorem gX6_take_Jx4a65c_remove_915e3 : GoodIn wsX6_take (wsV RX6 95 RJx4a65c yJx4a65c_remove_915e3 wsJx4a65c_remove_915e3) := goodIn_app (goodIn_of _ (by decide +kernel)) ggX6_take_Jx4a65c_remove_915e3
set_option maxRecDepth 20000 in
theorem ggX6_road_X6_needIndex : GoodIn wsX6_road wsX6_needIndex := goodIn_ca (goodIn_r _ [10, 11, 12] (by decide +kernel) (by decide +kernel)) (goodIn_sub (fun _ h => List.mem_cons_of_mem _ (List.mem_append_right _ h)) (by decide +kernel))
set_option maxRecDepth 20000 in
theorem gX6_road_X6_needIndex : GoodIn wsX6_road (va_wsS RX6 63 yX6_needIndex wsX6_needIndex) := goodIn_app (goodIn_of _ (by decide +kernel)) ggX6_road_X6_needIndex
set_option maxRecDepth 20000 in
theorem ggX6_road_Jx4a65c_size_8abf5 : GoodIn wsX6_road wsJx4a65c_size_8abf5 := goodIn_r _ [17, 18, 107, 108, 109] (by decide +kernel) (by decide +kernel)
set_option maxRecDepth 20000 in
theorem gX6_road_Jx4a65c_size_8abf5 : GoodIn wsX6_road (wsV RX6 67 RJx4a65c yJx4a65c_size_8abf5 wsJx4a65c_size_8abf5) := goodIn_app (goodIn_of _ (by decide +kernel)) ggX6_road_Jx4a65c_size_8abf5
set_option maxRecDepth 20000 in
theorem ggX6_road_X6_straight : GoodIn wsX6_road wsX6_straight := goodIn_r _ [21, 22, 23, 24, 25, 26, 27, 28, 29, 30, 31, 32, 33, 110, 111, 112] (by decide +kernel) (by decide +kernel)
set_option maxRecDepth 20000 in
theorem gX6_road_X6_straight : GoodIn wsX6_road (va_wsS RX6 102 yX6_straight wsX6_straight) := goodIn_app (goodIn_of _ (by decide +kernel)) ggX6_road_X6_straight
set_option maxRecDepth 20000 in
theorem ggX6_road_X2_init : GoodIn wsX6_road wsX2_init := goodIn_r _ [36, 37, 29, 30, 38, 39, 105, 106] (by decide +kernel) (by decide +kernel)
set_option maxRecDepth 20000 in
theorem gX6_road_X2_init : GoodIn wsX6_road (wsX2_init) := ggX6_road_X2_init
set_option maxRecDepth 20000 in
theorem ggX6_road_Jx4a65c_add_9ea2d : GoodIn wsX6_road wsJx4a65c_add_9ea2d := goodIn_r _ [43, 44, 45, 46, 18, 47, 48, 49, 16, 50, 51, 52, 53, 54, 55, 56, 57, 58, 59, 60, 61, 62, 63, 64, 65, 66, 67, 68, 69, 70, 71, 72, 73, 74, 75, 76, 77, 78, 79, 80, 81, 82, 83, 84, 85, 86, 87, 88, 89, 90, 91, 92, 93, 107, 108, 109] (by decide +kernel) (by decide +kernel)
set_option maxRecDepth 20000 in
theorem gX6_road_Jx4a65c_add_9ea2d : GoodIn wsX6_road (wsV RX6 81 RJx4a65c yJx4a65c_add_9ea2d wsJx4a65c_add_9ea2d) := goodIn_app (goodIn_of _ (by decide +kernel)) ggX6_road_Jx4a65c_add_9ea2d
set_option maxRecDepth 20000 in
theorem ggX6_fall_X1_sum : GoodIn wsX6_fall wsX1_sum := goodIn_r _ [13, 14, 15, 16, 17, 18, 19, 20, 21, 22, 23, 24, 12, 25, 26, 43, 44, 45, 46] (by decide +kernel) (by decide +kernel)
set_option maxRecDepth 20000 in
theorem gX6_fall_X1_sum : GoodIn wsX6_fall (wsV RX6 118 RX1 yX1_sum wsX1_sum) := goodIn_app (goodIn_of _ (by decide +kernel)) ggX6_fall_X1_sum
set_option maxRecDepth 20000 in
theorem ggX6_fall_X1_depth : GoodIn wsX6_fall wsX1_depth := goodIn_r _ [25, 26, 46] (by decide +kernel) (by decide +kernel)
set_option maxRecDepth 20000 in
theorem gX6_fall_X1_depth : GoodIn wsX6_fall (wsV RX6 122 RX1 yX1_depth wsX1_depth) := goodIn_app (goodIn_of _ (by decide +kernel)) ggX6_fall_X1_depth
set_option maxRecDepth 20000 in
theorem ggX6_fall_X1_put : GoodIn wsX6_fall wsX1_put := goodIn_r _ [31, 26, 46] (by decide +kernel) (by decide +kernel)
set_option maxRecDepth 20000 in
theorem gX6_fall_X1_put : GoodIn wsX6_fall (wsV RX6 132 RX1 yX1_put wsX1_put) := goodIn_app (goodIn_of _ (by decide +kernel)) ggX6_fall_X1_put
set_option maxRecDepth 20000 in
theorem ggX6_blow_X6_needWind : GoodIn wsX6_blow wsX6_needWind := goodIn_ca (goodIn_r _ [11, 12, 13, 10, 14, 15, 16] (by decide +kernel) (by decide +kernel)) (goodIn_sub (fun _ h => List.mem_cons_of_mem _ (List.mem_append_left _ (List.mem_append_right _ h))) (by decide +kernel))
set_option maxRecDepth 20000 in
theorem gX6_blow_X6_needWind : GoodIn wsX6_blow (va_wsS RX6 135 yX6_needWind wsX6_needWind) := goodIn_app (goodIn_of _ (by decide +kernel)) ggX6_blow_X6_needWind
set_option maxRecDepth 20000 in
theorem ggX6_blow_X6_needStrength : GoodIn wsX6_blow wsX6_needStrength := goodIn_ca (goodIn_r _ [19, 20, 21] (by decide +kernel) (by decide +kernel)) (goodIn_sub (fun _ h => List.mem_cons_of_mem _ (List.mem_append_right _ h)) (by decide +kernel))
set_option maxRecDepth 20000 in
theorem gX6_blow_X6_needStrength : GoodIn wsX6_blow (va_wsS RX6 138 yX6_needStrength wsX6_needStrength) := goodIn_app (goodIn_of _ (by decide +kernel)) ggX6_blow_X6_needStrength
set_option maxRecDepth 20000 in
theorem ggX6_blow_X6_needHours : GoodIn wsX6_blow wsX6_needHours := goodIn_ca (goodIn_r _ [24, 20, 21] (by decide +kernel) (by decide +kernel)) (goodIn_sub (fun _ h => List.mem_cons_of_mem _ (List.mem_append_right _ h)) (by decide +kernel))
set_option maxRecDepth 20000 in
theorem gX6_blow_X6_needHours : GoodIn wsX6_blow (va_wsS RX6 141 yX6_needHours wsX6_needHours) := goodIn_app (goodIn_of _ (by decide +kernel)) ggX6_blow_X6_needHours
set_option maxRecDepth 20000 in
theorem ggX6_blow_X6_screenAllBut : GoodIn wsX6_blow wsX6_screenAllBut := goodIn_r _ [28, 29, 30, 31, 32, 33, 34, 35, 36, 37, 38, 39, 40, 41, 42, 43, 44, 45, 46, 47, 48, 49, 50, 51, 52, 53, 54, 55, 56, 57, 58, 59, 60, 61, 62, 63, 64, 65, 66, 67, 68, 69, 70, 71, 72, 73, 74, 75, 76, 77, 78, 79, 80, 81, 82, 83, 84, 147, 148, 149, 150, 151, 152, 153, 154, 155, 156, 157, 168, 169, 170, 171, 172, 173, 174, 175, 176, 177, 178, 179, 180] (by decide +kernel) (by decide +kernel)
set_option maxRecDepth 20000 in
theorem gX6_blow_X6_screenAllBut : GoodIn wsX6_blow (wsV RX6 144 RX6 yX6_screenAllBut wsX6_screenAllBut) := goodIn_app (goodIn_of _ (by decide +kernel)) ggX6_blow_X6_screenAllBut
set_option maxRecDepth 20000 in
theorem ggX6_blow_X5_init : GoodIn wsX6_blow wsX5_init := goodIn_r _ [87, 88, 89, 90, 91, 92, 93, 94, 95, 96, 158, 159, 160, 161, 162, 163, 164, 165, 166, 167] (by decide +kernel) (by decide +kernel)
set_option maxRecDepth 20000 in
theorem gX6_blow_X5_init : GoodIn wsX6_blow (wsX5_init) := ggX6_blow_X5_init
set_option maxRecDepth 20000 in
theorem ggX6_blow_X6_blowOver : GoodIn wsX6_blow wsX6_blowOver := goodIn_r _ [100, 29, 101, 102, 103, 4, 104, 94, 96, 105, 106, 107, 108, 92, 109, 110, 111, 95, 112, 113, 114, 115, 116, 117, 118, 119, 120, 121, 82, 83, 38, 84, 44, 122, 123, 124, 125, 45, 126, 127, 128, 129, 130, 131, 132, 133, 134, 135, 136, 137, 138, 139, 140, 141, 142, 91, 143, 144, 145, 146, 147, 148, 149, 150, 151, 152, 153, 154, 155, 156, 157, 158, 159, 160, 161, 162, 163, 164, 165, 166, 167, 173, 174, 181] (by decide +kernel) (by decide +kernel)
set_option maxRecDepth 20000 in
theorem gX6_blow_X6_blowOver : GoodIn wsX6_blow (wsV RX6 152 RX6 yX6_blowOver wsX6_blowOver) := goodIn_app (goodIn_of _ (by decide +kernel)) ggX6_blow_X6_blowOver
set_option maxRecDepth 20000 in
theorem ggX6_plough_Jx4a65c_size_8abf5 : GoodIn wsX6_plough wsJx4a65c_size_8abf5 := goodIn_r _ [10, 11, 74, 75, 76] (by decide +kernel) (by decide +kernel)
set_option maxRecDepth 20000 in
theorem gX6_plough_Jx4a65c_size_8abf5 : GoodIn wsX6_plough (wsV RX6 67 RJx4a65c yJx4a65c_size_8abf5 wsJx4a65c_size_8abf5) := goodIn_app (goodIn_of _ (by decide +kernel)) ggX6_plough_Jx4a65c_size_8abf5
set_option maxRecDepth 20000 in
theorem ggX6_plough_X6_needIndex : GoodIn wsX6_plough wsX6_needIndex := goodIn_ca (goodIn_r _ [15, 16, 17] (by decide +kernel) (by decide +kernel)) (goodIn_sub (fun _ h => List.mem_cons_of_mem _ (List.mem_append_right _ h)) (by decide +kernel))
set_option maxRecDepth 20000 in
theorem gX6_plough_X6_needIndex : GoodIn wsX6_plough (va_wsS RX6 63 yX6_needIndex wsX6_needIndex) := goodIn_app (goodIn_of _ (by decide +kernel)) ggX6_plough_X6_needIndex
set_option maxRecDepth 20000 in
theorem ggX6_plough_Jx4a65c_get_915e3 : GoodIn wsX6_plough wsJx4a65c_get_915e3 := goodIn_r _ [21, 11, 22, 23, 24, 25, 26, 27, 28, 29, 30, 31, 32, 9, 33, 34, 74, 75, 76] (by decide +kernel) (by decide +kernel)
set_option maxRecDepth 20000 in
theorem gX6_plough_Jx4a65c_get_915e3 : GoodIn wsX6_plough (wsV RX6 85 RJx4a65c yJx4a65c_get_915e3 wsJx4a65c_get_915e3) := goodIn_app (goodIn_of _ (by decide +kernel)) ggX6_plough_Jx4a65c_get_915e3
set_option maxRecDepth 20000 in
theorem ggX6_plough_X1_sum : GoodIn wsX6_plough wsX1_sum := goodIn_r _ [39, 40, 41, 42, 43, 44, 45, 46, 47, 48, 49, 50, 38, 51, 52, 77, 78, 79, 80] (by decide +kernel) (by decide +kernel)
set_option maxRecDepth 20000 in
theorem gX6_plough_X1_sum : GoodIn wsX6_plough (wsV RX6 118 RX1 yX1_sum wsX1_sum) := goodIn_app (goodIn_of _ (by decide +kernel)) ggX6_plough_X1_sum
set_option maxRecDepth 20000 in
theorem ggX6_plough_X1_clear : GoodIn wsX6_plough wsX1_clear := goodIn_r _ [56, 40, 41, 42, 43, 44, 45, 46, 47, 57, 58, 59, 38, 60, 52, 77, 78, 79, 80] (by decide +kernel) (by decide +kernel)
set_option maxRecDepth 20000 in
theorem gX6_plough_X1_clear : GoodIn wsX6_plough (wsV RX6 165 RX1 yX1_clear wsX1_clear) := goodIn_app (goodIn_of _ (by decide +kernel)) ggX6_plough_X1_clear
set_option maxRecDepth 20000 in
theorem ggX6_snow_X6_needIndex : GoodIn wsX6_snow wsX6_needIndex := goodIn_ca (goodIn_r _ [5, 6, 7] (by decide +kernel) (by decide +kernel)) (goodIn_sub (fun _ h => List.mem_cons_of_mem _ (List.mem_append_right _ h)) (by decide +kernel))
set_option maxRecDepth 20000 in
theorem gX6_snow_X6_needIndex : GoodIn wsX6_snow (va_wsS RX6 63 yX6_needIndex wsX6_needIndex) := goodIn_app (goodIn_of _ (by decide +kernel)) ggX6_snow_X6_needIndex
set_option maxRecDepth 20000 in
theorem ggX6_snow_X1_depth : GoodIn wsX6_snow wsX1_depth := goodIn_r _ [12, 13, 25] (by decide +kernel) (by decide +kernel)
set_option maxRecDepth 20000 in
theorem gX6_snow_X1_depth : GoodIn wsX6_snow (wsV RX6 122 RX1 yX1_depth wsX1_depth) := goodIn_app (goodIn_of _ (by decide +kernel)) ggX6_snow_X1_depth
set_option maxRecDepth 20000 in
theorem ggX6_about_Jx4a65c_size_8abf5 : GoodIn wsX6_about wsJx4a65c_size_8abf5 := goodIn_r _ [15, 16, 77, 78, 79] (by decide +kernel) (by decide +kernel)
set_option maxRecDepth 20000 in
theorem gX6_about_Jx4a65c_size_8abf5 : GoodIn wsX6_about (wsV RX6 67 RJx4a65c yJx4a65c_size_8abf5 wsJx4a65c_size_8abf5) := goodIn_app (goodIn_of _ (by decide +kernel)) ggX6_about_Jx4a65c_size_8abf5
set_option maxRecDepth 20000 in
theorem ggX6_about_X6_needIndex : GoodIn wsX6_about wsX6_needIndex := goodIn_ca (goodIn_r _ [20, 21, 22] (by decide +kernel) (by decide +kernel)) (goodIn_sub (fun _ h => List.mem_cons_of_mem _ (List.mem_append_right _ h)) (by decide +kernel))
set_option maxRecDepth 20000 in
theorem gX6_about_X6_needIndex : GoodIn wsX6_about (va_wsS RX6 63 yX6_needIndex wsX6_needIndex) := goodIn_app (goodIn_of _ (by decide +kernel)) ggX6_about_X6_needIndex
set_option maxRecDepth 20000 in
theorem ggX6_about_Jx4a65c_get_915e3 : GoodIn wsX6_about wsJx4a65c_get_915e3 := goodIn_r _ [26, 16, 27, 28, 29, 30, 31, 32, 33, 34, 35, 36, 37, 14, 38, 39, 77, 78, 79] (by decide +kernel) (by decide +kernel)
set_option maxRecDepth 20000 in
theorem gX6_about_Jx4a65c_get_915e3 : GoodIn wsX6_about (wsV RX6 85 RJx4a65c yJx4a65c_get_915e3 wsJx4a65c_get_915e3) := goodIn_app (goodIn_of _ (by decide +kernel)) ggX6_about_Jx4a65c_get_915e3
set_option maxRecDepth 20000 in
theorem ggX6_about_X1_sum : GoodIn wsX6_about wsX1_sum := goodIn_r _ [44, 45, 46, 47, 48, 49, 50, 51, 52, 53, 54, 55, 43, 56, 57, 74, 75, 76, 80] (by decide +kernel) (by decide +kernel)
set_option maxRecDepth 20000 in
theorem gX6_about_X1_sum : GoodIn wsX6_about (wsV RX6 118 RX1 yX1_sum wsX1_sum) := goodIn_app (goodIn_of _ (by decide +kernel)) ggX6_about_X1_sum
set_option maxRecDepth 20000 in
theorem ggX6_told_Jx4a65c_size_8abf5 : GoodIn wsX6_told wsJx4a65c_size_8abf5 := goodIn_r _ [12, 13, 83, 84, 85] (by decide +kernel) (by decide +kernel)
set_option maxRecDepth 20000 in
theorem gX6_told_Jx4a65c_size_8abf5 : GoodIn wsX6_told (wsV RX6 67 RJx4a65c yJx4a65c_size_8abf5 wsJx4a65c_size_8abf5) := goodIn_app (goodIn_of _ (by decide +kernel)) ggX6_told_Jx4a65c_size_8abf5
set_option maxRecDepth 20000 in
theorem ggX6_told_X6_needIndex : GoodIn wsX6_told wsX6_needIndex := goodIn_ca (goodIn_r _ [17, 18, 19] (by decide +kernel) (by decide +kernel)) (goodIn_sub (fun _ h => List.mem_cons_of_mem _ (List.mem_append_right _ h)) (by decide +kernel))
set_option maxRecDepth 20000 in
theorem gX6_told_X6_needIndex : GoodIn wsX6_told (va_wsS RX6 63 yX6_needIndex wsX6_needIndex) := goodIn_app (goodIn_of _ (by decide +kernel)) ggX6_told_X6_needIndex
set_option maxRecDepth 20000 in
theorem ggX6_told_Jx4a65c_get_915e3 : GoodIn wsX6_told wsJx4a65c_get_915e3 := goodIn_r _ [23, 13, 24, 25, 26, 27, 28, 29, 30, 31, 32, 33, 34, 11, 35, 36, 83, 84, 85] (by decide +kernel) (by decide +kernel)
set_option maxRecDepth 20000 in
theorem gX6_told_Jx4a65c_get_915e3 : GoodIn wsX6_told (wsV RX6 85 RJx4a65c yJx4a65c_get_915e3 wsJx4a65c_get_915e3) := goodIn_app (goodIn_of _ (by decide +kernel)) ggX6_told_Jx4a65c_get_915e3
set_option maxRecDepth 20000 in
theorem ggX6_told_X1_blocked : GoodIn wsX6_told wsX1_blocked := goodIn_r _ [41, 42, 43, 44, 45, 46, 47, 48, 49, 50, 51, 52, 40, 53, 54, 80, 81, 82, 86] (by decide +kernel) (by decide +kernel)
set_option maxRecDepth 20000 in
theorem gX6_told_X1_blocked : GoodIn wsX6_told (wsV RX6 189 RX1 yX1_blocked wsX1_blocked) := goodIn_app (goodIn_of _ (by decide +kernel)) ggX6_told_X1_blocked
set_option maxRecDepth 20000 in
theorem ggX6_told_X1_sum : GoodIn wsX6_told wsX1_sum := goodIn_r _ [58, 42, 43, 44, 45, 46, 47, 48, 49, 50, 51, 52, 40, 53, 54, 80, 81, 82, 86] (by decide +kernel) (by decide +kernel)
set_option maxRecDepth 20000 in
theorem gX6_told_X1_sum : GoodIn wsX6_told (wsV RX6 118 RX1 yX1_sum wsX1_sum) := goodIn_app (goodIn_of _ (by decide +kernel)) ggX6_told_X1_sum
set_option maxRecDepth 20000 in
theorem ggX6_told_X1_most : GoodIn wsX6_told wsX1_most := goodIn_r _ [62, 42, 63, 64, 65, 66, 43, 44, 45, 46, 47, 48, 49, 50, 51, 52, 40, 53, 54, 80, 81, 82, 86] (by decide +kernel) (by decide +kernel)
set_option maxRecDepth 20000 in
theorem gX6_told_X1_most : GoodIn wsX6_told (wsV RX6 193 RX1 yX1_most wsX1_most) := goodIn_app (goodIn_of _ (by decide +kernel)) ggX6_told_X1_most
set_option maxRecDepth 20000 in
theorem ggX6_count_X6_needIndex : GoodIn wsX6_count wsX6_needIndex := goodIn_ca (goodIn_r _ [13, 14, 15] (by decide +kernel) (by decide +kernel)) (goodIn_sub (fun _ h => List.mem_cons_of_mem _ (List.mem_append_right _ h)) (by decide +kernel))
set_option maxRecDepth 20000 in
theorem gX6_count_X6_needIndex : GoodIn wsX6_count (va_wsS RX6 63 yX6_needIndex wsX6_needIndex) := goodIn_app (goodIn_of _ (by decide +kernel)) ggX6_count_X6_needIndex
set_option maxRecDepth 20000 in
theorem ggX6_count_Jx4a65c_size_8abf5 : GoodIn wsX6_count wsJx4a65c_size_8abf5 := goodIn_r _ [20, 21, 86, 87, 88] (by decide +kernel) (by decide +kernel)
set_option maxRecDepth 20000 in
theorem gX6_count_Jx4a65c_size_8abf5 : GoodIn wsX6_count (wsV RX6 67 RJx4a65c yJx4a65c_size_8abf5 wsJx4a65c_size_8abf5) := goodIn_app (goodIn_of _ (by decide +kernel)) ggX6_count_Jx4a65c_size_8abf5
set_option maxRecDepth 20000 in
theorem ggX6_count_X1_sum : GoodIn wsX6_count wsX1_sum := goodIn_r _ [26, 27, 28, 29, 30, 31, 32, 33, 34, 35, 36, 37, 25, 38, 39, 89, 90, 91, 92] (by decide +kernel) (by decide +kernel)
set_option maxRecDepth 20000 in
theorem gX6_count_X1_sum : GoodIn wsX6_count (wsV RX6 118 RX1 yX1_sum wsX1_sum) := goodIn_app (goodIn_of _ (by decide +kernel)) ggX6_count_X1_sum
set_option maxRecDepth 20000 in
theorem ggX6_count_X1_most : GoodIn wsX6_count wsX1_most := goodIn_r _ [43, 27, 44, 45, 46, 47, 28, 29, 30, 31, 32, 33, 34, 35, 36, 37, 25, 38, 39, 89, 90, 91, 92] (by decide +kernel) (by decide +kernel)
set_option maxRecDepth 20000 in
theorem gX6_count_X1_most : GoodIn wsX6_count (wsV RX6 193 RX1 yX1_most wsX1_most) := goodIn_app (goodIn_of _ (by decide +kernel)) ggX6_count_X1_most
set_option maxRecDepth 20000 in
theorem ggX6_count_X6_blockedOnRoads : GoodIn wsX6_count wsX6_blockedOnRoads := goodIn_r _ [51, 2, 52, 53, 8, 16, 17, 18, 19, 20, 21, 54, 55, 56, 57, 58, 59, 60, 61, 62, 63, 64, 65, 66, 67, 68, 69, 70, 71, 72, 73, 25, 74, 27, 28, 29, 30, 31, 32, 33, 34, 35, 36, 37, 38, 39, 75, 76, 77, 78, 79, 80, 81, 82, 83, 84, 85, 93, 94, 86, 87, 88, 89, 90, 91, 92] (by decide +kernel) (by decide +kernel)
set_option maxRecDepth 20000 in
theorem gX6_count_X6_blockedOnRoads : GoodIn wsX6_count (wsV RX6 196 RX6 yX6_blockedOnRoads wsX6_blockedOnRoads) := goodIn_app (goodIn_of _ (by decide +kernel)) ggX6_count_X6_blockedOnRoads
set_option maxRecDepth 20000 in
theorem ggX6_would_X6_needWind : GoodIn wsX6_would wsX6_needWind := goodIn_ca (goodIn_r _ [14, 15, 16, 13, 17, 18, 19] (by decide +kernel) (by decide +kernel)) (goodIn_sub (fun _ h => List.mem_cons_of_mem _ (List.mem_append_left _ (List.mem_append_right _ h))) (by decide +kernel))
set_option maxRecDepth 20000 in
theorem gX6_would_X6_needWind : GoodIn wsX6_would (va_wsS RX6 135 yX6_needWind wsX6_needWind) := goodIn_app (goodIn_of _ (by decide +kernel)) ggX6_would_X6_needWind
set_option maxRecDepth 20000 in
theorem ggX6_would_Jx4a65c_size_8abf5 : GoodIn wsX6_would wsJx4a65c_size_8abf5 := goodIn_r _ [24, 25, 185, 186, 187] (by decide +kernel) (by decide +kernel)
set_option maxRecDepth 20000 in
theorem gX6_would_Jx4a65c_size_8abf5 : GoodIn wsX6_would (wsV RX6 67 RJx4a65c yJx4a65c_size_8abf5 wsJx4a65c_size_8abf5) := goodIn_app (goodIn_of _ (by decide +kernel)) ggX6_would_Jx4a65c_size_8abf5
set_option maxRecDepth 20000 in
theorem ggX6_would_X6_needIndex : GoodIn wsX6_would wsX6_needIndex := goodIn_ca (goodIn_r _ [17, 18, 19] (by decide +kernel) (by decide +kernel)) (goodIn_sub (fun _ h => List.mem_cons_of_mem _ (List.mem_append_left _ (List.mem_append_right _ h))) (by decide +kernel))
set_option maxRecDepth 20000 in
theorem gX6_would_X6_needIndex : GoodIn wsX6_would (va_wsS RX6 63 yX6_needIndex wsX6_needIndex) := goodIn_app (goodIn_of _ (by decide +kernel)) ggX6_would_X6_needIndex
set_option maxRecDepth 20000 in
theorem ggX6_would_X6_needStrength : GoodIn wsX6_would wsX6_needStrength := goodIn_ca (goodIn_r _ [28, 29, 30] (by decide +kernel) (by decide +kernel)) (goodIn_sub (fun _ h => List.mem_cons_of_mem _ (List.mem_append_right _ h)) (by decide +kernel))
set_option maxRecDepth 20000 in
theorem gX6_would_X6_needStrength : GoodIn wsX6_would (va_wsS RX6 138 yX6_needStrength wsX6_needStrength) := goodIn_app (goodIn_of _ (by decide +kernel)) ggX6_would_X6_needStrength
set_option maxRecDepth 20000 in
theorem ggX6_would_X6_needHours : GoodIn wsX6_would wsX6_needHours := goodIn_ca (goodIn_r _ [33, 29, 30] (by decide +kernel) (by decide +kernel)) (goodIn_sub (fun _ h => List.mem_cons_of_mem _ (List.mem_append_right _ h)) (by decide +kernel))
set_option maxRecDepth 20000 in
theorem gX6_would_X6_needHours : GoodIn wsX6_would (va_wsS RX6 141 yX6_needHours wsX6_needHours) := goodIn_app (goodIn_of _ (by decide +kernel)) ggX6_would_X6_needHours
set_option maxRecDepth 20000 in
theorem ggX6_would_X6_screenAllBut : GoodIn wsX6_would wsX6_screenAllBut := goodIn_r _ [37, 38, 39, 40, 41, 42, 43, 44, 45, 46, 47, 48, 49, 50, 51, 52, 53, 54, 20, 21, 22, 23, 24, 25, 55, 56, 57, 58, 59, 60, 61, 62, 63, 64, 65, 66, 67, 68, 69, 70, 71, 72, 73, 74, 75, 76, 77, 78, 79, 80, 81, 82, 83, 84, 85, 86, 87, 162, 163, 164, 165, 166, 167, 168, 169, 170, 171, 172, 188, 189, 190, 191, 192, 193, 194, 185, 186, 187, 195, 196, 197] (by decide +kernel) (by decide +kernel)
set_option maxRecDepth 20000 in
theorem gX6_would_X6_screenAllBut : GoodIn wsX6_would (wsV RX6 144 RX6 yX6_screenAllBut wsX6_screenAllBut) := goodIn_app (goodIn_of _ (by decide +kernel)) ggX6_would_X6_screenAllBut
set_option maxRecDepth 20000 in
theorem ggX6_would_X1_becomeLike : GoodIn wsX6_would wsX1_becomeLike := goodIn_r _ [92, 93, 94, 95, 91, 96, 97, 98, 99, 100, 101, 198] (by decide +kernel) (by decide +kernel)
set_option maxRecDepth 20000 in
theorem gX6_would_X1_becomeLike : GoodIn wsX6_would (wsV RX6 200 RX1 yX1_becomeLike wsX1_becomeLike) := goodIn_app (goodIn_of _ (by decide +kernel)) ggX6_would_X1_becomeLike
set_option maxRecDepth 20000 in
theorem ggX6_would_X5_init : GoodIn wsX6_would wsX5_init := goodIn_r _ [104, 105, 106, 107, 108, 109, 110, 111, 112, 113, 173, 174, 175, 176, 177, 178, 179, 180, 181, 182] (by decide +kernel) (by decide +kernel)
set_option maxRecDepth 20000 in
theorem gX6_would_X5_init : GoodIn wsX6_would (wsX5_init) := ggX6_would_X5_init
set_option maxRecDepth 20000 in
theorem ggX6_would_X6_blowOver : GoodIn wsX6_would wsX6_blowOver := goodIn_r _ [117, 38, 118, 119, 120, 6, 121, 111, 113, 122, 123, 124, 125, 109, 126, 127, 128, 112, 129, 130, 131, 132, 133, 134, 135, 136, 137, 138, 85, 86, 47, 87, 53, 139, 140, 141, 142, 54, 143, 94, 95, 91, 96, 97, 144, 145, 146, 147, 148, 149, 150, 151, 152, 153, 154, 108, 155, 99, 100, 101, 162, 163, 164, 165, 166, 167, 168, 169, 170, 171, 172, 173, 174, 175, 176, 177, 178, 179, 180, 181, 182, 193, 194, 198] (by decide +kernel) (by decide +kernel)
set_option maxRecDepth 20000 in
theorem gX6_would_X6_blowOver : GoodIn wsX6_would (wsV RX6 152 RX6 yX6_blowOver wsX6_blowOver) := goodIn_app (goodIn_of _ (by decide +kernel)) ggX6_would_X6_blowOver
set_option maxRecDepth 20000 in
theorem ggX6_would_Jx4a65c_get_915e3 : GoodIn wsX6_would wsJx4a65c_get_915e3 := goodIn_r _ [58, 25, 59, 60, 61, 62, 63, 64, 65, 66, 67, 68, 69, 23, 70, 71, 185, 186, 187] (by decide +kernel) (by decide +kernel)
set_option maxRecDepth 20000 in
theorem gX6_would_Jx4a65c_get_915e3 : GoodIn wsX6_would (wsV RX6 85 RJx4a65c yJx4a65c_get_915e3 wsJx4a65c_get_915e3) := goodIn_app (goodIn_of _ (by decide +kernel)) ggX6_would_Jx4a65c_get_915e3
set_option maxRecDepth 20000 in
theorem ggX6_would_X1_blocked : GoodIn wsX6_would wsX1_blocked := goodIn_r _ [159, 160, 161, 78, 79, 80, 81, 82, 83, 93, 94, 95, 91, 96, 97, 195, 196, 197, 198] (by decide +kernel) (by decide +kernel)
set_option maxRecDepth 20000 in
theorem gX6_would_X1_blocked : GoodIn wsX6_would (wsV RX6 189 RX1 yX1_blocked wsX1_blocked) := goodIn_app (goodIn_of _ (by decide +kernel)) ggX6_would_X1_blocked
set_option maxRecDepth 20000 in
theorem ggX6_until_X6_needWind : GoodIn wsX6_until wsX6_needWind := goodIn_ca (goodIn_r _ [14, 15, 16, 13, 17, 18, 19] (by decide +kernel) (by decide +kernel)) (goodIn_sub (fun _ h => List.mem_cons_of_mem _ (List.mem_append_left _ (List.mem_append_right _ h))) (by decide +kernel))
set_option maxRecDepth 20000 in
theorem gX6_until_X6_needWind : GoodIn wsX6_until (va_wsS RX6 135 yX6_needWind wsX6_needWind) := goodIn_app (goodIn_of _ (by decide +kernel)) ggX6_until_X6_needWind
set_option maxRecDepth 20000 in
theorem ggX6_until_Jx4a65c_size_8abf5 : GoodIn wsX6_until wsJx4a65c_size_8abf5 := goodIn_r _ [24, 25, 182, 183, 184] (by decide +kernel) (by decide +kernel)
set_option maxRecDepth 20000 in
theorem gX6_until_Jx4a65c_size_8abf5 : GoodIn wsX6_until (wsV RX6 67 RJx4a65c yJx4a65c_size_8abf5 wsJx4a65c_size_8abf5) := goodIn_app (goodIn_of _ (by decide +kernel)) ggX6_until_Jx4a65c_size_8abf5
set_option maxRecDepth 20000 in
theorem ggX6_until_X6_needIndex : GoodIn wsX6_until wsX6_needIndex := goodIn_ca (goodIn_r _ [17, 18, 19] (by decide +kernel) (by decide +kernel)) (goodIn_sub (fun _ h => List.mem_cons_of_mem _ (List.mem_append_left _ (List.mem_append_right _ h))) (by decide +kernel))
set_option maxRecDepth 20000 in
theorem gX6_until_X6_needIndex : GoodIn wsX6_until (va_wsS RX6 63 yX6_needIndex wsX6_needIndex) := goodIn_app (goodIn_of _ (by decide +kernel)) ggX6_until_X6_needIndex
set_option maxRecDepth 20000 in
theorem ggX6_until_X6_needStrength : GoodIn wsX6_until wsX6_needStrength := goodIn_ca (goodIn_r _ [28, 29, 30] (by decide +kernel) (by decide +kernel)) (goodIn_sub (fun _ h => List.mem_cons_of_mem _ (List.mem_append_right _ h)) (by decide +kernel))
set_option maxRecDepth 20000 in
theorem gX6_until_X6_needStrength : GoodIn wsX6_until (va_wsS RX6 138 yX6_needStrength wsX6_needStrength) := goodIn_app (goodIn_of _ (by decide +kernel)) ggX6_until_X6_needStrength
set_option maxRecDepth 20000 in
theorem ggX6_until_Jx4a65c_get_915e3 : GoodIn wsX6_until wsJx4a65c_get_915e3 := goodIn_r _ [34, 25, 35, 36, 37, 38, 39, 40, 41, 42, 43, 44, 45, 23, 46, 47, 182, 183, 184] (by decide +kernel) (by decide +kernel)
set_option maxRecDepth 20000 in
theorem gX6_until_Jx4a65c_get_915e3 : GoodIn wsX6_until (wsV RX6 85 RJx4a65c yJx4a65c_get_915e3 wsJx4a65c_get_915e3) := goodIn_app (goodIn_of _ (by decide +kernel)) ggX6_until_Jx4a65c_get_915e3
set_option maxRecDepth 20000 in
theorem ggX6_until_X5_init : GoodIn wsX6_until wsX5_init := goodIn_r _ [50, 51, 52, 53, 54, 55, 56, 57, 58, 59, 172, 173, 174, 175, 176, 177, 178, 179, 180, 181] (by decide +kernel) (by decide +kernel)
set_option maxRecDepth 20000 in
theorem gX6_until_X5_init : GoodIn wsX6_until (wsX5_init) := ggX6_until_X5_init
set_option maxRecDepth 20000 in
theorem ggX6_until_X6_screenAllBut : GoodIn wsX6_until wsX6_screenAllBut := goodIn_r _ [63, 64, 65, 66, 67, 68, 69, 70, 71, 72, 73, 74, 75, 76, 77, 78, 79, 80, 20, 21, 22, 23, 24, 25, 31, 32, 33, 34, 35, 36, 37, 38, 39, 40, 41, 42, 43, 44, 45, 46, 47, 81, 82, 83, 84, 85, 86, 87, 88, 89, 90, 91, 92, 93, 94, 95, 96, 159, 160, 161, 162, 163, 164, 165, 166, 167, 168, 169, 185, 186, 187, 188, 189, 190, 191, 182, 183, 184, 192, 193, 194] (by decide +kernel) (by decide +kernel)
set_option maxRecDepth 20000 in
theorem gX6_until_X6_screenAllBut : GoodIn wsX6_until (wsV RX6 144 RX6 yX6_screenAllBut wsX6_screenAllBut) := goodIn_app (goodIn_of _ (by decide +kernel)) ggX6_until_X6_screenAllBut
set_option maxRecDepth 20000 in
theorem ggX6_until_X1_becomeLike : GoodIn wsX6_until wsX1_becomeLike := goodIn_r _ [101, 102, 103, 104, 100, 105, 106, 107, 108, 109, 110, 195] (by decide +kernel) (by decide +kernel)
set_option maxRecDepth 20000 in
theorem gX6_until_X1_becomeLike : GoodIn wsX6_until (wsV RX6 200 RX1 yX1_becomeLike wsX1_becomeLike) := goodIn_app (goodIn_of _ (by decide +kernel)) ggX6_until_X1_becomeLike
set_option maxRecDepth 20000 in
theorem ggX6_until_X1_blocked : GoodIn wsX6_until wsX1_blocked := goodIn_r _ [114, 115, 116, 87, 88, 89, 90, 91, 92, 102, 103, 104, 100, 105, 106, 192, 193, 194, 195] (by decide +kernel) (by decide +kernel)
set_option maxRecDepth 20000 in
theorem gX6_until_X1_blocked : GoodIn wsX6_until (wsV RX6 189 RX1 yX1_blocked wsX1_blocked) := goodIn_app (goodIn_of _ (by decide +kernel)) ggX6_until_X1_blocked
set_option maxRecDepth 20000 in
theorem ggX6_until_X6_blowOver : GoodIn wsX6_until wsX6_blowOver := goodIn_r _ [120, 64, 121, 122, 123, 6, 124, 57, 59, 125, 126, 127, 128, 55, 129, 130, 131, 58, 132, 133, 134, 135, 136, 137, 138, 139, 140, 141, 94, 95, 73, 96, 79, 142, 143, 144, 145, 80, 146, 103, 104, 100, 105, 106, 147, 148, 149, 150, 151, 152, 153, 154, 155, 156, 157, 54, 158, 108, 109, 110, 159, 160, 161, 162, 163, 164, 165, 166, 167, 168, 169, 172, 173, 174, 175, 176, 177, 178, 179, 180, 181, 190, 191, 195] (by decide +kernel) (by decide +kernel)
set_option maxRecDepth 20000 in
theorem gX6_until_X6_blowOver : GoodIn wsX6_until (wsV RX6 152 RX6 yX6_blowOver wsX6_blowOver) := goodIn_app (goodIn_of _ (by decide +kernel)) ggX6_until_X6_blowOver
set_option maxRecDepth 20000 in
theorem ggX6_advise_X6_needWind : GoodIn wsX6_advise wsX6_needWind := goodIn_ca (goodIn_r _ [10, 11, 12, 9, 13, 14, 15] (by decide +kernel) (by decide +kernel)) (goodIn_sub (fun _ h => List.mem_cons_of_mem _ (List.mem_append_left _ (List.mem_append_right _ h))) (by decide +kernel))
set_option maxRecDepth 20000 in
theorem gX6_advise_X6_needWind : GoodIn wsX6_advise (va_wsS RX6 135 yX6_needWind wsX6_needWind) := goodIn_app (goodIn_of _ (by decide +kernel)) ggX6_advise_X6_needWind
set_option maxRecDepth 20000 in
theorem ggX6_advise_X6_needStrength : GoodIn wsX6_advise wsX6_needStrength := goodIn_ca (goodIn_r _ [18, 19, 20] (by decide +kernel) (by decide +kernel)) (goodIn_sub (fun _ h => List.mem_cons_of_mem _ (List.mem_append_right _ h)) (by decide +kernel))
set_option maxRecDepth 20000 in
theorem gX6_advise_X6_needStrength : GoodIn wsX6_advise (va_wsS RX6 138 yX6_needStrength wsX6_needStrength) := goodIn_app (goodIn_of _ (by decide +kernel)) ggX6_advise_X6_needStrength
set_option maxRecDepth 20000 in
theorem ggX6_advise_X6_needHeight : GoodIn wsX6_advise wsX6_needHeight := goodIn_ca (goodIn_r _ [23, 19, 20] (by decide +kernel) (by decide +kernel)) (goodIn_sub (fun _ h => List.mem_cons_of_mem _ (List.mem_append_right _ h)) (by decide +kernel))
set_option maxRecDepth 20000 in
theorem gX6_advise_X6_needHeight : GoodIn wsX6_advise (va_wsS RX6 56 yX6_needHeight wsX6_needHeight) := goodIn_app (goodIn_of _ (by decide +kernel)) ggX6_advise_X6_needHeight
set_option maxRecDepth 20000 in
theorem ggX6_advise_X5_init : GoodIn wsX6_advise wsX5_init := goodIn_r _ [26, 27, 28, 29, 30, 31, 32, 33, 34, 35, 181, 182, 183, 184, 185, 186, 187, 188, 189, 190] (by decide +kernel) (by decide +kernel)
set_option maxRecDepth 20000 in
theorem gX6_advise_X5_init : GoodIn wsX6_advise (wsX5_init) := ggX6_advise_X5_init
set_option maxRecDepth 20000 in
theorem ggX6_advise_X6_screenAllBut : GoodIn wsX6_advise wsX6_screenAllBut := goodIn_r _ [39, 5, 40, 41, 42, 43, 44, 45, 46, 47, 48, 49, 50, 51, 52, 53, 54, 55, 56, 57, 58, 59, 60, 61, 62, 63, 64, 65, 66, 67, 68, 69, 70, 71, 72, 73, 74, 75, 76, 77, 78, 79, 80, 81, 82, 83, 84, 85, 86, 87, 88, 89, 90, 91, 92, 93, 94, 191, 192, 193, 194, 195, 196, 197, 198, 199, 200, 201, 202, 203, 204, 205, 206, 207, 208, 209, 210, 211, 212, 213, 214] (by decide +kernel) (by decide +kernel)
set_option maxRecDepth 20000 in
theorem gX6_advise_X6_screenAllBut : GoodIn wsX6_advise (wsV RX6 144 RX6 yX6_screenAllBut wsX6_screenAllBut) := goodIn_app (goodIn_of _ (by decide +kernel)) ggX6_advise_X6_screenAllBut
set_option maxRecDepth 20000 in
theorem ggX6_advise_X6_straight : GoodIn wsX6_advise wsX6_straight := goodIn_r _ [97, 98, 99, 87, 100, 101, 102, 103, 28, 29, 89, 104, 90, 212, 213, 214] (by decide +kernel) (by decide +kernel)
set_option maxRecDepth 20000 in
theorem gX6_advise_X6_straight : GoodIn wsX6_advise (va_wsS RX6 102 yX6_straight wsX6_straight) := goodIn_app (goodIn_of _ (by decide +kernel)) ggX6_advise_X6_straight
set_option maxRecDepth 20000 in
theorem ggX6_advise_X3_add : GoodIn wsX6_advise wsX3_add := goodIn_r _ [82, 83, 84, 85, 86, 87, 88, 89, 90, 91, 92, 93, 48, 94, 54, 50, 51, 52, 53, 55, 212, 213, 214, 207, 208] (by decide +kernel) (by decide +kernel)
set_option maxRecDepth 20000 in
theorem gX6_advise_X3_add : GoodIn wsX6_advise (wsV RX6 205 RX3 yX3_add wsX3_add) := goodIn_app (goodIn_of _ (by decide +kernel)) ggX6_advise_X3_add
set_option maxRecDepth 20000 in
theorem ggX6_advise_X6_blockedAfterAdvice : GoodIn wsX6_advise wsX6_blockedAfterAdvice := goodIn_r _ [108, 109, 110, 111, 112, 113, 114, 115, 116, 117, 118, 119, 120, 121, 122, 123, 124, 125, 126, 127, 9, 128, 5, 129, 130, 131, 3, 132, 33, 35, 133, 134, 135, 136, 31, 137, 138, 139, 34, 140, 141, 142, 143, 144, 145, 146, 147, 148, 149, 92, 93, 48, 94, 54, 150, 151, 152, 153, 55, 154, 155, 156, 157, 158, 159, 160, 161, 162, 163, 164, 165, 30, 166, 167, 168, 169, 170, 171, 172, 173, 174, 56, 57, 58, 59, 60, 61, 62, 63, 64, 65, 66, 67, 68, 69, 70, 71, 72, 73, 74, 75, 76, 77, 78, 175, 176, 177, 178, 179, 180, 85, 86, 87, 88, 89, 90, 191, 192, 193, 194, 195, 196, 197, 198, 199, 200, 201, 215, 181, 182, 183, 184, 185, 186, 187, 188, 189, 190, 207, 208, 216, 217, 209, 210, 211, 212, 213, 214] (by decide +kernel) (by decide +kernel)
set_option maxRecDepth 20000 in
theorem gX6_advise_X6_blockedAfterAdvice : GoodIn wsX6_advise (wsV RX6 208 RX6 yX6_blockedAfterAdvice wsX6_blockedAfterAdvice) := goodIn_app (goodIn_of _ (by decide +kernel)) ggX6_advise_X6_blockedAfterAdvice
set_option maxRecDepth 20000 in
theorem ggX6_harmful_X6_needWind : GoodIn wsX6_harmful wsX6_needWind := goodIn_ca (goodIn_r _ [9, 10, 11, 8, 12, 13, 14] (by decide +kernel) (by decide +kernel)) (goodIn_sub (fun _ h => List.mem_cons_of_mem _ (List.mem_append_left _ (List.mem_append_right _ h))) (by decide +kernel))
set_option maxRecDepth 20000 in
theorem gX6_harmful_X6_needWind : GoodIn wsX6_harmful (va_wsS RX6 135 yX6_needWind wsX6_needWind) := goodIn_app (goodIn_of _ (by decide +kernel)) ggX6_harmful_X6_needWind
set_option maxRecDepth 20000 in
theorem ggX6_harmful_X6_needStrength : GoodIn wsX6_harmful wsX6_needStrength := goodIn_ca (goodIn_r _ [17, 18, 19] (by decide +kernel) (by decide +kernel)) (goodIn_sub (fun _ h => List.mem_cons_of_mem _ (List.mem_append_right _ h)) (by decide +kernel))
set_option maxRecDepth 20000 in
theorem gX6_harmful_X6_needStrength : GoodIn wsX6_harmful (va_wsS RX6 138 yX6_needStrength wsX6_needStrength) := goodIn_app (goodIn_of _ (by decide +kernel)) ggX6_harmful_X6_needStrength
set_option maxRecDepth 20000 in
theorem ggX6_harmful_X5_init : GoodIn wsX6_harmful wsX5_init := goodIn_r _ [22, 23, 24, 25, 26, 27, 28, 29, 30, 31, 167, 168, 169, 170, 171, 172, 173, 174, 175, 176] (by decide +kernel) (by decide +kernel)
set_option maxRecDepth 20000 in
theorem gX6_harmful_X5_init : GoodIn wsX6_harmful (wsX5_init) := ggX6_harmful_X5_init
set_option maxRecDepth 20000 in
theorem ggX6_harmful_X6_screenAllBut : GoodIn wsX6_harmful wsX6_screenAllBut := goodIn_r _ [35, 36, 5, 37, 38, 39, 40, 41, 42, 43, 44, 45, 46, 47, 48, 49, 50, 51, 52, 53, 54, 55, 56, 57, 58, 59, 60, 61, 62, 63, 64, 65, 66, 67, 68, 69, 70, 71, 72, 73, 74, 75, 76, 77, 78, 79, 80, 81, 82, 83, 84, 85, 86, 87, 88, 89, 90, 177, 178, 179, 180, 181, 182, 183, 184, 185, 186, 187, 188, 189, 190, 191, 192, 193, 194, 195, 196, 197, 198, 199, 200] (by decide +kernel) (by decide +kernel)
set_option maxRecDepth 20000 in
theorem gX6_harmful_X6_screenAllBut : GoodIn wsX6_harmful (wsV RX6 144 RX6 yX6_screenAllBut wsX6_screenAllBut) := goodIn_app (goodIn_of _ (by decide +kernel)) ggX6_harmful_X6_screenAllBut
set_option maxRecDepth 20000 in
theorem ggX6_harmful_X6_blockedAfterAdvice : GoodIn wsX6_harmful wsX6_blockedAfterAdvice := goodIn_r _ [94, 95, 96, 97, 98, 99, 100, 101, 102, 103, 104, 105, 106, 107, 108, 109, 110, 111, 112, 113, 8, 114, 36, 115, 116, 117, 3, 118, 29, 31, 119, 120, 121, 122, 27, 123, 124, 125, 30, 126, 127, 128, 129, 130, 131, 132, 133, 134, 135, 88, 89, 44, 90, 50, 136, 137, 138, 139, 51, 140, 141, 142, 143, 144, 145, 146, 147, 148, 149, 150, 151, 26, 152, 153, 154, 155, 156, 157, 158, 159, 160, 52, 53, 54, 55, 56, 57, 58, 59, 60, 61, 62, 63, 64, 65, 66, 67, 68, 69, 70, 71, 72, 73, 74, 161, 162, 163, 164, 165, 166, 81, 82, 83, 84, 85, 86, 177, 178, 179, 180, 181, 182, 183, 184, 185, 186, 187, 201, 167, 168, 169, 170, 171, 172, 173, 174, 175, 176, 193, 194, 202, 203, 195, 196, 197, 198, 199, 200] (by decide +kernel) (by decide +kernel)
set_option maxRecDepth 20000 in
theorem gX6_harmful_X6_blockedAfterAdvice : GoodIn wsX6_harmful (wsV RX6 208 RX6 yX6_blockedAfterAdvice wsX6_blockedAfterAdvice) := goodIn_app (goodIn_of _ (by decide +kernel)) ggX6_harmful_X6_blockedAfterAdvice
set_option maxRecDepth 20000 in
theorem ggX6_harmful_Jx4a65c_size_8abf5 : GoodIn wsX6_harmful wsJx4a65c_size_8abf5 := goodIn_r _ [56, 57, 195, 196, 197] (by decide +kernel) (by decide +kernel)
set_option maxRecDepth 20000 in
theorem gX6_harmful_Jx4a65c_size_8abf5 : GoodIn wsX6_harmful (wsV RX6 67 RJx4a65c yJx4a65c_size_8abf5 wsJx4a65c_size_8abf5) := goodIn_app (goodIn_of _ (by decide +kernel)) ggX6_harmful_Jx4a65c_size_8abf5
set_option maxRecDepth 20000 in
theorem ggX6_mean_X1_sum : GoodIn wsX6_mean wsX1_sum := goodIn_r _ [8, 9, 10, 11, 12, 13, 14, 15, 16, 17, 18, 19, 7, 20, 21, 33, 34, 35, 36] (by decide +kernel) (by decide +kernel)
set_option maxRecDepth 20000 in
theorem gX6_mean_X1_sum : GoodIn wsX6_mean (wsV RX6 118 RX1 yX1_sum wsX1_sum) := goodIn_app (goodIn_of _ (by decide +kernel)) ggX6_mean_X1_sum
set_option maxRecDepth 20000 in
theorem ggX6_digest_X6_count : GoodIn wsX6_digest wsX6_count := goodIn_ca (goodIn_r _ [10, 3, 4, 5, 11, 12, 13, 14, 15, 16, 17, 18, 9, 19, 20, 21, 22, 23, 24, 25, 26, 27, 28, 29, 30, 31, 32, 33, 34, 35, 36, 37, 38, 39, 40, 41, 42, 43, 44, 45, 46, 47, 48, 49, 50, 51, 52, 53, 54, 55, 56, 57, 58, 59, 60, 61, 62, 63, 64, 65, 66, 67, 68, 69, 70, 71, 72, 73, 74, 75, 76, 77, 78, 79, 80, 99, 100, 101, 102, 103, 104, 105, 106, 107, 108, 109, 110, 111, 112, 113, 114, 115, 116, 117, 118] (by decide +kernel) (by decide +kernel)) (goodIn_sub (fun _ h => List.mem_cons_of_mem _ (List.mem_append_right _ h)) (by decide +kernel))
set_option maxRecDepth 20000 in
theorem gX6_digest_X6_count : GoodIn wsX6_digest (wsV RX6 218 RX6 yX6_count wsX6_count) := goodIn_app (goodIn_of _ (by decide +kernel)) ggX6_digest_X6_count
set_option maxRecDepth 20000 in
theorem ggX6_digest_Jx4a65c_size_8abf5 : GoodIn wsX6_digest wsJx4a65c_size_8abf5 := goodIn_r _ [26, 27, 110, 111, 112] (by decide +kernel) (by decide +kernel)
set_option maxRecDepth 20000 in
theorem gX6_digest_Jx4a65c_size_8abf5 : GoodIn wsX6_digest (wsV RX6 67 RJx4a65c yJx4a65c_size_8abf5 wsJx4a65c_size_8abf5) := goodIn_app (goodIn_of _ (by decide +kernel)) ggX6_digest_Jx4a65c_size_8abf5
set_option maxRecDepth 20000 in
theorem ggX6_digest_X6_about : GoodIn wsX6_digest wsX6_about := goodIn_ca (goodIn_r _ [84, 3, 85, 86, 87, 88, 89, 90, 91, 92, 5, 22, 23, 24, 25, 26, 27, 17, 18, 9, 19, 20, 21, 60, 61, 62, 63, 64, 65, 66, 67, 68, 69, 70, 71, 72, 73, 74, 75, 76, 28, 29, 30, 31, 32, 33, 34, 35, 36, 37, 38, 39, 40, 41, 42, 43, 44, 45, 99, 100, 101, 102, 103, 104, 105, 106, 107, 108, 109, 119, 120, 121, 122, 123, 113, 114, 115, 110, 111, 112, 116] (by decide +kernel) (by decide +kernel)) (goodIn_sub (fun _ h => List.mem_cons_of_mem _ (List.mem_append_right _ h)) (by decide +kernel))
set_option maxRecDepth 20000 in
theorem gX6_digest_X6_about : GoodIn wsX6_digest (wsV RX6 221 RX6 yX6_about wsX6_about) := goodIn_app (goodIn_of _ (by decide +kernel)) ggX6_digest_X6_about
set_option maxRecDepth 20000 in
theorem ggX6_digest_X6_told : GoodIn wsX6_digest wsX6_told := goodIn_ca (goodIn_r _ [96, 4, 58, 59, 90, 97, 5, 15, 22, 23, 24, 25, 26, 27, 17, 18, 9, 19, 20, 21, 60, 61, 62, 63, 64, 65, 66, 67, 68, 69, 70, 71, 72, 73, 74, 75, 76, 77, 78, 79, 31, 80, 33, 34, 35, 36, 37, 38, 39, 40, 41, 42, 43, 44, 45, 28, 29, 30, 32, 46, 47, 48, 49, 50, 51, 52, 53, 99, 100, 101, 102, 103, 104, 105, 106, 107, 108, 109, 117, 118, 113, 114, 115, 110, 111, 112, 116] (by decide +kernel) (by decide +kernel)) (goodIn_sub (fun _ h => List.mem_cons_of_mem _ (List.mem_append_right _ h)) (by decide +kernel))
set_option maxRecDepth 20000 in
theorem gX6_digest_X6_told : GoodIn wsX6_digest (wsV RX6 224 RX6 yX6_told wsX6_told) := goodIn_app (goodIn_of _ (by decide +kernel)) ggX6_digest_X6_told
set_option maxRecDepth 20000 in
theorem ggX6_digest_X1_depth : GoodIn wsX6_digest wsX1_depth := goodIn_r _ [44, 45, 116] (by decide +kernel) (by decide +kernel)
set_option maxRecDepth 20000 in
theorem gX6_digest_X1_depth : GoodIn wsX6_digest (wsV RX6 122 RX1 yX1_depth wsX1_depth) := goodIn_app (goodIn_of _ (by decide +kernel)) ggX6_digest_X1_depth
set_option maxRecDepth 20000 in
theorem ggX6_needWind_X6_needIndex : GoodIn wsX6_needWind wsX6_needIndex := goodIn_ca (goodIn_r _ [4, 5, 6] (by decide +kernel) (by decide +kernel)) (goodIn_sub (fun _ h => List.mem_cons_of_mem _ (List.mem_append_right _ h)) (by decide +kernel))
set_option maxRecDepth 20000 in
theorem gX6_needWind_X6_needIndex : GoodIn wsX6_needWind (va_wsS RX6 63 yX6_needIndex wsX6_needIndex) := goodIn_app (goodIn_of _ (by decide +kernel)) ggX6_needWind_X6_needIndex
set_option maxRecDepth 20000 in
theorem ggX6_straight_X4_init : GoodIn wsX6_straight wsX4_init := goodIn_r _ [6, 7, 8, 9, 10, 11, 12, 13, 14, 15] (by decide +kernel) (by decide +kernel)
set_option maxRecDepth 20000 in
theorem gX6_straight_X4_init : GoodIn wsX6_straight (wsX4_init) := ggX6_straight_X4_init
set_option maxRecDepth 20000 in
theorem ggX6_screenAllBut_X3_clear : GoodIn wsX6_screenAllBut wsX3_clear := goodIn_r _ [11, 12, 13, 14, 10, 15, 16, 17, 73, 74] (by decide +kernel) (by decide +kernel)
set_option maxRecDepth 20000 in
theorem gX6_screenAllBut_X3_clear : GoodIn wsX6_screenAllBut (wsV RX6 240 RX3 yX3_clear wsX3_clear) := goodIn_app (goodIn_of _ (by decide +kernel)) ggX6_screenAllBut_X3_clear
set_option maxRecDepth 20000 in
theorem ggX6_screenAllBut_Jx4a65c_size_8abf5 : GoodIn wsX6_screenAllBut wsJx4a65c_size_8abf5 := goodIn_r _ [22, 23, 75, 76, 77] (by decide +kernel) (by decide +kernel)
set_option maxRecDepth 20000 in
theorem gX6_screenAllBut_Jx4a65c_size_8abf5 : GoodIn wsX6_screenAllBut (wsV RX6 67 RJx4a65c yJx4a65c_size_8abf5 wsJx4a65c_size_8abf5) := goodIn_app (goodIn_of _ (by decide +kernel)) ggX6_screenAllBut_Jx4a65c_size_8abf5
set_option maxRecDepth 20000 in
theorem ggX6_screenAllBut_Jx4a65c_get_915e3 : GoodIn wsX6_screenAllBut wsJx4a65c_get_915e3 := goodIn_r _ [27, 23, 28, 29, 30, 31, 32, 33, 34, 35, 36, 37, 38, 21, 39, 40, 75, 76, 77] (by decide +kernel) (by decide +kernel)
set_option maxRecDepth 20000 in
theorem gX6_screenAllBut_Jx4a65c_get_915e3 : GoodIn wsX6_screenAllBut (wsV RX6 85 RJx4a65c yJx4a65c_get_915e3 wsJx4a65c_get_915e3) := goodIn_app (goodIn_of _ (by decide +kernel)) ggX6_screenAllBut_Jx4a65c_get_915e3
set_option maxRecDepth 20000 in
theorem ggX6_screenAllBut_X3_add : GoodIn wsX6_screenAllBut wsX3_add := goodIn_r _ [44, 45, 46, 47, 48, 49, 50, 51, 52, 53, 54, 55, 10, 56, 16, 12, 13, 14, 15, 17, 78, 79, 80, 73, 74] (by decide +kernel) (by decide +kernel)
set_option maxRecDepth 20000 in
theorem gX6_screenAllBut_X3_add : GoodIn wsX6_screenAllBut (wsV RX6 205 RX3 yX3_add wsX3_add) := goodIn_app (goodIn_of _ (by decide +kernel)) ggX6_screenAllBut_X3_add
set_option maxRecDepth 20000 in
theorem ggX6_blowOver_X5_crossField : GoodIn wsX6_blowOver wsX5_crossField := goodIn_r _ [6, 7, 8, 9, 10, 11, 5, 12, 13, 14, 15, 16, 17, 18, 19, 20, 21, 22, 23, 24, 25, 26, 27, 28, 29, 30, 31, 32, 33, 34, 35, 36, 37, 38, 39, 40, 41, 42, 43, 44, 45, 46, 47, 48, 49, 50, 51, 52, 53, 54, 55, 56, 57, 58, 59, 71, 72, 73, 74, 75, 76, 77, 78, 79, 80, 81, 82, 83] (by decide +kernel) (by decide +kernel)
