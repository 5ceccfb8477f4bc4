set_option maxRecDepth 20000 in
theorem gX7_change_X7_of : GoodIn wsX7_change (wsV RX7 45 RX7 yX7_of wsX7_of) := goodIn_app (goodIn_of _ (by decide +kernel)) ggX7_change_X7_of
set_option maxRecDepth 20000 in
theorem ggX7_change_X7_let : GoodIn wsX7_change wsX7_let := goodIn_r _ [23, 19, 24, 25, 26, 27, 28, 29, 30, 31, 32, 33, 34, 35, 36, 37] (by decide +kernel) (by decide +kernel)
set_option maxRecDepth 20000 in
theorem gX7_change_X7_let : GoodIn wsX7_change (wsV RX7 107 RX7 yX7_let wsX7_let) := goodIn_app (goodIn_of _ (by decide +kernel)) ggX7_change_X7_let
set_option maxRecDepth 20000 in
theorem ggX7_take_X7_isFence : GoodIn wsX7_take wsX7_isFence := goodIn_r _ [8, 2, 9, 10, 7, 11, 16, 17, 18, 19, 20, 21, 22, 23, 24, 25, 26, 27, 28, 29] (by decide +kernel) (by decide +kernel)
set_option maxRecDepth 20000 in
theorem gX7_take_X7_isFence : GoodIn wsX7_take (wsV RX7 103 RX7 yX7_isFence wsX7_isFence) := goodIn_app (goodIn_of _ (by decide +kernel)) ggX7_take_X7_isFence
set_option maxRecDepth 20000 in
theorem ggX7_take_X7_no : GoodIn wsX7_take wsX7_no := goodIn_r _ [15, 1, 16, 17, 18, 19, 20, 21, 22, 23, 24, 25, 26, 27, 28, 29] (by decide +kernel) (by decide +kernel)
set_option maxRecDepth 20000 in
theorem gX7_take_X7_no : GoodIn wsX7_take (wsV RX7 96 RX7 yX7_no wsX7_no) := goodIn_app (goodIn_of _ (by decide +kernel)) ggX7_take_X7_no
set_option maxRecDepth 20000 in
theorem ggX7_road_X7_isIn : GoodIn wsX7_road wsX7_isIn := goodIn_r _ [8] (by decide +kernel) (by decide +kernel)
set_option maxRecDepth 20000 in
theorem gX7_road_X7_isIn : GoodIn wsX7_road (va_wsS RX7 38 yX7_isIn wsX7_isIn) := goodIn_app (goodIn_of _ (by decide +kernel)) ggX7_road_X7_isIn
set_option maxRecDepth 20000 in
theorem ggX7_road_X7_no : GoodIn wsX7_road wsX7_no := goodIn_r _ [12, 1, 13, 14, 15, 16, 17, 18, 19, 20, 21, 22, 23, 24, 25, 26] (by decide +kernel) (by decide +kernel)
set_option maxRecDepth 20000 in
theorem gX7_road_X7_no : GoodIn wsX7_road (wsV RX7 96 RX7 yX7_no wsX7_no) := goodIn_app (goodIn_of _ (by decide +kernel)) ggX7_road_X7_no
set_option maxRecDepth 20000 in
theorem ggX7_setLimit_X7_isIn : GoodIn wsX7_setLimit wsX7_isIn := goodIn_r _ [6] (by decide +kernel) (by decide +kernel)
set_option maxRecDepth 20000 in
theorem gX7_setLimit_X7_isIn : GoodIn wsX7_setLimit (va_wsS RX7 38 yX7_isIn wsX7_isIn) := goodIn_app (goodIn_of _ (by decide +kernel)) ggX7_setLimit_X7_isIn
set_option maxRecDepth 20000 in
theorem ggX7_setLimit_X7_no : GoodIn wsX7_setLimit wsX7_no := goodIn_r _ [10, 1, 11, 12, 13, 14, 15, 16, 17, 18, 19, 20, 21, 22, 23, 24] (by decide +kernel) (by decide +kernel)
set_option maxRecDepth 20000 in
theorem gX7_setLimit_X7_no : GoodIn wsX7_setLimit (wsV RX7 96 RX7 yX7_no wsX7_no) := goodIn_app (goodIn_of _ (by decide +kernel)) ggX7_setLimit_X7_no
set_option maxRecDepth 20000 in
theorem ggX7_setSupply_X7_isIn : GoodIn wsX7_setSupply wsX7_isIn := goodIn_r _ [6] (by decide +kernel) (by decide +kernel)
set_option maxRecDepth 20000 in
theorem gX7_setSupply_X7_isIn : GoodIn wsX7_setSupply (va_wsS RX7 38 yX7_isIn wsX7_isIn) := goodIn_app (goodIn_of _ (by decide +kernel)) ggX7_setSupply_X7_isIn
set_option maxRecDepth 20000 in
theorem ggX7_setSupply_X7_no : GoodIn wsX7_setSupply wsX7_no := goodIn_r _ [10, 1, 11, 12, 13, 14, 15, 16, 17, 18, 19, 20, 21, 22, 23, 24] (by decide +kernel) (by decide +kernel)
set_option maxRecDepth 20000 in
theorem gX7_setSupply_X7_no : GoodIn wsX7_setSupply (wsV RX7 96 RX7 yX7_no wsX7_no) := goodIn_app (goodIn_of _ (by decide +kernel)) ggX7_setSupply_X7_no
set_option maxRecDepth 20000 in
theorem ggX7_fall_X7_isIn : GoodIn wsX7_fall wsX7_isIn := goodIn_r _ [10] (by decide +kernel) (by decide +kernel)
set_option maxRecDepth 20000 in
theorem gX7_fall_X7_isIn : GoodIn wsX7_fall (va_wsS RX7 38 yX7_isIn wsX7_isIn) := goodIn_app (goodIn_of _ (by decide +kernel)) ggX7_fall_X7_isIn
set_option maxRecDepth 20000 in
theorem ggX7_fall_X7_no : GoodIn wsX7_fall wsX7_no := goodIn_r _ [14, 1, 15, 16, 17, 18, 19, 20, 21, 22, 23, 24, 25, 26, 27, 28] (by decide +kernel) (by decide +kernel)
set_option maxRecDepth 20000 in
theorem gX7_fall_X7_no : GoodIn wsX7_fall (wsV RX7 96 RX7 yX7_no wsX7_no) := goodIn_app (goodIn_of _ (by decide +kernel)) ggX7_fall_X7_no
set_option maxRecDepth 20000 in
theorem ggX7_blow_X7_isWind : GoodIn wsX7_blow wsX7_isWind := goodIn_r _ [8, 9, 10, 7, 11] (by decide +kernel) (by decide +kernel)
set_option maxRecDepth 20000 in
theorem gX7_blow_X7_isWind : GoodIn wsX7_blow (va_wsS RX7 111 yX7_isWind wsX7_isWind) := goodIn_app (goodIn_of _ (by decide +kernel)) ggX7_blow_X7_isWind
set_option maxRecDepth 20000 in
theorem ggX7_blow_X7_no : GoodIn wsX7_blow wsX7_no := goodIn_r _ [15, 1, 54, 55, 56, 57, 58, 59, 60, 61, 62, 63, 64, 65, 66, 67] (by decide +kernel) (by decide +kernel)
set_option maxRecDepth 20000 in
theorem gX7_blow_X7_no : GoodIn wsX7_blow (wsV RX7 96 RX7 yX7_no wsX7_no) := goodIn_app (goodIn_of _ (by decide +kernel)) ggX7_blow_X7_no
set_option maxRecDepth 20000 in
theorem ggX7_blow_X7_isStrength : GoodIn wsX7_blow wsX7_isStrength := goodIn_r _ [18, 9, 10, 7, 11] (by decide +kernel) (by decide +kernel)
set_option maxRecDepth 20000 in
theorem gX7_blow_X7_isStrength : GoodIn wsX7_blow (va_wsS RX7 114 yX7_isStrength wsX7_isStrength) := goodIn_app (goodIn_of _ (by decide +kernel)) ggX7_blow_X7_isStrength
set_option maxRecDepth 20000 in
theorem ggX7_blow_X7_isIn : GoodIn wsX7_blow wsX7_isIn := goodIn_r _ [11] (by decide +kernel) (by decide +kernel)
set_option maxRecDepth 20000 in
theorem gX7_blow_X7_isIn : GoodIn wsX7_blow (va_wsS RX7 38 yX7_isIn wsX7_isIn) := goodIn_app (goodIn_of _ (by decide +kernel)) ggX7_blow_X7_isIn
set_option maxRecDepth 20000 in
theorem ggX7_blow_X7_stand : GoodIn wsX7_blow wsX7_stand := goodIn_r _ [22, 23, 24, 25, 26, 7, 27, 28, 29, 30, 31, 32, 54, 55, 56, 57, 58, 59, 60, 61, 62, 63, 64, 65, 66, 67] (by decide +kernel) (by decide +kernel)
set_option maxRecDepth 20000 in
theorem gX7_blow_X7_stand : GoodIn wsX7_blow (wsV RX7 117 RX7 yX7_stand wsX7_stand) := goodIn_app (goodIn_of _ (by decide +kernel)) ggX7_blow_X7_stand
set_option maxRecDepth 20000 in
theorem ggX7_blow_X7_blown : GoodIn wsX7_blow wsX7_blown := goodIn_r _ [36, 37, 38, 39, 7, 40, 41, 42, 43, 44, 45, 23, 46, 47, 48, 49, 50, 51, 52, 53, 24, 25, 26, 27, 28, 54, 55, 56, 57, 58, 59, 60, 61, 62, 63, 64, 65, 66, 67] (by decide +kernel) (by decide +kernel)
set_option maxRecDepth 20000 in
theorem gX7_blow_X7_blown : GoodIn wsX7_blow (wsV RX7 86 RX7 yX7_blown wsX7_blown) := goodIn_app (goodIn_of _ (by decide +kernel)) ggX7_blow_X7_blown
set_option maxRecDepth 20000 in
theorem ggX7_plough_X7_isRoad : GoodIn wsX7_plough wsX7_isRoad := goodIn_r _ [8, 9, 10, 11, 7, 12, 27, 28, 29, 30, 31, 32, 33, 34, 35, 36, 37, 38, 39, 40] (by decide +kernel) (by decide +kernel)
set_option maxRecDepth 20000 in
theorem gX7_plough_X7_isRoad : GoodIn wsX7_plough (wsV RX7 127 RX7 yX7_isRoad wsX7_isRoad) := goodIn_app (goodIn_of _ (by decide +kernel)) ggX7_plough_X7_isRoad
set_option maxRecDepth 20000 in
theorem ggX7_plough_X7_no : GoodIn wsX7_plough wsX7_no := goodIn_r _ [16, 1, 27, 28, 29, 30, 31, 32, 33, 34, 35, 36, 37, 38, 39, 40] (by decide +kernel) (by decide +kernel)
set_option maxRecDepth 20000 in
theorem gX7_plough_X7_no : GoodIn wsX7_plough (wsV RX7 96 RX7 yX7_no wsX7_no) := goodIn_app (goodIn_of _ (by decide +kernel)) ggX7_plough_X7_no
set_option maxRecDepth 20000 in
theorem ggX7_plough_X7_onRoad : GoodIn wsX7_plough wsX7_onRoad := goodIn_r _ [20, 2, 21, 22, 23, 7, 24, 25, 26, 27, 28, 29, 30, 31, 32, 33, 34, 35, 36, 37, 38, 39, 40] (by decide +kernel) (by decide +kernel)
set_option maxRecDepth 20000 in
theorem gX7_plough_X7_onRoad : GoodIn wsX7_plough (wsV RX7 130 RX7 yX7_onRoad wsX7_onRoad) := goodIn_app (goodIn_of _ (by decide +kernel)) ggX7_plough_X7_onRoad
set_option maxRecDepth 20000 in
theorem ggX7_plough_X7_cellOf : GoodIn wsX7_plough wsX7_cellOf := goodIn_r _ [24, 25, 26, 27, 28, 29, 30, 31, 32, 33, 34, 35, 36, 37, 38, 39, 40] (by decide +kernel) (by decide +kernel)
set_option maxRecDepth 20000 in
theorem gX7_plough_X7_cellOf : GoodIn wsX7_plough (wsV RX7 76 RX7 yX7_cellOf wsX7_cellOf) := goodIn_app (goodIn_of _ (by decide +kernel)) ggX7_plough_X7_cellOf
set_option maxRecDepth 20000 in
theorem ggX7_snow_X7_isIn : GoodIn wsX7_snow wsX7_isIn := goodIn_r _ [6] (by decide +kernel) (by decide +kernel)
set_option maxRecDepth 20000 in
theorem gX7_snow_X7_isIn : GoodIn wsX7_snow (va_wsS RX7 38 yX7_isIn wsX7_isIn) := goodIn_app (goodIn_of _ (by decide +kernel)) ggX7_snow_X7_isIn
set_option maxRecDepth 20000 in
theorem ggX7_snow_X7_no : GoodIn wsX7_snow wsX7_no := goodIn_r _ [10, 1, 11, 12, 13, 14, 15, 16, 17, 18, 19, 20, 21, 22, 23, 24] (by decide +kernel) (by decide +kernel)
set_option maxRecDepth 20000 in
theorem gX7_snow_X7_no : GoodIn wsX7_snow (wsV RX7 96 RX7 yX7_no wsX7_no) := goodIn_app (goodIn_of _ (by decide +kernel)) ggX7_snow_X7_no
set_option maxRecDepth 20000 in
theorem ggX7_fenceTold_X7_of : GoodIn wsX7_fenceTold wsX7_of := goodIn_r _ [6, 7, 12, 13, 14, 15, 16, 17, 18, 19, 20, 21, 22, 23, 24, 25] (by decide +kernel) (by decide +kernel)
set_option maxRecDepth 20000 in
theorem gX7_fenceTold_X7_of : GoodIn wsX7_fenceTold (wsV RX7 45 RX7 yX7_of wsX7_of) := goodIn_app (goodIn_of _ (by decide +kernel)) ggX7_fenceTold_X7_of
set_option maxRecDepth 20000 in
theorem ggX7_fenceTold_X7_cell : GoodIn wsX7_fenceTold wsX7_cell := goodIn_r _ [11, 2, 3, 4, 5, 6, 7, 12, 13, 14, 15, 16, 17, 18, 19, 20, 21, 22, 23, 24, 25] (by decide +kernel) (by decide +kernel)
set_option maxRecDepth 20000 in
theorem gX7_fenceTold_X7_cell : GoodIn wsX7_fenceTold (wsV RX7 49 RX7 yX7_cell wsX7_cell) := goodIn_app (goodIn_of _ (by decide +kernel)) ggX7_fenceTold_X7_cell
set_option maxRecDepth 20000 in
theorem ggX7_about_X7_isFence : GoodIn wsX7_about wsX7_isFence := goodIn_r _ [6, 7, 8, 9, 5, 10, 29, 30, 31, 32, 33, 34, 35, 36, 37, 38, 39, 40, 41, 42] (by decide +kernel) (by decide +kernel)
set_option maxRecDepth 20000 in
theorem gX7_about_X7_isFence : GoodIn wsX7_about (wsV RX7 103 RX7 yX7_isFence wsX7_isFence) := goodIn_app (goodIn_of _ (by decide +kernel)) ggX7_about_X7_isFence
set_option maxRecDepth 20000 in
theorem ggX7_about_X7_isIn : GoodIn wsX7_about wsX7_isIn := goodIn_r _ [10] (by decide +kernel) (by decide +kernel)
set_option maxRecDepth 20000 in
theorem gX7_about_X7_isIn : GoodIn wsX7_about (va_wsS RX7 38 yX7_isIn wsX7_isIn) := goodIn_app (goodIn_of _ (by decide +kernel)) ggX7_about_X7_isIn
set_option maxRecDepth 20000 in
theorem ggX7_about_X7_fenceTold : GoodIn wsX7_about wsX7_fenceTold := goodIn_r _ [14, 15, 16, 17, 18, 5, 19, 20, 21, 22, 23, 24, 29, 30, 31, 32, 33, 34, 35, 36, 37, 38, 39, 40, 41, 42] (by decide +kernel) (by decide +kernel)
set_option maxRecDepth 20000 in
theorem gX7_about_X7_fenceTold : GoodIn wsX7_about (wsV RX7 136 RX7 yX7_fenceTold wsX7_fenceTold) := goodIn_app (goodIn_of _ (by decide +kernel)) ggX7_about_X7_fenceTold
set_option maxRecDepth 20000 in
theorem ggX7_about_X7_no : GoodIn wsX7_about wsX7_no := goodIn_r _ [28, 1, 29, 30, 31, 32, 33, 34, 35, 36, 37, 38, 39, 40, 41, 42] (by decide +kernel) (by decide +kernel)
set_option maxRecDepth 20000 in
theorem gX7_about_X7_no : GoodIn wsX7_about (wsV RX7 96 RX7 yX7_no wsX7_no) := goodIn_app (goodIn_of _ (by decide +kernel)) ggX7_about_X7_no
set_option maxRecDepth 20000 in
theorem ggX7_onRoad_X7_cellOf : GoodIn wsX7_onRoad wsX7_cellOf := goodIn_r _ [6, 7, 8, 9, 10, 11, 12, 13, 14, 15, 16, 17, 18, 19, 20, 21, 22] (by decide +kernel) (by decide +kernel)
set_option maxRecDepth 20000 in
theorem gX7_onRoad_X7_cellOf : GoodIn wsX7_onRoad (wsV RX7 76 RX7 yX7_cellOf wsX7_cellOf) := goodIn_app (goodIn_of _ (by decide +kernel)) ggX7_onRoad_X7_cellOf
set_option maxRecDepth 20000 in
theorem ggX7_deepest_X7_cellOf : GoodIn wsX7_deepest wsX7_cellOf := goodIn_r _ [10, 11, 12, 13, 14, 15, 16, 17, 18, 19, 20, 21, 22, 23, 24, 25, 26] (by decide +kernel) (by decide +kernel)
set_option maxRecDepth 20000 in
theorem gX7_deepest_X7_cellOf : GoodIn wsX7_deepest (wsV RX7 76 RX7 yX7_cellOf wsX7_cellOf) := goodIn_app (goodIn_of _ (by decide +kernel)) ggX7_deepest_X7_cellOf
set_option maxRecDepth 20000 in
theorem ggX7_roadTold_X7_blocked : GoodIn wsX7_roadTold wsX7_blocked := goodIn_r _ [7, 8, 9, 10, 11, 12, 6, 13, 1, 2, 26, 27, 28, 29, 30, 31, 32, 33, 34, 35, 36, 37, 38, 39] (by decide +kernel) (by decide +kernel)
set_option maxRecDepth 20000 in
theorem gX7_roadTold_X7_blocked : GoodIn wsX7_roadTold (wsV RX7 79 RX7 yX7_blocked wsX7_blocked) := goodIn_app (goodIn_of _ (by decide +kernel)) ggX7_roadTold_X7_blocked
set_option maxRecDepth 20000 in
theorem ggX7_roadTold_X7_onRoad : GoodIn wsX7_roadTold wsX7_onRoad := goodIn_r _ [17, 8, 10, 11, 12, 6, 13, 1, 2, 26, 27, 28, 29, 30, 31, 32, 33, 34, 35, 36, 37, 38, 39] (by decide +kernel) (by decide +kernel)
set_option maxRecDepth 20000 in
theorem gX7_roadTold_X7_onRoad : GoodIn wsX7_roadTold (wsV RX7 130 RX7 yX7_onRoad wsX7_onRoad) := goodIn_app (goodIn_of _ (by decide +kernel)) ggX7_roadTold_X7_onRoad
set_option maxRecDepth 20000 in
theorem ggX7_roadTold_X7_deepest : GoodIn wsX7_roadTold wsX7_deepest := goodIn_r _ [21, 8, 22, 23, 24, 25, 10, 11, 12, 6, 13, 1, 2, 26, 27, 28, 29, 30, 31, 32, 33, 34, 35, 36, 37, 38, 39] (by decide +kernel) (by decide +kernel)
set_option maxRecDepth 20000 in
theorem gX7_roadTold_X7_deepest : GoodIn wsX7_roadTold (wsV RX7 139 RX7 yX7_deepest wsX7_deepest) := goodIn_app (goodIn_of _ (by decide +kernel)) ggX7_roadTold_X7_deepest
set_option maxRecDepth 20000 in
theorem ggX7_told_X7_isRoad : GoodIn wsX7_told wsX7_isRoad := goodIn_r _ [6, 7, 8, 9, 5, 10, 43, 44, 45, 46, 47, 48, 49, 50, 51, 52, 53, 54, 55, 56] (by decide +kernel) (by decide +kernel)
set_option maxRecDepth 20000 in
theorem gX7_told_X7_isRoad : GoodIn wsX7_told (wsV RX7 127 RX7 yX7_isRoad wsX7_isRoad) := goodIn_app (goodIn_of _ (by decide +kernel)) ggX7_told_X7_isRoad
set_option maxRecDepth 20000 in
theorem ggX7_told_X7_isIn : GoodIn wsX7_told wsX7_isIn := goodIn_r _ [10] (by decide +kernel) (by decide +kernel)
set_option maxRecDepth 20000 in
theorem gX7_told_X7_isIn : GoodIn wsX7_told (va_wsS RX7 38 yX7_isIn wsX7_isIn) := goodIn_app (goodIn_of _ (by decide +kernel)) ggX7_told_X7_isIn
set_option maxRecDepth 20000 in
theorem ggX7_told_X7_roadTold : GoodIn wsX7_told wsX7_roadTold := goodIn_r _ [14, 15, 16, 17, 18, 19, 5, 20, 21, 22, 23, 24, 25, 26, 27, 28, 29, 30, 31, 32, 33, 34, 35, 36, 37, 38, 43, 44, 45, 46, 47, 48, 49, 50, 51, 52, 53, 54, 55, 56] (by decide +kernel) (by decide +kernel)
set_option maxRecDepth 20000 in
theorem gX7_told_X7_roadTold : GoodIn wsX7_told (wsV RX7 142 RX7 yX7_roadTold wsX7_roadTold) := goodIn_app (goodIn_of _ (by decide +kernel)) ggX7_told_X7_roadTold
set_option maxRecDepth 20000 in
theorem ggX7_told_X7_no : GoodIn wsX7_told wsX7_no := goodIn_r _ [42, 1, 43, 44, 45, 46, 47, 48, 49, 50, 51, 52, 53, 54, 55, 56] (by decide +kernel) (by decide +kernel)
set_option maxRecDepth 20000 in
theorem gX7_told_X7_no : GoodIn wsX7_told (wsV RX7 96 RX7 yX7_no wsX7_no) := goodIn_app (goodIn_of _ (by decide +kernel)) ggX7_told_X7_no
set_option maxRecDepth 20000 in
theorem ggX7_counted_X7_all : GoodIn wsX7_counted wsX7_all := goodIn_r _ [12, 13, 14, 15, 16, 17, 32, 33, 34, 35, 36, 37, 38, 39, 40, 41, 42, 43, 44, 45] (by decide +kernel) (by decide +kernel)
set_option maxRecDepth 20000 in
theorem gX7_counted_X7_all : GoodIn wsX7_counted (wsV RX7 145 RX7 yX7_all wsX7_all) := goodIn_app (goodIn_of _ (by decide +kernel)) ggX7_counted_X7_all
set_option maxRecDepth 20000 in
theorem ggX7_counted_X7_allBlocked : GoodIn wsX7_counted wsX7_allBlocked := goodIn_r _ [21, 2, 22, 23, 24, 11, 25, 13, 6, 26, 27, 28, 29, 30, 31, 32, 33, 34, 35, 36, 37, 38, 39, 40, 41, 42, 43, 44, 45] (by decide +kernel) (by decide +kernel)
set_option maxRecDepth 20000 in
theorem gX7_counted_X7_allBlocked : GoodIn wsX7_counted (wsV RX7 89 RX7 yX7_allBlocked wsX7_allBlocked) := goodIn_app (goodIn_of _ (by decide +kernel)) ggX7_counted_X7_allBlocked
set_option maxRecDepth 20000 in
theorem ggX7_count_X7_isIn : GoodIn wsX7_count wsX7_isIn := goodIn_r _ [5] (by decide +kernel) (by decide +kernel)
set_option maxRecDepth 20000 in
theorem gX7_count_X7_isIn : GoodIn wsX7_count (va_wsS RX7 38 yX7_isIn wsX7_isIn) := goodIn_app (goodIn_of _ (by decide +kernel)) ggX7_count_X7_isIn
set_option maxRecDepth 20000 in
theorem ggX7_count_X7_counted : GoodIn wsX7_count wsX7_counted := goodIn_r _ [9, 10, 11, 12, 13, 14, 15, 16, 17, 18, 19, 4, 20, 21, 22, 23, 24, 25, 26, 27, 28, 29, 30, 31, 32, 33, 34, 35, 36, 37, 38, 39, 44, 45, 46, 47, 48, 49, 50, 51, 52, 53, 54, 55, 56, 57] (by decide +kernel) (by decide +kernel)
set_option maxRecDepth 20000 in
theorem gX7_count_X7_counted : GoodIn wsX7_count (wsV RX7 149 RX7 yX7_counted wsX7_counted) := goodIn_app (goodIn_of _ (by decide +kernel)) ggX7_count_X7_counted
set_option maxRecDepth 20000 in
theorem ggX7_count_X7_no : GoodIn wsX7_count wsX7_no := goodIn_r _ [43, 1, 44, 45, 46, 47, 48, 49, 50, 51, 52, 53, 54, 55, 56, 57] (by decide +kernel) (by decide +kernel)
set_option maxRecDepth 20000 in
theorem gX7_count_X7_no : GoodIn wsX7_count (wsV RX7 96 RX7 yX7_no wsX7_no) := goodIn_app (goodIn_of _ (by decide +kernel)) ggX7_count_X7_no
set_option maxRecDepth 20000 in
theorem ggX7_would_X7_isWind : GoodIn wsX7_would wsX7_isWind := goodIn_r _ [6, 7, 8, 5, 9] (by decide +kernel) (by decide +kernel)
set_option maxRecDepth 20000 in
theorem gX7_would_X7_isWind : GoodIn wsX7_would (va_wsS RX7 111 yX7_isWind wsX7_isWind) := goodIn_app (goodIn_of _ (by decide +kernel)) ggX7_would_X7_isWind
set_option maxRecDepth 20000 in
theorem ggX7_would_X7_isRoad : GoodIn wsX7_would wsX7_isRoad := goodIn_r _ [13, 14, 7, 8, 5, 9, 81, 82, 83, 84, 85, 86, 87, 88, 89, 90, 91, 92, 93, 94] (by decide +kernel) (by decide +kernel)
set_option maxRecDepth 20000 in
theorem gX7_would_X7_isRoad : GoodIn wsX7_would (wsV RX7 127 RX7 yX7_isRoad wsX7_isRoad) := goodIn_app (goodIn_of _ (by decide +kernel)) ggX7_would_X7_isRoad
set_option maxRecDepth 20000 in
theorem ggX7_would_X7_no : GoodIn wsX7_would wsX7_no := goodIn_r _ [18, 1, 81, 82, 83, 84, 85, 86, 87, 88, 89, 90, 91, 92, 93, 94] (by decide +kernel) (by decide +kernel)
set_option maxRecDepth 20000 in
theorem gX7_would_X7_no : GoodIn wsX7_would (wsV RX7 96 RX7 yX7_no wsX7_no) := goodIn_app (goodIn_of _ (by decide +kernel)) ggX7_would_X7_no
set_option maxRecDepth 20000 in
theorem ggX7_would_X7_isStrength : GoodIn wsX7_would wsX7_isStrength := goodIn_r _ [21, 7, 8, 5, 9] (by decide +kernel) (by decide +kernel)
set_option maxRecDepth 20000 in
theorem gX7_would_X7_isStrength : GoodIn wsX7_would (va_wsS RX7 114 yX7_isStrength wsX7_isStrength) := goodIn_app (goodIn_of _ (by decide +kernel)) ggX7_would_X7_isStrength
set_option maxRecDepth 20000 in
theorem ggX7_would_X7_isIn : GoodIn wsX7_would wsX7_isIn := goodIn_r _ [9] (by decide +kernel) (by decide +kernel)
set_option maxRecDepth 20000 in
theorem gX7_would_X7_isIn : GoodIn wsX7_would (va_wsS RX7 38 yX7_isIn wsX7_isIn) := goodIn_app (goodIn_of _ (by decide +kernel)) ggX7_would_X7_isIn
set_option maxRecDepth 20000 in
theorem ggX7_would_X7_stand : GoodIn wsX7_would wsX7_stand := goodIn_r _ [25, 26, 27, 28, 29, 5, 30, 31, 32, 33, 34, 35, 81, 82, 83, 84, 85, 86, 87, 88, 89, 90, 91, 92, 93, 94] (by decide +kernel) (by decide +kernel)
set_option maxRecDepth 20000 in
theorem gX7_would_X7_stand : GoodIn wsX7_would (wsV RX7 117 RX7 yX7_stand wsX7_stand) := goodIn_app (goodIn_of _ (by decide +kernel)) ggX7_would_X7_stand
set_option maxRecDepth 20000 in
theorem ggX7_would_X7_keep : GoodIn wsX7_would wsX7_keep := goodIn_r _ [39, 40, 41, 42, 43, 44, 45, 81, 82, 83, 84, 85, 86, 87, 88, 89, 90, 91, 92, 93, 94] (by decide +kernel) (by decide +kernel)
set_option maxRecDepth 20000 in
theorem gX7_would_X7_keep : GoodIn wsX7_would (wsV RX7 83 RX7 yX7_keep wsX7_keep) := goodIn_app (goodIn_of _ (by decide +kernel)) ggX7_would_X7_keep
set_option maxRecDepth 20000 in
theorem ggX7_would_X7_blown : GoodIn wsX7_would wsX7_blown := goodIn_r _ [49, 50, 51, 52, 5, 53, 54, 55, 56, 57, 58, 26, 59, 60, 61, 62, 40, 63, 64, 65, 27, 28, 29, 30, 31, 81, 82, 83, 84, 85, 86, 87, 88, 89, 90, 91, 92, 93, 94] (by decide +kernel) (by decide +kernel)
set_option maxRecDepth 20000 in
theorem gX7_would_X7_blown : GoodIn wsX7_would (wsV RX7 86 RX7 yX7_blown wsX7_blown) := goodIn_app (goodIn_of _ (by decide +kernel)) ggX7_would_X7_blown
set_option maxRecDepth 20000 in
theorem ggX7_would_X7_blocked : GoodIn wsX7_would wsX7_blocked := goodIn_r _ [69, 40, 70, 71, 72, 73, 5, 74, 75, 76, 81, 82, 83, 84, 85, 86, 87, 88, 89, 90, 91, 92, 93, 94] (by decide +kernel) (by decide +kernel)
set_option maxRecDepth 20000 in
theorem gX7_would_X7_blocked : GoodIn wsX7_would (wsV RX7 79 RX7 yX7_blocked wsX7_blocked) := goodIn_app (goodIn_of _ (by decide +kernel)) ggX7_would_X7_blocked
set_option maxRecDepth 20000 in
theorem ggX7_would_X7_bringBack : GoodIn wsX7_would wsX7_bringBack := goodIn_r _ [80, 41, 40, 42, 43, 44, 45, 81, 82, 83, 84, 85, 86, 87, 88, 89, 90, 91, 92, 93, 94] (by decide +kernel) (by decide +kernel)
set_option maxRecDepth 20000 in
theorem gX7_would_X7_bringBack : GoodIn wsX7_would (wsV RX7 93 RX7 yX7_bringBack wsX7_bringBack) := goodIn_app (goodIn_of _ (by decide +kernel)) ggX7_would_X7_bringBack
set_option maxRecDepth 20000 in
theorem ggX7_until_X7_isWind : GoodIn wsX7_until wsX7_isWind := goodIn_r _ [6, 7, 8, 5, 9] (by decide +kernel) (by decide +kernel)
set_option maxRecDepth 20000 in
theorem gX7_until_X7_isWind : GoodIn wsX7_until (va_wsS RX7 111 yX7_isWind wsX7_isWind) := goodIn_app (goodIn_of _ (by decide +kernel)) ggX7_until_X7_isWind
set_option maxRecDepth 20000 in
theorem ggX7_until_X7_isRoad : GoodIn wsX7_until wsX7_isRoad := goodIn_r _ [13, 14, 7, 8, 5, 9, 77, 78, 79, 80, 81, 82, 83, 84, 85, 86, 87, 88, 89, 90] (by decide +kernel) (by decide +kernel)
set_option maxRecDepth 20000 in
theorem gX7_until_X7_isRoad : GoodIn wsX7_until (wsV RX7 127 RX7 yX7_isRoad wsX7_isRoad) := goodIn_app (goodIn_of _ (by decide +kernel)) ggX7_until_X7_isRoad
set_option maxRecDepth 20000 in
theorem ggX7_until_X7_no : GoodIn wsX7_until wsX7_no := goodIn_r _ [18, 1, 77, 78, 79, 80, 81, 82, 83, 84, 85, 86, 87, 88, 89, 90] (by decide +kernel) (by decide +kernel)
set_option maxRecDepth 20000 in
theorem gX7_until_X7_no : GoodIn wsX7_until (wsV RX7 96 RX7 yX7_no wsX7_no) := goodIn_app (goodIn_of _ (by decide +kernel)) ggX7_until_X7_no
set_option maxRecDepth 20000 in
theorem ggX7_until_X7_isStrength : GoodIn wsX7_until wsX7_isStrength := goodIn_r _ [21, 7, 8, 5, 9] (by decide +kernel) (by decide +kernel)
set_option maxRecDepth 20000 in
theorem gX7_until_X7_isStrength : GoodIn wsX7_until (va_wsS RX7 114 yX7_isStrength wsX7_isStrength) := goodIn_app (goodIn_of _ (by decide +kernel)) ggX7_until_X7_isStrength
set_option maxRecDepth 20000 in
theorem ggX7_until_X7_stand : GoodIn wsX7_until wsX7_stand := goodIn_r _ [25, 26, 27, 28, 29, 5, 30, 31, 32, 33, 34, 35, 77, 78, 79, 80, 81, 82, 83, 84, 85, 86, 87, 88, 89, 90] (by decide +kernel) (by decide +kernel)
set_option maxRecDepth 20000 in
theorem gX7_until_X7_stand : GoodIn wsX7_until (wsV RX7 117 RX7 yX7_stand wsX7_stand) := goodIn_app (goodIn_of _ (by decide +kernel)) ggX7_until_X7_stand
set_option maxRecDepth 20000 in
theorem ggX7_until_X7_keep : GoodIn wsX7_until wsX7_keep := goodIn_r _ [39, 40, 41, 42, 43, 44, 45, 77, 78, 79, 80, 81, 82, 83, 84, 85, 86, 87, 88, 89, 90] (by decide +kernel) (by decide +kernel)
set_option maxRecDepth 20000 in
theorem gX7_until_X7_keep : GoodIn wsX7_until (wsV RX7 83 RX7 yX7_keep wsX7_keep) := goodIn_app (goodIn_of _ (by decide +kernel)) ggX7_until_X7_keep
set_option maxRecDepth 20000 in
theorem ggX7_until_X7_blocked : GoodIn wsX7_until wsX7_blocked := goodIn_r _ [49, 40, 50, 51, 52, 53, 5, 54, 55, 56, 77, 78, 79, 80, 81, 82, 83, 84, 85, 86, 87, 88, 89, 90] (by decide +kernel) (by decide +kernel)
set_option maxRecDepth 20000 in
theorem gX7_until_X7_blocked : GoodIn wsX7_until (wsV RX7 79 RX7 yX7_blocked wsX7_blocked) := goodIn_app (goodIn_of _ (by decide +kernel)) ggX7_until_X7_blocked
set_option maxRecDepth 20000 in
theorem ggX7_until_X7_hour : GoodIn wsX7_until wsX7_hour := goodIn_r _ [60, 61, 62, 63, 5, 64, 65, 26, 66, 67, 68, 69, 40, 70, 71, 72, 27, 28, 29, 30, 31, 77, 78, 79, 80, 81, 82, 83, 84, 85, 86, 87, 88, 89, 90] (by decide +kernel) (by decide +kernel)
set_option maxRecDepth 20000 in
theorem gX7_until_X7_hour : GoodIn wsX7_until (wsV RX7 67 RX7 yX7_hour wsX7_hour) := goodIn_app (goodIn_of _ (by decide +kernel)) ggX7_until_X7_hour
set_option maxRecDepth 20000 in
theorem ggX7_until_X7_bringBack : GoodIn wsX7_until wsX7_bringBack := goodIn_r _ [76, 41, 40, 42, 43, 44, 45, 77, 78, 79, 80, 81, 82, 83, 84, 85, 86, 87, 88, 89, 90] (by decide +kernel) (by decide +kernel)
set_option maxRecDepth 20000 in
theorem gX7_until_X7_bringBack : GoodIn wsX7_until (wsV RX7 93 RX7 yX7_bringBack wsX7_bringBack) := goodIn_app (goodIn_of _ (by decide +kernel)) ggX7_until_X7_bringBack
set_option maxRecDepth 20000 in
theorem ggX7_advise_X7_isWind : GoodIn wsX7_advise wsX7_isWind := goodIn_r _ [6, 7, 8, 5, 9] (by decide +kernel) (by decide +kernel)
set_option maxRecDepth 20000 in
theorem gX7_advise_X7_isWind : GoodIn wsX7_advise (va_wsS RX7 111 yX7_isWind wsX7_isWind) := goodIn_app (goodIn_of _ (by decide +kernel)) ggX7_advise_X7_isWind
set_option maxRecDepth 20000 in
theorem ggX7_advise_X7_no : GoodIn wsX7_advise wsX7_no := goodIn_r _ [13, 1, 90, 91, 92, 93, 94, 95, 96, 97, 98, 99, 100, 101, 102, 103] (by decide +kernel) (by decide +kernel)
set_option maxRecDepth 20000 in
theorem gX7_advise_X7_no : GoodIn wsX7_advise (wsV RX7 96 RX7 yX7_no wsX7_no) := goodIn_app (goodIn_of _ (by decide +kernel)) ggX7_advise_X7_no
set_option maxRecDepth 20000 in
theorem ggX7_advise_X7_isStrength : GoodIn wsX7_advise wsX7_isStrength := goodIn_r _ [16, 7, 8, 5, 9] (by decide +kernel) (by decide +kernel)
set_option maxRecDepth 20000 in
theorem gX7_advise_X7_isStrength : GoodIn wsX7_advise (va_wsS RX7 114 yX7_isStrength wsX7_isStrength) := goodIn_app (goodIn_of _ (by decide +kernel)) ggX7_advise_X7_isStrength
set_option maxRecDepth 20000 in
theorem ggX7_advise_X7_isIn : GoodIn wsX7_advise wsX7_isIn := goodIn_r _ [9] (by decide +kernel) (by decide +kernel)
set_option maxRecDepth 20000 in
theorem gX7_advise_X7_isIn : GoodIn wsX7_advise (va_wsS RX7 38 yX7_isIn wsX7_isIn) := goodIn_app (goodIn_of _ (by decide +kernel)) ggX7_advise_X7_isIn
set_option maxRecDepth 20000 in
theorem ggX7_advise_X7_setUp : GoodIn wsX7_advise wsX7_setUp := goodIn_r _ [20, 21, 22, 23, 24, 25, 26, 90, 91, 92, 93, 94, 95, 96, 97, 98, 99, 100, 101, 102, 103] (by decide +kernel) (by decide +kernel)
set_option maxRecDepth 20000 in
theorem gX7_advise_X7_setUp : GoodIn wsX7_advise (wsV RX7 99 RX7 yX7_setUp wsX7_setUp) := goodIn_app (goodIn_of _ (by decide +kernel)) ggX7_advise_X7_setUp
set_option maxRecDepth 20000 in
theorem ggX7_advise_X7_stand : GoodIn wsX7_advise wsX7_stand := goodIn_r _ [30, 31, 32, 33, 34, 5, 35, 22, 36, 37, 38, 39, 90, 91, 92, 93, 94, 95, 96, 97, 98, 99, 100, 101, 102, 103] (by decide +kernel) (by decide +kernel)
set_option maxRecDepth 20000 in
theorem gX7_advise_X7_stand : GoodIn wsX7_advise (wsV RX7 117 RX7 yX7_stand wsX7_stand) := goodIn_app (goodIn_of _ (by decide +kernel)) ggX7_advise_X7_stand
set_option maxRecDepth 20000 in
theorem ggX7_advise_X7_tried : GoodIn wsX7_advise wsX7_tried := goodIn_r _ [43, 44, 45, 46, 5, 47, 48, 49, 23, 24, 25, 26, 50, 51, 52, 53, 54, 55, 56, 57, 58, 59, 60, 61, 62, 31, 63, 64, 65, 66, 67, 68, 69, 32, 33, 34, 35, 22, 70, 71, 72, 73, 74, 75, 76, 77, 78, 79, 80, 81, 82, 83, 84, 85, 86, 87, 88, 89, 90, 91, 92, 93, 94, 95, 96, 97, 98, 99, 100, 101, 102, 103] (by decide +kernel) (by decide +kernel)
set_option maxRecDepth 20000 in
theorem gX7_advise_X7_tried : GoodIn wsX7_advise (wsV RX7 152 RX7 yX7_tried wsX7_tried) := goodIn_app (goodIn_of _ (by decide +kernel)) ggX7_advise_X7_tried
set_option maxRecDepth 20000 in
theorem ggX7_harmful_X7_isWind : GoodIn wsX7_harmful wsX7_isWind := goodIn_r _ [6, 7, 8, 5, 9] (by decide +kernel) (by decide +kernel)
set_option maxRecDepth 20000 in
theorem gX7_harmful_X7_isWind : GoodIn wsX7_harmful (va_wsS RX7 111 yX7_isWind wsX7_isWind) := goodIn_app (goodIn_of _ (by decide +kernel)) ggX7_harmful_X7_isWind
set_option maxRecDepth 20000 in
theorem ggX7_harmful_X7_no : GoodIn wsX7_harmful wsX7_no := goodIn_r _ [13, 1, 85, 86, 87, 88, 89, 90, 91, 92, 93, 94, 95, 96, 97, 98] (by decide +kernel) (by decide +kernel)
set_option maxRecDepth 20000 in
theorem gX7_harmful_X7_no : GoodIn wsX7_harmful (wsV RX7 96 RX7 yX7_no wsX7_no) := goodIn_app (goodIn_of _ (by decide +kernel)) ggX7_harmful_X7_no
set_option maxRecDepth 20000 in
theorem ggX7_harmful_X7_isStrength : GoodIn wsX7_harmful wsX7_isStrength := goodIn_r _ [16, 7, 8, 5, 9] (by decide +kernel) (by decide +kernel)
set_option maxRecDepth 20000 in
theorem gX7_harmful_X7_isStrength : GoodIn wsX7_harmful (va_wsS RX7 114 yX7_isStrength wsX7_isStrength) := goodIn_app (goodIn_of _ (by decide +kernel)) ggX7_harmful_X7_isStrength
set_option maxRecDepth 20000 in
theorem ggX7_harmful_X7_stand : GoodIn wsX7_harmful wsX7_stand := goodIn_r _ [20, 21, 22, 23, 24, 5, 25, 26, 27, 28, 29, 30, 85, 86, 87, 88, 89, 90, 91, 92, 93, 94, 95, 96, 97, 98] (by decide +kernel) (by decide +kernel)
set_option maxRecDepth 20000 in
theorem gX7_harmful_X7_stand : GoodIn wsX7_harmful (wsV RX7 117 RX7 yX7_stand wsX7_stand) := goodIn_app (goodIn_of _ (by decide +kernel)) ggX7_harmful_X7_stand
set_option maxRecDepth 20000 in
theorem ggX7_harmful_X7_tried : GoodIn wsX7_harmful wsX7_tried := goodIn_r _ [34, 35, 36, 37, 5, 38, 39, 40, 41, 42, 43, 44, 45, 46, 47, 48, 49, 50, 51, 52, 53, 54, 55, 56, 57, 21, 58, 59, 60, 61, 62, 63, 64, 22, 23, 24, 25, 26, 65, 66, 67, 68, 69, 70, 71, 72, 73, 74, 75, 76, 77, 78, 79, 80, 81, 82, 83, 84, 85, 86, 87, 88, 89, 90, 91, 92, 93, 94, 95, 96, 97, 98] (by decide +kernel) (by decide +kernel)
set_option maxRecDepth 20000 in
theorem gX7_harmful_X7_tried : GoodIn wsX7_harmful (wsV RX7 152 RX7 yX7_tried wsX7_tried) := goodIn_app (goodIn_of _ (by decide +kernel)) ggX7_harmful_X7_tried
set_option maxRecDepth 20000 in
theorem ggX7_mean_X7_all : GoodIn wsX7_mean wsX7_all := goodIn_r _ [7, 8, 9, 10, 11, 12, 13, 14, 15, 16, 17, 18, 19, 20, 21, 22, 23, 24, 25, 26] (by decide +kernel) (by decide +kernel)
set_option maxRecDepth 20000 in
theorem gX7_mean_X7_all : GoodIn wsX7_mean (wsV RX7 145 RX7 yX7_all wsX7_all) := goodIn_app (goodIn_of _ (by decide +kernel)) ggX7_mean_X7_all
set_option maxRecDepth 20000 in
theorem ggX7_digest_X7_counted : GoodIn wsX7_digest wsX7_counted := goodIn_r _ [11, 4, 5, 12, 13, 14, 15, 16, 17, 18, 19, 10, 20, 6, 21, 22, 23, 24, 25, 26, 27, 28, 29, 30, 31, 32, 33, 34, 35, 36, 37, 38, 64, 65, 66, 67, 68, 69, 70, 71, 72, 73, 74, 75, 76, 77] (by decide +kernel) (by decide +kernel)
set_option maxRecDepth 20000 in
theorem gX7_digest_X7_counted : GoodIn wsX7_digest (wsV RX7 149 RX7 yX7_counted wsX7_counted) := goodIn_app (goodIn_of _ (by decide +kernel)) ggX7_digest_X7_counted
set_option maxRecDepth 20000 in
theorem ggX7_digest_X7_fenceTold : GoodIn wsX7_digest wsX7_fenceTold := goodIn_r _ [42, 6, 43, 44, 45, 10, 46, 47, 48, 49, 50, 51, 64, 65, 66, 67, 68, 69, 70, 71, 72, 73, 74, 75, 76, 77] (by decide +kernel) (by decide +kernel)
set_option maxRecDepth 20000 in
theorem gX7_digest_X7_fenceTold : GoodIn wsX7_digest (wsV RX7 136 RX7 yX7_fenceTold wsX7_fenceTold) := goodIn_app (goodIn_of _ (by decide +kernel)) ggX7_digest_X7_fenceTold
set_option maxRecDepth 20000 in
theorem ggX7_digest_X7_roadTold : GoodIn wsX7_digest wsX7_roadTold := goodIn_r _ [55, 37, 38, 29, 30, 31, 10, 32, 6, 15, 33, 34, 35, 36, 56, 57, 58, 59, 60, 61, 62, 63, 21, 22, 23, 24, 64, 65, 66, 67, 68, 69, 70, 71, 72, 73, 74, 75, 76, 77] (by decide +kernel) (by decide +kernel)
set_option maxRecDepth 20000 in
theorem gX7_digest_X7_roadTold : GoodIn wsX7_digest (wsV RX7 142 RX7 yX7_roadTold wsX7_roadTold) := goodIn_app (goodIn_of _ (by decide +kernel)) ggX7_digest_X7_roadTold
set_option maxRecDepth 20000 in
theorem ggJxc12de_init_da8c8_Jxa1e45_init_da8c8 : GoodIn wsJxc12de_init_da8c8 wsJxa1e45_init_da8c8 := goodIn_r _ [5, 6, 7, 8] (by decide +kernel) (by decide +kernel)
set_option maxRecDepth 20000 in
theorem gJxc12de_init_da8c8_Jxa1e45_init_da8c8 : GoodIn wsJxc12de_init_da8c8 (wsJxa1e45_init_da8c8) := ggJxc12de_init_da8c8_Jxa1e45_init_da8c8
set_option maxRecDepth 20000 in
theorem ggJx4a65c_init_da8c8_Jxc12de_init_da8c8 : GoodIn wsJx4a65c_init_da8c8 wsJxc12de_init_da8c8 := goodIn_r _ [6, 7, 8, 9, 10, 11, 12, 13, 14, 15, 16, 17] (by decide +kernel) (by decide +kernel)
set_option maxRecDepth 20000 in
theorem gJx4a65c_init_da8c8_Jxc12de_init_da8c8 : GoodIn wsJx4a65c_init_da8c8 (wsJxc12de_init_da8c8) := ggJx4a65c_init_da8c8_Jxc12de_init_da8c8
set_option maxRecDepth 20000 in
theorem ggJx4a65c_grow_92f84_J8_newLength_cabcc : GoodIn wsJx4a65c_grow_92f84 wsJ8_newLength_cabcc := goodIn_r _ [11, 12, 4, 5, 6, 13, 14, 15, 10, 16] (by decide +kernel) (by decide +kernel)
set_option maxRecDepth 20000 in
theorem gJx4a65c_grow_92f84_J8_newLength_cabcc : GoodIn wsJx4a65c_grow_92f84 (va_wsS RJx4a65c 73 yJ8_newLength_cabcc wsJ8_newLength_cabcc) := goodIn_app (goodIn_of _ (by decide +kernel)) ggJx4a65c_grow_92f84_J8_newLength_cabcc
set_option maxRecDepth 20000 in
theorem ggJx4a65c_grow_92f84_J7_copyOf_1904c : GoodIn wsJx4a65c_grow_92f84 wsJ7_copyOf_1904c := goodIn_r _ [20, 21, 22, 23, 24, 25, 26, 19, 27, 28, 29, 30, 31, 5, 32, 33, 34, 35, 36] (by decide +kernel) (by decide +kernel)
set_option maxRecDepth 20000 in
theorem gJx4a65c_grow_92f84_J7_copyOf_1904c : GoodIn wsJx4a65c_grow_92f84 (va_wsS RJx4a65c 66 yJ7_copyOf_1904c wsJ7_copyOf_1904c) := goodIn_app (goodIn_of _ (by decide +kernel)) ggJx4a65c_grow_92f84_J7_copyOf_1904c
set_option maxRecDepth 20000 in
theorem ggJx4a65c_grow_d5877_Jx4a65c_grow_92f84 : GoodIn wsJx4a65c_grow_d5877 wsJx4a65c_grow_92f84 := goodIn_r _ [6, 7, 8, 9, 10, 11, 12, 13, 14, 15, 16, 17, 18, 19, 20, 21, 22, 23, 24, 25, 26, 27, 28, 29, 30, 31, 32, 33, 34, 35, 36, 37, 38, 39, 40, 41, 42, 43, 44, 45] (by decide +kernel) (by decide +kernel)
set_option maxRecDepth 20000 in
theorem gJx4a65c_grow_d5877_Jx4a65c_grow_92f84 : GoodIn wsJx4a65c_grow_d5877 (wsV RJx4a65c 69 RJx4a65c yJx4a65c_grow_92f84 wsJx4a65c_grow_92f84) := goodIn_app (goodIn_of _ (by decide +kernel)) ggJx4a65c_grow_d5877_Jx4a65c_grow_92f84
set_option maxRecDepth 20000 in
theorem ggJx4a65c_get_915e3_J15_checkIndex_7cf53 : GoodIn wsJx4a65c_get_915e3 wsJ15_checkIndex_7cf53 := goodIn_r _ [5, 6, 7, 8, 9] (by decide +kernel) (by decide +kernel)
set_option maxRecDepth 20000 in
theorem gJx4a65c_get_915e3_J15_checkIndex_7cf53 : GoodIn wsJx4a65c_get_915e3 (va_wsS RJx4a65c 118 yJ15_checkIndex_7cf53 wsJ15_checkIndex_7cf53) := goodIn_app (goodIn_of _ (by decide +kernel)) ggJx4a65c_get_915e3_J15_checkIndex_7cf53
set_option maxRecDepth 20000 in
theorem ggJx4a65c_get_915e3_Jx4a65c_elementData_915e3 : GoodIn wsJx4a65c_get_915e3 wsJx4a65c_elementData_915e3 := goodIn_r _ [14, 15, 16, 17, 18] (by decide +kernel) (by decide +kernel)
set_option maxRecDepth 20000 in
theorem gJx4a65c_get_915e3_Jx4a65c_elementData_915e3 : GoodIn wsJx4a65c_get_915e3 (wsV RJx4a65c 123 RJx4a65c yJx4a65c_elementData_915e3 wsJx4a65c_elementData_915e3) := goodIn_app (goodIn_of _ (by decide +kernel)) ggJx4a65c_get_915e3_Jx4a65c_elementData_915e3
set_option maxRecDepth 20000 in
theorem ggJx4a65c_add_72be8_Jx4a65c_grow_d5877 : GoodIn wsJx4a65c_add_72be8 wsJx4a65c_grow_d5877 := goodIn_r _ [6, 1, 7, 8, 9, 5, 10, 11, 12, 13, 14, 15, 16, 17, 18, 19, 20, 21, 22, 23, 24, 25, 26, 27, 28, 29, 30, 31, 32, 33, 34, 35, 36, 37, 38, 39, 40, 41, 42, 43, 44, 45, 46, 47, 48, 49] (by decide +kernel) (by decide +kernel)
set_option maxRecDepth 20000 in
theorem gJx4a65c_add_72be8_Jx4a65c_grow_d5877 : GoodIn wsJx4a65c_add_72be8 (wsV RJx4a65c 129 RJx4a65c yJx4a65c_grow_d5877 wsJx4a65c_grow_d5877) := goodIn_app (goodIn_of _ (by decide +kernel)) ggJx4a65c_add_72be8_Jx4a65c_grow_d5877
set_option maxRecDepth 20000 in
theorem ggJx4a65c_add_9ea2d_Jx4a65c_add_72be8 : GoodIn wsJx4a65c_add_9ea2d wsJx4a65c_add_72be8 := goodIn_r _ [9, 4, 10, 11, 12, 8, 13, 14, 15, 16, 17, 3, 18, 19, 20, 21, 22, 23, 24, 25, 26, 27, 28, 29, 30, 31, 32, 33, 34, 35, 36, 37, 38, 39, 40, 41, 42, 43, 44, 45, 46, 47, 48, 49, 50, 51, 52, 53, 54, 55] (by decide +kernel) (by decide +kernel)
set_option maxRecDepth 20000 in
theorem gJx4a65c_add_9ea2d_Jx4a65c_add_72be8 : GoodIn wsJx4a65c_add_9ea2d (wsV RJx4a65c 131 RJx4a65c yJx4a65c_add_72be8 wsJx4a65c_add_72be8) := goodIn_app (goodIn_of _ (by decide +kernel)) ggJx4a65c_add_9ea2d_Jx4a65c_add_72be8
set_option maxRecDepth 20000 in
theorem ggJx4a65c_remove_915e3_J15_checkIndex_7cf53 : GoodIn wsJx4a65c_remove_915e3 wsJ15_checkIndex_7cf53 := goodIn_r _ [6, 7, 8, 9, 10] (by decide +kernel) (by decide +kernel)
set_option maxRecDepth 20000 in
theorem gJx4a65c_remove_915e3_J15_checkIndex_7cf53 : GoodIn wsJx4a65c_remove_915e3 (va_wsS RJx4a65c 118 yJ15_checkIndex_7cf53 wsJ15_checkIndex_7cf53) := goodIn_app (goodIn_of _ (by decide +kernel)) ggJx4a65c_remove_915e3_J15_checkIndex_7cf53
set_option maxRecDepth 20000 in
theorem ggJx4a65c_remove_915e3_Jx4a65c_fastRemove_b59b0 : GoodIn wsJx4a65c_remove_915e3 wsJx4a65c_fastRemove_b59b0 := goodIn_r _ [15, 16, 17, 1, 18, 19, 20, 21, 22, 23, 24] (by decide +kernel) (by decide +kernel)
set_option maxRecDepth 20000 in
theorem gJx4a65c_remove_915e3_Jx4a65c_fastRemove_b59b0 : GoodIn wsJx4a65c_remove_915e3 (wsV RJx4a65c 144 RJx4a65c yJx4a65c_fastRemove_b59b0 wsJx4a65c_fastRemove_b59b0) := goodIn_app (goodIn_of _ (by decide +kernel)) ggJx4a65c_remove_915e3_Jx4a65c_fastRemove_b59b0
set_option maxRecDepth 20000 in
theorem ggJ7_copyOf_1904c_J7_copyOf_6403c : GoodIn wsJ7_copyOf_1904c wsJ7_copyOf_6403c := goodIn_r _ [8, 9, 10, 11, 12, 13, 14, 15, 16, 17, 18] (by decide +kernel) (by decide +kernel)
set_option maxRecDepth 20000 in
theorem gJ7_copyOf_1904c_J7_copyOf_6403c : GoodIn wsJ7_copyOf_1904c (va_wsS RJ7 300 yJ7_copyOf_6403c wsJ7_copyOf_6403c) := goodIn_app (goodIn_of _ (by decide +kernel)) ggJ7_copyOf_1904c_J7_copyOf_6403c
set_option maxRecDepth 20000 in
theorem ggJ15_checkIndex_7cf53_J3_checkIndex_8e157 : GoodIn wsJ15_checkIndex_7cf53 wsJ3_checkIndex_8e157 := goodIn_r _ [4] (by decide +kernel) (by decide +kernel)
set_option maxRecDepth 20000 in
theorem gJ15_checkIndex_7cf53_J3_checkIndex_8e157 : GoodIn wsJ15_checkIndex_7cf53 (va_wsS RJ15 105 yJ3_checkIndex_8e157 wsJ3_checkIndex_8e157) := goodIn_app (goodIn_of _ (by decide +kernel)) ggJ15_checkIndex_7cf53_J3_checkIndex_8e157
set_option maxRecDepth 20000 in
theorem ggJ8_newLength_cabcc_J8_hugeLength_7cf53 : GoodIn wsJ8_newLength_cabcc wsJ8_hugeLength_7cf53 := goodIn_r _ [9, 5] (by decide +kernel) (by decide +kernel)
set_option maxRecDepth 20000 in
theorem gJ8_newLength_cabcc_J8_hugeLength_7cf53 : GoodIn wsJ8_newLength_cabcc (va_wsS RJ8 201 yJ8_hugeLength_7cf53 wsJ8_hugeLength_7cf53) := goodIn_app (goodIn_of _ (by decide +kernel)) ggJ8_newLength_cabcc_J8_hugeLength_7cf53
abbrev vwCl : List vw_C := [(RJx4a65c, TJx4a65c, 3), (RX0, TX0, 5), (RX1, TX1, 1), (RX2, TX2, 2), (RX3, TX3, 2), (RX4, TX4, 3), (RX5, TX5, 10), (RX6, TX6, 11), (RX7, TX7, 14)]
