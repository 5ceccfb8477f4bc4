def wsX7_counted_r2 : List Cond := [Cond.code yX7_blocked cX7_blocked 4 (some .int), Cond.methodLink RX7 76 yX7_cellOf, Cond.instanceMethod yX7_cellOf, Cond.selects RX7 yX7_cellOf yX7_cellOf, Cond.code yX7_cellOf cX7_cellOf 3 (some .int), Cond.fieldLink RX7 13 "SnowFencesModel" "isDown" "[I", Cond.fieldLink RX7 16 "SnowFencesModel" "index" "[I"]
def wsX7_counted : List Cond := .code yX7_counted cX7_counted 2 (some .int) :: ((wsX7_counted_r1 ++ wsX7_counted_r2) ++ wsX70)
def wsX7_count_r1 : List Cond := [Cond.fieldLink RX7 32 "SnowFencesModel" "thrown" "I", Cond.methodLink RX7 38 yX7_isIn, Cond.static yX7_isIn, Cond.initialized RX7, Cond.code yX7_isIn cX7_isIn 3 (some .boolean), Cond.methodLink RX7 149 yX7_counted, Cond.instanceMethod yX7_counted, Cond.selects RX7 yX7_counted yX7_counted, Cond.code yX7_counted cX7_counted 2 (some .int), Cond.fieldLink RX7 35 "SnowFencesModel" "fences" "I", Cond.fieldLink RX7 42 "SnowFencesModel" "roads" "I", Cond.fieldLink RX7 121 "SnowFencesModel" "off" "I", Cond.fieldLink RX7 133 "SnowFencesModel" "ploughed" "I", Cond.fieldLink RX7 124 "SnowFencesModel" "hours" "I", Cond.fieldLink RX7 19 "SnowFencesModel" "limit" "I", Cond.fieldLink RX7 52 "SnowFencesModel" "supply" "I", Cond.methodLink RX7 145 yX7_all, Cond.instanceMethod yX7_all, Cond.selects RX7 yX7_all yX7_all, Cond.code yX7_all cX7_all 8 (some .int), Cond.fieldLink RX7 23 "SnowFencesModel" "snow" "[I", Cond.methodLink RX7 60 Lib.Math.max.name, Cond.static Lib.Math.max.name, Cond.initialized "java/lang/Math"]
def wsX7_count_r2 : List Cond := [Cond.code Lib.Math.max.name Lib.Math.max.code 2 (some .int), Cond.methodLink RX7 89 yX7_allBlocked, Cond.instanceMethod yX7_allBlocked, Cond.selects RX7 yX7_allBlocked yX7_allBlocked, Cond.code yX7_allBlocked cX7_allBlocked 3 (some .int), Cond.methodLink RX7 79 yX7_blocked, Cond.instanceMethod yX7_blocked, Cond.selects RX7 yX7_blocked yX7_blocked, Cond.code yX7_blocked cX7_blocked 4 (some .int), Cond.methodLink RX7 76 yX7_cellOf, Cond.instanceMethod yX7_cellOf, Cond.selects RX7 yX7_cellOf yX7_cellOf, Cond.code yX7_cellOf cX7_cellOf 3 (some .int), Cond.fieldLink RX7 13 "SnowFencesModel" "isDown" "[I", Cond.fieldLink RX7 16 "SnowFencesModel" "index" "[I", Cond.methodLink RX7 96 yX7_no, Cond.instanceMethod yX7_no, Cond.selects RX7 yX7_no yX7_no, Cond.code yX7_no cX7_no 2 (some .int)]
def wsX7_count : List Cond := .code yX7_count cX7_count 2 (some .int) :: ((wsX7_count_r1 ++ wsX7_count_r2) ++ wsX70)
def wsX7_would_r1 : List Cond := [Cond.fieldLink RX7 32 "SnowFencesModel" "thrown" "I", Cond.fieldLink RX7 35 "SnowFencesModel" "fences" "I", Cond.methodLink RX7 111 yX7_isWind, Cond.static yX7_isWind, Cond.initialized RX7, Cond.code yX7_isWind cX7_isWind 1 (some .boolean), Cond.methodLink RX7 38 yX7_isIn, Cond.static yX7_isIn, Cond.code yX7_isIn cX7_isIn 3 (some .boolean), Cond.methodLink RX7 127 yX7_isRoad, Cond.instanceMethod yX7_isRoad, Cond.selects RX7 yX7_isRoad yX7_isRoad, Cond.code yX7_isRoad cX7_isRoad 2 (some .boolean), Cond.fieldLink RX7 42 "SnowFencesModel" "roads" "I", Cond.methodLink RX7 96 yX7_no, Cond.instanceMethod yX7_no, Cond.selects RX7 yX7_no yX7_no, Cond.code yX7_no cX7_no 2 (some .int), Cond.methodLink RX7 114 yX7_isStrength, Cond.static yX7_isStrength, Cond.code yX7_isStrength cX7_isStrength 1 (some .boolean), Cond.methodLink RX7 117 yX7_stand, Cond.instanceMethod yX7_stand, Cond.selects RX7 yX7_stand yX7_stand]
def wsX7_would_r2 : List Cond := [Cond.code yX7_stand cX7_stand 6 none, Cond.fieldLink RX7 29 "SnowFencesModel" "top" "[I", Cond.methodLink RX7 45 yX7_of, Cond.instanceMethod yX7_of, Cond.selects RX7 yX7_of yX7_of, Cond.code yX7_of cX7_of 3 (some .int), Cond.fieldLink RX7 9 "SnowFencesModel" "fence" "[I", Cond.methodLink RX7 49 yX7_cell, Cond.instanceMethod yX7_cell, Cond.selects RX7 yX7_cell yX7_cell, Cond.code yX7_cell cX7_cell 3 (some .int), Cond.methodLink RX7 83 yX7_keep, Cond.instanceMethod yX7_keep, Cond.selects RX7 yX7_keep yX7_keep, Cond.code yX7_keep cX7_keep 1 none, Cond.fieldLink RX7 23 "SnowFencesModel" "snow" "[I", Cond.fieldLink RX7 26 "SnowFencesModel" "kept" "[I", Cond.methodLink RX7 70 arraycopyName, Cond.native arraycopyName, Cond.static arraycopyName, Cond.initialized "java/lang/System", Cond.methodLink RX7 86 yX7_blown, Cond.instanceMethod yX7_blown, Cond.selects RX7 yX7_blown yX7_blown]
def wsX7_would_r3 : List Cond := [Cond.code yX7_blown cX7_blown 6 (some .int), Cond.methodLink RX7 67 yX7_hour, Cond.instanceMethod yX7_hour, Cond.selects RX7 yX7_hour yX7_hour, Cond.code yX7_hour cX7_hour 7 (some .int), Cond.methodLink RX7 63 yX7_line, Cond.instanceMethod yX7_line, Cond.selects RX7 yX7_line yX7_line, Cond.code yX7_line cX7_line 14 (some .int), Cond.fieldLink RX7 52 "SnowFencesModel" "supply" "I", Cond.methodLink RX7 55 Lib.Math.min.name, Cond.static Lib.Math.min.name, Cond.initialized "java/lang/Math", Cond.code Lib.Math.min.name Lib.Math.min.code 2 (some .int), Cond.methodLink RX7 60 Lib.Math.max.name, Cond.static Lib.Math.max.name, Cond.code Lib.Math.max.name Lib.Math.max.code 2 (some .int), Cond.methodLink RX7 79 yX7_blocked, Cond.instanceMethod yX7_blocked, Cond.selects RX7 yX7_blocked yX7_blocked, Cond.code yX7_blocked cX7_blocked 4 (some .int), Cond.fieldLink RX7 19 "SnowFencesModel" "limit" "I", Cond.methodLink RX7 76 yX7_cellOf, Cond.instanceMethod yX7_cellOf]
def wsX7_would_r4 : List Cond := [Cond.selects RX7 yX7_cellOf yX7_cellOf, Cond.code yX7_cellOf cX7_cellOf 3 (some .int), Cond.fieldLink RX7 13 "SnowFencesModel" "isDown" "[I", Cond.fieldLink RX7 16 "SnowFencesModel" "index" "[I", Cond.methodLink RX7 93 yX7_bringBack, Cond.instanceMethod yX7_bringBack, Cond.selects RX7 yX7_bringBack yX7_bringBack, Cond.code yX7_bringBack cX7_bringBack 1 none]
def wsX7_would : List Cond := .code yX7_would cX7_would 6 (some .int) :: ((wsX7_would_r1 ++ (wsX7_would_r2 ++ (wsX7_would_r3 ++ wsX7_would_r4))) ++ wsX70)
def wsX7_until_r1 : List Cond := [Cond.fieldLink RX7 32 "SnowFencesModel" "thrown" "I", Cond.fieldLink RX7 35 "SnowFencesModel" "fences" "I", Cond.methodLink RX7 111 yX7_isWind, Cond.static yX7_isWind, Cond.initialized RX7, Cond.code yX7_isWind cX7_isWind 1 (some .boolean), Cond.methodLink RX7 38 yX7_isIn, Cond.static yX7_isIn, Cond.code yX7_isIn cX7_isIn 3 (some .boolean), Cond.methodLink RX7 127 yX7_isRoad, Cond.instanceMethod yX7_isRoad, Cond.selects RX7 yX7_isRoad yX7_isRoad, Cond.code yX7_isRoad cX7_isRoad 2 (some .boolean), Cond.fieldLink RX7 42 "SnowFencesModel" "roads" "I", Cond.methodLink RX7 96 yX7_no, Cond.instanceMethod yX7_no, Cond.selects RX7 yX7_no yX7_no, Cond.code yX7_no cX7_no 2 (some .int), Cond.methodLink RX7 114 yX7_isStrength, Cond.static yX7_isStrength, Cond.code yX7_isStrength cX7_isStrength 1 (some .boolean), Cond.methodLink RX7 117 yX7_stand, Cond.instanceMethod yX7_stand, Cond.selects RX7 yX7_stand yX7_stand]
def wsX7_until_r2 : List Cond := [Cond.code yX7_stand cX7_stand 6 none, Cond.fieldLink RX7 29 "SnowFencesModel" "top" "[I", Cond.methodLink RX7 45 yX7_of, Cond.instanceMethod yX7_of, Cond.selects RX7 yX7_of yX7_of, Cond.code yX7_of cX7_of 3 (some .int), Cond.fieldLink RX7 9 "SnowFencesModel" "fence" "[I", Cond.methodLink RX7 49 yX7_cell, Cond.instanceMethod yX7_cell, Cond.selects RX7 yX7_cell yX7_cell, Cond.code yX7_cell cX7_cell 3 (some .int), Cond.methodLink RX7 83 yX7_keep, Cond.instanceMethod yX7_keep, Cond.selects RX7 yX7_keep yX7_keep, Cond.code yX7_keep cX7_keep 1 none, Cond.fieldLink RX7 23 "SnowFencesModel" "snow" "[I", Cond.fieldLink RX7 26 "SnowFencesModel" "kept" "[I", Cond.methodLink RX7 70 arraycopyName, Cond.native arraycopyName, Cond.static arraycopyName, Cond.initialized "java/lang/System", Cond.methodLink RX7 79 yX7_blocked, Cond.instanceMethod yX7_blocked, Cond.selects RX7 yX7_blocked yX7_blocked]
def wsX7_until_r3 : List Cond := [Cond.code yX7_blocked cX7_blocked 4 (some .int), Cond.fieldLink RX7 19 "SnowFencesModel" "limit" "I", Cond.methodLink RX7 76 yX7_cellOf, Cond.instanceMethod yX7_cellOf, Cond.selects RX7 yX7_cellOf yX7_cellOf, Cond.code yX7_cellOf cX7_cellOf 3 (some .int), Cond.fieldLink RX7 13 "SnowFencesModel" "isDown" "[I", Cond.fieldLink RX7 16 "SnowFencesModel" "index" "[I", Cond.methodLink RX7 67 yX7_hour, Cond.instanceMethod yX7_hour, Cond.selects RX7 yX7_hour yX7_hour, Cond.code yX7_hour cX7_hour 7 (some .int), Cond.methodLink RX7 63 yX7_line, Cond.instanceMethod yX7_line, Cond.selects RX7 yX7_line yX7_line, Cond.code yX7_line cX7_line 14 (some .int), Cond.fieldLink RX7 52 "SnowFencesModel" "supply" "I", Cond.methodLink RX7 55 Lib.Math.min.name, Cond.static Lib.Math.min.name, Cond.initialized "java/lang/Math", Cond.code Lib.Math.min.name Lib.Math.min.code 2 (some .int), Cond.methodLink RX7 60 Lib.Math.max.name, Cond.static Lib.Math.max.name, Cond.code Lib.Math.max.name Lib.Math.max.code 2 (some .int)]
def wsX7_until_r4 : List Cond := [Cond.methodLink RX7 93 yX7_bringBack, Cond.instanceMethod yX7_bringBack, Cond.selects RX7 yX7_bringBack yX7_bringBack, Cond.code yX7_bringBack cX7_bringBack 1 none]
def wsX7_until : List Cond := .code yX7_until cX7_until 5 (some .int) :: ((wsX7_until_r1 ++ (wsX7_until_r2 ++ (wsX7_until_r3 ++ wsX7_until_r4))) ++ wsX70)
def wsX7_advise_r1 : List Cond := [Cond.fieldLink RX7 32 "SnowFencesModel" "thrown" "I", Cond.fieldLink RX7 35 "SnowFencesModel" "fences" "I", Cond.methodLink RX7 111 yX7_isWind, Cond.static yX7_isWind, Cond.initialized RX7, Cond.code yX7_isWind cX7_isWind 1 (some .boolean), Cond.methodLink RX7 38 yX7_isIn, Cond.static yX7_isIn, Cond.code yX7_isIn cX7_isIn 3 (some .boolean), Cond.methodLink RX7 96 yX7_no, Cond.instanceMethod yX7_no, Cond.selects RX7 yX7_no yX7_no, Cond.code yX7_no cX7_no 2 (some .int), Cond.methodLink RX7 114 yX7_isStrength, Cond.static yX7_isStrength, Cond.code yX7_isStrength cX7_isStrength 1 (some .boolean), Cond.methodLink RX7 99 yX7_setUp, Cond.instanceMethod yX7_setUp, Cond.selects RX7 yX7_setUp yX7_setUp, Cond.code yX7_setUp cX7_setUp 9 none, Cond.arrayClass .int, Cond.fieldLink RX7 9 "SnowFencesModel" "fence" "[I", Cond.methodLink RX7 70 arraycopyName, Cond.native arraycopyName]
def wsX7_advise_r2 : List Cond := [Cond.static arraycopyName, Cond.initialized "java/lang/System", Cond.methodLink RX7 117 yX7_stand, Cond.instanceMethod yX7_stand, Cond.selects RX7 yX7_stand yX7_stand, Cond.code yX7_stand cX7_stand 6 none, Cond.fieldLink RX7 29 "SnowFencesModel" "top" "[I", Cond.methodLink RX7 45 yX7_of, Cond.instanceMethod yX7_of, Cond.selects RX7 yX7_of yX7_of, Cond.code yX7_of cX7_of 3 (some .int), Cond.methodLink RX7 49 yX7_cell, Cond.instanceMethod yX7_cell, Cond.selects RX7 yX7_cell yX7_cell, Cond.code yX7_cell cX7_cell 3 (some .int), Cond.methodLink RX7 152 yX7_tried, Cond.instanceMethod yX7_tried, Cond.selects RX7 yX7_tried yX7_tried, Cond.code yX7_tried cX7_tried 4 (some .int), Cond.methodLink RX7 83 yX7_keep, Cond.instanceMethod yX7_keep, Cond.selects RX7 yX7_keep yX7_keep, Cond.code yX7_keep cX7_keep 1 none, Cond.fieldLink RX7 23 "SnowFencesModel" "snow" "[I"]
def wsX7_advise_r3 : List Cond := [Cond.fieldLink RX7 26 "SnowFencesModel" "kept" "[I", Cond.methodLink RX7 86 yX7_blown, Cond.instanceMethod yX7_blown, Cond.selects RX7 yX7_blown yX7_blown, Cond.code yX7_blown cX7_blown 6 (some .int), Cond.methodLink RX7 67 yX7_hour, Cond.instanceMethod yX7_hour, Cond.selects RX7 yX7_hour yX7_hour, Cond.code yX7_hour cX7_hour 7 (some .int), Cond.methodLink RX7 63 yX7_line, Cond.instanceMethod yX7_line, Cond.selects RX7 yX7_line yX7_line, Cond.code yX7_line cX7_line 14 (some .int), Cond.fieldLink RX7 52 "SnowFencesModel" "supply" "I", Cond.methodLink RX7 55 Lib.Math.min.name, Cond.static Lib.Math.min.name, Cond.initialized "java/lang/Math", Cond.code Lib.Math.min.name Lib.Math.min.code 2 (some .int), Cond.methodLink RX7 60 Lib.Math.max.name, Cond.static Lib.Math.max.name, Cond.code Lib.Math.max.name Lib.Math.max.code 2 (some .int), Cond.methodLink RX7 89 yX7_allBlocked, Cond.instanceMethod yX7_allBlocked, Cond.selects RX7 yX7_allBlocked yX7_allBlocked]
def wsX7_advise_r4 : List Cond := [Cond.code yX7_allBlocked cX7_allBlocked 3 (some .int), Cond.fieldLink RX7 42 "SnowFencesModel" "roads" "I", Cond.methodLink RX7 79 yX7_blocked, Cond.instanceMethod yX7_blocked, Cond.selects RX7 yX7_blocked yX7_blocked, Cond.code yX7_blocked cX7_blocked 4 (some .int), Cond.fieldLink RX7 19 "SnowFencesModel" "limit" "I", Cond.methodLink RX7 76 yX7_cellOf, Cond.instanceMethod yX7_cellOf, Cond.selects RX7 yX7_cellOf yX7_cellOf, Cond.code yX7_cellOf cX7_cellOf 3 (some .int), Cond.fieldLink RX7 13 "SnowFencesModel" "isDown" "[I", Cond.fieldLink RX7 16 "SnowFencesModel" "index" "[I", Cond.methodLink RX7 93 yX7_bringBack, Cond.instanceMethod yX7_bringBack, Cond.selects RX7 yX7_bringBack yX7_bringBack, Cond.code yX7_bringBack cX7_bringBack 1 none]
def wsX7_advise : List Cond := .code yX7_advise cX7_advise 9 (some .int) :: ((wsX7_advise_r1 ++ (wsX7_advise_r2 ++ (wsX7_advise_r3 ++ wsX7_advise_r4))) ++ wsX70)
def wsX7_harmful_r1 : List Cond := [Cond.fieldLink RX7 32 "SnowFencesModel" "thrown" "I", Cond.fieldLink RX7 35 "SnowFencesModel" "fences" "I", Cond.methodLink RX7 111 yX7_isWind, Cond.static yX7_isWind, Cond.initialized RX7, Cond.code yX7_isWind cX7_isWind 1 (some .boolean), Cond.methodLink RX7 38 yX7_isIn, Cond.static yX7_isIn, Cond.code yX7_isIn cX7_isIn 3 (some .boolean), Cond.methodLink RX7 96 yX7_no, Cond.instanceMethod yX7_no, Cond.selects RX7 yX7_no yX7_no, Cond.code yX7_no cX7_no 2 (some .int), Cond.methodLink RX7 114 yX7_isStrength, Cond.static yX7_isStrength, Cond.code yX7_isStrength cX7_isStrength 1 (some .boolean), Cond.methodLink RX7 117 yX7_stand, Cond.instanceMethod yX7_stand, Cond.selects RX7 yX7_stand yX7_stand, Cond.code yX7_stand cX7_stand 6 none, Cond.fieldLink RX7 29 "SnowFencesModel" "top" "[I", Cond.methodLink RX7 45 yX7_of, Cond.instanceMethod yX7_of, Cond.selects RX7 yX7_of yX7_of]
def wsX7_harmful_r2 : List Cond := [Cond.code yX7_of cX7_of 3 (some .int), Cond.fieldLink RX7 9 "SnowFencesModel" "fence" "[I", Cond.methodLink RX7 49 yX7_cell, Cond.instanceMethod yX7_cell, Cond.selects RX7 yX7_cell yX7_cell, Cond.code yX7_cell cX7_cell 3 (some .int), Cond.methodLink RX7 152 yX7_tried, Cond.instanceMethod yX7_tried, Cond.selects RX7 yX7_tried yX7_tried, Cond.code yX7_tried cX7_tried 4 (some .int), Cond.methodLink RX7 83 yX7_keep, Cond.instanceMethod yX7_keep, Cond.selects RX7 yX7_keep yX7_keep, Cond.code yX7_keep cX7_keep 1 none, Cond.fieldLink RX7 23 "SnowFencesModel" "snow" "[I", Cond.fieldLink RX7 26 "SnowFencesModel" "kept" "[I", Cond.methodLink RX7 70 arraycopyName, Cond.native arraycopyName, Cond.static arraycopyName, Cond.initialized "java/lang/System", Cond.methodLink RX7 86 yX7_blown, Cond.instanceMethod yX7_blown, Cond.selects RX7 yX7_blown yX7_blown, Cond.code yX7_blown cX7_blown 6 (some .int)]
def wsX7_harmful_r3 : List Cond := [Cond.methodLink RX7 67 yX7_hour, Cond.instanceMethod yX7_hour, Cond.selects RX7 yX7_hour yX7_hour, Cond.code yX7_hour cX7_hour 7 (some .int), Cond.methodLink RX7 63 yX7_line, Cond.instanceMethod yX7_line, Cond.selects RX7 yX7_line yX7_line, Cond.code yX7_line cX7_line 14 (some .int), Cond.fieldLink RX7 52 "SnowFencesModel" "supply" "I", Cond.methodLink RX7 55 Lib.Math.min.name, Cond.static Lib.Math.min.name, Cond.initialized "java/lang/Math", Cond.code Lib.Math.min.name Lib.Math.min.code 2 (some .int), Cond.methodLink RX7 60 Lib.Math.max.name, Cond.static Lib.Math.max.name, Cond.code Lib.Math.max.name Lib.Math.max.code 2 (some .int), Cond.methodLink RX7 89 yX7_allBlocked, Cond.instanceMethod yX7_allBlocked, Cond.selects RX7 yX7_allBlocked yX7_allBlocked, Cond.code yX7_allBlocked cX7_allBlocked 3 (some .int), Cond.fieldLink RX7 42 "SnowFencesModel" "roads" "I", Cond.methodLink RX7 79 yX7_blocked, Cond.instanceMethod yX7_blocked, Cond.selects RX7 yX7_blocked yX7_blocked]
def wsX7_harmful_r4 : List Cond := [Cond.code yX7_blocked cX7_blocked 4 (some .int), Cond.fieldLink RX7 19 "SnowFencesModel" "limit" "I", Cond.methodLink RX7 76 yX7_cellOf, Cond.instanceMethod yX7_cellOf, Cond.selects RX7 yX7_cellOf yX7_cellOf, Cond.code yX7_cellOf cX7_cellOf 3 (some .int), Cond.fieldLink RX7 13 "SnowFencesModel" "isDown" "[I", Cond.fieldLink RX7 16 "SnowFencesModel" "index" "[I", Cond.methodLink RX7 93 yX7_bringBack, Cond.instanceMethod yX7_bringBack, Cond.selects RX7 yX7_bringBack yX7_bringBack, Cond.code yX7_bringBack cX7_bringBack 1 none]
def wsX7_harmful : List Cond := .code yX7_harmful cX7_harmful 7 (some .int) :: ((wsX7_harmful_r1 ++ (wsX7_harmful_r2 ++ (wsX7_harmful_r3 ++ wsX7_harmful_r4))) ++ wsX70)
def wsX7_mean : List Cond := .code yX7_mean cX7_mean 1 (some .double) :: ([.fieldLink RX7 32 "SnowFencesModel" "thrown" "I", .constantDouble RX7 155 (4645744490609377280), .methodLink RX7 145 yX7_all, .instanceMethod yX7_all, .selects RX7 yX7_all yX7_all, .initialized RX7, .code yX7_all cX7_all 8 (some .int), .fieldLink RX7 23 "SnowFencesModel" "snow" "[I", .methodLink RX7 60 Lib.Math.max.name, .static Lib.Math.max.name, .initialized "java/lang/Math", .code Lib.Math.max.name Lib.Math.max.code 2 (some .int)] ++ wsX70)
def wsX7_digest_r1 : List Cond := [Cond.fieldLink RX7 32 "SnowFencesModel" "thrown" "I", Cond.constantLong RX7 157 (1777), Cond.constantLong RX7 159 (31), Cond.fieldLink RX7 35 "SnowFencesModel" "fences" "I", Cond.fieldLink RX7 42 "SnowFencesModel" "roads" "I", Cond.fieldLink RX7 23 "SnowFencesModel" "snow" "[I", Cond.methodLink RX7 149 yX7_counted, Cond.instanceMethod yX7_counted, Cond.selects RX7 yX7_counted yX7_counted, Cond.initialized RX7, Cond.code yX7_counted cX7_counted 2 (some .int), Cond.fieldLink RX7 121 "SnowFencesModel" "off" "I", Cond.fieldLink RX7 133 "SnowFencesModel" "ploughed" "I", Cond.fieldLink RX7 124 "SnowFencesModel" "hours" "I", Cond.fieldLink RX7 19 "SnowFencesModel" "limit" "I", Cond.fieldLink RX7 52 "SnowFencesModel" "supply" "I", Cond.methodLink RX7 145 yX7_all, Cond.instanceMethod yX7_all, Cond.selects RX7 yX7_all yX7_all, Cond.code yX7_all cX7_all 8 (some .int), Cond.methodLink RX7 60 Lib.Math.max.name, Cond.static Lib.Math.max.name, Cond.initialized "java/lang/Math", Cond.code Lib.Math.max.name Lib.Math.max.code 2 (some .int)]
def wsX7_digest_r2 : List Cond := [Cond.methodLink RX7 89 yX7_allBlocked, Cond.instanceMethod yX7_allBlocked, Cond.selects RX7 yX7_allBlocked yX7_allBlocked, Cond.code yX7_allBlocked cX7_allBlocked 3 (some .int), Cond.methodLink RX7 79 yX7_blocked, Cond.instanceMethod yX7_blocked, Cond.selects RX7 yX7_blocked yX7_blocked, Cond.code yX7_blocked cX7_blocked 4 (some .int), Cond.methodLink RX7 76 yX7_cellOf, Cond.instanceMethod yX7_cellOf, Cond.selects RX7 yX7_cellOf yX7_cellOf, Cond.code yX7_cellOf cX7_cellOf 3 (some .int), Cond.fieldLink RX7 13 "SnowFencesModel" "isDown" "[I", Cond.fieldLink RX7 16 "SnowFencesModel" "index" "[I", Cond.methodLink RX7 136 yX7_fenceTold, Cond.instanceMethod yX7_fenceTold, Cond.selects RX7 yX7_fenceTold yX7_fenceTold, Cond.code yX7_fenceTold cX7_fenceTold 5 (some .int), Cond.methodLink RX7 45 yX7_of, Cond.instanceMethod yX7_of, Cond.selects RX7 yX7_of yX7_of, Cond.code yX7_of cX7_of 3 (some .int), Cond.fieldLink RX7 9 "SnowFencesModel" "fence" "[I", Cond.methodLink RX7 49 yX7_cell]
def wsX7_digest_r3 : List Cond := [Cond.instanceMethod yX7_cell, Cond.selects RX7 yX7_cell yX7_cell, Cond.code yX7_cell cX7_cell 3 (some .int), Cond.methodLink RX7 142 yX7_roadTold, Cond.instanceMethod yX7_roadTold, Cond.selects RX7 yX7_roadTold yX7_roadTold, Cond.code yX7_roadTold cX7_roadTold 3 (some .int), Cond.methodLink RX7 130 yX7_onRoad, Cond.instanceMethod yX7_onRoad, Cond.selects RX7 yX7_onRoad yX7_onRoad, Cond.code yX7_onRoad cX7_onRoad 4 (some .int), Cond.methodLink RX7 139 yX7_deepest, Cond.instanceMethod yX7_deepest, Cond.selects RX7 yX7_deepest yX7_deepest, Cond.code yX7_deepest cX7_deepest 4 (some .int)]
def wsX7_digest : List Cond := .code yX7_digest cX7_digest 7 (some .long) :: ((wsX7_digest_r1 ++ (wsX7_digest_r2 ++ wsX7_digest_r3)) ++ wsX70)
def wsJ9_max_7cf53 : List Cond := .code yJ9_max_7cf53 cJ9_max_7cf53 2 (some .int) :: ([])
def wsJ9_min_7cf53 : List Cond := .code yJ9_min_7cf53 cJ9_min_7cf53 2 (some .int) :: ([])
set_option maxRecDepth 20000 in
theorem ggX1_becomeLike_X1_depth : GoodIn wsX1_becomeLike wsX1_depth := goodIn_r _ [5, 6, 11] (by decide +kernel) (by decide +kernel)
set_option maxRecDepth 20000 in
theorem gX1_becomeLike_X1_depth : GoodIn wsX1_becomeLike (wsV RX1 15 RX1 yX1_depth wsX1_depth) := goodIn_app (goodIn_of _ (by decide +kernel)) ggX1_becomeLike_X1_depth
set_option maxRecDepth 20000 in
theorem ggX1_becomeLike_X1_put : GoodIn wsX1_becomeLike wsX1_put := goodIn_r _ [10, 6, 11] (by decide +kernel) (by decide +kernel)
set_option maxRecDepth 20000 in
theorem gX1_becomeLike_X1_put : GoodIn wsX1_becomeLike (wsV RX1 19 RX1 yX1_put wsX1_put) := goodIn_app (goodIn_of _ (by decide +kernel)) ggX1_becomeLike_X1_put
set_option maxRecDepth 20000 in
theorem ggX1_clear_X4_cell : GoodIn wsX1_clear wsX4_cell := goodIn_r _ [6, 7, 8, 15, 16, 17] (by decide +kernel) (by decide +kernel)
set_option maxRecDepth 20000 in
theorem gX1_clear_X4_cell : GoodIn wsX1_clear (wsV RX1 29 RX4 yX4_cell wsX4_cell) := goodIn_app (goodIn_of _ (by decide +kernel)) ggX1_clear_X4_cell
set_option maxRecDepth 20000 in
theorem ggX1_clear_X1_put : GoodIn wsX1_clear wsX1_put := goodIn_r _ [13, 14, 18] (by decide +kernel) (by decide +kernel)
set_option maxRecDepth 20000 in
theorem gX1_clear_X1_put : GoodIn wsX1_clear (wsV RX1 19 RX1 yX1_put wsX1_put) := goodIn_app (goodIn_of _ (by decide +kernel)) ggX1_clear_X1_put
set_option maxRecDepth 20000 in
theorem ggX1_sum_X4_cell : GoodIn wsX1_sum wsX4_cell := goodIn_r _ [6, 7, 8, 15, 16, 17] (by decide +kernel) (by decide +kernel)
set_option maxRecDepth 20000 in
theorem gX1_sum_X4_cell : GoodIn wsX1_sum (wsV RX1 29 RX4 yX4_cell wsX4_cell) := goodIn_app (goodIn_of _ (by decide +kernel)) ggX1_sum_X4_cell
set_option maxRecDepth 20000 in
theorem ggX1_sum_X1_depth : GoodIn wsX1_sum wsX1_depth := goodIn_r _ [13, 14, 18] (by decide +kernel) (by decide +kernel)
set_option maxRecDepth 20000 in
theorem gX1_sum_X1_depth : GoodIn wsX1_sum (wsV RX1 15 RX1 yX1_depth wsX1_depth) := goodIn_app (goodIn_of _ (by decide +kernel)) ggX1_sum_X1_depth
set_option maxRecDepth 20000 in
theorem ggX1_most_X4_cell : GoodIn wsX1_most wsX4_cell := goodIn_r _ [10, 11, 12, 19, 20, 21] (by decide +kernel) (by decide +kernel)
set_option maxRecDepth 20000 in
theorem gX1_most_X4_cell : GoodIn wsX1_most (wsV RX1 29 RX4 yX4_cell wsX4_cell) := goodIn_app (goodIn_of _ (by decide +kernel)) ggX1_most_X4_cell
set_option maxRecDepth 20000 in
theorem ggX1_most_X1_depth : GoodIn wsX1_most wsX1_depth := goodIn_r _ [17, 18, 22] (by decide +kernel) (by decide +kernel)
set_option maxRecDepth 20000 in
theorem gX1_most_X1_depth : GoodIn wsX1_most (wsV RX1 15 RX1 yX1_depth wsX1_depth) := goodIn_app (goodIn_of _ (by decide +kernel)) ggX1_most_X1_depth
set_option maxRecDepth 20000 in
theorem ggX1_blocked_X4_cell : GoodIn wsX1_blocked wsX4_cell := goodIn_r _ [6, 7, 8, 15, 16, 17] (by decide +kernel) (by decide +kernel)
set_option maxRecDepth 20000 in
theorem gX1_blocked_X4_cell : GoodIn wsX1_blocked (wsV RX1 29 RX4 yX4_cell wsX4_cell) := goodIn_app (goodIn_of _ (by decide +kernel)) ggX1_blocked_X4_cell
set_option maxRecDepth 20000 in
theorem ggX1_blocked_X1_depth : GoodIn wsX1_blocked wsX1_depth := goodIn_r _ [13, 14, 18] (by decide +kernel) (by decide +kernel)
set_option maxRecDepth 20000 in
theorem gX1_blocked_X1_depth : GoodIn wsX1_blocked (wsV RX1 15 RX1 yX1_depth wsX1_depth) := goodIn_app (goodIn_of _ (by decide +kernel)) ggX1_blocked_X1_depth
set_option maxRecDepth 20000 in
theorem ggX3_clear_X3_stand : GoodIn wsX3_clear wsX3_stand := goodIn_r _ [5, 6, 7, 8, 9] (by decide +kernel) (by decide +kernel)
set_option maxRecDepth 20000 in
theorem gX3_clear_X3_stand : GoodIn wsX3_clear (wsV RX3 18 RX3 yX3_stand wsX3_stand) := goodIn_app (goodIn_of _ (by decide +kernel)) ggX3_clear_X3_stand
set_option maxRecDepth 20000 in
theorem ggX3_add_X4_cell : GoodIn wsX3_add wsX4_cell := goodIn_r _ [6, 7, 8, 20, 21, 22] (by decide +kernel) (by decide +kernel)
set_option maxRecDepth 20000 in
theorem gX3_add_X4_cell : GoodIn wsX3_add (wsV RX3 28 RX4 yX4_cell wsX4_cell) := goodIn_app (goodIn_of _ (by decide +kernel)) ggX3_add_X4_cell
set_option maxRecDepth 20000 in
theorem ggX3_add_X3_height : GoodIn wsX3_add wsX3_height := goodIn_r _ [13, 14, 23, 24] (by decide +kernel) (by decide +kernel)
set_option maxRecDepth 20000 in
theorem gX3_add_X3_height : GoodIn wsX3_add (wsV RX3 32 RX3 yX3_height wsX3_height) := goodIn_app (goodIn_of _ (by decide +kernel)) ggX3_add_X3_height
set_option maxRecDepth 20000 in
theorem ggX3_add_X3_stand : GoodIn wsX3_add wsX3_stand := goodIn_r _ [18, 14, 19, 23, 24] (by decide +kernel) (by decide +kernel)
set_option maxRecDepth 20000 in
theorem gX3_add_X3_stand : GoodIn wsX3_add (wsV RX3 18 RX3 yX3_stand wsX3_stand) := goodIn_app (goodIn_of _ (by decide +kernel)) ggX3_add_X3_stand
set_option maxRecDepth 20000 in
theorem ggX5_crossField_X5_passLine : GoodIn wsX5_crossField wsX5_passLine := goodIn_r _ [7, 8, 9, 10, 11, 12, 13, 14, 15, 6, 16, 17, 18, 19, 20, 21, 22, 23, 24, 25, 26, 27, 28, 29, 30, 31, 32, 33, 34, 35, 36, 37, 38, 39, 40, 41, 42, 43, 44, 45, 46, 47, 48, 49, 50, 51, 52, 53, 54, 55, 56, 57, 58, 59, 60, 61, 62, 63, 64, 65, 66, 67] (by decide +kernel) (by decide +kernel)
set_option maxRecDepth 20000 in
theorem gX5_crossField_X5_passLine : GoodIn wsX5_crossField (wsV RX5 31 RX5 yX5_passLine wsX5_passLine) := goodIn_app (goodIn_of _ (by decide +kernel)) ggX5_crossField_X5_passLine
set_option maxRecDepth 20000 in
theorem ggX5_passLine_X5_passCell : GoodIn wsX5_passLine wsX5_passCell := goodIn_r _ [10, 3, 4, 11, 2, 12, 13, 14, 15, 16, 17, 18, 19, 20, 21, 22, 23, 24, 25, 26, 27, 28, 29, 30, 31, 32, 33, 34, 35, 9, 36, 37, 38, 39, 40, 41, 42, 43, 44, 45, 46, 47, 48, 49, 50, 51, 52, 53, 54, 55, 56, 57, 58, 59, 60, 61] (by decide +kernel) (by decide +kernel)
set_option maxRecDepth 20000 in
theorem gX5_passLine_X5_passCell : GoodIn wsX5_passLine (wsV RX5 44 RX5 yX5_passCell wsX5_passCell) := goodIn_app (goodIn_of _ (by decide +kernel)) ggX5_passLine_X5_passCell
set_option maxRecDepth 20000 in
theorem ggX5_passCell_X3_height : GoodIn wsX5_passCell wsX3_height := goodIn_r _ [13, 14, 53, 54] (by decide +kernel) (by decide +kernel)
set_option maxRecDepth 20000 in
theorem gX5_passCell_X3_height : GoodIn wsX5_passCell (wsV RX5 48 RX3 yX3_height wsX3_height) := goodIn_app (goodIn_of _ (by decide +kernel)) ggX5_passCell_X3_height
set_option maxRecDepth 20000 in
theorem ggX5_passCell_X3_gap : GoodIn wsX5_passCell wsX3_gap := goodIn_r _ [18, 19, 53, 54] (by decide +kernel) (by decide +kernel)
set_option maxRecDepth 20000 in
theorem gX5_passCell_X3_gap : GoodIn wsX5_passCell (wsV RX5 54 RX3 yX3_gap wsX3_gap) := goodIn_app (goodIn_of _ (by decide +kernel)) ggX5_passCell_X3_gap
set_option maxRecDepth 20000 in
theorem ggX5_passCell_X1_depth : GoodIn wsX5_passCell wsX1_depth := goodIn_r _ [24, 25, 55] (by decide +kernel) (by decide +kernel)
set_option maxRecDepth 20000 in
theorem gX5_passCell_X1_depth : GoodIn wsX5_passCell (wsV RX5 60 RX1 yX1_depth wsX1_depth) := goodIn_app (goodIn_of _ (by decide +kernel)) ggX5_passCell_X1_depth
set_option maxRecDepth 20000 in
theorem ggX5_passCell_X5_dropped : GoodIn wsX5_passCell wsX5_dropped := goodIn_r _ [30, 4, 31, 32, 7, 33, 3, 5, 6, 8, 43, 44, 45, 46, 47, 48, 49, 50, 51, 52] (by decide +kernel) (by decide +kernel)
set_option maxRecDepth 20000 in
theorem gX5_passCell_X5_dropped : GoodIn wsX5_passCell (wsV RX5 65 RX5 yX5_dropped wsX5_dropped) := goodIn_app (goodIn_of _ (by decide +kernel)) ggX5_passCell_X5_dropped
set_option maxRecDepth 20000 in
theorem ggX5_passCell_X5_pickedUp : GoodIn wsX5_passCell wsX5_pickedUp := goodIn_r _ [37, 38, 31, 32, 7, 33, 4, 5, 6, 8, 43, 44, 45, 46, 47, 48, 49, 50, 51, 52] (by decide +kernel) (by decide +kernel)
set_option maxRecDepth 20000 in
theorem gX5_passCell_X5_pickedUp : GoodIn wsX5_passCell (wsV RX5 68 RX5 yX5_pickedUp wsX5_pickedUp) := goodIn_app (goodIn_of _ (by decide +kernel)) ggX5_passCell_X5_pickedUp
set_option maxRecDepth 20000 in
theorem ggX5_passCell_X1_put : GoodIn wsX5_passCell wsX1_put := goodIn_r _ [42, 25, 55] (by decide +kernel) (by decide +kernel)
set_option maxRecDepth 20000 in
theorem gX5_passCell_X1_put : GoodIn wsX5_passCell (wsV RX5 71 RX1 yX1_put wsX1_put) := goodIn_app (goodIn_of _ (by decide +kernel)) ggX5_passCell_X1_put
set_option maxRecDepth 20000 in
theorem ggX6_init_Jx4a65c_init_da8c8 : GoodIn wsX6_init wsJx4a65c_init_da8c8 := goodIn_r _ [25, 26, 27, 28, 29, 30, 31, 32, 33, 34, 35, 36, 37, 2, 3, 55, 56, 57] (by decide +kernel) (by decide +kernel)
set_option maxRecDepth 20000 in
theorem gX6_init_Jx4a65c_init_da8c8 : GoodIn wsX6_init (wsJx4a65c_init_da8c8) := ggX6_init_Jx4a65c_init_da8c8
set_option maxRecDepth 20000 in
theorem ggX6_init_X4_init : GoodIn wsX6_init wsX4_init := goodIn_r _ [40, 41, 2, 3, 42, 43, 44, 69, 70, 71] (by decide +kernel) (by decide +kernel)
set_option maxRecDepth 20000 in
theorem gX6_init_X4_init : GoodIn wsX6_init (wsX4_init) := ggX6_init_X4_init
set_option maxRecDepth 20000 in
theorem ggX6_init_X1_init : GoodIn wsX6_init wsX1_init := goodIn_r _ [46, 47, 2, 3, 48, 49, 72] (by decide +kernel) (by decide +kernel)
set_option maxRecDepth 20000 in
theorem gX6_init_X1_init_n30 : GoodIn wsX6_init (wsX1_init) := ggX6_init_X1_init
set_option maxRecDepth 20000 in
theorem ggX6_init_X3_init : GoodIn wsX6_init wsX3_init := goodIn_r _ [51, 52, 2, 3, 48, 53, 54, 73, 74] (by decide +kernel) (by decide +kernel)
set_option maxRecDepth 20000 in
theorem gX6_init_X3_init_n40 : GoodIn wsX6_init (wsX3_init) := ggX6_init_X3_init
set_option maxRecDepth 20000 in
theorem ggX6_fence_X6_needHeight : GoodIn wsX6_fence wsX6_needHeight := goodIn_ca (goodIn_r _ [15, 1, 2] (by decide +kernel) (by decide +kernel)) (goodIn_sub (fun _ h => List.mem_cons_of_mem _ (List.mem_append_left _ (List.mem_append_left _ (List.mem_append_right _ h)))) (by decide +kernel))
set_option maxRecDepth 20000 in
theorem gX6_fence_X6_needHeight : GoodIn wsX6_fence (va_wsS RX6 56 yX6_needHeight wsX6_needHeight) := goodIn_app (goodIn_of _ (by decide +kernel)) ggX6_fence_X6_needHeight
set_option maxRecDepth 20000 in
theorem ggX6_fence_X6_needGap : GoodIn wsX6_fence wsX6_needGap := goodIn_ca (goodIn_r _ [18, 1, 2] (by decide +kernel) (by decide +kernel)) (goodIn_sub (fun _ h => List.mem_cons_of_mem _ (List.mem_append_left _ (List.mem_append_left _ (List.mem_append_right _ h)))) (by decide +kernel))
set_option maxRecDepth 20000 in
theorem gX6_fence_X6_needGap : GoodIn wsX6_fence (va_wsS RX6 60 yX6_needGap wsX6_needGap) := goodIn_app (goodIn_of _ (by decide +kernel)) ggX6_fence_X6_needGap
set_option maxRecDepth 20000 in
theorem ggX6_fence_X6_needIndex : GoodIn wsX6_fence wsX6_needIndex := goodIn_ca (goodIn_r _ [21, 22, 23] (by decide +kernel) (by decide +kernel)) (goodIn_sub (fun _ h => List.mem_cons_of_mem _ (List.mem_append_right _ h)) (by decide +kernel))
set_option maxRecDepth 20000 in
theorem gX6_fence_X6_needIndex : GoodIn wsX6_fence (va_wsS RX6 63 yX6_needIndex wsX6_needIndex) := goodIn_app (goodIn_of _ (by decide +kernel)) ggX6_fence_X6_needIndex
set_option maxRecDepth 20000 in
theorem ggX6_fence_Jx4a65c_size_8abf5 : GoodIn wsX6_fence wsJx4a65c_size_8abf5 := goodIn_r _ [28, 29, 121, 122, 123] (by decide +kernel) (by decide +kernel)
set_option maxRecDepth 20000 in
theorem gX6_fence_Jx4a65c_size_8abf5 : GoodIn wsX6_fence (wsV RX6 67 RJx4a65c yJx4a65c_size_8abf5 wsJx4a65c_size_8abf5) := goodIn_app (goodIn_of _ (by decide +kernel)) ggX6_fence_Jx4a65c_size_8abf5
set_option maxRecDepth 20000 in
theorem ggX6_fence_X4_init : GoodIn wsX6_fence wsX4_init := goodIn_r _ [32, 33, 34, 35, 36, 37, 38, 118, 119, 120] (by decide +kernel) (by decide +kernel)
set_option maxRecDepth 20000 in
theorem gX6_fence_X4_init : GoodIn wsX6_fence (wsX4_init) := ggX6_fence_X4_init
set_option maxRecDepth 20000 in
theorem ggX6_fence_X0_init : GoodIn wsX6_fence wsX0_init := goodIn_r _ [41, 42, 34, 35, 43, 44, 45, 46, 47, 113, 114, 115, 116, 117] (by decide +kernel) (by decide +kernel)
set_option maxRecDepth 20000 in
theorem gX6_fence_X0_init : GoodIn wsX6_fence (wsX0_init) := ggX6_fence_X0_init
set_option maxRecDepth 20000 in
theorem ggX6_fence_Jx4a65c_add_9ea2d : GoodIn wsX6_fence wsJx4a65c_add_9ea2d := goodIn_r _ [51, 52, 53, 54, 29, 55, 56, 57, 27, 58, 59, 60, 61, 62, 63, 64, 65, 66, 67, 68, 69, 70, 71, 72, 73, 74, 75, 76, 77, 78, 79, 80, 81, 82, 83, 84, 85, 86, 87, 88, 89, 90, 91, 92, 93, 94, 95, 96, 97, 98, 99, 100, 101, 121, 122, 123] (by decide +kernel) (by decide +kernel)
set_option maxRecDepth 20000 in
theorem gX6_fence_Jx4a65c_add_9ea2d : GoodIn wsX6_fence (wsV RX6 81 RJx4a65c yJx4a65c_add_9ea2d wsJx4a65c_add_9ea2d) := goodIn_app (goodIn_of _ (by decide +kernel)) ggX6_fence_Jx4a65c_add_9ea2d
set_option maxRecDepth 20000 in
theorem ggX6_change_Jx4a65c_size_8abf5 : GoodIn wsX6_change wsJx4a65c_size_8abf5 := goodIn_r _ [9, 10, 58, 59, 60] (by decide +kernel) (by decide +kernel)
set_option maxRecDepth 20000 in
theorem gX6_change_Jx4a65c_size_8abf5 : GoodIn wsX6_change (wsV RX6 67 RJx4a65c yJx4a65c_size_8abf5 wsJx4a65c_size_8abf5) := goodIn_app (goodIn_of _ (by decide +kernel)) ggX6_change_Jx4a65c_size_8abf5
set_option maxRecDepth 20000 in
theorem ggX6_change_X6_needIndex : GoodIn wsX6_change wsX6_needIndex := goodIn_ca (goodIn_r _ [14, 15, 16] (by decide +kernel) (by decide +kernel)) (goodIn_sub (fun _ h => List.mem_cons_of_mem _ (List.mem_append_left _ (List.mem_append_right _ h))) (by decide +kernel))
set_option maxRecDepth 20000 in
theorem gX6_change_X6_needIndex : GoodIn wsX6_change (va_wsS RX6 63 yX6_needIndex wsX6_needIndex) := goodIn_app (goodIn_of _ (by decide +kernel)) ggX6_change_X6_needIndex
set_option maxRecDepth 20000 in
theorem ggX6_change_X6_needHeight : GoodIn wsX6_change wsX6_needHeight := goodIn_ca (goodIn_r _ [19, 20, 21] (by decide +kernel) (by decide +kernel)) (goodIn_sub (fun _ h => List.mem_cons_of_mem _ (List.mem_append_right _ h)) (by decide +kernel))
set_option maxRecDepth 20000 in
theorem gX6_change_X6_needHeight : GoodIn wsX6_change (va_wsS RX6 56 yX6_needHeight wsX6_needHeight) := goodIn_app (goodIn_of _ (by decide +kernel)) ggX6_change_X6_needHeight
set_option maxRecDepth 20000 in
theorem ggX6_change_X6_needGap : GoodIn wsX6_change wsX6_needGap := goodIn_ca (goodIn_r _ [24, 20, 21] (by decide +kernel) (by decide +kernel)) (goodIn_sub (fun _ h => List.mem_cons_of_mem _ (List.mem_append_right _ h)) (by decide +kernel))
set_option maxRecDepth 20000 in
theorem gX6_change_X6_needGap : GoodIn wsX6_change (va_wsS RX6 60 yX6_needGap wsX6_needGap) := goodIn_app (goodIn_of _ (by decide +kernel)) ggX6_change_X6_needGap
set_option maxRecDepth 20000 in
theorem ggX6_change_Jx4a65c_get_915e3 : GoodIn wsX6_change wsJx4a65c_get_915e3 := goodIn_r _ [28, 10, 29, 30, 31, 32, 33, 34, 35, 36, 37, 38, 39, 8, 40, 41, 58, 59, 60] (by decide +kernel) (by decide +kernel)
set_option maxRecDepth 20000 in
theorem gX6_change_Jx4a65c_get_915e3 : GoodIn wsX6_change (wsV RX6 85 RJx4a65c yJx4a65c_get_915e3 wsJx4a65c_get_915e3) := goodIn_app (goodIn_of _ (by decide +kernel)) ggX6_change_Jx4a65c_get_915e3
set_option maxRecDepth 20000 in
theorem ggX6_take_Jx4a65c_size_8abf5 : GoodIn wsX6_take wsJx4a65c_size_8abf5 := goodIn_r _ [6, 7, 48, 49, 50] (by decide +kernel) (by decide +kernel)
set_option maxRecDepth 20000 in
theorem gX6_take_Jx4a65c_size_8abf5 : GoodIn wsX6_take (wsV RX6 67 RJx4a65c yJx4a65c_size_8abf5 wsJx4a65c_size_8abf5) := goodIn_app (goodIn_of _ (by decide +kernel)) ggX6_take_Jx4a65c_size_8abf5
set_option maxRecDepth 20000 in
theorem ggX6_take_X6_needIndex : GoodIn wsX6_take wsX6_needIndex := goodIn_ca (goodIn_r _ [11, 12, 13] (by decide +kernel) (by decide +kernel)) (goodIn_sub (fun _ h => List.mem_cons_of_mem _ (List.mem_append_right _ h)) (by decide +kernel))
set_option maxRecDepth 20000 in
theorem gX6_take_X6_needIndex : GoodIn wsX6_take (va_wsS RX6 63 yX6_needIndex wsX6_needIndex) := goodIn_app (goodIn_of _ (by decide +kernel)) ggX6_take_X6_needIndex
set_option maxRecDepth 20000 in
theorem ggX6_take_Jx4a65c_remove_915e3 : GoodIn wsX6_take wsJx4a65c_remove_915e3 := goodIn_r _ [17, 7, 18, 19, 20, 21, 22, 23, 24, 25, 26, 27, 28, 29, 5, 30, 31, 32, 33, 34, 35, 36, 48, 49, 50] (by decide +kernel) (by decide +kernel)
set_option maxRecDepth 20000 in
theorem gX6_take_Jx4a65c_remove_915e3 : GoodIn wsX6_take (wsV RX6 95 RJx4a65c yJx4a65c_remove_915e3 wsJx4a65c_remove_915e3) := goodIn_app (goodIn_of _ (by decide +kernel)) ggX6_take_Jx4a65c_remove_915e3
set_option maxRecDepth 20000 in
theorem ggX6_road_X6_needIndex : GoodIn wsX6_road wsX6_needIndex := goodIn_ca (goodIn_r _ [10, 11, 12] (by decide +kernel) (by decide +kernel)) (goodIn_sub (fun _ h => List.mem_cons_of_mem _ (List.mem_append_right _ h)) (by decide +kernel))
set_option maxRecDepth 20000 in
theorem gX6_road_X6_needIndex : GoodIn wsX6_road (va_wsS RX6 63 yX6_needIndex wsX6_needIndex) := goodIn_app (goodIn_of _ (by decide +kernel)) ggX6_road_X6_needIndex
set_option maxRecDepth 20000 in
theorem ggX6_road_Jx4a65c_size_8abf5 : GoodIn wsX6_road wsJx4a65c_size_8abf5 := goodIn_r _ [17, 18, 107, 108, 109] (by decide +kernel) (by decide +kernel)
set_option maxRecDepth 20000 in
theorem gX6_road_Jx4a65c_size_8abf5 : GoodIn wsX6_road (wsV RX6 67 RJx4a65c yJx4a65c_size_8abf5 wsJx4a65c_size_8abf5) := goodIn_app (goodIn_of _ (by decide +kernel)) ggX6_road_Jx4a65c_size_8abf5
set_option maxRecDepth 20000 in
theorem ggX6_road_X6_straight : GoodIn wsX6_road wsX6_straight := goodIn_r _ [21, 22, 23, 24, 25, 26, 27, 28, 29, 30, 31, 32, 33, 110, 111, 112] (by decide +kernel) (by decide +kernel)
set_option maxRecDepth 20000 in
theorem gX6_road_X6_straight : GoodIn wsX6_road (va_wsS RX6 102 yX6_straight wsX6_straight) := goodIn_app (goodIn_of _ (by decide +kernel)) ggX6_road_X6_straight
set_option maxRecDepth 20000 in
theorem ggX6_road_X2_init : GoodIn wsX6_road wsX2_init := goodIn_r _ [36, 37, 29, 30, 38, 39, 105, 106] (by decide +kernel) (by decide +kernel)
set_option maxRecDepth 20000 in
theorem gX6_road_X2_init : GoodIn wsX6_road (wsX2_init) := ggX6_road_X2_init
set_option maxRecDepth 20000 in
theorem ggX6_road_Jx4a65c_add_9ea2d : GoodIn wsX6_road wsJx4a65c_add_9ea2d := goodIn_r _ [43, 44, 45, 46, 18, 47, 48, 49, 16, 50, 51, 52, 53, 54, 55, 56, 57, 58, 59, 60, 61, 62, 63, 64, 65, 66, 67, 68, 69, 70, 71, 72, 73, 74, 75, 76, 77, 78, 79, 80, 81, 82, 83, 84, 85, 86, 87, 88, 89, 90, 91, 92, 93, 107, 108, 109] (by decide +kernel) (by decide +kernel)
set_option maxRecDepth 20000 in
theorem gX6_road_Jx4a65c_add_9ea2d : GoodIn wsX6_road (wsV RX6 81 RJx4a65c yJx4a65c_add_9ea2d wsJx4a65c_add_9ea2d) := goodIn_app (goodIn_of _ (by decide +kernel)) ggX6_road_Jx4a65c_add_9ea2d
set_option maxRecDepth 20000 in
theorem ggX6_fall_X1_sum : GoodIn wsX6_fall wsX1_sum := goodIn_r _ [13, 14, 15, 16, 17, 18, 19, 20, 21, 22, 23, 24, 12, 25, 26, 43, 44, 45, 46] (by decide +kernel) (by decide +kernel)
set_option maxRecDepth 20000 in
theorem gX6_fall_X1_sum : GoodIn wsX6_fall (wsV RX6 118 RX1 yX1_sum wsX1_sum) := goodIn_app (goodIn_of _ (by decide +kernel)) ggX6_fall_X1_sum
set_option maxRecDepth 20000 in
theorem ggX6_fall_X1_depth : GoodIn wsX6_fall wsX1_depth := goodIn_r _ [25, 26, 46] (by decide +kernel) (by decide +kernel)
set_option maxRecDepth 20000 in
theorem gX6_fall_X1_depth : GoodIn wsX6_fall (wsV RX6 122 RX1 yX1_depth wsX1_depth) := goodIn_app (goodIn_of _ (by decide +kernel)) ggX6_fall_X1_depth
set_option maxRecDepth 20000 in
theorem ggX6_fall_X1_put : GoodIn wsX6_fall wsX1_put := goodIn_r _ [31, 26, 46] (by decide +kernel) (by decide +kernel)
set_option maxRecDepth 20000 in
theorem gX6_fall_X1_put : GoodIn wsX6_fall (wsV RX6 132 RX1 yX1_put wsX1_put) := goodIn_app (goodIn_of _ (by decide +kernel)) ggX6_fall_X1_put
set_option maxRecDepth 20000 in
theorem ggX6_blow_X6_needWind : GoodIn wsX6_blow wsX6_needWind := goodIn_ca (goodIn_r _ [11, 12, 13, 10, 14, 15, 16] (by decide +kernel) (by decide +kernel)) (goodIn_sub (fun _ h => List.mem_cons_of_mem _ (List.mem_append_left _ (List.mem_append_right _ h))) (by decide +kernel))
set_option maxRecDepth 20000 in
theorem gX6_blow_X6_needWind : GoodIn wsX6_blow (va_wsS RX6 135 yX6_needWind wsX6_needWind) := goodIn_app (goodIn_of _ (by decide +kernel)) ggX6_blow_X6_needWind
set_option maxRecDepth 20000 in
theorem ggX6_blow_X6_needStrength : GoodIn wsX6_blow wsX6_needStrength := goodIn_ca (goodIn_r _ [19, 20, 21] (by decide +kernel) (by decide +kernel)) (goodIn_sub (fun _ h => List.mem_cons_of_mem _ (List.mem_append_right _ h)) (by decide +kernel))
set_option maxRecDepth 20000 in
theorem gX6_blow_X6_needStrength : GoodIn wsX6_blow (va_wsS RX6 138 yX6_needStrength wsX6_needStrength) := goodIn_app (goodIn_of _ (by decide +kernel)) ggX6_blow_X6_needStrength
set_option maxRecDepth 20000 in
theorem ggX6_blow_X6_needHours : GoodIn wsX6_blow wsX6_needHours := goodIn_ca (goodIn_r _ [24, 20, 21] (by decide +kernel) (by decide +kernel)) (goodIn_sub (fun _ h => List.mem_cons_of_mem _ (List.mem_append_right _ h)) (by decide +kernel))
set_option maxRecDepth 20000 in
theorem gX6_blow_X6_needHours : GoodIn wsX6_blow (va_wsS RX6 141 yX6_needHours wsX6_needHours) := goodIn_app (goodIn_of _ (by decide +kernel)) ggX6_blow_X6_needHours
set_option maxRecDepth 20000 in
theorem ggX6_blow_X6_screenAllBut : GoodIn wsX6_blow wsX6_screenAllBut := goodIn_r _ [28, 29, 30, 31, 32, 33, 34, 35, 36, 37, 38, 39, 40, 41, 42, 43, 44, 45, 46, 47, 48, 49, 50, 51, 52, 53, 54, 55, 56, 57, 58, 59, 60, 61, 62, 63, 64, 65, 66, 67, 68, 69, 70, 71, 72, 73, 74, 75, 76, 77, 78, 79, 80, 81, 82, 83, 84, 147, 148, 149, 150, 151, 152, 153, 154, 155, 156, 157, 168, 169, 170, 171, 172, 173, 174, 175, 176, 177, 178, 179, 180] (by decide +kernel) (by decide +kernel)
set_option maxRecDepth 20000 in
theorem gX6_blow_X6_screenAllBut : GoodIn wsX6_blow (wsV RX6 144 RX6 yX6_screenAllBut wsX6_screenAllBut) := goodIn_app (goodIn_of _ (by decide +kernel)) ggX6_blow_X6_screenAllBut
set_option maxRecDepth 20000 in
theorem ggX6_blow_X5_init : GoodIn wsX6_blow wsX5_init := goodIn_r _ [87, 88, 89, 90, 91, 92, 93, 94, 95, 96, 158, 159, 160, 161, 162, 163, 164, 165, 166, 167] (by decide +kernel) (by decide +kernel)
set_option maxRecDepth 20000 in
theorem gX6_blow_X5_init : GoodIn wsX6_blow (wsX5_init) := ggX6_blow_X5_init
set_option maxRecDepth 20000 in
theorem ggX6_blow_X6_blowOver : GoodIn wsX6_blow wsX6_blowOver := goodIn_r _ [100, 29, 101, 102, 103, 4, 104, 94, 96, 105, 106, 107, 108, 92, 109, 110, 111, 95, 112, 113, 114, 115, 116, 117, 118, 119, 120, 121, 82, 83, 38, 84, 44, 122, 123, 124, 125, 45, 126, 127, 128, 129, 130, 131, 132, 133, 134, 135, 136, 137, 138, 139, 140, 141, 142, 91, 143, 144, 145, 146, 147, 148, 149, 150, 151, 152, 153, 154, 155, 156, 157, 158, 159, 160, 161, 162, 163, 164, 165, 166, 167, 173, 174, 181] (by decide +kernel) (by decide +kernel)
set_option maxRecDepth 20000 in
theorem gX6_blow_X6_blowOver : GoodIn wsX6_blow (wsV RX6 152 RX6 yX6_blowOver wsX6_blowOver) := goodIn_app (goodIn_of _ (by decide +kernel)) ggX6_blow_X6_blowOver
set_option maxRecDepth 20000 in
theorem ggX6_plough_Jx4a65c_size_8abf5 : GoodIn wsX6_plough wsJx4a65c_size_8abf5 := goodIn_r _ [10, 11, 74, 75, 76] (by decide +kernel) (by decide +kernel)
set_option maxRecDepth 20000 in
theorem gX6_plough_Jx4a65c_size_8abf5 : GoodIn wsX6_plough (wsV RX6 67 RJx4a65c yJx4a65c_size_8abf5 wsJx4a65c_size_8abf5) := goodIn_app (goodIn_of _ (by decide +kernel)) ggX6_plough_Jx4a65c_size_8abf5
set_option maxRecDepth 20000 in
theorem ggX6_plough_X6_needIndex : GoodIn wsX6_plough wsX6_needIndex := goodIn_ca (goodIn_r _ [15, 16, 17] (by decide +kernel) (by decide +kernel)) (goodIn_sub (fun _ h => List.mem_cons_of_mem _ (List.mem_append_right _ h)) (by decide +kernel))
set_option maxRecDepth 20000 in
theorem gX6_plough_X6_needIndex : GoodIn wsX6_plough (va_wsS RX6 63 yX6_needIndex wsX6_needIndex) := goodIn_app (goodIn_of _ (by decide +kernel)) ggX6_plough_X6_needIndex
set_option maxRecDepth 20000 in
theorem ggX6_plough_Jx4a65c_get_915e3 : GoodIn wsX6_plough wsJx4a65c_get_915e3 := goodIn_r _ [21, 11, 22, 23, 24, 25, 26, 27, 28, 29, 30, 31, 32, 9, 33, 34, 74, 75, 76] (by decide +kernel) (by decide +kernel)
set_option maxRecDepth 20000 in
theorem gX6_plough_Jx4a65c_get_915e3 : GoodIn wsX6_plough (wsV RX6 85 RJx4a65c yJx4a65c_get_915e3 wsJx4a65c_get_915e3) := goodIn_app (goodIn_of _ (by decide +kernel)) ggX6_plough_Jx4a65c_get_915e3
set_option maxRecDepth 20000 in
theorem ggX6_plough_X1_sum : GoodIn wsX6_plough wsX1_sum := goodIn_r _ [39, 40, 41, 42, 43, 44, 45, 46, 47, 48, 49, 50, 38, 51, 52, 77, 78, 79, 80] (by decide +kernel) (by decide +kernel)
set_option maxRecDepth 20000 in
theorem gX6_plough_X1_sum : GoodIn wsX6_plough (wsV RX6 118 RX1 yX1_sum wsX1_sum) := goodIn_app (goodIn_of _ (by decide +kernel)) ggX6_plough_X1_sum
set_option maxRecDepth 20000 in
theorem ggX6_plough_X1_clear : GoodIn wsX6_plough wsX1_clear := goodIn_r _ [56, 40, 41, 42, 43, 44, 45, 46, 47, 57, 58, 59, 38, 60, 52, 77, 78, 79, 80] (by decide +kernel) (by decide +kernel)
set_option maxRecDepth 20000 in
theorem gX6_plough_X1_clear : GoodIn wsX6_plough (wsV RX6 165 RX1 yX1_clear wsX1_clear) := goodIn_app (goodIn_of _ (by decide +kernel)) ggX6_plough_X1_clear
