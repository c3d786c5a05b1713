def ws2X7_needRun : List Cond := .code yX7_needRun cX7_needRun 1 none :: ([.classLink RX7 259 "java/util/NoSuchElementException", .initialized "java/util/NoSuchElementException", .fieldLink RX7 75 "CarnivalRoad" "running" "Z"] ++ wsX70 ++ atNX.filter goodWord)
def ws2X7_run : List Cond := .code yX7_run cX7_run 3 (some .int) :: ((wsX7_run_r1 ++ (wsX7_run_r2 ++ wsX7_run_r3)) ++ wsX70 ++ wsX30 ++ wsX20 ++ wsX60 ++ atNX.filter goodWord)
def ws2X7_minute : List Cond := .code yX7_minute cX7_minute 1 (some .int) :: ([.fieldLink RX7 68 "CarnivalRoad" "parade" "LCarnivalRoad$Parade;", .fieldLink RX7 211 "CarnivalRoad$Parade" "now" "I", .methodLink RX7 202 yX7_needRun, .instanceMethod yX7_needRun, .selects RX7 yX7_needRun yX7_needRun, .initialized RX7, .code yX7_needRun cX7_needRun 1 none, .classLink RX7 259 "java/util/NoSuchElementException", .initialized "java/util/NoSuchElementException", .fieldLink RX7 75 "CarnivalRoad" "running" "Z"] ++ wsX70 ++ wsX30 ++ atNX.filter goodWord)
def ws2X7_at : List Cond := .code yX7_at cX7_at 3 (some .int) :: ((wsX7_at_r1 ++ wsX7_at_r2) ++ wsX70 ++ wsX30 ++ wsX20 ++ (vx_atS RX7 256 "java/lang/IndexOutOfBoundsException" ["java/lang/RuntimeException", "java/lang/Exception"]).filter goodWord ++ atNX.filter goodWord)
def ws2X7_who : List Cond := .code yX7_who cX7_who 2 (some .int) :: ((wsX7_who_r1 ++ wsX7_who_r2) ++ wsX70 ++ wsX60 ++ wsX30 ++ wsX20 ++ atNX.filter goodWord)
def ws2X7_hole : List Cond := .code yX7_hole cX7_hole 1 (some .int) :: ((wsX7_hole_r1 ++ wsX7_hole_r2) ++ wsX70 ++ wsX30 ++ wsX20 ++ atNX.filter goodWord)
def ws2X7_rowLong : List Cond := .code yX7_rowLong cX7_rowLong 1 (some .int) :: ((wsX7_rowLong_r1 ++ wsX7_rowLong_r2) ++ wsX70 ++ wsX30 ++ wsX60 ++ wsX20 ++ atNX.filter goodWord)
def ws2X7_ends : List Cond := .code yX7_ends cX7_ends 2 (some .int) :: ((wsX7_ends_r1 ++ (wsX7_ends_r2 ++ (wsX7_ends_r3 ++ wsX7_ends_r4))) ++ wsX70 ++ wsX30 ++ wsX20 ++ wsX60 ++ atNX.filter goodWord)
def ws2X7_ill : List Cond := .code yX7_ill cX7_ill 2 (some .boolean) :: ((wsX7_ill_r1 ++ wsX7_ill_r2) ++ wsX70 ++ wsX30 ++ wsX20 ++ (vx_atS RX7 256 "java/lang/IndexOutOfBoundsException" ["java/lang/RuntimeException", "java/lang/Exception"]).filter goodWord ++ atNX.filter goodWord)
def ws2L_run : List Cond := .codeWith yL_run cL_run 4 (some .int) [(0, 9, 12, 22)] :: ((wsL_run_r1 ++ (wsL_run_r2 ++ wsL_run_r3)) ++ wsX70 ++ wsX30 ++ wsX20 ++ wsX60 ++ atNX.filter goodWord)
def ws2L_minute : List Cond := .codeWith yL_minute cL_minute 3 (some .int) [(0, 8, 11, 22)] :: ([.classLink RL 22 "java/util/NoSuchElementException", .methodLink RL 24 yX7_minute, .instanceMethod yX7_minute, .selects RX7 yX7_minute yX7_minute, .initialized RX7, .code yX7_minute cX7_minute 1 (some .int), .fieldLink RX7 68 "CarnivalRoad" "parade" "LCarnivalRoad$Parade;", .fieldLink RX7 211 "CarnivalRoad$Parade" "now" "I", .methodLink RX7 202 yX7_needRun, .instanceMethod yX7_needRun, .selects RX7 yX7_needRun yX7_needRun, .code yX7_needRun cX7_needRun 1 none, .classLink RX7 259 "java/util/NoSuchElementException", .initialized "java/util/NoSuchElementException", .fieldLink RX7 75 "CarnivalRoad" "running" "Z"] ++ wsX70 ++ wsX30 ++ atNX.filter goodWord)
def ws2L_at : List Cond := .codeWith yL_at cL_at 5 (some .int) [(0, 10, 13, 13), (0, 10, 17, 22)] :: ((wsL_at_r1 ++ (wsL_at_r2 ++ wsL_at_r3)) ++ wsX70 ++ wsX30 ++ wsX20 ++ (vx_atS RX7 256 "java/lang/IndexOutOfBoundsException" ["java/lang/RuntimeException", "java/lang/Exception"]).filter goodWord ++ atNX.filter goodWord)
def ws2L_who : List Cond := .codeWith yL_who cL_who 4 (some .int) [(0, 9, 12, 22)] :: ((wsL_who_r1 ++ wsL_who_r2) ++ wsX70 ++ wsX60 ++ wsX30 ++ wsX20 ++ atNX.filter goodWord)
def ws2L_hole : List Cond := .codeWith yL_hole cL_hole 3 (some .int) [(0, 8, 11, 22)] :: ((wsL_hole_r1 ++ wsL_hole_r2) ++ wsX70 ++ wsX30 ++ wsX20 ++ atNX.filter goodWord)
def ws2L_rowLong : List Cond := .codeWith yL_rowLong cL_rowLong 3 (some .int) [(0, 8, 11, 22)] :: ((wsL_rowLong_r1 ++ wsL_rowLong_r2) ++ wsX70 ++ wsX30 ++ wsX60 ++ wsX20 ++ atNX.filter goodWord)
def ws2L_ends : List Cond := .codeWith yL_ends cL_ends 4 (some .int) [(0, 9, 12, 22)] :: ((wsL_ends_r1 ++ (wsL_ends_r2 ++ (wsL_ends_r3 ++ (wsL_ends_r4 ++ wsL_ends_r5)))) ++ wsX70 ++ wsX30 ++ wsX20 ++ wsX60 ++ atNX.filter goodWord)
def ws2L_ill : List Cond := .codeWith yL_ill cL_ill 4 (some .int) [(0, 16, 19, 13), (0, 16, 22, 22)] :: ((wsL_ill_r1 ++ wsL_ill_r2) ++ wsX70 ++ wsX30 ++ wsX20 ++ (vx_atS RX7 256 "java/lang/IndexOutOfBoundsException" ["java/lang/RuntimeException", "java/lang/Exception"]).filter goodWord ++ atNX.filter goodWord)
def ws2L_law : List Cond := wsL_law0 ++ (vx_atS RX7 256 "java/lang/IndexOutOfBoundsException" ["java/lang/RuntimeException", "java/lang/Exception"]).filter goodWord ++ atNX.filter goodWord
set_option maxRecDepth 20000 in
theorem gg2X7_run_X7_needRun : GoodIn ws2X7_run ws2X7_needRun := goodIn_ca (goodIn_r _ [6, 7, 8, 9, 63, 64, 65, 66, 67, 68, 69, 70, 71, 72, 73, 74] (by decide +kernel) (by decide +kernel)) (goodIn_sub (fun _ h => List.mem_cons_of_mem _ (List.mem_append_right _ h)) (by decide +kernel))
set_option maxRecDepth 20000 in
theorem g2X7_run_X7_needRun : GoodIn ws2X7_run (wsV RX7 202 RX7 yX7_needRun ws2X7_needRun) := goodIn_app (goodIn_of _ (by decide +kernel)) gg2X7_run_X7_needRun
set_option maxRecDepth 20000 in
theorem gg2X7_run_X3_allOut : GoodIn ws2X7_run wsX3_allOut := goodIn_r _ [14, 15, 16, 17, 18, 19, 13, 20, 21, 75, 76, 77, 78, 79, 80, 81, 82, 83] (by decide +kernel) (by decide +kernel)
set_option maxRecDepth 20000 in
theorem g2X7_run_X3_allOut : GoodIn ws2X7_run (wsV RX7 205 RX3 yX3_allOut wsX3_allOut) := goodIn_app (goodIn_of _ (by decide +kernel)) gg2X7_run_X3_allOut
set_option maxRecDepth 20000 in
theorem gg2X7_run_X3_step : GoodIn ws2X7_run wsX3_step := goodIn_r _ [25, 26, 15, 16, 17, 18, 19, 13, 20, 21, 27, 28, 29, 30, 31, 32, 33, 34, 35, 36, 37, 38, 39, 40, 41, 42, 43, 44, 45, 46, 47, 48, 49, 50, 51, 52, 53, 54, 55, 56, 57, 58, 59, 60, 61, 62, 75, 76, 77, 78, 79, 80, 81, 82, 83, 84, 85, 86, 87, 88, 89, 90, 91, 92, 93] (by decide +kernel) (by decide +kernel)
set_option maxRecDepth 20000 in
theorem g2X7_run_X3_step : GoodIn ws2X7_run (wsV RX7 208 RX3 yX3_step wsX3_step) := goodIn_app (goodIn_of _ (by decide +kernel)) gg2X7_run_X3_step
set_option maxRecDepth 20000 in
theorem gg2X7_minute_X7_needRun : GoodIn ws2X7_minute ws2X7_needRun := goodIn_ca (goodIn_r _ [7, 8, 9, 10, 11, 12, 13, 14, 15, 16, 17, 18, 19, 20, 21, 22] (by decide +kernel) (by decide +kernel)) (goodIn_sub (fun _ h => List.mem_cons_of_mem _ (List.mem_append_right _ h)) (by decide +kernel))
set_option maxRecDepth 20000 in
theorem g2X7_minute_X7_needRun : GoodIn ws2X7_minute (wsV RX7 202 RX7 yX7_needRun ws2X7_needRun) := goodIn_app (goodIn_of _ (by decide +kernel)) gg2X7_minute_X7_needRun
set_option maxRecDepth 20000 in
theorem gg2X7_at_X7_needGuest : GoodIn ws2X7_at wsX7_needGuest := goodIn_ca (goodIn_r _ [9, 10, 11, 12, 13, 14, 15, 16, 17, 18, 44, 45, 46, 47, 48, 49, 50, 51, 52, 53, 54, 55, 65, 66, 67, 68, 69, 70] (by decide +kernel) (by decide +kernel)) (goodIn_sub (fun _ h => List.mem_cons_of_mem _ (List.mem_append_left _ (List.mem_append_right _ h))) (by decide +kernel))
set_option maxRecDepth 20000 in
theorem g2X7_at_X7_needGuest : GoodIn ws2X7_at (wsV RX7 91 RX7 yX7_needGuest wsX7_needGuest) := goodIn_app (goodIn_of _ (by decide +kernel)) gg2X7_at_X7_needGuest
set_option maxRecDepth 20000 in
theorem gg2X7_at_X7_needRun : GoodIn ws2X7_at ws2X7_needRun := goodIn_ca (goodIn_r _ [22, 23, 24, 25, 44, 45, 46, 47, 48, 49, 50, 51, 52, 53, 54, 55] (by decide +kernel) (by decide +kernel)) (goodIn_sub (fun _ h => List.mem_cons_of_mem _ (List.mem_append_right _ h)) (by decide +kernel))
set_option maxRecDepth 20000 in
theorem g2X7_at_X7_needRun : GoodIn ws2X7_at (wsV RX7 202 RX7 yX7_needRun ws2X7_needRun) := goodIn_app (goodIn_of _ (by decide +kernel)) gg2X7_at_X7_needRun
set_option maxRecDepth 20000 in
theorem gg2X7_at_X3_tailOf : GoodIn ws2X7_at wsX3_tailOf := goodIn_r _ [30, 31, 32, 33, 56, 57, 58, 59, 60, 61, 62, 63, 64, 65, 66, 67, 68, 69, 70] (by decide +kernel) (by decide +kernel)
set_option maxRecDepth 20000 in
theorem g2X7_at_X3_tailOf : GoodIn ws2X7_at (wsV RX7 217 RX3 yX3_tailOf wsX3_tailOf) := goodIn_app (goodIn_of _ (by decide +kernel)) gg2X7_at_X3_tailOf
set_option maxRecDepth 20000 in
theorem gg2X7_at_X3_stateOf : GoodIn ws2X7_at wsX3_stateOf := goodIn_r _ [37, 31, 38, 39, 40, 41, 29, 42, 43, 56, 57, 58, 59, 60, 61, 62, 63, 64] (by decide +kernel) (by decide +kernel)
set_option maxRecDepth 20000 in
theorem g2X7_at_X3_stateOf : GoodIn ws2X7_at (wsV RX7 220 RX3 yX3_stateOf wsX3_stateOf) := goodIn_app (goodIn_of _ (by decide +kernel)) gg2X7_at_X3_stateOf
set_option maxRecDepth 20000 in
theorem gg2X7_who_X7_needRun : GoodIn ws2X7_who ws2X7_needRun := goodIn_ca (goodIn_r _ [7, 8, 9, 10, 40, 41, 42, 43, 44, 45, 46, 47, 48, 49, 50, 51] (by decide +kernel) (by decide +kernel)) (goodIn_sub (fun _ h => List.mem_cons_of_mem _ (List.mem_append_right _ h)) (by decide +kernel))
set_option maxRecDepth 20000 in
theorem g2X7_who_X7_needRun : GoodIn ws2X7_who (wsV RX7 202 RX7 yX7_needRun ws2X7_needRun) := goodIn_app (goodIn_of _ (by decide +kernel)) gg2X7_who_X7_needRun
set_option maxRecDepth 20000 in
theorem gg2X7_who_X6_has : GoodIn ws2X7_who wsX6_has := goodIn_r _ [15, 16, 52, 53, 54, 55] (by decide +kernel) (by decide +kernel)
set_option maxRecDepth 20000 in
theorem g2X7_who_X6_has : GoodIn ws2X7_who (wsV RX7 188 RX6 yX6_has wsX6_has) := goodIn_app (goodIn_of _ (by decide +kernel)) gg2X7_who_X6_has
set_option maxRecDepth 20000 in
theorem gg2X7_who_X3_standsOn : GoodIn ws2X7_who wsX3_standsOn := goodIn_r _ [21, 22, 23, 24, 25, 26, 27, 20, 28, 29, 30, 31, 32, 33, 34, 35, 36, 37, 38, 39, 56, 57, 58, 59, 60, 61, 62, 63, 64, 65, 66, 67, 68, 69, 70] (by decide +kernel) (by decide +kernel)
set_option maxRecDepth 20000 in
theorem g2X7_who_X3_standsOn : GoodIn ws2X7_who (wsV RX7 229 RX3 yX3_standsOn wsX3_standsOn) := goodIn_app (goodIn_of _ (by decide +kernel)) gg2X7_who_X3_standsOn
set_option maxRecDepth 20000 in
theorem gg2X7_hole_X7_needRun : GoodIn ws2X7_hole ws2X7_needRun := goodIn_ca (goodIn_r _ [6, 7, 8, 9, 37, 38, 39, 40, 41, 42, 43, 44, 45, 46, 47, 48] (by decide +kernel) (by decide +kernel)) (goodIn_sub (fun _ h => List.mem_cons_of_mem _ (List.mem_append_right _ h)) (by decide +kernel))
set_option maxRecDepth 20000 in
theorem g2X7_hole_X7_needRun : GoodIn ws2X7_hole (wsV RX7 202 RX7 yX7_needRun ws2X7_needRun) := goodIn_app (goodIn_of _ (by decide +kernel)) gg2X7_hole_X7_needRun
set_option maxRecDepth 20000 in
theorem gg2X7_hole_X3_widestHole : GoodIn ws2X7_hole wsX3_widestHole := goodIn_r _ [14, 15, 16, 17, 18, 19, 20, 21, 22, 23, 24, 13, 25, 26, 27, 28, 29, 30, 31, 32, 33, 34, 35, 36, 49, 50, 51, 52, 53, 54, 55, 56, 57, 58, 59, 60, 61, 62, 63] (by decide +kernel) (by decide +kernel)
set_option maxRecDepth 20000 in
theorem g2X7_hole_X3_widestHole : GoodIn ws2X7_hole (wsV RX7 232 RX3 yX3_widestHole wsX3_widestHole) := goodIn_app (goodIn_of _ (by decide +kernel)) gg2X7_hole_X3_widestHole
set_option maxRecDepth 20000 in
theorem gg2X7_rowLong_X7_needRun : GoodIn ws2X7_rowLong ws2X7_needRun := goodIn_ca (goodIn_r _ [6, 7, 8, 9, 42, 43, 44, 45, 46, 47, 48, 49, 50, 51, 52, 53] (by decide +kernel) (by decide +kernel)) (goodIn_sub (fun _ h => List.mem_cons_of_mem _ (List.mem_append_right _ h)) (by decide +kernel))
set_option maxRecDepth 20000 in
theorem g2X7_rowLong_X7_needRun : GoodIn ws2X7_rowLong (wsV RX7 202 RX7 yX7_needRun ws2X7_needRun) := goodIn_app (goodIn_of _ (by decide +kernel)) gg2X7_rowLong_X7_needRun
set_option maxRecDepth 20000 in
theorem gg2X7_rowLong_X3_cellsTaken : GoodIn ws2X7_rowLong wsX3_cellsTaken := goodIn_r _ [14, 15, 16, 17, 18, 19, 20, 21, 22, 23, 24, 25, 26, 27, 28, 29, 13, 30, 31, 32, 33, 34, 35, 36, 37, 38, 39, 40, 41, 54, 55, 56, 57, 58, 59, 60, 61, 62, 63, 64, 65, 66, 67, 68, 69, 70, 71, 72] (by decide +kernel) (by decide +kernel)
set_option maxRecDepth 20000 in
theorem g2X7_rowLong_X3_cellsTaken : GoodIn ws2X7_rowLong (wsV RX7 236 RX3 yX3_cellsTaken wsX3_cellsTaken) := goodIn_app (goodIn_of _ (by decide +kernel)) gg2X7_rowLong_X3_cellsTaken
set_option maxRecDepth 20000 in
theorem gg2X7_ends_X7_needRun : GoodIn ws2X7_ends ws2X7_needRun := goodIn_ca (goodIn_r _ [8, 9, 10, 11, 96, 97, 98, 99, 100, 101, 102, 103, 104, 105, 106, 107] (by decide +kernel) (by decide +kernel)) (goodIn_sub (fun _ h => List.mem_cons_of_mem _ (List.mem_append_right _ h)) (by decide +kernel))
set_option maxRecDepth 20000 in
theorem g2X7_ends_X7_needRun : GoodIn ws2X7_ends (wsV RX7 202 RX7 yX7_needRun ws2X7_needRun) := goodIn_app (goodIn_of _ (by decide +kernel)) gg2X7_ends_X7_needRun
set_option maxRecDepth 20000 in
theorem gg2X7_ends_X3_copyOf : GoodIn ws2X7_ends wsX3_copyOf := goodIn_r _ [16, 17, 18, 19, 20, 21, 22, 23, 24, 25, 26, 27, 108, 109, 110, 111, 112, 113, 114, 115, 116] (by decide +kernel) (by decide +kernel)
set_option maxRecDepth 20000 in
theorem g2X7_ends_X3_copyOf : GoodIn ws2X7_ends (wsV RX7 239 RX3 yX3_copyOf wsX3_copyOf) := goodIn_app (goodIn_of _ (by decide +kernel)) gg2X7_ends_X3_copyOf
set_option maxRecDepth 20000 in
theorem gg2X7_ends_X3_goToEnd : GoodIn ws2X7_ends wsX3_goToEnd := goodIn_r _ [31, 32, 33, 34, 35, 15, 36, 26, 17, 37, 38, 39, 40, 25, 41, 42, 43, 44, 27, 45, 46, 47, 48, 23, 49, 50, 22, 51, 52, 53, 54, 55, 56, 57, 58, 59, 60, 61, 62, 63, 64, 65, 66, 67, 68, 69, 24, 70, 71, 72, 73, 74, 75, 76, 77, 108, 109, 110, 111, 112, 113, 114, 115, 116, 117, 118, 119, 120, 121, 122, 123, 124, 125, 126] (by decide +kernel) (by decide +kernel)
set_option maxRecDepth 20000 in
theorem g2X7_ends_X3_goToEnd : GoodIn ws2X7_ends (wsV RX7 243 RX3 yX3_goToEnd wsX3_goToEnd) := goodIn_app (goodIn_of _ (by decide +kernel)) gg2X7_ends_X3_goToEnd
set_option maxRecDepth 20000 in
theorem gg2X7_ends_X7_longestAlone : GoodIn ws2X7_ends wsX7_longestAlone := goodIn_r _ [81, 82, 83, 1, 3, 84, 85, 86, 87, 88, 89, 90, 15, 91, 17, 26, 92, 93, 94, 95, 27, 22, 23, 24, 25, 28, 29, 30, 31, 32, 33, 34, 35, 36, 37, 38, 39, 40, 41, 42, 43, 44, 45, 46, 47, 48, 49, 50, 51, 52, 53, 54, 55, 56, 57, 58, 59, 60, 61, 62, 63, 64, 65, 66, 67, 68, 69, 70, 71, 72, 73, 74, 75, 76, 77, 96, 97, 98, 99, 100, 101, 102, 103, 104, 105, 106, 107, 117, 118, 119, 120, 121, 122, 108, 109, 110, 111, 112, 113, 114, 115, 116, 123, 124, 125, 126] (by decide +kernel) (by decide +kernel)
set_option maxRecDepth 20000 in
theorem g2X7_ends_X7_longestAlone : GoodIn ws2X7_ends (wsV RX7 246 RX7 yX7_longestAlone wsX7_longestAlone) := goodIn_app (goodIn_of _ (by decide +kernel)) gg2X7_ends_X7_longestAlone
set_option maxRecDepth 20000 in
theorem gg2X7_ill_X7_needGuest : GoodIn ws2X7_ill wsX7_needGuest := goodIn_ca (goodIn_r _ [8, 9, 10, 11, 12, 13, 14, 15, 16, 17, 31, 32, 33, 34, 35, 36, 37, 38, 39, 40, 41, 42, 52, 53, 54, 55, 56, 57] (by decide +kernel) (by decide +kernel)) (goodIn_sub (fun _ h => List.mem_cons_of_mem _ (List.mem_append_left _ (List.mem_append_right _ h))) (by decide +kernel))
set_option maxRecDepth 20000 in
theorem g2X7_ill_X7_needGuest : GoodIn ws2X7_ill (wsV RX7 91 RX7 yX7_needGuest wsX7_needGuest) := goodIn_app (goodIn_of _ (by decide +kernel)) gg2X7_ill_X7_needGuest
set_option maxRecDepth 20000 in
theorem gg2X7_ill_X7_needRun : GoodIn ws2X7_ill ws2X7_needRun := goodIn_ca (goodIn_r _ [21, 22, 23, 24, 31, 32, 33, 34, 35, 36, 37, 38, 39, 40, 41, 42] (by decide +kernel) (by decide +kernel)) (goodIn_sub (fun _ h => List.mem_cons_of_mem _ (List.mem_append_right _ h)) (by decide +kernel))
set_option maxRecDepth 20000 in
theorem g2X7_ill_X7_needRun : GoodIn ws2X7_ill (wsV RX7 202 RX7 yX7_needRun ws2X7_needRun) := goodIn_app (goodIn_of _ (by decide +kernel)) gg2X7_ill_X7_needRun
set_option maxRecDepth 20000 in
theorem gg2X7_ill_X3_isOut : GoodIn ws2X7_ill wsX3_isOut := goodIn_r _ [29, 30, 43, 44, 45, 46, 47, 48, 49, 50, 51] (by decide +kernel) (by decide +kernel)
set_option maxRecDepth 20000 in
theorem g2X7_ill_X3_isOut : GoodIn ws2X7_ill (wsV RX7 249 RX3 yX3_isOut wsX3_isOut) := goodIn_app (goodIn_of _ (by decide +kernel)) gg2X7_ill_X3_isOut
set_option maxRecDepth 20000 in
theorem gg2L_run_X7_run : GoodIn ws2L_run ws2X7_run := goodIn_ca (goodIn_r _ [6, 7, 8, 9, 10, 5, 11, 12, 13, 14, 15, 16, 17, 18, 19, 20, 21, 22, 23, 24, 25, 26, 27, 28, 29, 30, 31, 32, 33, 34, 35, 36, 37, 38, 39, 40, 41, 42, 43, 44, 45, 46, 47, 48, 49, 50, 51, 52, 53, 54, 55, 56, 57, 58, 59, 60, 61, 62, 63, 64, 65, 66, 67, 68, 69, 70, 71, 72, 73, 74, 75, 76, 77, 78, 79, 80, 81, 82, 83, 84, 85, 86, 87, 88, 89, 90, 91, 92, 93, 94, 95, 96, 97, 98] (by decide +kernel) (by decide +kernel)) (goodIn_sub (fun _ h => List.mem_cons_of_mem _ (List.mem_append_right _ h)) (by decide +kernel))
set_option maxRecDepth 20000 in
theorem g2L_run_X7_run : GoodIn ws2L_run (wsV RL 19 RX7 yX7_run ws2X7_run) := goodIn_app (goodIn_of _ (by decide +kernel)) gg2L_run_X7_run
set_option maxRecDepth 20000 in
theorem gg2L_minute_X7_minute : GoodIn ws2L_minute ws2X7_minute := goodIn_ca (goodIn_r _ [6, 7, 8, 9, 10, 11, 5, 12, 13, 14, 15, 16, 17, 18, 19, 20, 21, 22, 23, 24, 25, 26, 27, 28, 29, 30, 31, 32, 33, 34, 35, 36] (by decide +kernel) (by decide +kernel)) (goodIn_sub (fun _ h => List.mem_cons_of_mem _ (List.mem_append_right _ h)) (by decide +kernel))
set_option maxRecDepth 20000 in
theorem g2L_minute_X7_minute : GoodIn ws2L_minute (wsV RL 24 RX7 yX7_minute ws2X7_minute) := goodIn_app (goodIn_of _ (by decide +kernel)) gg2L_minute_X7_minute
set_option maxRecDepth 20000 in
theorem gg2L_at_X7_at : GoodIn ws2L_at ws2X7_at := goodIn_ca (goodIn_ca (goodIn_r _ [7, 8, 9, 10, 11, 12, 13, 14, 6, 15, 16, 17, 18, 19, 20, 21, 22, 23, 24, 25, 26, 27, 28, 29, 30, 31, 32, 33, 34, 35, 36, 37, 38, 39, 40, 41, 42, 43, 44, 45, 46, 47, 48, 49, 50, 51, 52, 53, 54, 55, 56, 57, 58, 59, 60, 61, 62, 63, 64, 65, 66, 67, 68, 69, 70, 71, 72, 73, 74, 75, 76] (by decide +kernel) (by decide +kernel)) (goodIn_sub (fun _ h => List.mem_cons_of_mem _ (List.mem_append_left _ (List.mem_append_right _ h))) (by decide +kernel))) (goodIn_sub (fun _ h => List.mem_cons_of_mem _ (List.mem_append_right _ h)) (by decide +kernel))
set_option maxRecDepth 20000 in
theorem g2L_at_X7_at : GoodIn ws2L_at (wsV RL 28 RX7 yX7_at ws2X7_at) := goodIn_app (goodIn_of _ (by decide +kernel)) gg2L_at_X7_at
set_option maxRecDepth 20000 in
theorem gg2L_who_X7_who : GoodIn ws2L_who ws2X7_who := goodIn_ca (goodIn_r _ [6, 7, 8, 9, 10, 11, 5, 12, 13, 14, 15, 16, 17, 18, 19, 20, 21, 22, 23, 24, 25, 26, 27, 28, 29, 30, 31, 32, 33, 34, 35, 36, 37, 38, 39, 40, 41, 42, 43, 44, 45, 46, 47, 48, 49, 50, 51, 52, 53, 54, 55, 56, 57, 58, 59, 60, 61, 62, 63, 64, 65, 66, 67, 68, 69, 70, 71, 72, 73, 74, 75] (by decide +kernel) (by decide +kernel)) (goodIn_sub (fun _ h => List.mem_cons_of_mem _ (List.mem_append_right _ h)) (by decide +kernel))
set_option maxRecDepth 20000 in
theorem g2L_who_X7_who : GoodIn ws2L_who (wsV RL 31 RX7 yX7_who ws2X7_who) := goodIn_app (goodIn_of _ (by decide +kernel)) gg2L_who_X7_who
set_option maxRecDepth 20000 in
theorem gg2L_hole_X7_hole : GoodIn ws2L_hole ws2X7_hole := goodIn_ca (goodIn_r _ [6, 7, 8, 9, 10, 5, 11, 12, 13, 14, 15, 16, 17, 18, 19, 20, 21, 22, 23, 24, 25, 26, 27, 28, 29, 30, 31, 32, 33, 34, 35, 36, 37, 38, 39, 40, 41, 42, 43, 44, 45, 46, 47, 48, 49, 50, 51, 52, 53, 54, 55, 56, 57, 58, 59, 60, 61, 62, 63, 64, 65, 66, 67, 68] (by decide +kernel) (by decide +kernel)) (goodIn_sub (fun _ h => List.mem_cons_of_mem _ (List.mem_append_right _ h)) (by decide +kernel))
set_option maxRecDepth 20000 in
theorem g2L_hole_X7_hole : GoodIn ws2L_hole (wsV RL 34 RX7 yX7_hole ws2X7_hole) := goodIn_app (goodIn_of _ (by decide +kernel)) gg2L_hole_X7_hole
set_option maxRecDepth 20000 in
theorem gg2L_rowLong_X7_rowLong : GoodIn ws2L_rowLong ws2X7_rowLong := goodIn_ca (goodIn_r _ [6, 7, 8, 9, 10, 5, 11, 12, 13, 14, 15, 16, 17, 18, 19, 20, 21, 22, 23, 24, 25, 26, 27, 28, 29, 30, 31, 32, 33, 34, 35, 36, 37, 38, 39, 40, 41, 42, 43, 44, 45, 46, 47, 48, 49, 50, 51, 52, 53, 54, 55, 56, 57, 58, 59, 60, 61, 62, 63, 64, 65, 66, 67, 68, 69, 70, 71, 72, 73, 74, 75, 76, 77] (by decide +kernel) (by decide +kernel)) (goodIn_sub (fun _ h => List.mem_cons_of_mem _ (List.mem_append_right _ h)) (by decide +kernel))
set_option maxRecDepth 20000 in
theorem g2L_rowLong_X7_rowLong : GoodIn ws2L_rowLong (wsV RL 37 RX7 yX7_rowLong ws2X7_rowLong) := goodIn_app (goodIn_of _ (by decide +kernel)) gg2L_rowLong_X7_rowLong
set_option maxRecDepth 20000 in
theorem gg2L_ends_X7_ends : GoodIn ws2L_ends ws2X7_ends := goodIn_ca (goodIn_r _ [6, 7, 8, 9, 10, 11, 12, 5, 13, 14, 15, 16, 17, 18, 19, 20, 21, 22, 23, 24, 25, 26, 27, 28, 29, 30, 31, 32, 33, 34, 35, 36, 37, 38, 39, 40, 41, 42, 43, 44, 45, 46, 47, 48, 49, 50, 51, 52, 53, 54, 55, 56, 57, 58, 59, 60, 61, 62, 63, 64, 65, 66, 67, 68, 69, 70, 71, 72, 73, 74, 75, 76, 77, 78, 79, 80, 81, 82, 83, 84, 85, 86, 87, 88, 89, 90, 91, 92, 93, 94, 95, 96, 97, 98, 99, 100, 101, 102, 103, 104, 105, 106, 107, 108, 109, 110, 111, 112, 113, 114, 115, 116, 117, 118, 119, 120, 121, 122, 123, 124, 125, 126, 127, 128, 129, 130, 131] (by decide +kernel) (by decide +kernel)) (goodIn_sub (fun _ h => List.mem_cons_of_mem _ (List.mem_append_right _ h)) (by decide +kernel))
set_option maxRecDepth 20000 in
theorem g2L_ends_X7_ends : GoodIn ws2L_ends (wsV RL 40 RX7 yX7_ends ws2X7_ends) := goodIn_app (goodIn_of _ (by decide +kernel)) gg2L_ends_X7_ends
set_option maxRecDepth 20000 in
theorem gg2L_ill_X7_ill : GoodIn ws2L_ill ws2X7_ill := goodIn_ca (goodIn_ca (goodIn_r _ [7, 8, 9, 10, 11, 12, 13, 6, 14, 15, 16, 17, 18, 19, 20, 21, 22, 23, 24, 25, 26, 27, 28, 29, 30, 31, 32, 33, 34, 35, 36, 37, 38, 39, 40, 41, 42, 43, 44, 45, 46, 47, 48, 49, 50, 51, 52, 53, 54, 55, 56, 57, 58, 59, 60, 61, 62, 63] (by decide +kernel) (by decide +kernel)) (goodIn_sub (fun _ h => List.mem_cons_of_mem _ (List.mem_append_left _ (List.mem_append_right _ h))) (by decide +kernel))) (goodIn_sub (fun _ h => List.mem_cons_of_mem _ (List.mem_append_right _ h)) (by decide +kernel))
set_option maxRecDepth 20000 in
theorem g2L_ill_X7_ill : GoodIn ws2L_ill (wsV RL 43 RX7 yX7_ill ws2X7_ill) := goodIn_app (goodIn_of _ (by decide +kernel)) gg2L_ill_X7_ill
