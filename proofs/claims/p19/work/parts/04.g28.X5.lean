set_option maxRecDepth 20000 in
theorem ggX5_list_X3_lookUp : GoodIn wsX5_list wsX3_lookUp := goodIn_r _ [34, 35, 36, 37, 38, 39, 40, 41, 42, 43, 44, 45, 46, 47, 48, 49, 50, 51, 52, 53, 54, 33, 55, 56, 57, 58, 59, 60, 61, 62, 63, 64, 65, 66, 67, 68, 69, 70, 71, 72, 73, 74, 95, 96, 97, 98, 99, 100, 101, 102, 103, 80, 81, 82, 83] (by decide +kernel) (by decide +kernel)
set_option maxRecDepth 20000 in
theorem gX5_list_X3_lookUp : GoodIn wsX5_list (wsV RX5 146 RX3 yX3_lookUp wsX3_lookUp) := goodIn_app (goodIn_of _ (by decide +kernel)) ggX5_list_X3_lookUp
set_option maxRecDepth 20000 in
theorem ggX5_list_X3_namesOf : GoodIn wsX5_list wsX3_namesOf := goodIn_r _ [78, 61, 62, 79, 64, 42, 43, 39, 44, 45, 46, 47, 65, 49, 50, 51, 66, 67, 68, 69, 70, 71, 72, 73, 33, 74, 95, 96, 97, 98, 99, 100, 101, 80, 81, 82, 83, 102, 103] (by decide +kernel) (by decide +kernel)
set_option maxRecDepth 20000 in
theorem gX5_list_X3_namesOf : GoodIn wsX5_list (wsV RX5 162 RX3 yX3_namesOf wsX3_namesOf) := goodIn_app (goodIn_of _ (by decide +kernel)) ggX5_list_X3_namesOf
set_option maxRecDepth 20000 in
theorem ggX5_mark_X5_opened : GoodIn wsX5_mark wsX5_opened := goodIn_ca (goodIn_r _ [8, 9, 10, 11, 12, 13, 48, 49, 50, 51, 52, 53, 54, 55, 56, 57, 58, 41, 42, 43, 44, 45, 46, 47] (by decide +kernel) (by decide +kernel)) (goodIn_sub (fun _ h => List.mem_cons_of_mem _ (List.mem_append_right _ h)) (by decide +kernel))
set_option maxRecDepth 20000 in
theorem gX5_mark_X5_opened : GoodIn wsX5_mark (wsV RX5 91 RX5 yX5_opened wsX5_opened) := goodIn_app (goodIn_of _ (by decide +kernel)) ggX5_mark_X5_opened
set_option maxRecDepth 20000 in
theorem ggX5_mark_X3_pushMark : GoodIn wsX5_mark wsX3_pushMark := goodIn_r _ [18, 19, 20, 21, 22, 23, 17, 24, 25, 26, 27, 28, 29, 30, 31, 32, 33, 34, 35, 36, 37, 38, 39, 40, 41, 42, 43, 44, 45, 46, 47, 59, 60] (by decide +kernel) (by decide +kernel)
set_option maxRecDepth 20000 in
theorem gX5_mark_X3_pushMark : GoodIn wsX5_mark (wsV RX5 221 RX3 yX3_pushMark wsX3_pushMark) := goodIn_app (goodIn_of _ (by decide +kernel)) ggX5_mark_X3_pushMark
set_option maxRecDepth 20000 in
theorem ggX5_back_X5_opened : GoodIn wsX5_back wsX5_opened := goodIn_ca (goodIn_r _ [8, 9, 10, 11, 12, 13, 48, 49, 50, 51, 52, 53, 54, 55, 56, 57, 58, 41, 42, 43, 44, 45, 46, 47] (by decide +kernel) (by decide +kernel)) (goodIn_sub (fun _ h => List.mem_cons_of_mem _ (List.mem_append_right _ h)) (by decide +kernel))
set_option maxRecDepth 20000 in
theorem gX5_back_X5_opened : GoodIn wsX5_back (wsV RX5 91 RX5 yX5_opened wsX5_opened) := goodIn_app (goodIn_of _ (by decide +kernel)) ggX5_back_X5_opened
set_option maxRecDepth 20000 in
theorem ggX5_back_X3_popMark : GoodIn wsX5_back wsX3_popMark := goodIn_r _ [18, 19, 20, 21, 22, 23, 17, 24, 25, 26, 27, 28, 29, 30, 31, 32, 33, 34, 35, 36, 37, 38, 39, 40, 41, 42, 43, 44, 45, 46, 47, 59, 60] (by decide +kernel) (by decide +kernel)
set_option maxRecDepth 20000 in
theorem gX5_back_X3_popMark : GoodIn wsX5_back (wsV RX5 230 RX3 yX3_popMark wsX3_popMark) := goodIn_app (goodIn_of _ (by decide +kernel)) ggX5_back_X3_popMark
set_option maxRecDepth 20000 in
theorem ggX5_about_X5_opened : GoodIn wsX5_about wsX5_opened := goodIn_ca (goodIn_r _ [13, 14, 15, 16, 17, 18, 98, 99, 100, 101, 102, 103, 104, 105, 106, 107, 108, 109, 110, 111, 112, 113, 114, 115] (by decide +kernel) (by decide +kernel)) (goodIn_sub (fun _ h => List.mem_cons_of_mem _ (List.mem_append_right _ h)) (by decide +kernel))
set_option maxRecDepth 20000 in
theorem gX5_about_X5_opened : GoodIn wsX5_about (wsV RX5 91 RX5 yX5_opened wsX5_opened) := goodIn_app (goodIn_of _ (by decide +kernel)) ggX5_about_X5_opened
set_option maxRecDepth 20000 in
theorem ggX5_about_X3_itemsRead : GoodIn wsX5_about wsX3_itemsRead := goodIn_r _ [23, 24, 25, 26, 27, 28, 29, 30, 31, 32, 33, 34, 109, 110, 111, 112, 113, 114, 115, 122, 123] (by decide +kernel) (by decide +kernel)
set_option maxRecDepth 20000 in
theorem gX5_about_X3_itemsRead : GoodIn wsX5_about (wsV RX5 95 RX3 yX3_itemsRead wsX3_itemsRead) := goodIn_app (goodIn_of _ (by decide +kernel)) ggX5_about_X3_itemsRead
set_option maxRecDepth 20000 in
theorem ggX5_about_X1_weigh : GoodIn wsX5_about wsX1_weigh := goodIn_r _ [39, 40, 41, 42, 43, 44, 45, 46, 47, 48, 49, 50, 51, 52, 53, 54, 55, 56, 57, 58, 59, 60, 61, 62, 63, 64, 65, 38, 66, 67, 68, 69, 70, 71, 72, 73, 74, 75, 76, 77, 78, 79, 80, 81, 82, 83, 84, 85, 86, 87, 88, 89, 90, 91, 92, 93, 94, 95, 96, 97, 116, 117, 118, 119, 120, 121, 122, 123, 124, 125, 126, 127] (by decide +kernel) (by decide +kernel)
set_option maxRecDepth 20000 in
theorem gX5_about_X1_weigh : GoodIn wsX5_about (wsV RX5 235 RX1 yX1_weigh wsX1_weigh) := goodIn_app (goodIn_of _ (by decide +kernel)) ggX5_about_X1_weigh
set_option maxRecDepth 20000 in
theorem ggX5_recover_X5_broughtHome : GoodIn wsX5_recover wsX5_broughtHome := goodIn_r _ [10, 11, 5, 12, 13, 4, 14, 15, 16, 17, 18, 19, 20, 21, 22, 23, 24, 25, 26, 27, 28, 29, 30, 31, 32, 33, 34, 35, 36, 37, 38, 39, 40, 41, 42, 43, 44, 45, 46, 47, 48, 49, 50] (by decide +kernel) (by decide +kernel)
set_option maxRecDepth 20000 in
theorem gX5_recover_X5_broughtHome : GoodIn wsX5_recover (wsV RX5 248 RX5 yX5_broughtHome wsX5_broughtHome) := goodIn_app (goodIn_of _ (by decide +kernel)) ggX5_recover_X5_broughtHome
set_option maxRecDepth 20000 in
theorem ggX5_count_X4_blocks : GoodIn wsX5_count wsX4_blocks := goodIn_r _ [13, 14, 15, 16, 17, 12, 18, 19, 20, 21, 22, 23, 24, 25, 26, 27, 28, 29, 48, 49, 52, 53, 54, 55] (by decide +kernel) (by decide +kernel)
set_option maxRecDepth 20000 in
theorem gX5_count_X4_blocks : GoodIn wsX5_count (wsV RX5 251 RX4 yX4_blocks wsX4_blocks) := goodIn_app (goodIn_of _ (by decide +kernel)) ggX5_count_X4_blocks
set_option maxRecDepth 20000 in
theorem ggX5_count_X5_openTransactions : GoodIn wsX5_count wsX5_openTransactions := goodIn_r _ [34, 35, 36, 37, 38, 39, 40, 41, 42, 43, 44, 45, 46, 47, 56, 57, 58, 59, 60, 61, 62] (by decide +kernel) (by decide +kernel)
set_option maxRecDepth 20000 in
theorem gX5_count_X5_openTransactions : GoodIn wsX5_count (wsV RX5 254 RX5 yX5_openTransactions wsX5_openTransactions) := goodIn_app (goodIn_of _ (by decide +kernel)) ggX5_count_X5_openTransactions
set_option maxRecDepth 20000 in
theorem ggX5_openedOrNone_X5_opened : GoodIn wsX5_openedOrNone wsX5_opened := goodIn_ca (goodIn_r _ [7, 8, 9, 10, 1, 11, 12, 13, 14, 15, 16, 17, 18, 19, 20, 21, 22, 23, 24, 25, 26, 27, 28, 29] (by decide +kernel) (by decide +kernel)) (goodIn_sub (fun _ h => List.mem_cons_of_mem _ (List.mem_append_right _ h)) (by decide +kernel))
set_option maxRecDepth 20000 in
theorem gX5_openedOrNone_X5_opened : GoodIn wsX5_openedOrNone (wsV RX5 91 RX5 yX5_opened wsX5_opened) := goodIn_app (goodIn_of _ (by decide +kernel)) ggX5_openedOrNone_X5_opened
set_option maxRecDepth 20000 in
theorem ggX5_needPath_X5_isPath : GoodIn wsX5_needPath wsX5_isPath := goodIn_r _ [6, 7] (by decide +kernel) (by decide +kernel)
set_option maxRecDepth 20000 in
theorem gX5_needPath_X5_isPath : GoodIn wsX5_needPath (va_wsS RX5 261 yX5_isPath wsX5_isPath) := goodIn_app (goodIn_of _ (by decide +kernel)) ggX5_needPath_X5_isPath
set_option maxRecDepth 20000 in
theorem ggX5_needPathBelowRoot_X5_isPath : GoodIn wsX5_needPathBelowRoot wsX5_isPath := goodIn_r _ [6, 7] (by decide +kernel) (by decide +kernel)
set_option maxRecDepth 20000 in
theorem gX5_needPathBelowRoot_X5_isPath : GoodIn wsX5_needPathBelowRoot (va_wsS RX5 261 yX5_isPath wsX5_isPath) := goodIn_app (goodIn_of _ (by decide +kernel)) ggX5_needPathBelowRoot_X5_isPath
set_option maxRecDepth 20000 in
theorem ggX5_parentWithRoom_X3_lookUp : GoodIn wsX5_parentWithRoom wsX3_lookUp := goodIn_r _ [10, 11, 12, 13, 14, 15, 16, 17, 18, 19, 20, 21, 22, 23, 24, 25, 26, 27, 28, 29, 30, 9, 31, 32, 33, 34, 35, 36, 37, 38, 39, 40, 41, 42, 43, 44, 45, 46, 47, 48, 49, 50, 56, 57, 58, 59, 60, 61, 62, 63, 64, 52, 53, 54, 55] (by decide +kernel) (by decide +kernel)
set_option maxRecDepth 20000 in
theorem gX5_parentWithRoom_X3_lookUp : GoodIn wsX5_parentWithRoom (wsV RX5 146 RX3 yX3_lookUp wsX3_lookUp) := goodIn_app (goodIn_of _ (by decide +kernel)) ggX5_parentWithRoom_X3_lookUp
set_option maxRecDepth 20000 in
theorem ggX5_parentWithRoom_X3_step : GoodIn wsX5_parentWithRoom wsX3_step := goodIn_r _ [31, 32, 11, 33, 34, 35, 9, 36, 37, 38, 39, 40, 18, 19, 15, 20, 21, 22, 23, 41, 25, 26, 27, 42, 43, 44, 45, 46, 47, 48, 49, 50, 12, 13, 14, 16, 17, 24, 52, 53, 54, 55, 56, 57, 58, 59, 60, 61, 62, 63, 64] (by decide +kernel) (by decide +kernel)
set_option maxRecDepth 20000 in
theorem gX5_parentWithRoom_X3_step : GoodIn wsX5_parentWithRoom (wsV RX5 150 RX3 yX3_step wsX3_step) := goodIn_app (goodIn_of _ (by decide +kernel)) ggX5_parentWithRoom_X3_step
set_option maxRecDepth 20000 in
theorem ggX5_measuredFile_X5_needPath : GoodIn wsX5_measuredFile wsX5_needPath := goodIn_ca (goodIn_r _ [9, 10, 11, 12, 13, 8, 14, 15] (by decide +kernel) (by decide +kernel)) (goodIn_sub (fun _ h => List.mem_cons_of_mem _ (List.mem_append_right _ h)) (by decide +kernel))
set_option maxRecDepth 20000 in
theorem gX5_measuredFile_X5_needPath : GoodIn wsX5_measuredFile (va_wsS RX5 216 yX5_needPath wsX5_needPath) := goodIn_app (goodIn_of _ (by decide +kernel)) ggX5_measuredFile_X5_needPath
set_option maxRecDepth 20000 in
theorem ggX5_measuredFile_X3_lookUp : GoodIn wsX5_measuredFile wsX3_lookUp := goodIn_r _ [20, 21, 22, 23, 24, 25, 26, 27, 28, 29, 30, 31, 32, 33, 34, 35, 36, 37, 38, 39, 40, 19, 41, 42, 43, 44, 45, 46, 47, 48, 49, 50, 51, 52, 53, 54, 55, 56, 57, 58, 59, 60, 71, 72, 73, 74, 75, 76, 77, 78, 79, 67, 68, 69, 70] (by decide +kernel) (by decide +kernel)
set_option maxRecDepth 20000 in
theorem gX5_measuredFile_X3_lookUp : GoodIn wsX5_measuredFile (wsV RX5 146 RX3 yX3_lookUp wsX3_lookUp) := goodIn_app (goodIn_of _ (by decide +kernel)) ggX5_measuredFile_X3_lookUp
set_option maxRecDepth 20000 in
theorem ggX5_measuredFile_X3_lookAtSize : GoodIn wsX5_measuredFile wsX3_lookAtSize := goodIn_r _ [64, 47, 48, 65, 66, 50, 28, 29, 25, 30, 31, 32, 33, 51, 35, 36, 37, 58, 59, 19, 60, 71, 72, 73, 74, 75, 76, 77, 67, 68, 69, 70, 78, 79] (by decide +kernel) (by decide +kernel)
set_option maxRecDepth 20000 in
theorem gX5_measuredFile_X3_lookAtSize : GoodIn wsX5_measuredFile (wsV RX5 277 RX3 yX3_lookAtSize wsX3_lookAtSize) := goodIn_app (goodIn_of _ (by decide +kernel)) ggX5_measuredFile_X3_lookAtSize
set_option maxRecDepth 20000 in
theorem ggX5_judged_X3_isStale : GoodIn wsX5_judged wsX3_isStale := goodIn_r _ [9, 10, 11, 12, 13, 14, 15, 16, 17, 18, 19, 20, 21, 22, 23, 24, 25, 26, 27, 28, 29, 30, 31, 32, 33, 8, 34, 35, 36, 37, 38, 39, 40, 41, 42, 43, 102, 103, 104, 105, 106, 107, 108, 109, 110, 111, 112, 113, 114] (by decide +kernel) (by decide +kernel)
set_option maxRecDepth 20000 in
theorem gX5_judged_X3_isStale : GoodIn wsX5_judged (wsV RX5 282 RX3 yX3_isStale wsX3_isStale) := goodIn_app (goodIn_of _ (by decide +kernel)) ggX5_judged_X3_isStale
set_option maxRecDepth 20000 in
theorem ggX5_judged_X1_weigh : GoodIn wsX5_judged wsX1_weigh := goodIn_r _ [48, 49, 50, 51, 52, 53, 54, 55, 16, 17, 18, 19, 20, 21, 56, 23, 24, 25, 26, 27, 28, 29, 30, 31, 57, 58, 59, 47, 60, 61, 62, 63, 64, 65, 66, 67, 68, 39, 40, 41, 42, 43, 69, 70, 71, 72, 73, 74, 75, 76, 77, 78, 79, 80, 81, 82, 83, 84, 85, 86, 115, 116, 117, 118, 119, 120, 109, 110, 111, 112, 113, 114] (by decide +kernel) (by decide +kernel)
set_option maxRecDepth 20000 in
theorem gX5_judged_X1_weigh : GoodIn wsX5_judged (wsV RX5 235 RX1 yX1_weigh wsX1_weigh) := goodIn_app (goodIn_of _ (by decide +kernel)) ggX5_judged_X1_weigh
set_option maxRecDepth 20000 in
theorem ggX5_judged_X1_isTooMuch : GoodIn wsX5_judged wsX1_isTooMuch := goodIn_r _ [90, 50, 51, 49, 115, 116, 117, 118, 119, 120] (by decide +kernel) (by decide +kernel)
set_option maxRecDepth 20000 in
theorem gX5_judged_X1_isTooMuch : GoodIn wsX5_judged (wsV RX5 286 RX1 yX1_isTooMuch wsX1_isTooMuch) := goodIn_app (goodIn_of _ (by decide +kernel)) ggX5_judged_X1_isTooMuch
set_option maxRecDepth 20000 in
theorem ggX5_written_X0_put : GoodIn wsX5_written wsX0_put := goodIn_r _ [8, 9, 10, 52, 53] (by decide +kernel) (by decide +kernel)
set_option maxRecDepth 20000 in
theorem gX5_written_X0_put : GoodIn wsX5_written (wsV RX5 289 RX0 yX0_put wsX0_put) := goodIn_app (goodIn_of _ (by decide +kernel)) ggX5_written_X0_put
set_option maxRecDepth 20000 in
theorem ggX5_written_X5_goDown : GoodIn wsX5_written wsX5_goDown := goodIn_r _ [15, 16, 17, 18, 41, 42, 43, 44, 45, 46, 47, 48, 49, 50, 51, 54, 55, 56, 57, 58, 59, 60] (by decide +kernel) (by decide +kernel)
set_option maxRecDepth 20000 in
theorem gX5_written_X5_goDown : GoodIn wsX5_written (wsV RX5 291 RX5 yX5_goDown wsX5_goDown) := goodIn_app (goodIn_of _ (by decide +kernel)) ggX5_written_X5_goDown
set_option maxRecDepth 20000 in
theorem ggX5_written_X5_broughtHome : GoodIn wsX5_written wsX5_broughtHome := goodIn_r _ [22, 1, 23, 24, 25, 3, 4, 5, 6, 7, 8, 9, 10, 26, 27, 28, 29, 30, 31, 32, 33, 34, 35, 36, 37, 38, 39, 40, 41, 42, 43, 44, 45, 46, 47, 48, 49, 50, 51, 52, 53, 61, 62] (by decide +kernel) (by decide +kernel)
set_option maxRecDepth 20000 in
theorem gX5_written_X5_broughtHome : GoodIn wsX5_written (wsV RX5 248 RX5 yX5_broughtHome wsX5_broughtHome) := goodIn_app (goodIn_of _ (by decide +kernel)) ggX5_written_X5_broughtHome
set_option maxRecDepth 20000 in
theorem ggX5_broughtHome_X0_put : GoodIn wsX5_broughtHome wsX0_put := goodIn_r _ [10, 11, 12, 39, 40] (by decide +kernel) (by decide +kernel)
set_option maxRecDepth 20000 in
theorem gX5_broughtHome_X0_put : GoodIn wsX5_broughtHome (wsV RX5 289 RX0 yX0_put wsX0_put) := goodIn_app (goodIn_of _ (by decide +kernel)) ggX5_broughtHome_X0_put
set_option maxRecDepth 20000 in
theorem ggX5_broughtHome_X4_copyFrom : GoodIn wsX5_broughtHome wsX4_copyFrom := goodIn_r _ [17, 18, 19, 20, 21, 16, 22, 23, 24, 25, 26, 27, 41, 42] (by decide +kernel) (by decide +kernel)
set_option maxRecDepth 20000 in
theorem gX5_broughtHome_X4_copyFrom : GoodIn wsX5_broughtHome (wsV RX5 294 RX4 yX4_copyFrom wsX4_copyFrom) := goodIn_app (goodIn_of _ (by decide +kernel)) ggX5_broughtHome_X4_copyFrom
