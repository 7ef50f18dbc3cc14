set_option maxRecDepth 20000 in
theorem ggX5_move_X5_isOrGoesThrough : GoodIn wsX5_move wsX5_isOrGoesThrough := goodIn_r _ [27] (by decide +kernel) (by decide +kernel)
set_option maxRecDepth 20000 in
theorem gX5_move_X5_isOrGoesThrough : GoodIn wsX5_move (va_wsS RX5 171 yX5_isOrGoesThrough wsX5_isOrGoesThrough) := goodIn_app (goodIn_of _ (by decide +kernel)) ggX5_move_X5_isOrGoesThrough
set_option maxRecDepth 20000 in
theorem ggX5_move_X3_lookUp : GoodIn wsX5_move wsX3_lookUp := goodIn_r _ [32, 33, 34, 35, 36, 37, 38, 39, 40, 41, 42, 43, 44, 45, 46, 47, 48, 49, 50, 51, 52, 31, 53, 54, 55, 56, 57, 58, 59, 60, 61, 62, 63, 64, 65, 66, 67, 68, 69, 70, 71, 72, 114, 115, 116, 117, 118, 119, 120, 136, 137, 121, 122, 123, 124] (by decide +kernel) (by decide +kernel)
set_option maxRecDepth 20000 in
theorem gX5_move_X3_lookUp : GoodIn wsX5_move (wsV RX5 146 RX3 yX3_lookUp wsX3_lookUp) := goodIn_app (goodIn_of _ (by decide +kernel)) ggX5_move_X3_lookUp
set_option maxRecDepth 20000 in
theorem ggX5_move_X3_step : GoodIn wsX5_move wsX3_step := goodIn_r _ [53, 54, 33, 55, 56, 57, 31, 58, 59, 60, 61, 62, 40, 41, 37, 42, 43, 44, 45, 63, 47, 48, 49, 64, 65, 66, 67, 68, 69, 70, 71, 72, 34, 35, 36, 38, 39, 46, 121, 122, 123, 124, 114, 115, 116, 117, 118, 119, 120, 136, 137] (by decide +kernel) (by decide +kernel)
set_option maxRecDepth 20000 in
theorem gX5_move_X3_step : GoodIn wsX5_move (wsV RX5 150 RX3 yX3_step wsX3_step) := goodIn_app (goodIn_of _ (by decide +kernel)) ggX5_move_X3_step
set_option maxRecDepth 20000 in
theorem ggX5_move_X5_parentWithRoom : GoodIn wsX5_move wsX5_parentWithRoom := goodIn_ca (goodIn_ca (goodIn_r _ [76, 3, 4, 77, 78, 7, 28, 29, 30, 31, 32, 33, 34, 35, 36, 37, 38, 39, 40, 41, 42, 43, 44, 45, 46, 47, 48, 49, 50, 51, 52, 53, 54, 55, 56, 57, 58, 59, 60, 61, 62, 63, 64, 65, 66, 67, 68, 69, 70, 71, 72, 73, 121, 122, 123, 124, 114, 115, 116, 117, 118, 119, 120, 136, 137] (by decide +kernel) (by decide +kernel)) (goodIn_sub (fun _ h => List.mem_cons_of_mem _ (List.mem_append_left _ (List.mem_append_left _ (List.mem_append_right _ h)))) (by decide +kernel))) (goodIn_sub (fun _ h => List.mem_cons_of_mem _ (List.mem_append_right _ h)) (by decide +kernel))
set_option maxRecDepth 20000 in
theorem gX5_move_X5_parentWithRoom : GoodIn wsX5_move (va_wsS RX5 127 yX5_parentWithRoom wsX5_parentWithRoom) := goodIn_app (goodIn_of _ (by decide +kernel)) ggX5_move_X5_parentWithRoom
set_option maxRecDepth 20000 in
theorem ggX5_move_X4_setEntry : GoodIn wsX5_move wsX4_setEntry := goodIn_r _ [82, 83, 84, 35, 36, 37, 38, 39, 40, 41, 42, 43, 44, 45, 46, 47, 48, 49, 85, 86, 87, 67, 88, 69, 89, 90, 91, 92, 93, 94, 95, 96, 97, 98, 99, 100, 101, 102, 103, 104, 105, 106, 107, 108, 109, 110, 111, 112, 113, 121, 122, 123, 124, 136, 137] (by decide +kernel) (by decide +kernel)
set_option maxRecDepth 20000 in
theorem gX5_move_X4_setEntry : GoodIn wsX5_move (wsV RX5 142 RX4 yX4_setEntry wsX4_setEntry) := goodIn_app (goodIn_of _ (by decide +kernel)) ggX5_move_X4_setEntry
set_option maxRecDepth 20000 in
theorem ggX5_write_X5_opened : GoodIn wsX5_write wsX5_opened := goodIn_ca (goodIn_r _ [7, 8, 9, 10, 11, 12, 126, 127, 128, 129, 130, 131, 132, 133, 134, 135, 136, 115, 116, 117, 118, 119, 120, 121] (by decide +kernel) (by decide +kernel)) (goodIn_sub (fun _ h => List.mem_cons_of_mem _ (List.mem_append_left _ (List.mem_append_left _ (List.mem_append_left _ (List.mem_append_left _ (List.mem_append_right _ h)))))) (by decide +kernel))
set_option maxRecDepth 20000 in
theorem gX5_write_X5_opened : GoodIn wsX5_write (wsV RX5 91 RX5 yX5_opened wsX5_opened) := goodIn_app (goodIn_of _ (by decide +kernel)) ggX5_write_X5_opened
set_option maxRecDepth 20000 in
theorem ggX5_write_X5_measuredFile : GoodIn wsX5_write wsX5_measuredFile := goodIn_ca (goodIn_ca (goodIn_ca (goodIn_r _ [15, 16, 17, 18, 19, 20, 21, 22, 6, 23, 24, 25, 26, 27, 28, 29, 30, 31, 32, 33, 34, 35, 36, 37, 38, 39, 40, 41, 42, 43, 44, 45, 46, 47, 48, 49, 50, 51, 52, 53, 54, 55, 56, 57, 58, 59, 60, 61, 62, 63, 64, 65, 66, 67, 68, 69, 70, 71, 72, 73, 74, 75, 76, 77, 78, 79, 80, 122, 123, 124, 125, 115, 116, 117, 118, 119, 120, 121, 137, 138] (by decide +kernel) (by decide +kernel)) (goodIn_sub (fun _ h => List.mem_cons_of_mem _ (List.mem_append_left _ (List.mem_append_left _ (List.mem_append_left _ (List.mem_append_right _ h))))) (by decide +kernel))) (goodIn_sub (fun _ h => List.mem_cons_of_mem _ (List.mem_append_left _ (List.mem_append_left _ (List.mem_append_right _ h)))) (by decide +kernel))) (goodIn_sub (fun _ h => List.mem_cons_of_mem _ (List.mem_append_left _ (List.mem_append_right _ h))) (by decide +kernel))
set_option maxRecDepth 20000 in
theorem gX5_write_X5_measuredFile : GoodIn wsX5_write (va_wsS RX5 182 yX5_measuredFile wsX5_measuredFile) := goodIn_app (goodIn_of _ (by decide +kernel)) ggX5_write_X5_measuredFile
set_option maxRecDepth 20000 in
theorem ggX5_write_X5_needWord : GoodIn wsX5_write wsX5_needWord := goodIn_ca (goodIn_r _ [83, 84, 85, 2, 122, 123, 124, 125] (by decide +kernel) (by decide +kernel)) (goodIn_sub (fun _ h => List.mem_cons_of_mem _ (List.mem_append_right _ h)) (by decide +kernel))
set_option maxRecDepth 20000 in
theorem gX5_write_X5_needWord : GoodIn wsX5_write (va_wsS RX5 185 yX5_needWord wsX5_needWord) := goodIn_app (goodIn_of _ (by decide +kernel)) ggX5_write_X5_needWord
set_option maxRecDepth 20000 in
theorem ggX5_write_X2_withCell : GoodIn wsX5_write wsX2_withCell := goodIn_r _ [89, 71, 90, 91, 92, 93, 94, 95, 96, 97, 69, 98, 99, 100, 101, 102, 103, 104, 105, 106, 122, 123, 124, 125] (by decide +kernel) (by decide +kernel)
set_option maxRecDepth 20000 in
theorem gX5_write_X2_withCell : GoodIn wsX5_write (wsV RX5 190 RX2 yX2_withCell wsX2_withCell) := goodIn_app (goodIn_of _ (by decide +kernel)) ggX5_write_X2_withCell
set_option maxRecDepth 20000 in
theorem ggX5_write_X4_put : GoodIn wsX5_write wsX4_put := goodIn_r _ [110, 47, 46, 41, 42, 43, 39, 44, 45, 111, 112, 113, 114, 122, 123, 124, 125, 137, 138] (by decide +kernel) (by decide +kernel)
set_option maxRecDepth 20000 in
theorem gX5_write_X4_put : GoodIn wsX5_write (wsV RX5 136 RX4 yX4_put wsX4_put) := goodIn_app (goodIn_of _ (by decide +kernel)) ggX5_write_X4_put
set_option maxRecDepth 20000 in
theorem ggX5_append_X5_opened : GoodIn wsX5_append wsX5_opened := goodIn_ca (goodIn_r _ [9, 10, 11, 12, 13, 14, 121, 122, 123, 124, 125, 126, 127, 128, 129, 130, 131, 114, 115, 116, 117, 118, 119, 120] (by decide +kernel) (by decide +kernel)) (goodIn_sub (fun _ h => List.mem_cons_of_mem _ (List.mem_append_left _ (List.mem_append_left _ (List.mem_append_right _ h)))) (by decide +kernel))
set_option maxRecDepth 20000 in
theorem gX5_append_X5_opened : GoodIn wsX5_append (wsV RX5 91 RX5 yX5_opened wsX5_opened) := goodIn_app (goodIn_of _ (by decide +kernel)) ggX5_append_X5_opened
set_option maxRecDepth 20000 in
theorem ggX5_append_X5_measuredFile : GoodIn wsX5_append wsX5_measuredFile := goodIn_ca (goodIn_ca (goodIn_ca (goodIn_r _ [17, 18, 19, 1, 2, 20, 21, 22, 8, 23, 24, 25, 26, 27, 28, 29, 30, 31, 32, 33, 34, 35, 36, 37, 38, 39, 40, 41, 42, 43, 44, 45, 46, 47, 48, 49, 50, 51, 52, 53, 54, 55, 56, 57, 58, 59, 60, 61, 62, 63, 64, 65, 66, 67, 68, 69, 70, 71, 72, 73, 74, 75, 76, 77, 78, 79, 80, 110, 111, 112, 113, 114, 115, 116, 117, 118, 119, 120, 132, 133] (by decide +kernel) (by decide +kernel)) (goodIn_sub (fun _ h => List.mem_cons_of_mem _ (List.mem_append_left _ (List.mem_append_right _ h))) (by decide +kernel))) (goodIn_sub (fun _ h => List.mem_cons_of_mem _ (List.mem_append_left _ (List.mem_append_left _ (List.mem_append_left _ (List.mem_append_right _ h))))) (by decide +kernel))) (goodIn_sub (fun _ h => List.mem_cons_of_mem _ (List.mem_append_right _ h)) (by decide +kernel))
set_option maxRecDepth 20000 in
theorem gX5_append_X5_measuredFile : GoodIn wsX5_append (va_wsS RX5 182 yX5_measuredFile wsX5_measuredFile) := goodIn_app (goodIn_of _ (by decide +kernel)) ggX5_append_X5_measuredFile
set_option maxRecDepth 20000 in
theorem ggX5_append_X2_withCell : GoodIn wsX5_append wsX2_withCell := goodIn_r _ [84, 71, 85, 86, 87, 88, 89, 90, 91, 92, 69, 93, 94, 95, 96, 97, 98, 99, 100, 101, 110, 111, 112, 113] (by decide +kernel) (by decide +kernel)
set_option maxRecDepth 20000 in
theorem gX5_append_X2_withCell : GoodIn wsX5_append (wsV RX5 190 RX2 yX2_withCell wsX2_withCell) := goodIn_app (goodIn_of _ (by decide +kernel)) ggX5_append_X2_withCell
set_option maxRecDepth 20000 in
theorem ggX5_append_X4_put : GoodIn wsX5_append wsX4_put := goodIn_r _ [105, 47, 46, 41, 42, 43, 39, 44, 45, 106, 107, 108, 109, 110, 111, 112, 113, 132, 133] (by decide +kernel) (by decide +kernel)
set_option maxRecDepth 20000 in
theorem gX5_append_X4_put : GoodIn wsX5_append (wsV RX5 136 RX4 yX4_put wsX4_put) := goodIn_app (goodIn_of _ (by decide +kernel)) ggX5_append_X4_put
set_option maxRecDepth 20000 in
theorem ggX5_cut_X5_opened : GoodIn wsX5_cut wsX5_opened := goodIn_ca (goodIn_r _ [11, 12, 13, 14, 15, 16, 127, 128, 129, 130, 131, 132, 133, 134, 135, 136, 137, 120, 121, 122, 123, 124, 125, 126] (by decide +kernel) (by decide +kernel)) (goodIn_sub (fun _ h => List.mem_cons_of_mem _ (List.mem_append_left _ (List.mem_append_left _ (List.mem_append_right _ h)))) (by decide +kernel))
set_option maxRecDepth 20000 in
theorem gX5_cut_X5_opened : GoodIn wsX5_cut (wsV RX5 91 RX5 yX5_opened wsX5_opened) := goodIn_app (goodIn_of _ (by decide +kernel)) ggX5_cut_X5_opened
set_option maxRecDepth 20000 in
theorem ggX5_cut_X5_measuredFile : GoodIn wsX5_cut wsX5_measuredFile := goodIn_ca (goodIn_ca (goodIn_ca (goodIn_r _ [19, 20, 21, 22, 23, 24, 25, 26, 10, 27, 1, 2, 28, 29, 30, 31, 32, 33, 34, 35, 36, 37, 38, 39, 40, 41, 42, 43, 44, 45, 46, 47, 48, 49, 50, 51, 52, 53, 54, 55, 56, 57, 58, 59, 60, 61, 62, 63, 64, 65, 66, 67, 68, 69, 70, 71, 72, 73, 74, 75, 76, 77, 78, 79, 80, 81, 82, 116, 117, 118, 119, 120, 121, 122, 123, 124, 125, 126, 138, 139] (by decide +kernel) (by decide +kernel)) (goodIn_sub (fun _ h => List.mem_cons_of_mem _ (List.mem_append_left _ (List.mem_append_right _ h))) (by decide +kernel))) (goodIn_sub (fun _ h => List.mem_cons_of_mem _ (List.mem_append_right _ h)) (by decide +kernel))) (goodIn_sub (fun _ h => List.mem_cons_of_mem _ (List.mem_append_left _ (List.mem_append_left _ (List.mem_append_left _ (List.mem_append_left _ (List.mem_append_right _ h)))))) (by decide +kernel))
set_option maxRecDepth 20000 in
theorem gX5_cut_X5_measuredFile : GoodIn wsX5_cut (va_wsS RX5 182 yX5_measuredFile wsX5_measuredFile) := goodIn_app (goodIn_of _ (by decide +kernel)) ggX5_cut_X5_measuredFile
set_option maxRecDepth 20000 in
theorem ggX5_cut_X2_cutTo : GoodIn wsX5_cut wsX2_cutTo := goodIn_r _ [86, 73, 87, 88, 89, 90, 91, 92, 93, 94, 95, 96, 97, 98, 71, 99, 100, 101, 102, 103, 104, 105, 106, 107, 116, 117, 118, 119] (by decide +kernel) (by decide +kernel)
set_option maxRecDepth 20000 in
theorem gX5_cut_X2_cutTo : GoodIn wsX5_cut (wsV RX5 203 RX2 yX2_cutTo wsX2_cutTo) := goodIn_app (goodIn_of _ (by decide +kernel)) ggX5_cut_X2_cutTo
set_option maxRecDepth 20000 in
theorem ggX5_cut_X4_put : GoodIn wsX5_cut wsX4_put := goodIn_r _ [111, 49, 48, 43, 44, 45, 41, 46, 47, 112, 113, 114, 115, 116, 117, 118, 119, 138, 139] (by decide +kernel) (by decide +kernel)
set_option maxRecDepth 20000 in
theorem gX5_cut_X4_put : GoodIn wsX5_cut (wsV RX5 136 RX4 yX4_put wsX4_put) := goodIn_app (goodIn_of _ (by decide +kernel)) ggX5_cut_X4_put
set_option maxRecDepth 20000 in
theorem ggX5_read_X5_openedOrNone : GoodIn wsX5_read wsX5_openedOrNone := goodIn_ca (goodIn_r _ [5, 6, 7, 8, 9, 10, 4, 11, 12, 13, 14, 15, 92, 93, 94, 95, 96, 97, 98, 99, 100, 101, 102, 103, 104, 105, 106, 107, 108, 109] (by decide +kernel) (by decide +kernel)) (goodIn_sub (fun _ h => List.mem_cons_of_mem _ (List.mem_append_left _ (List.mem_append_left _ (List.mem_append_left _ (List.mem_append_left _ (List.mem_append_right _ h)))))) (by decide +kernel))
set_option maxRecDepth 20000 in
theorem gX5_read_X5_openedOrNone : GoodIn wsX5_read (wsV RX5 206 RX5 yX5_openedOrNone wsX5_openedOrNone) := goodIn_app (goodIn_of _ (by decide +kernel)) ggX5_read_X5_openedOrNone
set_option maxRecDepth 20000 in
theorem ggX5_read_X5_measuredFile : GoodIn wsX5_read wsX5_measuredFile := goodIn_ca (goodIn_ca (goodIn_ca (goodIn_r _ [18, 19, 20, 21, 22, 23, 24, 25, 4, 26, 27, 28, 29, 30, 31, 32, 33, 34, 35, 36, 37, 38, 39, 40, 41, 42, 43, 44, 45, 46, 47, 48, 49, 50, 51, 52, 53, 54, 55, 56, 57, 58, 59, 60, 61, 62, 63, 64, 65, 66, 67, 68, 69, 70, 71, 72, 73, 74, 75, 76, 77, 78, 79, 80, 81, 82, 83, 110, 111, 112, 113, 103, 104, 105, 106, 107, 108, 109, 114, 115] (by decide +kernel) (by decide +kernel)) (goodIn_sub (fun _ h => List.mem_cons_of_mem _ (List.mem_append_left _ (List.mem_append_left _ (List.mem_append_left _ (List.mem_append_right _ h))))) (by decide +kernel))) (goodIn_sub (fun _ h => List.mem_cons_of_mem _ (List.mem_append_left _ (List.mem_append_left _ (List.mem_append_right _ h)))) (by decide +kernel))) (goodIn_sub (fun _ h => List.mem_cons_of_mem _ (List.mem_append_left _ (List.mem_append_right _ h))) (by decide +kernel))
set_option maxRecDepth 20000 in
theorem gX5_read_X5_measuredFile : GoodIn wsX5_read (va_wsS RX5 182 yX5_measuredFile wsX5_measuredFile) := goodIn_app (goodIn_of _ (by decide +kernel)) ggX5_read_X5_measuredFile
set_option maxRecDepth 20000 in
theorem ggX5_read_X5_needWord : GoodIn wsX5_read wsX5_needWord := goodIn_ca (goodIn_r _ [86, 87, 88, 89, 110, 111, 112, 113] (by decide +kernel) (by decide +kernel)) (goodIn_sub (fun _ h => List.mem_cons_of_mem _ (List.mem_append_right _ h)) (by decide +kernel))
set_option maxRecDepth 20000 in
theorem gX5_read_X5_needWord : GoodIn wsX5_read (va_wsS RX5 185 yX5_needWord wsX5_needWord) := goodIn_app (goodIn_of _ (by decide +kernel)) ggX5_read_X5_needWord
set_option maxRecDepth 20000 in
theorem ggX5_read_X3_lookAtCell : GoodIn wsX5_read wsX3_lookAtCell := goodIn_r _ [63, 64, 65, 66, 67, 45, 46, 42, 47, 48, 49, 50, 68, 52, 53, 54, 69, 70, 71, 72, 73, 74, 75, 76, 36, 77, 103, 104, 105, 106, 107, 108, 109, 110, 111, 112, 113, 114, 115] (by decide +kernel) (by decide +kernel)
set_option maxRecDepth 20000 in
theorem gX5_read_X3_lookAtCell : GoodIn wsX5_read (wsV RX5 209 RX3 yX3_lookAtCell wsX3_lookAtCell) := goodIn_app (goodIn_of _ (by decide +kernel)) ggX5_read_X3_lookAtCell
set_option maxRecDepth 20000 in
theorem ggX5_read_X2_cell : GoodIn wsX5_read wsX2_cell := goodIn_r _ [73, 74, 110, 111, 112, 113] (by decide +kernel) (by decide +kernel)
set_option maxRecDepth 20000 in
theorem gX5_read_X2_cell : GoodIn wsX5_read (wsV RX5 212 RX2 yX2_cell wsX2_cell) := goodIn_app (goodIn_of _ (by decide +kernel)) ggX5_read_X2_cell
set_option maxRecDepth 20000 in
theorem ggX5_length_X5_openedOrNone : GoodIn wsX5_length wsX5_openedOrNone := goodIn_ca (goodIn_r _ [6, 7, 8, 9, 10, 11, 5, 12, 13, 14, 15, 16, 89, 90, 91, 92, 93, 94, 95, 96, 97, 98, 99, 100, 101, 102, 103, 104, 105, 106] (by decide +kernel) (by decide +kernel)) (goodIn_sub (fun _ h => List.mem_cons_of_mem _ (List.mem_append_left _ (List.mem_append_left _ (List.mem_append_left _ (List.mem_append_right _ h))))) (by decide +kernel))
set_option maxRecDepth 20000 in
theorem gX5_length_X5_openedOrNone : GoodIn wsX5_length (wsV RX5 206 RX5 yX5_openedOrNone wsX5_openedOrNone) := goodIn_app (goodIn_of _ (by decide +kernel)) ggX5_length_X5_openedOrNone
set_option maxRecDepth 20000 in
theorem ggX5_length_X5_measuredFile : GoodIn wsX5_length wsX5_measuredFile := goodIn_ca (goodIn_ca (goodIn_ca (goodIn_r _ [19, 20, 21, 22, 23, 24, 25, 26, 5, 27, 28, 29, 30, 31, 32, 33, 34, 35, 36, 37, 38, 39, 40, 41, 42, 43, 44, 45, 46, 47, 48, 49, 50, 51, 52, 53, 54, 55, 56, 57, 58, 59, 60, 61, 62, 63, 64, 65, 66, 67, 68, 69, 70, 71, 72, 73, 74, 75, 76, 77, 78, 79, 80, 81, 82, 83, 84, 85, 86, 87, 88, 100, 101, 102, 103, 104, 105, 106, 107, 108] (by decide +kernel) (by decide +kernel)) (goodIn_sub (fun _ h => List.mem_cons_of_mem _ (List.mem_append_left _ (List.mem_append_left _ (List.mem_append_right _ h)))) (by decide +kernel))) (goodIn_sub (fun _ h => List.mem_cons_of_mem _ (List.mem_append_left _ (List.mem_append_right _ h))) (by decide +kernel))) (goodIn_sub (fun _ h => List.mem_cons_of_mem _ (List.mem_append_right _ h)) (by decide +kernel))
set_option maxRecDepth 20000 in
theorem gX5_length_X5_measuredFile : GoodIn wsX5_length (va_wsS RX5 182 yX5_measuredFile wsX5_measuredFile) := goodIn_app (goodIn_of _ (by decide +kernel)) ggX5_length_X5_measuredFile
set_option maxRecDepth 20000 in
theorem ggX5_kind_X5_openedOrNone : GoodIn wsX5_kind wsX5_openedOrNone := goodIn_ca (goodIn_r _ [6, 7, 8, 9, 10, 11, 5, 12, 13, 14, 15, 16, 75, 76, 77, 78, 79, 80, 81, 82, 83, 84, 85, 86, 87, 88, 89, 90, 91, 92] (by decide +kernel) (by decide +kernel)) (goodIn_sub (fun _ h => List.mem_cons_of_mem _ (List.mem_append_left _ (List.mem_append_right _ h))) (by decide +kernel))
set_option maxRecDepth 20000 in
theorem gX5_kind_X5_openedOrNone : GoodIn wsX5_kind (wsV RX5 206 RX5 yX5_openedOrNone wsX5_openedOrNone) := goodIn_app (goodIn_of _ (by decide +kernel)) ggX5_kind_X5_openedOrNone
set_option maxRecDepth 20000 in
theorem ggX5_kind_X5_needPath : GoodIn wsX5_kind wsX5_needPath := goodIn_ca (goodIn_r _ [19, 20, 21, 22, 23, 5, 24, 25] (by decide +kernel) (by decide +kernel)) (goodIn_sub (fun _ h => List.mem_cons_of_mem _ (List.mem_append_right _ h)) (by decide +kernel))
set_option maxRecDepth 20000 in
theorem gX5_kind_X5_needPath : GoodIn wsX5_kind (va_wsS RX5 216 yX5_needPath wsX5_needPath) := goodIn_app (goodIn_of _ (by decide +kernel)) ggX5_kind_X5_needPath
set_option maxRecDepth 20000 in
theorem ggX5_kind_X3_lookUp : GoodIn wsX5_kind wsX3_lookUp := goodIn_r _ [30, 31, 32, 33, 34, 35, 36, 37, 38, 39, 40, 41, 42, 43, 44, 45, 46, 47, 48, 49, 50, 29, 51, 52, 53, 54, 55, 56, 57, 58, 59, 60, 61, 62, 63, 64, 65, 66, 67, 68, 69, 70, 86, 87, 88, 89, 90, 91, 92, 93, 94, 71, 72, 73, 74] (by decide +kernel) (by decide +kernel)
set_option maxRecDepth 20000 in
theorem gX5_kind_X3_lookUp : GoodIn wsX5_kind (wsV RX5 146 RX3 yX3_lookUp wsX3_lookUp) := goodIn_app (goodIn_of _ (by decide +kernel)) ggX5_kind_X3_lookUp
set_option maxRecDepth 20000 in
theorem ggX5_list_X5_openedOrNone : GoodIn wsX5_list wsX5_openedOrNone := goodIn_ca (goodIn_r _ [10, 11, 12, 13, 14, 15, 9, 16, 17, 18, 19, 20, 84, 85, 86, 87, 88, 89, 90, 91, 92, 93, 94, 95, 96, 97, 98, 99, 100, 101] (by decide +kernel) (by decide +kernel)) (goodIn_sub (fun _ h => List.mem_cons_of_mem _ (List.mem_append_left _ (List.mem_append_right _ h))) (by decide +kernel))
set_option maxRecDepth 20000 in
theorem gX5_list_X5_openedOrNone : GoodIn wsX5_list (wsV RX5 206 RX5 yX5_openedOrNone wsX5_openedOrNone) := goodIn_app (goodIn_of _ (by decide +kernel)) ggX5_list_X5_openedOrNone
set_option maxRecDepth 20000 in
theorem ggX5_list_X5_needPath : GoodIn wsX5_list wsX5_needPath := goodIn_ca (goodIn_r _ [23, 24, 25, 26, 27, 9, 28, 29] (by decide +kernel) (by decide +kernel)) (goodIn_sub (fun _ h => List.mem_cons_of_mem _ (List.mem_append_right _ h)) (by decide +kernel))
set_option maxRecDepth 20000 in
theorem gX5_list_X5_needPath : GoodIn wsX5_list (va_wsS RX5 216 yX5_needPath wsX5_needPath) := goodIn_app (goodIn_of _ (by decide +kernel)) ggX5_list_X5_needPath
