set_option maxRecDepth 20000 in
theorem ggX5_init_X4_init : GoodIn wsX5_init wsX4_init := goodIn_r _ [28, 29, 2, 3, 30, 31, 32, 80, 81] (by decide +kernel) (by decide +kernel)
set_option maxRecDepth 20000 in
theorem gX5_init_X4_init_n9 : GoodIn wsX5_init (wsX4_init) := ggX5_init_X4_init
set_option maxRecDepth 20000 in
theorem ggX5_init_X2_blank : GoodIn wsX5_init wsX2_blank := goodIn_r _ [36, 37, 38, 35, 39, 40, 41, 42, 43, 2, 3, 44, 45, 46, 47, 108, 109, 110, 111] (by decide +kernel) (by decide +kernel)
set_option maxRecDepth 20000 in
theorem gX5_init_X2_blank : GoodIn wsX5_init (va_wsS RX5 16 yX2_blank wsX2_blank) := goodIn_app (goodIn_of _ (by decide +kernel)) ggX5_init_X2_blank
set_option maxRecDepth 20000 in
theorem ggX5_init_X4_add : GoodIn wsX5_init wsX4_add := goodIn_r _ [51, 32, 31, 80, 81] (by decide +kernel) (by decide +kernel)
set_option maxRecDepth 20000 in
theorem gX5_init_X4_add : GoodIn wsX5_init (wsV RX5 22 RX4 yX4_add wsX4_add) := goodIn_app (goodIn_of _ (by decide +kernel)) ggX5_init_X4_add
set_option maxRecDepth 20000 in
theorem ggX5_init_X1_init : GoodIn wsX5_init wsX1_init := goodIn_r _ [53, 54, 2, 3, 55, 56, 57, 58, 59, 60, 61, 34, 35, 36, 37, 38, 39, 40, 41, 42, 43, 44, 45, 46, 47, 93, 94, 95, 96, 97, 98, 108, 109, 110, 111] (by decide +kernel) (by decide +kernel)
set_option maxRecDepth 20000 in
theorem gX5_init_X1_init_n31 : GoodIn wsX5_init (wsX1_init) := ggX5_init_X1_init
set_option maxRecDepth 20000 in
theorem ggX5_init_X0_init : GoodIn wsX5_init wsX0_init := goodIn_r _ [63, 64, 2, 3, 65, 66, 99, 100] (by decide +kernel) (by decide +kernel)
set_option maxRecDepth 20000 in
theorem gX5_init_X0_init_n38 : GoodIn wsX5_init (wsX0_init) := ggX5_init_X0_init
set_option maxRecDepth 20000 in
theorem ggX5_init_X3_init : GoodIn wsX5_init wsX3_init := goodIn_r _ [69, 70, 2, 3, 71, 5, 6, 72, 73, 74, 75, 76, 77, 78, 79, 27, 28, 29, 30, 31, 32, 80, 81, 101, 102, 103, 104, 105, 106, 107] (by decide +kernel) (by decide +kernel)
set_option maxRecDepth 20000 in
theorem gX5_init_X3_init : GoodIn wsX5_init (wsX3_init) := ggX5_init_X3_init
set_option maxRecDepth 20000 in
theorem ggX5_begin_X3_start : GoodIn wsX5_begin wsX3_start := goodIn_r _ [13, 14, 15, 16, 17, 18, 19, 20, 21, 22, 23, 24, 25, 26, 27, 28, 29, 30, 31, 32, 33, 34, 35, 36, 37, 38, 50, 51, 52, 53, 54, 55, 56, 57, 58] (by decide +kernel) (by decide +kernel)
set_option maxRecDepth 20000 in
theorem gX5_begin_X3_start : GoodIn wsX5_begin (wsV RX5 83 RX3 yX3_start wsX3_start) := goodIn_app (goodIn_of _ (by decide +kernel)) ggX5_begin_X3_start
set_option maxRecDepth 20000 in
theorem ggX5_drop_X5_opened : GoodIn wsX5_drop wsX5_opened := goodIn_ca (goodIn_r _ [6, 7, 8, 9, 10, 1, 34, 35, 36, 37, 38, 39, 40, 41, 42, 43, 44, 27, 28, 29, 30, 31, 32, 33] (by decide +kernel) (by decide +kernel)) (goodIn_sub (fun _ h => List.mem_cons_of_mem _ (List.mem_append_right _ h)) (by decide +kernel))
set_option maxRecDepth 20000 in
theorem gX5_drop_X5_opened : GoodIn wsX5_drop (wsV RX5 91 RX5 yX5_opened wsX5_opened) := goodIn_app (goodIn_of _ (by decide +kernel)) ggX5_drop_X5_opened
set_option maxRecDepth 20000 in
theorem ggX5_drop_X3_itemsRead : GoodIn wsX5_drop wsX3_itemsRead := goodIn_r _ [15, 16, 17, 18, 19, 20, 21, 22, 23, 24, 25, 26, 27, 28, 29, 30, 31, 32, 33, 45, 46] (by decide +kernel) (by decide +kernel)
set_option maxRecDepth 20000 in
theorem gX5_drop_X3_itemsRead : GoodIn wsX5_drop (wsV RX5 95 RX3 yX3_itemsRead wsX3_itemsRead) := goodIn_app (goodIn_of _ (by decide +kernel)) ggX5_drop_X3_itemsRead
set_option maxRecDepth 20000 in
theorem ggX5_commit_X5_opened : GoodIn wsX5_commit wsX5_opened := goodIn_ca (goodIn_r _ [15, 16, 17, 18, 19, 1, 169, 170, 171, 172, 173, 174, 175, 176, 177, 178, 179, 162, 163, 164, 165, 166, 167, 168] (by decide +kernel) (by decide +kernel)) (goodIn_sub (fun _ h => List.mem_cons_of_mem _ (List.mem_append_right _ h)) (by decide +kernel))
set_option maxRecDepth 20000 in
theorem gX5_commit_X5_opened : GoodIn wsX5_commit (wsV RX5 91 RX5 yX5_opened wsX5_opened) := goodIn_app (goodIn_of _ (by decide +kernel)) ggX5_commit_X5_opened
set_option maxRecDepth 20000 in
theorem ggX5_commit_X5_judged : GoodIn wsX5_commit wsX5_judged := goodIn_r _ [23, 7, 2, 5, 6, 24, 25, 26, 27, 28, 29, 30, 31, 32, 33, 34, 35, 36, 37, 38, 39, 40, 41, 42, 43, 44, 45, 46, 47, 48, 49, 50, 51, 52, 53, 54, 55, 56, 57, 58, 59, 60, 61, 62, 63, 64, 65, 66, 67, 68, 69, 70, 71, 72, 73, 74, 75, 76, 77, 78, 79, 80, 81, 82, 83, 84, 85, 86, 87, 88, 89, 90, 91, 92, 93, 94, 95, 96, 97, 98, 99, 100, 101, 102, 103, 104, 105, 106, 107, 108, 109, 169, 170, 171, 172, 173, 174, 175, 176, 177, 178, 179, 162, 163, 164, 165, 166, 167, 168, 186, 187, 188, 189, 190, 191, 180, 181, 182, 183, 184, 185] (by decide +kernel) (by decide +kernel)
set_option maxRecDepth 20000 in
theorem gX5_commit_X5_judged : GoodIn wsX5_commit (wsV RX5 99 RX5 yX5_judged wsX5_judged) := goodIn_app (goodIn_of _ (by decide +kernel)) ggX5_commit_X5_judged
set_option maxRecDepth 20000 in
theorem ggX5_commit_X1_build : GoodIn wsX5_commit wsX1_build := goodIn_r _ [113, 72, 73, 74, 35, 36, 37, 38, 39, 40, 75, 42, 43, 44, 45, 46, 47, 48, 49, 50, 114, 115, 66, 116, 117, 118, 119, 120, 121, 122, 123, 85, 84, 124, 86, 125, 126, 60, 91, 92, 93, 87, 58, 59, 61, 62, 127, 128, 129, 130, 131, 132, 133, 134, 135, 186, 187, 188, 189, 190, 191] (by decide +kernel) (by decide +kernel)
set_option maxRecDepth 20000 in
theorem gX5_commit_X1_build : GoodIn wsX5_commit (wsV RX5 112 RX1 yX1_build wsX1_build) := goodIn_app (goodIn_of _ (by decide +kernel)) ggX5_commit_X1_build
set_option maxRecDepth 20000 in
theorem ggX5_commit_X5_written : GoodIn wsX5_commit wsX5_written := goodIn_r _ [139, 140, 4, 141, 142, 143, 144, 145, 146, 147, 148, 149, 150, 151, 14, 152, 19, 18, 1, 153, 154, 155, 156, 10, 7, 8, 157, 158, 159, 37, 160, 39, 50, 35, 36, 38, 40, 161, 118, 119, 120, 169, 170, 171, 172, 173, 174, 175, 176, 177, 178, 179, 192, 193, 162, 163, 164, 165, 166, 167, 168, 186, 187] (by decide +kernel) (by decide +kernel)
set_option maxRecDepth 20000 in
theorem gX5_commit_X5_written : GoodIn wsX5_commit (wsV RX5 119 RX5 yX5_written wsX5_written) := goodIn_app (goodIn_of _ (by decide +kernel)) ggX5_commit_X5_written
set_option maxRecDepth 20000 in
theorem ggX5_check_X5_opened : GoodIn wsX5_check wsX5_opened := goodIn_ca (goodIn_r _ [5, 6, 7, 8, 9, 10, 105, 106, 107, 108, 109, 110, 111, 112, 113, 114, 115, 116, 117, 118, 119, 120, 121, 122] (by decide +kernel) (by decide +kernel)) (goodIn_sub (fun _ h => List.mem_cons_of_mem _ (List.mem_append_right _ h)) (by decide +kernel))
set_option maxRecDepth 20000 in
theorem gX5_check_X5_opened : GoodIn wsX5_check (wsV RX5 91 RX5 yX5_opened wsX5_opened) := goodIn_app (goodIn_of _ (by decide +kernel)) ggX5_check_X5_opened
set_option maxRecDepth 20000 in
theorem ggX5_check_X5_judged : GoodIn wsX5_check wsX5_judged := goodIn_r _ [14, 15, 16, 17, 18, 19, 20, 21, 22, 23, 24, 25, 26, 27, 28, 29, 30, 31, 32, 33, 34, 35, 36, 37, 38, 39, 40, 41, 42, 43, 44, 45, 46, 47, 48, 49, 50, 51, 52, 53, 54, 55, 56, 57, 58, 59, 60, 61, 62, 63, 64, 65, 66, 67, 68, 69, 70, 71, 72, 73, 74, 75, 76, 77, 78, 79, 80, 81, 82, 83, 84, 85, 86, 87, 88, 89, 90, 91, 92, 93, 94, 95, 96, 97, 98, 99, 100, 101, 102, 103, 104, 105, 106, 107, 108, 109, 110, 111, 112, 113, 114, 115, 116, 117, 118, 119, 120, 121, 122, 123, 124, 125, 126, 127, 128, 129, 130, 131, 132, 133, 134] (by decide +kernel) (by decide +kernel)
set_option maxRecDepth 20000 in
theorem gX5_check_X5_judged : GoodIn wsX5_check (wsV RX5 99 RX5 yX5_judged wsX5_judged) := goodIn_app (goodIn_of _ (by decide +kernel)) ggX5_check_X5_judged
set_option maxRecDepth 20000 in
theorem ggX5_make_X5_opened : GoodIn wsX5_make wsX5_opened := goodIn_ca (goodIn_r _ [11, 12, 13, 14, 15, 16, 127, 128, 129, 130, 131, 132, 133, 134, 135, 136, 137, 118, 119, 120, 121, 122, 123, 124] (by decide +kernel) (by decide +kernel)) (goodIn_sub (fun _ h => List.mem_cons_of_mem _ (List.mem_append_left _ (List.mem_append_left _ (List.mem_append_right _ h)))) (by decide +kernel))
set_option maxRecDepth 20000 in
theorem gX5_make_X5_opened : GoodIn wsX5_make (wsV RX5 91 RX5 yX5_opened wsX5_opened) := goodIn_app (goodIn_of _ (by decide +kernel)) ggX5_make_X5_opened
set_option maxRecDepth 20000 in
theorem ggX5_make_X5_needPathBelowRoot : GoodIn wsX5_make wsX5_needPathBelowRoot := goodIn_ca (goodIn_r _ [19, 20, 21, 22, 23, 10, 24, 25] (by decide +kernel) (by decide +kernel)) (goodIn_sub (fun _ h => List.mem_cons_of_mem _ (List.mem_append_left _ (List.mem_append_right _ h))) (by decide +kernel))
set_option maxRecDepth 20000 in
theorem gX5_make_X5_needPathBelowRoot : GoodIn wsX5_make (va_wsS RX5 123 yX5_needPathBelowRoot wsX5_needPathBelowRoot) := goodIn_app (goodIn_of _ (by decide +kernel)) ggX5_make_X5_needPathBelowRoot
set_option maxRecDepth 20000 in
theorem ggX5_make_X5_parentWithRoom : GoodIn wsX5_make wsX5_parentWithRoom := goodIn_ca (goodIn_ca (goodIn_r _ [28, 29, 30, 1, 2, 31, 32, 33, 34, 35, 36, 37, 38, 39, 40, 41, 42, 43, 44, 45, 46, 47, 48, 49, 50, 51, 52, 53, 54, 55, 56, 57, 58, 59, 60, 61, 62, 63, 64, 65, 66, 67, 68, 69, 70, 71, 72, 73, 74, 75, 76, 77, 138, 139, 140, 141, 118, 119, 120, 121, 122, 123, 124, 125, 126] (by decide +kernel) (by decide +kernel)) (goodIn_sub (fun _ h => List.mem_cons_of_mem _ (List.mem_append_right _ h)) (by decide +kernel))) (goodIn_sub (fun _ h => List.mem_cons_of_mem _ (List.mem_append_left _ (List.mem_append_left _ (List.mem_append_left _ (List.mem_append_right _ h))))) (by decide +kernel))
set_option maxRecDepth 20000 in
theorem gX5_make_X5_parentWithRoom : GoodIn wsX5_make (va_wsS RX5 127 yX5_parentWithRoom wsX5_parentWithRoom) := goodIn_app (goodIn_of _ (by decide +kernel)) ggX5_make_X5_parentWithRoom
set_option maxRecDepth 20000 in
theorem ggX5_make_X2_blank : GoodIn wsX5_make wsX2_blank := goodIn_r _ [80, 81, 82, 71, 83, 84, 85, 86, 87, 88, 89, 90, 91, 92, 73, 138, 139, 140, 141] (by decide +kernel) (by decide +kernel)
set_option maxRecDepth 20000 in
theorem gX5_make_X2_blank : GoodIn wsX5_make (va_wsS RX5 16 yX2_blank wsX2_blank) := goodIn_app (goodIn_of _ (by decide +kernel)) ggX5_make_X2_blank
set_option maxRecDepth 20000 in
theorem ggX5_make_X4_put : GoodIn wsX5_make wsX4_put := goodIn_r _ [96, 49, 48, 43, 44, 45, 41, 46, 47, 97, 98, 99, 100, 138, 139, 140, 141, 125, 126] (by decide +kernel) (by decide +kernel)
set_option maxRecDepth 20000 in
theorem gX5_make_X4_put : GoodIn wsX5_make (wsV RX5 136 RX4 yX4_put wsX4_put) := goodIn_app (goodIn_of _ (by decide +kernel)) ggX5_make_X4_put
set_option maxRecDepth 20000 in
theorem ggX5_make_X4_setEntry : GoodIn wsX5_make wsX4_setEntry := goodIn_r _ [104, 105, 106, 39, 40, 41, 42, 43, 44, 45, 46, 47, 48, 49, 50, 51, 52, 53, 107, 108, 109, 71, 110, 73, 111, 112, 113, 114, 115, 116, 81, 82, 90, 91, 84, 85, 86, 87, 88, 89, 92, 117, 94, 95, 96, 97, 98, 99, 100, 138, 139, 140, 141, 125, 126] (by decide +kernel) (by decide +kernel)
set_option maxRecDepth 20000 in
theorem gX5_make_X4_setEntry : GoodIn wsX5_make (wsV RX5 142 RX4 yX4_setEntry wsX4_setEntry) := goodIn_app (goodIn_of _ (by decide +kernel)) ggX5_make_X4_setEntry
set_option maxRecDepth 20000 in
theorem ggX5_remove_X5_opened : GoodIn wsX5_remove wsX5_opened := goodIn_ca (goodIn_r _ [12, 13, 14, 15, 16, 17, 128, 129, 130, 131, 132, 133, 134, 135, 136, 137, 138, 121, 122, 123, 124, 125, 126, 127] (by decide +kernel) (by decide +kernel)) (goodIn_sub (fun _ h => List.mem_cons_of_mem _ (List.mem_append_left _ (List.mem_append_right _ h))) (by decide +kernel))
set_option maxRecDepth 20000 in
theorem gX5_remove_X5_opened : GoodIn wsX5_remove (wsV RX5 91 RX5 yX5_opened wsX5_opened) := goodIn_app (goodIn_of _ (by decide +kernel)) ggX5_remove_X5_opened
set_option maxRecDepth 20000 in
theorem ggX5_remove_X5_needPathBelowRoot : GoodIn wsX5_remove wsX5_needPathBelowRoot := goodIn_ca (goodIn_r _ [20, 21, 22, 23, 24, 11, 25, 26] (by decide +kernel) (by decide +kernel)) (goodIn_sub (fun _ h => List.mem_cons_of_mem _ (List.mem_append_right _ h)) (by decide +kernel))
set_option maxRecDepth 20000 in
theorem gX5_remove_X5_needPathBelowRoot : GoodIn wsX5_remove (va_wsS RX5 123 yX5_needPathBelowRoot wsX5_needPathBelowRoot) := goodIn_app (goodIn_of _ (by decide +kernel)) ggX5_remove_X5_needPathBelowRoot
set_option maxRecDepth 20000 in
theorem ggX5_remove_X3_lookUp : GoodIn wsX5_remove wsX3_lookUp := goodIn_r _ [31, 32, 33, 34, 35, 36, 37, 38, 39, 40, 41, 42, 43, 44, 45, 46, 47, 48, 49, 50, 51, 30, 52, 53, 54, 55, 56, 57, 58, 59, 60, 61, 62, 63, 64, 65, 66, 67, 68, 69, 70, 71, 121, 122, 123, 124, 125, 126, 127, 139, 140, 117, 118, 119, 120] (by decide +kernel) (by decide +kernel)
set_option maxRecDepth 20000 in
theorem gX5_remove_X3_lookUp : GoodIn wsX5_remove (wsV RX5 146 RX3 yX3_lookUp wsX3_lookUp) := goodIn_app (goodIn_of _ (by decide +kernel)) ggX5_remove_X3_lookUp
set_option maxRecDepth 20000 in
theorem ggX5_remove_X3_step : GoodIn wsX5_remove wsX3_step := goodIn_r _ [52, 53, 32, 54, 55, 56, 30, 57, 58, 59, 60, 61, 39, 40, 36, 41, 42, 43, 44, 62, 46, 47, 48, 63, 64, 65, 66, 67, 68, 69, 70, 71, 33, 34, 35, 37, 38, 45, 117, 118, 119, 120, 121, 122, 123, 124, 125, 126, 127, 139, 140] (by decide +kernel) (by decide +kernel)
set_option maxRecDepth 20000 in
theorem gX5_remove_X3_step : GoodIn wsX5_remove (wsV RX5 150 RX3 yX3_step wsX3_step) := goodIn_app (goodIn_of _ (by decide +kernel)) ggX5_remove_X3_step
set_option maxRecDepth 20000 in
theorem ggX5_remove_X3_namesOf : GoodIn wsX5_remove wsX3_namesOf := goodIn_r _ [76, 58, 59, 77, 61, 39, 40, 36, 41, 42, 43, 44, 62, 46, 47, 48, 63, 64, 65, 66, 67, 68, 69, 70, 30, 71, 121, 122, 123, 124, 125, 126, 127, 117, 118, 119, 120, 139, 140] (by decide +kernel) (by decide +kernel)
set_option maxRecDepth 20000 in
theorem gX5_remove_X3_namesOf : GoodIn wsX5_remove (wsV RX5 162 RX3 yX3_namesOf wsX3_namesOf) := goodIn_app (goodIn_of _ (by decide +kernel)) ggX5_remove_X3_namesOf
set_option maxRecDepth 20000 in
theorem ggX5_remove_X4_takeOut : GoodIn wsX5_remove wsX4_takeOut := goodIn_r _ [81, 42, 43, 38, 39, 40, 36, 41, 44, 45, 46, 47, 48, 139, 140, 117, 118, 119, 120] (by decide +kernel) (by decide +kernel)
set_option maxRecDepth 20000 in
theorem gX5_remove_X4_takeOut : GoodIn wsX5_remove (wsV RX5 168 RX4 yX4_takeOut wsX4_takeOut) := goodIn_app (goodIn_of _ (by decide +kernel)) ggX5_remove_X4_takeOut
set_option maxRecDepth 20000 in
theorem ggX5_remove_X4_setEntry : GoodIn wsX5_remove wsX4_setEntry := goodIn_r _ [85, 86, 87, 34, 35, 36, 37, 38, 39, 40, 41, 42, 43, 44, 45, 46, 47, 48, 88, 89, 90, 66, 91, 68, 92, 93, 94, 95, 96, 97, 98, 99, 100, 101, 102, 103, 104, 105, 106, 107, 108, 109, 110, 111, 112, 113, 114, 115, 116, 117, 118, 119, 120, 139, 140] (by decide +kernel) (by decide +kernel)
set_option maxRecDepth 20000 in
theorem gX5_remove_X4_setEntry : GoodIn wsX5_remove (wsV RX5 142 RX4 yX4_setEntry wsX4_setEntry) := goodIn_app (goodIn_of _ (by decide +kernel)) ggX5_remove_X4_setEntry
set_option maxRecDepth 20000 in
theorem ggX5_move_X5_opened : GoodIn wsX5_move wsX5_opened := goodIn_ca (goodIn_r _ [12, 13, 14, 15, 16, 17, 125, 126, 127, 128, 129, 130, 131, 132, 133, 134, 135, 114, 115, 116, 117, 118, 119, 120] (by decide +kernel) (by decide +kernel)) (goodIn_sub (fun _ h => List.mem_cons_of_mem _ (List.mem_append_left _ (List.mem_append_right _ h))) (by decide +kernel))
set_option maxRecDepth 20000 in
theorem gX5_move_X5_opened : GoodIn wsX5_move (wsV RX5 91 RX5 yX5_opened wsX5_opened) := goodIn_app (goodIn_of _ (by decide +kernel)) ggX5_move_X5_opened
set_option maxRecDepth 20000 in
theorem ggX5_move_X5_needPathBelowRoot : GoodIn wsX5_move wsX5_needPathBelowRoot := goodIn_ca (goodIn_r _ [20, 1, 2, 21, 22, 11, 23, 24] (by decide +kernel) (by decide +kernel)) (goodIn_sub (fun _ h => List.mem_cons_of_mem _ (List.mem_append_left _ (List.mem_append_left _ (List.mem_append_left _ (List.mem_append_right _ h))))) (by decide +kernel))
set_option maxRecDepth 20000 in
theorem gX5_move_X5_needPathBelowRoot : GoodIn wsX5_move (va_wsS RX5 123 yX5_needPathBelowRoot wsX5_needPathBelowRoot) := goodIn_app (goodIn_of _ (by decide +kernel)) ggX5_move_X5_needPathBelowRoot
