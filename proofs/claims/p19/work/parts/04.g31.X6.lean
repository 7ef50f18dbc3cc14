set_option maxRecDepth 20000 in
theorem ggX6_make_X6_fails : GoodIn wsX6_make wsX6_fails := goodIn_r _ [22, 23, 53, 54, 55, 56, 57, 58, 59, 60, 61, 62, 63, 64, 65, 66, 67, 68, 69, 70, 71, 72, 73, 74, 75, 76] (by decide +kernel) (by decide +kernel)
set_option maxRecDepth 20000 in
theorem gX6_make_X6_fails : GoodIn wsX6_make (wsV RX6 102 RX6 yX6_fails wsX6_fails) := goodIn_app (goodIn_of _ (by decide +kernel)) ggX6_make_X6_fails
set_option maxRecDepth 20000 in
theorem ggX6_make_X6_parentOf : GoodIn wsX6_make wsX6_parentOf := goodIn_r _ [27, 28, 29, 30, 11, 31, 1, 32, 33, 34, 35, 36, 37, 38, 39, 6, 40, 41, 42, 43, 3, 44, 45, 46, 47, 48, 2, 49, 50, 51, 52, 5, 7, 53, 54, 55, 56, 57, 58, 59, 60, 61, 62, 63, 64, 65, 66, 67, 68, 69, 70, 71, 72, 73, 74, 75, 76] (by decide +kernel) (by decide +kernel)
set_option maxRecDepth 20000 in
theorem gX6_make_X6_parentOf : GoodIn wsX6_make (wsV RX6 169 RX6 yX6_parentOf wsX6_parentOf) := goodIn_app (goodIn_of _ (by decide +kernel)) ggX6_make_X6_parentOf
set_option maxRecDepth 20000 in
theorem ggX6_make_X6_enter : GoodIn wsX6_make wsX6_enter := goodIn_r _ [39, 6, 40, 41, 42, 11, 43, 3, 44, 45, 46, 47, 48, 2, 49, 50, 51, 52, 5, 7, 32, 33, 34, 35, 53, 54, 55, 56, 57, 58, 59, 60, 61, 62, 63, 64, 65, 66, 67, 68, 69, 70, 71, 72, 73, 74, 75, 76] (by decide +kernel) (by decide +kernel)
set_option maxRecDepth 20000 in
theorem gX6_make_X6_enter : GoodIn wsX6_make (wsV RX6 90 RX6 yX6_enter wsX6_enter) := goodIn_app (goodIn_of _ (by decide +kernel)) ggX6_make_X6_enter
set_option maxRecDepth 20000 in
theorem ggX6_make_X6_tree : GoodIn wsX6_make wsX6_tree := goodIn_r _ [35] (by decide +kernel) (by decide +kernel)
set_option maxRecDepth 20000 in
theorem gX6_make_X6_tree : GoodIn wsX6_make (wsV RX6 86 RX6 yX6_tree wsX6_tree) := goodIn_app (goodIn_of _ (by decide +kernel)) ggX6_make_X6_tree
set_option maxRecDepth 20000 in
theorem ggX6_remove_X6_isOpen : GoodIn wsX6_remove wsX6_isOpen := goodIn_r _ [9, 10, 11, 60, 61, 62, 63, 64, 65, 66, 67, 68, 69, 70, 71, 72, 73, 74, 75, 76, 77, 78, 79, 80, 81, 82, 83] (by decide +kernel) (by decide +kernel)
set_option maxRecDepth 20000 in
theorem gX6_remove_X6_isOpen : GoodIn wsX6_remove (wsV RX6 98 RX6 yX6_isOpen wsX6_isOpen) := goodIn_app (goodIn_of _ (by decide +kernel)) ggX6_remove_X6_isOpen
set_option maxRecDepth 20000 in
theorem ggX6_remove_X6_isPath : GoodIn wsX6_remove wsX6_isPath := goodIn_r _ [14, 15] (by decide +kernel) (by decide +kernel)
set_option maxRecDepth 20000 in
theorem gX6_remove_X6_isPath : GoodIn wsX6_remove (va_wsS RX6 166 yX6_isPath wsX6_isPath) := goodIn_app (goodIn_of _ (by decide +kernel)) ggX6_remove_X6_isPath
set_option maxRecDepth 20000 in
theorem ggX6_remove_X6_fails : GoodIn wsX6_remove wsX6_fails := goodIn_r _ [19, 20, 60, 61, 62, 63, 64, 65, 66, 67, 68, 69, 70, 71, 72, 73, 74, 75, 76, 77, 78, 79, 80, 81, 82, 83] (by decide +kernel) (by decide +kernel)
set_option maxRecDepth 20000 in
theorem gX6_remove_X6_fails : GoodIn wsX6_remove (wsV RX6 102 RX6 yX6_fails wsX6_fails) := goodIn_app (goodIn_of _ (by decide +kernel)) ggX6_remove_X6_fails
set_option maxRecDepth 20000 in
theorem ggX6_remove_X6_lookUp : GoodIn wsX6_remove wsX6_lookUp := goodIn_r _ [24, 1, 25, 26, 27, 8, 28, 29, 30, 31, 32, 3, 33, 34, 35, 36, 4, 37, 38, 39, 40, 41, 2, 42, 43, 44, 45, 46, 47, 60, 61, 62, 63, 64, 65, 66, 67, 68, 69, 70, 71, 72, 73, 74, 75, 76, 77, 78, 79, 80, 81, 82, 83] (by decide +kernel) (by decide +kernel)
set_option maxRecDepth 20000 in
theorem gX6_remove_X6_lookUp : GoodIn wsX6_remove (wsV RX6 163 RX6 yX6_lookUp wsX6_lookUp) := goodIn_app (goodIn_of _ (by decide +kernel)) ggX6_remove_X6_lookUp
set_option maxRecDepth 20000 in
theorem ggX6_remove_X6_lookAtAll : GoodIn wsX6_remove wsX6_lookAtAll := goodIn_r _ [51, 33, 34, 35, 8, 36, 4, 37, 38, 39, 40, 41, 2, 42, 43, 44, 45, 3, 46, 47, 60, 61, 62, 63, 64, 65, 66, 67, 68, 69, 70, 71, 72, 73, 74, 75, 76, 77, 78, 79, 80, 81, 82, 83] (by decide +kernel) (by decide +kernel)
set_option maxRecDepth 20000 in
theorem gX6_remove_X6_lookAtAll : GoodIn wsX6_remove (wsV RX6 172 RX6 yX6_lookAtAll wsX6_lookAtAll) := goodIn_app (goodIn_of _ (by decide +kernel)) ggX6_remove_X6_lookAtAll
set_option maxRecDepth 20000 in
theorem ggX6_remove_X6_namesOf : GoodIn wsX6_remove wsX6_namesOf := goodIn_r _ [55, 3, 60, 61, 62, 63, 64, 65, 66, 67, 68, 69, 70, 71, 72, 73, 74, 75, 76, 77, 78, 79, 80, 81, 82, 83] (by decide +kernel) (by decide +kernel)
set_option maxRecDepth 20000 in
theorem gX6_remove_X6_namesOf : GoodIn wsX6_remove (wsV RX6 175 RX6 yX6_namesOf wsX6_namesOf) := goodIn_app (goodIn_of _ (by decide +kernel)) ggX6_remove_X6_namesOf
set_option maxRecDepth 20000 in
theorem ggX6_remove_X6_tree : GoodIn wsX6_remove wsX6_tree := goodIn_r _ [28] (by decide +kernel) (by decide +kernel)
set_option maxRecDepth 20000 in
theorem gX6_remove_X6_tree : GoodIn wsX6_remove (wsV RX6 86 RX6 yX6_tree wsX6_tree) := goodIn_app (goodIn_of _ (by decide +kernel)) ggX6_remove_X6_tree
set_option maxRecDepth 20000 in
theorem ggX6_remove_X6_copyNode : GoodIn wsX6_remove wsX6_copyNode := goodIn_r _ [59, 4, 1, 46, 3, 47, 60, 61, 62, 63, 64, 65, 66, 67, 68, 69, 70, 71, 72, 73, 74, 75, 76, 77, 78, 79, 80, 81, 82, 83] (by decide +kernel) (by decide +kernel)
set_option maxRecDepth 20000 in
theorem gX6_remove_X6_copyNode : GoodIn wsX6_remove (wsV RX6 70 RX6 yX6_copyNode wsX6_copyNode) := goodIn_app (goodIn_of _ (by decide +kernel)) ggX6_remove_X6_copyNode
set_option maxRecDepth 20000 in
theorem ggX6_move_X6_isOpen : GoodIn wsX6_move wsX6_isOpen := goodIn_r _ [8, 9, 10, 59, 60, 61, 62, 63, 64, 65, 66, 67, 68, 69, 70, 71, 72, 73, 74, 75, 76, 77, 78, 79, 80, 81, 82] (by decide +kernel) (by decide +kernel)
set_option maxRecDepth 20000 in
theorem gX6_move_X6_isOpen : GoodIn wsX6_move (wsV RX6 98 RX6 yX6_isOpen wsX6_isOpen) := goodIn_app (goodIn_of _ (by decide +kernel)) ggX6_move_X6_isOpen
set_option maxRecDepth 20000 in
theorem ggX6_move_X6_isPath : GoodIn wsX6_move wsX6_isPath := goodIn_r _ [13, 14] (by decide +kernel) (by decide +kernel)
set_option maxRecDepth 20000 in
theorem gX6_move_X6_isPath : GoodIn wsX6_move (va_wsS RX6 166 yX6_isPath wsX6_isPath) := goodIn_app (goodIn_of _ (by decide +kernel)) ggX6_move_X6_isPath
set_option maxRecDepth 20000 in
theorem ggX6_move_X6_isThrough : GoodIn wsX6_move wsX6_isThrough := goodIn_r _ [17] (by decide +kernel) (by decide +kernel)
set_option maxRecDepth 20000 in
theorem gX6_move_X6_isThrough : GoodIn wsX6_move (va_wsS RX6 178 yX6_isThrough wsX6_isThrough) := goodIn_app (goodIn_of _ (by decide +kernel)) ggX6_move_X6_isThrough
set_option maxRecDepth 20000 in
theorem ggX6_move_X6_fails : GoodIn wsX6_move wsX6_fails := goodIn_r _ [21, 22, 59, 60, 61, 62, 63, 64, 65, 66, 67, 68, 69, 70, 71, 72, 73, 74, 75, 76, 77, 78, 79, 80, 81, 82] (by decide +kernel) (by decide +kernel)
set_option maxRecDepth 20000 in
theorem gX6_move_X6_fails : GoodIn wsX6_move (wsV RX6 102 RX6 yX6_fails wsX6_fails) := goodIn_app (goodIn_of _ (by decide +kernel)) ggX6_move_X6_fails
set_option maxRecDepth 20000 in
theorem ggX6_move_X6_lookUp : GoodIn wsX6_move wsX6_lookUp := goodIn_r _ [26, 1, 27, 28, 29, 7, 30, 31, 32, 33, 34, 2, 35, 36, 37, 38, 3, 39, 40, 41, 42, 43, 44, 45, 46, 47, 48, 49, 50, 59, 60, 61, 62, 63, 64, 65, 66, 67, 68, 69, 70, 71, 72, 73, 74, 75, 76, 77, 78, 79, 80, 81, 82] (by decide +kernel) (by decide +kernel)
set_option maxRecDepth 20000 in
theorem gX6_move_X6_lookUp : GoodIn wsX6_move (wsV RX6 163 RX6 yX6_lookUp wsX6_lookUp) := goodIn_app (goodIn_of _ (by decide +kernel)) ggX6_move_X6_lookUp
set_option maxRecDepth 20000 in
theorem ggX6_move_X6_parentOf : GoodIn wsX6_move wsX6_parentOf := goodIn_r _ [54, 23, 24, 25, 7, 26, 1, 27, 28, 29, 30, 31, 32, 33, 34, 2, 35, 36, 37, 38, 3, 39, 40, 41, 42, 43, 44, 45, 46, 47, 48, 49, 50, 59, 60, 61, 62, 63, 64, 65, 66, 67, 68, 69, 70, 71, 72, 73, 74, 75, 76, 77, 78, 79, 80, 81, 82] (by decide +kernel) (by decide +kernel)
set_option maxRecDepth 20000 in
theorem gX6_move_X6_parentOf : GoodIn wsX6_move (wsV RX6 169 RX6 yX6_parentOf wsX6_parentOf) := goodIn_app (goodIn_of _ (by decide +kernel)) ggX6_move_X6_parentOf
set_option maxRecDepth 20000 in
theorem ggX6_move_X6_enter : GoodIn wsX6_move wsX6_enter := goodIn_r _ [34, 2, 35, 36, 37, 7, 38, 3, 39, 40, 41, 42, 43, 44, 45, 46, 47, 48, 49, 50, 27, 28, 29, 30, 59, 60, 61, 62, 63, 64, 65, 66, 67, 68, 69, 70, 71, 72, 73, 74, 75, 76, 77, 78, 79, 80, 81, 82] (by decide +kernel) (by decide +kernel)
set_option maxRecDepth 20000 in
theorem gX6_move_X6_enter : GoodIn wsX6_move (wsV RX6 90 RX6 yX6_enter wsX6_enter) := goodIn_app (goodIn_of _ (by decide +kernel)) ggX6_move_X6_enter
set_option maxRecDepth 20000 in
theorem ggX6_move_X6_lookUpSilently : GoodIn wsX6_move wsX6_lookUpSilently := goodIn_r _ [58, 2, 27, 28, 29, 7, 30, 40, 41, 42, 43, 44, 3, 59, 60, 61, 62, 63, 64, 65, 66, 67, 68, 69, 70, 71, 72, 73, 74, 75, 76, 77, 78, 79, 80, 81, 82] (by decide +kernel) (by decide +kernel)
set_option maxRecDepth 20000 in
theorem gX6_move_X6_lookUpSilently : GoodIn wsX6_move (wsV RX6 182 RX6 yX6_lookUpSilently wsX6_lookUpSilently) := goodIn_app (goodIn_of _ (by decide +kernel)) ggX6_move_X6_lookUpSilently
set_option maxRecDepth 20000 in
theorem ggX6_lookUpSilently_X6_tree : GoodIn wsX6_lookUpSilently wsX6_tree := goodIn_r _ [6] (by decide +kernel) (by decide +kernel)
set_option maxRecDepth 20000 in
theorem gX6_lookUpSilently_X6_tree : GoodIn wsX6_lookUpSilently (wsV RX6 86 RX6 yX6_tree wsX6_tree) := goodIn_app (goodIn_of _ (by decide +kernel)) ggX6_lookUpSilently_X6_tree
set_option maxRecDepth 20000 in
theorem ggX6_lookUpSilently_X6_find : GoodIn wsX6_lookUpSilently wsX6_find := goodIn_r _ [10, 11, 12, 13, 14, 15, 16, 17, 18, 19, 20, 21, 22, 23, 24, 25, 26, 27, 28, 29, 30, 31, 32, 33, 34, 35, 36] (by decide +kernel) (by decide +kernel)
set_option maxRecDepth 20000 in
theorem gX6_lookUpSilently_X6_find : GoodIn wsX6_lookUpSilently (wsV RX6 74 RX6 yX6_find wsX6_find) := goodIn_app (goodIn_of _ (by decide +kernel)) ggX6_lookUpSilently_X6_find
set_option maxRecDepth 20000 in
theorem ggX6_file_X6_isPath : GoodIn wsX6_file wsX6_isPath := goodIn_r _ [5, 6] (by decide +kernel) (by decide +kernel)
set_option maxRecDepth 20000 in
theorem gX6_file_X6_isPath : GoodIn wsX6_file (va_wsS RX6 166 yX6_isPath wsX6_isPath) := goodIn_app (goodIn_of _ (by decide +kernel)) ggX6_file_X6_isPath
set_option maxRecDepth 20000 in
theorem ggX6_file_X6_fails : GoodIn wsX6_file wsX6_fails := goodIn_r _ [10, 11, 42, 43, 44, 45, 46, 47, 48, 49, 50, 51, 52, 53, 54, 55, 56, 57, 58, 59, 60, 61, 62, 63, 64, 65] (by decide +kernel) (by decide +kernel)
set_option maxRecDepth 20000 in
theorem gX6_file_X6_fails : GoodIn wsX6_file (wsV RX6 102 RX6 yX6_fails wsX6_fails) := goodIn_app (goodIn_of _ (by decide +kernel)) ggX6_file_X6_fails
set_option maxRecDepth 20000 in
theorem ggX6_file_X6_lookUp : GoodIn wsX6_file wsX6_lookUp := goodIn_r _ [15, 1, 16, 17, 18, 4, 19, 20, 21, 22, 23, 24, 25, 26, 27, 28, 29, 30, 31, 32, 33, 34, 35, 36, 37, 38, 39, 40, 41, 42, 43, 44, 45, 46, 47, 48, 49, 50, 51, 52, 53, 54, 55, 56, 57, 58, 59, 60, 61, 62, 63, 64, 65] (by decide +kernel) (by decide +kernel)
set_option maxRecDepth 20000 in
theorem gX6_file_X6_lookUp : GoodIn wsX6_file (wsV RX6 163 RX6 yX6_lookUp wsX6_lookUp) := goodIn_app (goodIn_of _ (by decide +kernel)) ggX6_file_X6_lookUp
set_option maxRecDepth 20000 in
theorem ggX6_file_X6_lookAt : GoodIn wsX6_file wsX6_lookAt := goodIn_r _ [28, 29, 30, 31, 32, 33, 4, 34, 35, 36, 37, 38, 39, 24, 40, 41, 42, 43, 44, 45, 46, 47, 48, 49, 50, 51, 52, 53, 54, 55, 56, 57, 58, 59, 60, 61, 62, 63, 64, 65] (by decide +kernel) (by decide +kernel)
set_option maxRecDepth 20000 in
theorem gX6_file_X6_lookAt : GoodIn wsX6_file (wsV RX6 81 RX6 yX6_lookAt wsX6_lookAt) := goodIn_app (goodIn_of _ (by decide +kernel)) ggX6_file_X6_lookAt
set_option maxRecDepth 20000 in
theorem ggX6_write_X6_isOpen : GoodIn wsX6_write wsX6_isOpen := goodIn_r _ [7, 8, 9, 52, 53, 54, 55, 56, 57, 58, 59, 60, 61, 62, 63, 64, 65, 66, 67, 68, 69, 70, 71, 72, 73, 74, 75] (by decide +kernel) (by decide +kernel)
set_option maxRecDepth 20000 in
theorem gX6_write_X6_isOpen : GoodIn wsX6_write (wsV RX6 98 RX6 yX6_isOpen wsX6_isOpen) := goodIn_app (goodIn_of _ (by decide +kernel)) ggX6_write_X6_isOpen
set_option maxRecDepth 20000 in
theorem ggX6_write_X6_file : GoodIn wsX6_write wsX6_file := goodIn_r _ [13, 14, 15, 16, 6, 17, 18, 19, 20, 21, 22, 23, 24, 25, 26, 27, 28, 29, 30, 31, 32, 33, 34, 35, 36, 37, 38, 39, 40, 41, 42, 43, 44, 45, 46, 47, 48, 49, 50, 51, 1, 2, 52, 53, 54, 55, 56, 57, 58, 59, 60, 61, 62, 63, 64, 65, 66, 67, 68, 69, 70, 71, 72, 73, 74, 75] (by decide +kernel) (by decide +kernel)
set_option maxRecDepth 20000 in
theorem gX6_write_X6_file : GoodIn wsX6_write (wsV RX6 185 RX6 yX6_file wsX6_file) := goodIn_app (goodIn_of _ (by decide +kernel)) ggX6_write_X6_file
set_option maxRecDepth 20000 in
theorem ggX6_write_X6_fails : GoodIn wsX6_write wsX6_fails := goodIn_r _ [22, 23, 52, 53, 54, 55, 56, 57, 58, 59, 60, 61, 62, 63, 64, 65, 66, 67, 68, 69, 70, 71, 72, 73, 74, 75] (by decide +kernel) (by decide +kernel)
set_option maxRecDepth 20000 in
theorem gX6_write_X6_fails : GoodIn wsX6_write (wsV RX6 102 RX6 yX6_fails wsX6_fails) := goodIn_app (goodIn_of _ (by decide +kernel)) ggX6_write_X6_fails
set_option maxRecDepth 20000 in
theorem ggX6_append_X6_isOpen : GoodIn wsX6_append wsX6_isOpen := goodIn_r _ [7, 8, 9, 52, 53, 54, 55, 56, 57, 58, 59, 60, 61, 62, 63, 64, 65, 66, 67, 68, 69, 70, 71, 72, 73, 74, 75] (by decide +kernel) (by decide +kernel)
set_option maxRecDepth 20000 in
theorem gX6_append_X6_isOpen : GoodIn wsX6_append (wsV RX6 98 RX6 yX6_isOpen wsX6_isOpen) := goodIn_app (goodIn_of _ (by decide +kernel)) ggX6_append_X6_isOpen
