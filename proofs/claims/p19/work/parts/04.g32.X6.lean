set_option maxRecDepth 20000 in
theorem ggX6_append_X6_file : GoodIn wsX6_append wsX6_file := goodIn_r _ [13, 14, 15, 16, 6, 17, 18, 19, 20, 21, 22, 23, 24, 25, 26, 27, 28, 29, 30, 31, 32, 33, 34, 35, 36, 37, 38, 39, 40, 41, 42, 43, 44, 45, 46, 47, 48, 49, 50, 51, 1, 2, 52, 53, 54, 55, 56, 57, 58, 59, 60, 61, 62, 63, 64, 65, 66, 67, 68, 69, 70, 71, 72, 73, 74, 75] (by decide +kernel) (by decide +kernel)
set_option maxRecDepth 20000 in
theorem gX6_append_X6_file : GoodIn wsX6_append (wsV RX6 185 RX6 yX6_file wsX6_file) := goodIn_app (goodIn_of _ (by decide +kernel)) ggX6_append_X6_file
set_option maxRecDepth 20000 in
theorem ggX6_append_X6_fails : GoodIn wsX6_append wsX6_fails := goodIn_r _ [22, 23, 52, 53, 54, 55, 56, 57, 58, 59, 60, 61, 62, 63, 64, 65, 66, 67, 68, 69, 70, 71, 72, 73, 74, 75] (by decide +kernel) (by decide +kernel)
set_option maxRecDepth 20000 in
theorem gX6_append_X6_fails : GoodIn wsX6_append (wsV RX6 102 RX6 yX6_fails wsX6_fails) := goodIn_app (goodIn_of _ (by decide +kernel)) ggX6_append_X6_fails
set_option maxRecDepth 20000 in
theorem ggX6_cut_X6_isOpen : GoodIn wsX6_cut wsX6_isOpen := goodIn_r _ [7, 8, 9, 52, 53, 54, 55, 56, 57, 58, 59, 60, 61, 62, 63, 64, 65, 66, 67, 68, 69, 70, 71, 72, 73, 74, 75] (by decide +kernel) (by decide +kernel)
set_option maxRecDepth 20000 in
theorem gX6_cut_X6_isOpen : GoodIn wsX6_cut (wsV RX6 98 RX6 yX6_isOpen wsX6_isOpen) := goodIn_app (goodIn_of _ (by decide +kernel)) ggX6_cut_X6_isOpen
set_option maxRecDepth 20000 in
theorem ggX6_cut_X6_file : GoodIn wsX6_cut wsX6_file := goodIn_r _ [13, 14, 15, 16, 6, 17, 18, 19, 20, 21, 22, 23, 24, 25, 26, 27, 28, 29, 30, 31, 32, 33, 34, 35, 36, 37, 38, 39, 40, 41, 42, 43, 44, 45, 46, 47, 48, 49, 50, 51, 1, 2, 52, 53, 54, 55, 56, 57, 58, 59, 60, 61, 62, 63, 64, 65, 66, 67, 68, 69, 70, 71, 72, 73, 74, 75] (by decide +kernel) (by decide +kernel)
set_option maxRecDepth 20000 in
theorem gX6_cut_X6_file : GoodIn wsX6_cut (wsV RX6 185 RX6 yX6_file wsX6_file) := goodIn_app (goodIn_of _ (by decide +kernel)) ggX6_cut_X6_file
set_option maxRecDepth 20000 in
theorem ggX6_cut_X6_fails : GoodIn wsX6_cut wsX6_fails := goodIn_r _ [22, 23, 52, 53, 54, 55, 56, 57, 58, 59, 60, 61, 62, 63, 64, 65, 66, 67, 68, 69, 70, 71, 72, 73, 74, 75] (by decide +kernel) (by decide +kernel)
set_option maxRecDepth 20000 in
theorem gX6_cut_X6_fails : GoodIn wsX6_cut (wsV RX6 102 RX6 yX6_fails wsX6_fails) := goodIn_app (goodIn_of _ (by decide +kernel)) ggX6_cut_X6_fails
set_option maxRecDepth 20000 in
theorem ggX6_read_X6_mayLook : GoodIn wsX6_read wsX6_mayLook := goodIn_r _ [7, 8, 9, 10, 11, 6, 12, 13, 56, 57, 58, 59, 60, 61, 62, 63, 64, 65, 66, 67, 68, 69, 70, 71, 72, 73, 74, 75, 76, 77, 78, 79] (by decide +kernel) (by decide +kernel)
set_option maxRecDepth 20000 in
theorem gX6_read_X6_mayLook : GoodIn wsX6_read (wsV RX6 189 RX6 yX6_mayLook wsX6_mayLook) := goodIn_app (goodIn_of _ (by decide +kernel)) ggX6_read_X6_mayLook
set_option maxRecDepth 20000 in
theorem ggX6_read_X6_file : GoodIn wsX6_read wsX6_file := goodIn_r _ [17, 18, 19, 20, 6, 21, 22, 23, 24, 25, 26, 27, 28, 29, 30, 31, 32, 33, 34, 35, 36, 37, 38, 39, 40, 41, 42, 43, 44, 45, 46, 47, 48, 49, 50, 51, 52, 53, 54, 55, 1, 2, 56, 57, 58, 59, 60, 61, 62, 63, 64, 65, 66, 67, 68, 69, 70, 71, 72, 73, 74, 75, 76, 77, 78, 79] (by decide +kernel) (by decide +kernel)
set_option maxRecDepth 20000 in
theorem gX6_read_X6_file : GoodIn wsX6_read (wsV RX6 185 RX6 yX6_file wsX6_file) := goodIn_app (goodIn_of _ (by decide +kernel)) ggX6_read_X6_file
set_option maxRecDepth 20000 in
theorem ggX6_read_X6_fails : GoodIn wsX6_read wsX6_fails := goodIn_r _ [26, 27, 56, 57, 58, 59, 60, 61, 62, 63, 64, 65, 66, 67, 68, 69, 70, 71, 72, 73, 74, 75, 76, 77, 78, 79] (by decide +kernel) (by decide +kernel)
set_option maxRecDepth 20000 in
theorem gX6_read_X6_fails : GoodIn wsX6_read (wsV RX6 102 RX6 yX6_fails wsX6_fails) := goodIn_app (goodIn_of _ (by decide +kernel)) ggX6_read_X6_fails
set_option maxRecDepth 20000 in
theorem ggX6_read_X6_lookAt : GoodIn wsX6_read wsX6_lookAt := goodIn_r _ [44, 45, 46, 47, 48, 49, 6, 50, 51, 52, 53, 54, 55, 40, 1, 2, 56, 57, 58, 59, 60, 61, 62, 63, 64, 65, 66, 67, 68, 69, 70, 71, 72, 73, 74, 75, 76, 77, 78, 79] (by decide +kernel) (by decide +kernel)
set_option maxRecDepth 20000 in
theorem gX6_read_X6_lookAt : GoodIn wsX6_read (wsV RX6 81 RX6 yX6_lookAt wsX6_lookAt) := goodIn_app (goodIn_of _ (by decide +kernel)) ggX6_read_X6_lookAt
set_option maxRecDepth 20000 in
theorem ggX6_length_X6_mayLook : GoodIn wsX6_length wsX6_mayLook := goodIn_r _ [6, 7, 8, 9, 10, 5, 11, 12, 56, 57, 58, 59, 60, 61, 62, 63, 64, 65, 66, 67, 68, 69, 70, 71, 72, 73, 74, 75, 76, 77, 78, 79] (by decide +kernel) (by decide +kernel)
set_option maxRecDepth 20000 in
theorem gX6_length_X6_mayLook : GoodIn wsX6_length (wsV RX6 189 RX6 yX6_mayLook wsX6_mayLook) := goodIn_app (goodIn_of _ (by decide +kernel)) ggX6_length_X6_mayLook
set_option maxRecDepth 20000 in
theorem ggX6_length_X6_file : GoodIn wsX6_length wsX6_file := goodIn_r _ [16, 17, 18, 19, 5, 20, 21, 22, 23, 24, 25, 26, 27, 28, 29, 30, 31, 32, 33, 34, 35, 36, 37, 38, 39, 40, 41, 42, 43, 44, 45, 46, 47, 48, 49, 50, 51, 52, 53, 54, 1, 55, 56, 57, 58, 59, 60, 61, 62, 63, 64, 65, 66, 67, 68, 69, 70, 71, 72, 73, 74, 75, 76, 77, 78, 79] (by decide +kernel) (by decide +kernel)
set_option maxRecDepth 20000 in
theorem gX6_length_X6_file : GoodIn wsX6_length (wsV RX6 185 RX6 yX6_file wsX6_file) := goodIn_app (goodIn_of _ (by decide +kernel)) ggX6_length_X6_file
set_option maxRecDepth 20000 in
theorem ggX6_kind_X6_mayLook : GoodIn wsX6_kind wsX6_mayLook := goodIn_r _ [6, 7, 8, 9, 10, 5, 11, 12, 52, 53, 54, 55, 56, 57, 58, 59, 60, 61, 62, 63, 64, 65, 66, 67, 68, 69, 70, 71, 72, 73, 74, 75] (by decide +kernel) (by decide +kernel)
set_option maxRecDepth 20000 in
theorem gX6_kind_X6_mayLook : GoodIn wsX6_kind (wsV RX6 189 RX6 yX6_mayLook wsX6_mayLook) := goodIn_app (goodIn_of _ (by decide +kernel)) ggX6_kind_X6_mayLook
set_option maxRecDepth 20000 in
theorem ggX6_kind_X6_isPath : GoodIn wsX6_kind wsX6_isPath := goodIn_r _ [15, 16] (by decide +kernel) (by decide +kernel)
set_option maxRecDepth 20000 in
theorem gX6_kind_X6_isPath : GoodIn wsX6_kind (va_wsS RX6 166 yX6_isPath wsX6_isPath) := goodIn_app (goodIn_of _ (by decide +kernel)) ggX6_kind_X6_isPath
set_option maxRecDepth 20000 in
theorem ggX6_kind_X6_fails : GoodIn wsX6_kind wsX6_fails := goodIn_r _ [20, 21, 52, 53, 54, 55, 56, 57, 58, 59, 60, 61, 62, 63, 64, 65, 66, 67, 68, 69, 70, 71, 72, 73, 74, 75] (by decide +kernel) (by decide +kernel)
set_option maxRecDepth 20000 in
theorem gX6_kind_X6_fails : GoodIn wsX6_kind (wsV RX6 102 RX6 yX6_fails wsX6_fails) := goodIn_app (goodIn_of _ (by decide +kernel)) ggX6_kind_X6_fails
set_option maxRecDepth 20000 in
theorem ggX6_kind_X6_lookUp : GoodIn wsX6_kind wsX6_lookUp := goodIn_r _ [25, 1, 26, 27, 28, 5, 29, 30, 31, 32, 33, 34, 35, 36, 37, 38, 39, 40, 41, 42, 43, 44, 45, 46, 47, 48, 49, 50, 51, 52, 53, 54, 55, 56, 57, 58, 59, 60, 61, 62, 63, 64, 65, 66, 67, 68, 69, 70, 71, 72, 73, 74, 75] (by decide +kernel) (by decide +kernel)
set_option maxRecDepth 20000 in
theorem gX6_kind_X6_lookUp : GoodIn wsX6_kind (wsV RX6 163 RX6 yX6_lookUp wsX6_lookUp) := goodIn_app (goodIn_of _ (by decide +kernel)) ggX6_kind_X6_lookUp
set_option maxRecDepth 20000 in
theorem ggX6_list_X6_mayLook : GoodIn wsX6_list wsX6_mayLook := goodIn_r _ [6, 7, 8, 9, 10, 5, 11, 12, 60, 61, 62, 63, 64, 65, 66, 67, 68, 69, 70, 71, 72, 73, 74, 75, 76, 77, 78, 79, 80, 81, 82, 83] (by decide +kernel) (by decide +kernel)
set_option maxRecDepth 20000 in
theorem gX6_list_X6_mayLook : GoodIn wsX6_list (wsV RX6 189 RX6 yX6_mayLook wsX6_mayLook) := goodIn_app (goodIn_of _ (by decide +kernel)) ggX6_list_X6_mayLook
set_option maxRecDepth 20000 in
theorem ggX6_list_X6_isPath : GoodIn wsX6_list wsX6_isPath := goodIn_r _ [15, 16] (by decide +kernel) (by decide +kernel)
set_option maxRecDepth 20000 in
theorem gX6_list_X6_isPath : GoodIn wsX6_list (va_wsS RX6 166 yX6_isPath wsX6_isPath) := goodIn_app (goodIn_of _ (by decide +kernel)) ggX6_list_X6_isPath
set_option maxRecDepth 20000 in
theorem ggX6_list_X6_fails : GoodIn wsX6_list wsX6_fails := goodIn_r _ [20, 21, 60, 61, 62, 63, 64, 65, 66, 67, 68, 69, 70, 71, 72, 73, 74, 75, 76, 77, 78, 79, 80, 81, 82, 83] (by decide +kernel) (by decide +kernel)
set_option maxRecDepth 20000 in
theorem gX6_list_X6_fails : GoodIn wsX6_list (wsV RX6 102 RX6 yX6_fails wsX6_fails) := goodIn_app (goodIn_of _ (by decide +kernel)) ggX6_list_X6_fails
set_option maxRecDepth 20000 in
theorem ggX6_list_X6_lookUp : GoodIn wsX6_list wsX6_lookUp := goodIn_r _ [25, 1, 26, 27, 28, 5, 29, 30, 31, 32, 33, 34, 35, 36, 37, 38, 39, 40, 41, 42, 43, 44, 45, 46, 47, 48, 49, 50, 51, 60, 61, 62, 63, 64, 65, 66, 67, 68, 69, 70, 71, 72, 73, 74, 75, 76, 77, 78, 79, 80, 81, 82, 83] (by decide +kernel) (by decide +kernel)
set_option maxRecDepth 20000 in
theorem gX6_list_X6_lookUp : GoodIn wsX6_list (wsV RX6 163 RX6 yX6_lookUp wsX6_lookUp) := goodIn_app (goodIn_of _ (by decide +kernel)) ggX6_list_X6_lookUp
set_option maxRecDepth 20000 in
theorem ggX6_list_X6_lookAtAll : GoodIn wsX6_list wsX6_lookAtAll := goodIn_r _ [55, 35, 36, 37, 5, 38, 39, 40, 41, 42, 43, 44, 45, 46, 47, 48, 49, 34, 50, 51, 60, 61, 62, 63, 64, 65, 66, 67, 68, 69, 70, 71, 72, 73, 74, 75, 76, 77, 78, 79, 80, 81, 82, 83] (by decide +kernel) (by decide +kernel)
set_option maxRecDepth 20000 in
theorem gX6_list_X6_lookAtAll : GoodIn wsX6_list (wsV RX6 172 RX6 yX6_lookAtAll wsX6_lookAtAll) := goodIn_app (goodIn_of _ (by decide +kernel)) ggX6_list_X6_lookAtAll
set_option maxRecDepth 20000 in
theorem ggX6_list_X6_namesOf : GoodIn wsX6_list wsX6_namesOf := goodIn_r _ [59, 34, 60, 61, 62, 63, 64, 65, 66, 67, 68, 69, 70, 71, 72, 73, 74, 75, 76, 77, 78, 79, 80, 81, 82, 83] (by decide +kernel) (by decide +kernel)
set_option maxRecDepth 20000 in
theorem gX6_list_X6_namesOf : GoodIn wsX6_list (wsV RX6 175 RX6 yX6_namesOf wsX6_namesOf) := goodIn_app (goodIn_of _ (by decide +kernel)) ggX6_list_X6_namesOf
