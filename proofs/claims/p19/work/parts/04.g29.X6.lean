set_option maxRecDepth 20000 in
theorem ggX6_copyTree_X6_copyNode : GoodIn wsX6_copyTree wsX6_copyNode := goodIn_r _ [6, 7, 8, 9, 10, 11, 12, 13, 14, 15, 16, 17, 18, 19, 20, 21, 22, 23, 24, 25, 26, 27, 28, 29, 30, 31, 32, 33, 34, 35] (by decide +kernel) (by decide +kernel)
set_option maxRecDepth 20000 in
theorem gX6_copyTree_X6_copyNode : GoodIn wsX6_copyTree (wsV RX6 70 RX6 yX6_copyNode wsX6_copyNode) := goodIn_app (goodIn_of _ (by decide +kernel)) ggX6_copyTree_X6_copyNode
set_option maxRecDepth 20000 in
theorem ggX6_lookAt_X6_find : GoodIn wsX6_lookAt wsX6_find := goodIn_r _ [7, 8, 1, 16, 17, 18, 19, 20, 21, 22, 23, 24, 25, 26, 27, 28, 29, 30, 31, 32, 33, 34, 35, 36, 37, 38, 39] (by decide +kernel) (by decide +kernel)
set_option maxRecDepth 20000 in
theorem gX6_lookAt_X6_find : GoodIn wsX6_lookAt (wsV RX6 74 RX6 yX6_find wsX6_find) := goodIn_app (goodIn_of _ (by decide +kernel)) ggX6_lookAt_X6_find
set_option maxRecDepth 20000 in
theorem ggX6_lookAt_X6_valueOf : GoodIn wsX6_lookAt wsX6_valueOf := goodIn_r _ [12, 13, 14, 15, 16, 17, 18, 19, 20, 21, 22, 23, 24, 25, 26, 27, 28, 29, 30, 31, 32, 33, 34, 35, 36, 37, 38, 39] (by decide +kernel) (by decide +kernel)
set_option maxRecDepth 20000 in
theorem gX6_lookAt_X6_valueOf : GoodIn wsX6_lookAt (wsV RX6 78 RX6 yX6_valueOf wsX6_valueOf) := goodIn_app (goodIn_of _ (by decide +kernel)) ggX6_lookAt_X6_valueOf
set_option maxRecDepth 20000 in
theorem ggX6_lookAtAll_X6_lookAt : GoodIn wsX6_lookAtAll wsX6_lookAt := goodIn_r _ [5, 6, 7, 8, 9, 10, 4, 11, 12, 13, 14, 15, 16, 17, 18, 19, 20, 21, 22, 23, 24, 25, 26, 27, 28, 29, 30, 31, 32, 33, 34, 35, 36, 37, 38, 39, 40, 41, 42, 43] (by decide +kernel) (by decide +kernel)
set_option maxRecDepth 20000 in
theorem gX6_lookAtAll_X6_lookAt : GoodIn wsX6_lookAtAll (wsV RX6 81 RX6 yX6_lookAt wsX6_lookAt) := goodIn_app (goodIn_of _ (by decide +kernel)) ggX6_lookAtAll_X6_lookAt
set_option maxRecDepth 20000 in
theorem ggX6_lookUp_X6_tree : GoodIn wsX6_lookUp wsX6_tree := goodIn_r _ [6] (by decide +kernel) (by decide +kernel)
set_option maxRecDepth 20000 in
theorem gX6_lookUp_X6_tree : GoodIn wsX6_lookUp (wsV RX6 86 RX6 yX6_tree wsX6_tree) := goodIn_app (goodIn_of _ (by decide +kernel)) ggX6_lookUp_X6_tree
set_option maxRecDepth 20000 in
theorem ggX6_lookUp_X6_enter : GoodIn wsX6_lookUp wsX6_enter := goodIn_r _ [10, 11, 12, 13, 14, 5, 15, 16, 17, 18, 19, 20, 21, 22, 23, 24, 25, 26, 27, 28, 2, 3, 4, 6, 29, 30, 31, 32, 33, 34, 35, 36, 37, 38, 39, 40, 41, 42, 43, 44, 45, 46, 47, 48, 49, 50, 51, 52] (by decide +kernel) (by decide +kernel)
set_option maxRecDepth 20000 in
theorem gX6_lookUp_X6_enter : GoodIn wsX6_lookUp (wsV RX6 90 RX6 yX6_enter wsX6_enter) := goodIn_app (goodIn_of _ (by decide +kernel)) ggX6_lookUp_X6_enter
set_option maxRecDepth 20000 in
theorem ggX6_enter_X6_lookAt : GoodIn wsX6_enter wsX6_lookAt := goodIn_r _ [6, 7, 8, 9, 10, 11, 5, 12, 13, 14, 15, 16, 17, 1, 18, 19, 24, 25, 26, 27, 28, 29, 30, 31, 32, 33, 34, 35, 36, 37, 38, 39, 40, 41, 42, 43, 44, 45, 46, 47] (by decide +kernel) (by decide +kernel)
set_option maxRecDepth 20000 in
theorem gX6_enter_X6_lookAt : GoodIn wsX6_enter (wsV RX6 81 RX6 yX6_lookAt wsX6_lookAt) := goodIn_app (goodIn_of _ (by decide +kernel)) ggX6_enter_X6_lookAt
set_option maxRecDepth 20000 in
theorem ggX6_enter_X6_tree : GoodIn wsX6_enter wsX6_tree := goodIn_r _ [23] (by decide +kernel) (by decide +kernel)
set_option maxRecDepth 20000 in
theorem gX6_enter_X6_tree : GoodIn wsX6_enter (wsV RX6 86 RX6 yX6_tree wsX6_tree) := goodIn_app (goodIn_of _ (by decide +kernel)) ggX6_enter_X6_tree
set_option maxRecDepth 20000 in
theorem ggX6_enter_X6_find : GoodIn wsX6_enter wsX6_find := goodIn_r _ [12, 13, 7, 24, 25, 26, 27, 28, 29, 30, 31, 32, 33, 34, 35, 36, 37, 38, 39, 40, 41, 42, 43, 44, 45, 46, 47] (by decide +kernel) (by decide +kernel)
set_option maxRecDepth 20000 in
theorem gX6_enter_X6_find : GoodIn wsX6_enter (wsV RX6 74 RX6 yX6_find wsX6_find) := goodIn_app (goodIn_of _ (by decide +kernel)) ggX6_enter_X6_find
set_option maxRecDepth 20000 in
theorem ggX6_mayLook_X6_isOpen : GoodIn wsX6_mayLook wsX6_isOpen := goodIn_r _ [6, 1, 7, 8, 9, 10, 11, 12, 13, 14, 15, 16, 17, 18, 19, 20, 21, 22, 23, 24, 25, 26, 27, 28, 29, 30, 31] (by decide +kernel) (by decide +kernel)
set_option maxRecDepth 20000 in
theorem gX6_mayLook_X6_isOpen : GoodIn wsX6_mayLook (wsV RX6 98 RX6 yX6_isOpen wsX6_isOpen) := goodIn_app (goodIn_of _ (by decide +kernel)) ggX6_mayLook_X6_isOpen
set_option maxRecDepth 20000 in
theorem ggX6_begin_X6_fails : GoodIn wsX6_begin wsX6_fails := goodIn_r _ [9, 10, 25, 26, 27, 28, 29, 30, 31, 32, 33, 34, 35, 36, 37, 38, 39, 40, 41, 42, 43, 44, 45, 46, 47, 48] (by decide +kernel) (by decide +kernel)
set_option maxRecDepth 20000 in
theorem gX6_begin_X6_fails : GoodIn wsX6_begin (wsV RX6 102 RX6 yX6_fails wsX6_fails) := goodIn_app (goodIn_of _ (by decide +kernel)) ggX6_begin_X6_fails
set_option maxRecDepth 20000 in
theorem ggX6_begin_X6_copyTree : GoodIn wsX6_begin wsX6_copyTree := goodIn_r _ [14, 15, 16, 17, 18, 8, 19, 20, 21, 22, 23, 24, 25, 26, 27, 28, 29, 30, 31, 32, 33, 34, 35, 36, 37, 38, 39, 40, 41, 42, 43, 44, 45, 46, 47, 48] (by decide +kernel) (by decide +kernel)
set_option maxRecDepth 20000 in
theorem gX6_begin_X6_copyTree : GoodIn wsX6_begin (wsV RX6 105 RX6 yX6_copyTree wsX6_copyTree) := goodIn_app (goodIn_of _ (by decide +kernel)) ggX6_begin_X6_copyTree
set_option maxRecDepth 20000 in
theorem ggX6_drop_X6_isOpen : GoodIn wsX6_drop wsX6_isOpen := goodIn_r _ [6, 7, 1, 18, 19, 20, 21, 22, 23, 24, 25, 26, 27, 28, 29, 30, 31, 32, 33, 34, 35, 36, 37, 38, 39, 40, 41] (by decide +kernel) (by decide +kernel)
set_option maxRecDepth 20000 in
theorem gX6_drop_X6_isOpen : GoodIn wsX6_drop (wsV RX6 98 RX6 yX6_isOpen wsX6_isOpen) := goodIn_app (goodIn_of _ (by decide +kernel)) ggX6_drop_X6_isOpen
set_option maxRecDepth 20000 in
theorem ggX6_drop_X6_fails : GoodIn wsX6_drop wsX6_fails := goodIn_r _ [11, 12, 18, 19, 20, 21, 22, 23, 24, 25, 26, 27, 28, 29, 30, 31, 32, 33, 34, 35, 36, 37, 38, 39, 40, 41] (by decide +kernel) (by decide +kernel)
set_option maxRecDepth 20000 in
theorem gX6_drop_X6_fails : GoodIn wsX6_drop (wsV RX6 102 RX6 yX6_fails wsX6_fails) := goodIn_app (goodIn_of _ (by decide +kernel)) ggX6_drop_X6_fails
set_option maxRecDepth 20000 in
theorem ggX6_drop_X6_reads : GoodIn wsX6_drop wsX6_reads := goodIn_r _ [16, 17, 18, 19, 20, 21, 22, 23, 24, 25, 26, 27, 28, 29, 30, 31, 32, 33, 34, 35, 36, 37, 38, 39, 40, 41] (by decide +kernel) (by decide +kernel)
set_option maxRecDepth 20000 in
theorem gX6_drop_X6_reads : GoodIn wsX6_drop (wsV RX6 108 RX6 yX6_reads wsX6_reads) := goodIn_app (goodIn_of _ (by decide +kernel)) ggX6_drop_X6_reads
set_option maxRecDepth 20000 in
theorem ggX6_mark_X6_isOpen : GoodIn wsX6_mark wsX6_isOpen := goodIn_r _ [6, 7, 8, 28, 29, 30, 31, 32, 33, 34, 35, 36, 37, 38, 39, 40, 41, 42, 43, 44, 45, 46, 47, 48, 49, 50, 51] (by decide +kernel) (by decide +kernel)
set_option maxRecDepth 20000 in
theorem gX6_mark_X6_isOpen : GoodIn wsX6_mark (wsV RX6 98 RX6 yX6_isOpen wsX6_isOpen) := goodIn_app (goodIn_of _ (by decide +kernel)) ggX6_mark_X6_isOpen
set_option maxRecDepth 20000 in
theorem ggX6_mark_X6_fails : GoodIn wsX6_mark wsX6_fails := goodIn_r _ [12, 13, 28, 29, 30, 31, 32, 33, 34, 35, 36, 37, 38, 39, 40, 41, 42, 43, 44, 45, 46, 47, 48, 49, 50, 51] (by decide +kernel) (by decide +kernel)
set_option maxRecDepth 20000 in
theorem gX6_mark_X6_fails : GoodIn wsX6_mark (wsV RX6 102 RX6 yX6_fails wsX6_fails) := goodIn_app (goodIn_of _ (by decide +kernel)) ggX6_mark_X6_fails
set_option maxRecDepth 20000 in
theorem ggX6_mark_X6_copyTree : GoodIn wsX6_mark wsX6_copyTree := goodIn_r _ [17, 18, 19, 20, 21, 5, 22, 23, 24, 25, 26, 27, 28, 29, 30, 31, 32, 33, 34, 35, 36, 37, 38, 39, 40, 41, 42, 43, 44, 45, 46, 47, 48, 49, 50, 51] (by decide +kernel) (by decide +kernel)
set_option maxRecDepth 20000 in
theorem gX6_mark_X6_copyTree : GoodIn wsX6_mark (wsV RX6 105 RX6 yX6_copyTree wsX6_copyTree) := goodIn_app (goodIn_of _ (by decide +kernel)) ggX6_mark_X6_copyTree
set_option maxRecDepth 20000 in
theorem ggX6_back_X6_isOpen : GoodIn wsX6_back wsX6_isOpen := goodIn_r _ [6, 7, 8, 28, 29, 30, 31, 32, 33, 34, 35, 36, 37, 38, 39, 40, 41, 42, 43, 44, 45, 46, 47, 48, 49, 50, 51] (by decide +kernel) (by decide +kernel)
set_option maxRecDepth 20000 in
theorem gX6_back_X6_isOpen : GoodIn wsX6_back (wsV RX6 98 RX6 yX6_isOpen wsX6_isOpen) := goodIn_app (goodIn_of _ (by decide +kernel)) ggX6_back_X6_isOpen
set_option maxRecDepth 20000 in
theorem ggX6_back_X6_fails : GoodIn wsX6_back wsX6_fails := goodIn_r _ [12, 13, 28, 29, 30, 31, 32, 33, 34, 35, 36, 37, 38, 39, 40, 41, 42, 43, 44, 45, 46, 47, 48, 49, 50, 51] (by decide +kernel) (by decide +kernel)
set_option maxRecDepth 20000 in
theorem gX6_back_X6_fails : GoodIn wsX6_back (wsV RX6 102 RX6 yX6_fails wsX6_fails) := goodIn_app (goodIn_of _ (by decide +kernel)) ggX6_back_X6_fails
set_option maxRecDepth 20000 in
theorem ggX6_back_X6_copyTree : GoodIn wsX6_back wsX6_copyTree := goodIn_r _ [17, 18, 19, 20, 21, 5, 22, 23, 24, 25, 26, 27, 28, 29, 30, 31, 32, 33, 34, 35, 36, 37, 38, 39, 40, 41, 42, 43, 44, 45, 46, 47, 48, 49, 50, 51] (by decide +kernel) (by decide +kernel)
set_option maxRecDepth 20000 in
theorem gX6_back_X6_copyTree : GoodIn wsX6_back (wsV RX6 105 RX6 yX6_copyTree wsX6_copyTree) := goodIn_app (goodIn_of _ (by decide +kernel)) ggX6_back_X6_copyTree
set_option maxRecDepth 20000 in
theorem ggX6_about_X6_isOpen : GoodIn wsX6_about wsX6_isOpen := goodIn_r _ [7, 8, 9, 40, 41, 42, 43, 44, 45, 46, 47, 48, 49, 50, 51, 52, 53, 54, 55, 56, 57, 58, 59, 60, 61, 62, 63] (by decide +kernel) (by decide +kernel)
set_option maxRecDepth 20000 in
theorem gX6_about_X6_isOpen : GoodIn wsX6_about (wsV RX6 98 RX6 yX6_isOpen wsX6_isOpen) := goodIn_app (goodIn_of _ (by decide +kernel)) ggX6_about_X6_isOpen
set_option maxRecDepth 20000 in
theorem ggX6_about_X6_fails : GoodIn wsX6_about wsX6_fails := goodIn_r _ [13, 14, 40, 41, 42, 43, 44, 45, 46, 47, 48, 49, 50, 51, 52, 53, 54, 55, 56, 57, 58, 59, 60, 61, 62, 63] (by decide +kernel) (by decide +kernel)
set_option maxRecDepth 20000 in
theorem gX6_about_X6_fails : GoodIn wsX6_about (wsV RX6 102 RX6 yX6_fails wsX6_fails) := goodIn_app (goodIn_of _ (by decide +kernel)) ggX6_about_X6_fails
set_option maxRecDepth 20000 in
theorem ggX6_about_X6_reads : GoodIn wsX6_about wsX6_reads := goodIn_r _ [18, 19, 40, 41, 42, 43, 44, 45, 46, 47, 48, 49, 50, 51, 52, 53, 54, 55, 56, 57, 58, 59, 60, 61, 62, 63] (by decide +kernel) (by decide +kernel)
set_option maxRecDepth 20000 in
theorem gX6_about_X6_reads : GoodIn wsX6_about (wsV RX6 108 RX6 yX6_reads wsX6_reads) := goodIn_app (goodIn_of _ (by decide +kernel)) ggX6_about_X6_reads
set_option maxRecDepth 20000 in
theorem ggX6_about_X6_changed : GoodIn wsX6_about wsX6_changed := goodIn_r _ [23, 1, 24, 25, 26, 27, 28, 6, 29, 30, 31, 32, 33, 34, 35, 36, 37, 38, 39, 40, 41, 42, 43, 44, 45, 46, 47, 48, 49, 50, 51, 52, 53, 54, 55, 56, 57, 58, 59, 60, 61, 62, 63] (by decide +kernel) (by decide +kernel)
set_option maxRecDepth 20000 in
theorem gX6_about_X6_changed : GoodIn wsX6_about (wsV RX6 111 RX6 yX6_changed wsX6_changed) := goodIn_app (goodIn_of _ (by decide +kernel)) ggX6_about_X6_changed
set_option maxRecDepth 20000 in
theorem ggX6_changed_X6_find : GoodIn wsX6_changed wsX6_find := goodIn_r _ [8, 1, 2, 19, 20, 21, 22, 23, 24, 25, 26, 27, 28, 29, 30, 31, 32, 33, 34, 35, 36, 37, 38, 39, 40, 41, 42] (by decide +kernel) (by decide +kernel)
set_option maxRecDepth 20000 in
theorem gX6_changed_X6_find : GoodIn wsX6_changed (wsV RX6 74 RX6 yX6_find wsX6_find) := goodIn_app (goodIn_of _ (by decide +kernel)) ggX6_changed_X6_find
set_option maxRecDepth 20000 in
theorem ggX6_changed_X6_hasCode : GoodIn wsX6_changed wsX6_hasCode := goodIn_r _ [11] (by decide +kernel) (by decide +kernel)
set_option maxRecDepth 20000 in
theorem gX6_changed_X6_hasCode : GoodIn wsX6_changed (va_wsS RX6 114 yX6_hasCode wsX6_hasCode) := goodIn_app (goodIn_of _ (by decide +kernel)) ggX6_changed_X6_hasCode
set_option maxRecDepth 20000 in
theorem ggX6_changed_X6_valueOf : GoodIn wsX6_changed wsX6_valueOf := goodIn_r _ [15, 16, 17, 18, 19, 20, 21, 22, 23, 24, 25, 26, 27, 28, 29, 30, 31, 32, 33, 34, 35, 36, 37, 38, 39, 40, 41, 42] (by decide +kernel) (by decide +kernel)
set_option maxRecDepth 20000 in
theorem gX6_changed_X6_valueOf : GoodIn wsX6_changed (wsV RX6 78 RX6 yX6_valueOf wsX6_valueOf) := goodIn_app (goodIn_of _ (by decide +kernel)) ggX6_changed_X6_valueOf
set_option maxRecDepth 20000 in
theorem ggX6_isRefused_X6_find : GoodIn wsX6_isRefused wsX6_find := goodIn_r _ [8, 1, 2, 16, 17, 18, 19, 20, 21, 22, 23, 24, 25, 26, 27, 28, 29, 30, 31, 32, 33, 34, 35, 36, 37, 38, 39] (by decide +kernel) (by decide +kernel)
set_option maxRecDepth 20000 in
theorem gX6_isRefused_X6_find : GoodIn wsX6_isRefused (wsV RX6 74 RX6 yX6_find wsX6_find) := goodIn_app (goodIn_of _ (by decide +kernel)) ggX6_isRefused_X6_find
set_option maxRecDepth 20000 in
theorem ggX6_isRefused_X6_valueOf : GoodIn wsX6_isRefused wsX6_valueOf := goodIn_r _ [12, 13, 14, 15, 16, 17, 18, 19, 20, 21, 22, 23, 24, 25, 26, 27, 28, 29, 30, 31, 32, 33, 34, 35, 36, 37, 38, 39] (by decide +kernel) (by decide +kernel)
set_option maxRecDepth 20000 in
theorem gX6_isRefused_X6_valueOf : GoodIn wsX6_isRefused (wsV RX6 78 RX6 yX6_valueOf wsX6_valueOf) := goodIn_app (goodIn_of _ (by decide +kernel)) ggX6_isRefused_X6_valueOf
