set_option maxRecDepth 20000 in
theorem ggX3_init_X4_init : GoodIn wsX3_init wsX4_init := goodIn_r _ [16, 17, 2, 3, 18, 19, 20, 21, 22] (by decide +kernel) (by decide +kernel)
set_option maxRecDepth 20000 in
theorem gX3_init_X4_init_n11 : GoodIn wsX3_init (wsX4_init) := ggX3_init_X4_init
set_option maxRecDepth 20000 in
theorem ggX3_start_X4_copyFrom : GoodIn wsX3_start wsX4_copyFrom := goodIn_r _ [11, 12, 13, 14, 15, 10, 16, 17, 18, 19, 20, 21, 33, 34] (by decide +kernel) (by decide +kernel)
set_option maxRecDepth 20000 in
theorem gX3_start_X4_copyFrom : GoodIn wsX3_start (wsV RX3 40 RX4 yX4_copyFrom wsX4_copyFrom) := goodIn_app (goodIn_of _ (by decide +kernel)) ggX3_start_X4_copyFrom
set_option maxRecDepth 20000 in
theorem ggX3_start_J7_fill_d0a16 : GoodIn wsX3_start wsJ7_fill_d0a16 := goodIn_r _ [25] (by decide +kernel) (by decide +kernel)
set_option maxRecDepth 20000 in
theorem gX3_start_J7_fill_d0a16 : GoodIn wsX3_start (va_wsS RX3 44 yJ7_fill_d0a16 wsJ7_fill_d0a16) := goodIn_app (goodIn_of _ (by decide +kernel)) ggX3_start_J7_fill_d0a16
set_option maxRecDepth 20000 in
theorem ggX3_lookUp_X4_find : GoodIn wsX3_lookUp wsX4_find := goodIn_r _ [6, 7, 8, 9, 5, 10, 11, 12, 13, 14, 15, 16, 17, 49, 50, 51, 52, 53, 54] (by decide +kernel) (by decide +kernel)
set_option maxRecDepth 20000 in
theorem gX3_lookUp_X4_find : GoodIn wsX3_lookUp (wsV RX3 50 RX4 yX4_find wsX4_find) := goodIn_app (goodIn_of _ (by decide +kernel)) ggX3_lookUp_X4_find
set_option maxRecDepth 20000 in
theorem ggX3_lookUp_X3_step : GoodIn wsX3_lookUp wsX3_step := goodIn_r _ [22, 23, 1, 24, 25, 26, 21, 27, 28, 29, 30, 31, 8, 9, 5, 10, 11, 12, 13, 32, 15, 16, 17, 33, 34, 35, 36, 37, 38, 39, 40, 41, 2, 3, 4, 6, 7, 14, 51, 52, 53, 54, 42, 43, 44, 45, 46, 47, 48, 49, 50] (by decide +kernel) (by decide +kernel)
set_option maxRecDepth 20000 in
theorem gX3_lookUp_X3_step : GoodIn wsX3_lookUp (wsV RX3 54 RX3 yX3_step wsX3_step) := goodIn_app (goodIn_of _ (by decide +kernel)) ggX3_lookUp_X3_step
set_option maxRecDepth 20000 in
theorem ggX3_step_X3_lookAtCell : GoodIn wsX3_step wsX3_lookAtCell := goodIn_r _ [7, 8, 9, 10, 11, 12, 13, 14, 15, 16, 17, 18, 19, 20, 21, 22, 23, 24, 25, 26, 27, 28, 29, 30, 6, 31, 42, 43, 44, 45, 46, 47, 48, 38, 39, 40, 41, 49, 50] (by decide +kernel) (by decide +kernel)
set_option maxRecDepth 20000 in
theorem gX3_step_X3_lookAtCell : GoodIn wsX3_step (wsV RX3 63 RX3 yX3_lookAtCell wsX3_lookAtCell) := goodIn_app (goodIn_of _ (by decide +kernel)) ggX3_step_X3_lookAtCell
set_option maxRecDepth 20000 in
theorem ggX3_step_X2_cell : GoodIn wsX3_step wsX2_cell := goodIn_r _ [27, 28, 38, 39, 40, 41] (by decide +kernel) (by decide +kernel)
set_option maxRecDepth 20000 in
theorem gX3_step_X2_cell : GoodIn wsX3_step (wsV RX3 67 RX2 yX2_cell wsX2_cell) := goodIn_app (goodIn_of _ (by decide +kernel)) ggX3_step_X2_cell
set_option maxRecDepth 20000 in
theorem ggX3_step_X4_find : GoodIn wsX3_step wsX4_find := goodIn_r _ [35, 36, 12, 13, 14, 15, 16, 17, 18, 37, 20, 21, 22, 49, 50, 38, 39, 40, 41] (by decide +kernel) (by decide +kernel)
set_option maxRecDepth 20000 in
theorem gX3_step_X4_find : GoodIn wsX3_step (wsV RX3 50 RX4 yX4_find wsX4_find) := goodIn_app (goodIn_of _ (by decide +kernel)) ggX3_step_X4_find
set_option maxRecDepth 20000 in
theorem ggX3_lookAtCell_X4_placeOf : GoodIn wsX3_lookAtCell wsX4_placeOf := goodIn_r _ [8, 9, 10, 11, 37, 38, 33, 34, 35, 36] (by decide +kernel) (by decide +kernel)
set_option maxRecDepth 20000 in
theorem gX3_lookAtCell_X4_placeOf : GoodIn wsX3_lookAtCell (wsV RX3 74 RX4 yX4_placeOf wsX4_placeOf) := goodIn_app (goodIn_of _ (by decide +kernel)) ggX3_lookAtCell_X4_placeOf
set_option maxRecDepth 20000 in
theorem ggX3_lookAtCell_X4_at : GoodIn wsX3_lookAtCell wsX4_at := goodIn_r _ [15, 9, 10, 37, 38] (by decide +kernel) (by decide +kernel)
set_option maxRecDepth 20000 in
theorem gX3_lookAtCell_X4_at : GoodIn wsX3_lookAtCell (wsV RX3 77 RX4 yX4_at wsX4_at) := goodIn_app (goodIn_of _ (by decide +kernel)) ggX3_lookAtCell_X4_at
set_option maxRecDepth 20000 in
theorem ggX3_lookAtCell_X2_cell : GoodIn wsX3_lookAtCell wsX2_cell := goodIn_r _ [20, 21, 33, 34, 35, 36] (by decide +kernel) (by decide +kernel)
set_option maxRecDepth 20000 in
theorem gX3_lookAtCell_X2_cell : GoodIn wsX3_lookAtCell (wsV RX3 67 RX2 yX2_cell wsX2_cell) := goodIn_app (goodIn_of _ (by decide +kernel)) ggX3_lookAtCell_X2_cell
set_option maxRecDepth 20000 in
theorem ggX3_lookAtCell_X3_noteRead : GoodIn wsX3_lookAtCell wsX3_noteRead := goodIn_r _ [25] (by decide +kernel) (by decide +kernel)
set_option maxRecDepth 20000 in
theorem gX3_lookAtCell_X3_noteRead : GoodIn wsX3_lookAtCell (va_wsS RX3 80 yX3_noteRead wsX3_noteRead) := goodIn_app (goodIn_of _ (by decide +kernel)) ggX3_lookAtCell_X3_noteRead
set_option maxRecDepth 20000 in
theorem ggX3_lookAtSize_X4_placeOf : GoodIn wsX3_lookAtSize wsX4_placeOf := goodIn_r _ [9, 10, 11, 12, 32, 33, 28, 29, 30, 31] (by decide +kernel) (by decide +kernel)
set_option maxRecDepth 20000 in
theorem gX3_lookAtSize_X4_placeOf : GoodIn wsX3_lookAtSize (wsV RX3 74 RX4 yX4_placeOf wsX4_placeOf) := goodIn_app (goodIn_of _ (by decide +kernel)) ggX3_lookAtSize_X4_placeOf
set_option maxRecDepth 20000 in
theorem ggX3_lookAtSize_X4_at : GoodIn wsX3_lookAtSize wsX4_at := goodIn_r _ [16, 10, 11, 32, 33] (by decide +kernel) (by decide +kernel)
set_option maxRecDepth 20000 in
theorem gX3_lookAtSize_X4_at : GoodIn wsX3_lookAtSize (wsV RX3 77 RX4 yX4_at wsX4_at) := goodIn_app (goodIn_of _ (by decide +kernel)) ggX3_lookAtSize_X4_at
set_option maxRecDepth 20000 in
theorem ggX3_lookAtSize_X3_noteRead : GoodIn wsX3_lookAtSize wsX3_noteRead := goodIn_r _ [20] (by decide +kernel) (by decide +kernel)
set_option maxRecDepth 20000 in
theorem gX3_lookAtSize_X3_noteRead : GoodIn wsX3_lookAtSize (va_wsS RX3 80 yX3_noteRead wsX3_noteRead) := goodIn_app (goodIn_of _ (by decide +kernel)) ggX3_lookAtSize_X3_noteRead
set_option maxRecDepth 20000 in
theorem ggX3_namesOf_X4_placeOf : GoodIn wsX3_namesOf wsX4_placeOf := goodIn_r _ [8, 9, 10, 11, 37, 38, 33, 34, 35, 36] (by decide +kernel) (by decide +kernel)
set_option maxRecDepth 20000 in
theorem gX3_namesOf_X4_placeOf : GoodIn wsX3_namesOf (wsV RX3 74 RX4 yX4_placeOf wsX4_placeOf) := goodIn_app (goodIn_of _ (by decide +kernel)) ggX3_namesOf_X4_placeOf
set_option maxRecDepth 20000 in
theorem ggX3_namesOf_X4_at : GoodIn wsX3_namesOf wsX4_at := goodIn_r _ [15, 9, 10, 37, 38] (by decide +kernel) (by decide +kernel)
set_option maxRecDepth 20000 in
theorem gX3_namesOf_X4_at : GoodIn wsX3_namesOf (wsV RX3 77 RX4 yX4_at wsX4_at) := goodIn_app (goodIn_of _ (by decide +kernel)) ggX3_namesOf_X4_at
set_option maxRecDepth 20000 in
theorem ggX3_namesOf_X2_cell : GoodIn wsX3_namesOf wsX2_cell := goodIn_r _ [20, 21, 33, 34, 35, 36] (by decide +kernel) (by decide +kernel)
set_option maxRecDepth 20000 in
theorem gX3_namesOf_X2_cell : GoodIn wsX3_namesOf (wsV RX3 67 RX2 yX2_cell wsX2_cell) := goodIn_app (goodIn_of _ (by decide +kernel)) ggX3_namesOf_X2_cell
set_option maxRecDepth 20000 in
theorem ggX3_namesOf_X3_noteRead : GoodIn wsX3_namesOf wsX3_noteRead := goodIn_r _ [25] (by decide +kernel) (by decide +kernel)
set_option maxRecDepth 20000 in
theorem gX3_namesOf_X3_noteRead : GoodIn wsX3_namesOf (va_wsS RX3 80 yX3_noteRead wsX3_noteRead) := goodIn_app (goodIn_of _ (by decide +kernel)) ggX3_namesOf_X3_noteRead
set_option maxRecDepth 20000 in
theorem ggX3_itemsRead_J13_bitCount_95d88 : GoodIn wsX3_itemsRead wsJ13_bitCount_95d88 := goodIn_r _ [8, 9, 10, 11] (by decide +kernel) (by decide +kernel)
set_option maxRecDepth 20000 in
theorem gX3_itemsRead_J13_bitCount_95d88 : GoodIn wsX3_itemsRead (va_wsS RX3 88 yJ13_bitCount_95d88 wsJ13_bitCount_95d88) := goodIn_app (goodIn_of _ (by decide +kernel)) ggX3_itemsRead_J13_bitCount_95d88
set_option maxRecDepth 20000 in
theorem ggX3_isStale_X4_at : GoodIn wsX3_isStale wsX4_at := goodIn_r _ [10, 11, 12, 43, 44] (by decide +kernel) (by decide +kernel)
set_option maxRecDepth 20000 in
theorem gX3_isStale_X4_at : GoodIn wsX3_isStale (wsV RX3 77 RX4 yX4_at wsX4_at) := goodIn_app (goodIn_of _ (by decide +kernel)) ggX3_isStale_X4_at
set_option maxRecDepth 20000 in
theorem ggX3_isStale_X4_find : GoodIn wsX3_isStale wsX4_find := goodIn_r _ [16, 17, 18, 19, 9, 20, 11, 12, 21, 22, 7, 8, 10, 43, 44, 45, 46, 47, 48] (by decide +kernel) (by decide +kernel)
set_option maxRecDepth 20000 in
theorem gX3_isStale_X4_find : GoodIn wsX3_isStale (wsV RX3 50 RX4 yX4_find wsX4_find) := goodIn_app (goodIn_of _ (by decide +kernel)) ggX3_isStale_X4_find
set_option maxRecDepth 20000 in
theorem ggX3_isStale_X3_differs : GoodIn wsX3_isStale wsX3_differs := goodIn_r _ [26, 27, 28, 29, 30, 31, 32, 33, 34, 35, 45, 46, 47, 48] (by decide +kernel) (by decide +kernel)
set_option maxRecDepth 20000 in
theorem gX3_isStale_X3_differs : GoodIn wsX3_isStale (va_wsS RX3 94 yX3_differs wsX3_differs) := goodIn_app (goodIn_of _ (by decide +kernel)) ggX3_isStale_X3_differs
set_option maxRecDepth 20000 in
theorem ggX3_differs_X2_cell : GoodIn wsX3_differs wsX2_cell := goodIn_r _ [8, 9, 10, 11, 12, 13] (by decide +kernel) (by decide +kernel)
set_option maxRecDepth 20000 in
theorem gX3_differs_X2_cell : GoodIn wsX3_differs (wsV RX3 67 RX2 yX2_cell wsX2_cell) := goodIn_app (goodIn_of _ (by decide +kernel)) ggX3_differs_X2_cell
set_option maxRecDepth 20000 in
theorem ggX3_pushMark_X3_markAt : GoodIn wsX3_pushMark wsX3_markAt := goodIn_r _ [7, 8, 24, 25, 26, 27, 28, 29, 30] (by decide +kernel) (by decide +kernel)
set_option maxRecDepth 20000 in
theorem gX3_pushMark_X3_markAt : GoodIn wsX3_pushMark (wsV RX3 102 RX3 yX3_markAt wsX3_markAt) := goodIn_app (goodIn_of _ (by decide +kernel)) ggX3_pushMark_X3_markAt
set_option maxRecDepth 20000 in
theorem ggX3_pushMark_X4_copyFrom : GoodIn wsX3_pushMark wsX4_copyFrom := goodIn_r _ [13, 14, 15, 16, 17, 12, 18, 19, 20, 21, 22, 23, 31, 32] (by decide +kernel) (by decide +kernel)
set_option maxRecDepth 20000 in
theorem gX3_pushMark_X4_copyFrom : GoodIn wsX3_pushMark (wsV RX3 40 RX4 yX4_copyFrom wsX4_copyFrom) := goodIn_app (goodIn_of _ (by decide +kernel)) ggX3_pushMark_X4_copyFrom
set_option maxRecDepth 20000 in
theorem ggX3_popMark_X3_markAt : GoodIn wsX3_popMark wsX3_markAt := goodIn_r _ [7, 8, 24, 25, 26, 27, 28, 29, 30] (by decide +kernel) (by decide +kernel)
set_option maxRecDepth 20000 in
theorem gX3_popMark_X3_markAt : GoodIn wsX3_popMark (wsV RX3 102 RX3 yX3_markAt wsX3_markAt) := goodIn_app (goodIn_of _ (by decide +kernel)) ggX3_popMark_X3_markAt
set_option maxRecDepth 20000 in
theorem ggX3_popMark_X4_copyFrom : GoodIn wsX3_popMark wsX4_copyFrom := goodIn_r _ [13, 14, 15, 16, 17, 12, 18, 19, 20, 21, 22, 23, 31, 32] (by decide +kernel) (by decide +kernel)
set_option maxRecDepth 20000 in
theorem gX3_popMark_X4_copyFrom : GoodIn wsX3_popMark (wsV RX3 40 RX4 yX4_copyFrom wsX4_copyFrom) := goodIn_app (goodIn_of _ (by decide +kernel)) ggX3_popMark_X4_copyFrom
