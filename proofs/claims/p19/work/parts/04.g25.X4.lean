set_option maxRecDepth 20000 in
theorem ggX4_find_X4_placeOf : GoodIn wsX4_find wsX4_placeOf := goodIn_r _ [5, 6, 7, 8, 13, 14, 15, 16, 17, 18] (by decide +kernel) (by decide +kernel)
set_option maxRecDepth 20000 in
theorem gX4_find_X4_placeOf : GoodIn wsX4_find (wsV RX4 24 RX4 yX4_placeOf wsX4_placeOf) := goodIn_app (goodIn_of _ (by decide +kernel)) ggX4_find_X4_placeOf
set_option maxRecDepth 20000 in
theorem ggX4_find_X4_at : GoodIn wsX4_find wsX4_at := goodIn_r _ [12, 6, 7, 13, 14] (by decide +kernel) (by decide +kernel)
set_option maxRecDepth 20000 in
theorem gX4_find_X4_at : GoodIn wsX4_find (wsV RX4 28 RX4 yX4_at wsX4_at) := goodIn_app (goodIn_of _ (by decide +kernel)) ggX4_find_X4_at
set_option maxRecDepth 20000 in
theorem ggX4_put_X4_placeOf : GoodIn wsX4_put wsX4_placeOf := goodIn_r _ [7, 8, 2, 1, 17, 18, 13, 14, 15, 16] (by decide +kernel) (by decide +kernel)
set_option maxRecDepth 20000 in
theorem gX4_put_X4_placeOf : GoodIn wsX4_put (wsV RX4 24 RX4 yX4_placeOf wsX4_placeOf) := goodIn_app (goodIn_of _ (by decide +kernel)) ggX4_put_X4_placeOf
set_option maxRecDepth 20000 in
theorem ggX4_put_X4_add : GoodIn wsX4_put wsX4_add := goodIn_r _ [12, 8, 2, 17, 18] (by decide +kernel) (by decide +kernel)
set_option maxRecDepth 20000 in
theorem gX4_put_X4_add : GoodIn wsX4_put (wsV RX4 32 RX4 yX4_add wsX4_add) := goodIn_app (goodIn_of _ (by decide +kernel)) ggX4_put_X4_add
set_option maxRecDepth 20000 in
theorem ggX4_takeOut_X4_placeOf : GoodIn wsX4_takeOut wsX4_placeOf := goodIn_r _ [7, 1, 2, 8, 13, 14, 15, 16, 17, 18] (by decide +kernel) (by decide +kernel)
set_option maxRecDepth 20000 in
theorem gX4_takeOut_X4_placeOf : GoodIn wsX4_takeOut (wsV RX4 24 RX4 yX4_placeOf wsX4_placeOf) := goodIn_app (goodIn_of _ (by decide +kernel)) ggX4_takeOut_X4_placeOf
set_option maxRecDepth 20000 in
theorem ggX4_takeOut_X4_at : GoodIn wsX4_takeOut wsX4_at := goodIn_r _ [12, 1, 2, 13, 14] (by decide +kernel) (by decide +kernel)
set_option maxRecDepth 20000 in
theorem gX4_takeOut_X4_at : GoodIn wsX4_takeOut (wsV RX4 28 RX4 yX4_at wsX4_at) := goodIn_app (goodIn_of _ (by decide +kernel)) ggX4_takeOut_X4_at
set_option maxRecDepth 20000 in
theorem ggX4_setEntry_X4_find : GoodIn wsX4_setEntry wsX4_find := goodIn_r _ [6, 7, 8, 9, 5, 10, 11, 12, 13, 14, 15, 16, 17, 53, 54, 49, 50, 51, 52] (by decide +kernel) (by decide +kernel)
set_option maxRecDepth 20000 in
theorem gX4_setEntry_X4_find : GoodIn wsX4_setEntry (wsV RX4 36 RX4 yX4_find wsX4_find) := goodIn_app (goodIn_of _ (by decide +kernel)) ggX4_setEntry_X4_find
set_option maxRecDepth 20000 in
theorem ggX4_setEntry_X2_withCell : GoodIn wsX4_setEntry wsX2_withCell := goodIn_r _ [22, 23, 24, 25, 26, 27, 28, 29, 30, 31, 21, 32, 33, 34, 35, 36, 37, 38, 39, 40, 49, 50, 51, 52] (by decide +kernel) (by decide +kernel)
set_option maxRecDepth 20000 in
theorem gX4_setEntry_X2_withCell : GoodIn wsX4_setEntry (wsV RX4 40 RX2 yX2_withCell wsX2_withCell) := goodIn_app (goodIn_of _ (by decide +kernel)) ggX4_setEntry_X2_withCell
set_option maxRecDepth 20000 in
theorem ggX4_setEntry_X4_put : GoodIn wsX4_setEntry wsX4_put := goodIn_r _ [44, 13, 12, 7, 8, 9, 5, 10, 11, 45, 46, 47, 48, 49, 50, 51, 52, 53, 54] (by decide +kernel) (by decide +kernel)
set_option maxRecDepth 20000 in
theorem gX4_setEntry_X4_put : GoodIn wsX4_setEntry (wsV RX4 44 RX4 yX4_put wsX4_put) := goodIn_app (goodIn_of _ (by decide +kernel)) ggX4_setEntry_X4_put
set_option maxRecDepth 20000 in
theorem ggX4_copyFrom_X4_at : GoodIn wsX4_copyFrom wsX4_at := goodIn_r _ [6, 1, 7, 12, 13] (by decide +kernel) (by decide +kernel)
set_option maxRecDepth 20000 in
theorem gX4_copyFrom_X4_at : GoodIn wsX4_copyFrom (wsV RX4 28 RX4 yX4_at wsX4_at) := goodIn_app (goodIn_of _ (by decide +kernel)) ggX4_copyFrom_X4_at
set_option maxRecDepth 20000 in
theorem ggX4_copyFrom_X4_add : GoodIn wsX4_copyFrom wsX4_add := goodIn_r _ [11, 1, 7, 12, 13] (by decide +kernel) (by decide +kernel)
set_option maxRecDepth 20000 in
theorem gX4_copyFrom_X4_add : GoodIn wsX4_copyFrom (wsV RX4 32 RX4 yX4_add wsX4_add) := goodIn_app (goodIn_of _ (by decide +kernel)) ggX4_copyFrom_X4_add
set_option maxRecDepth 20000 in
theorem ggX4_blocks_X4_at : GoodIn wsX4_blocks wsX4_at := goodIn_r _ [6, 1, 7, 18, 19] (by decide +kernel) (by decide +kernel)
set_option maxRecDepth 20000 in
theorem gX4_blocks_X4_at : GoodIn wsX4_blocks (wsV RX4 28 RX4 yX4_at wsX4_at) := goodIn_app (goodIn_of _ (by decide +kernel)) ggX4_blocks_X4_at
set_option maxRecDepth 20000 in
theorem ggX4_blocks_X2_blocks : GoodIn wsX4_blocks wsX2_blocks := goodIn_r _ [12, 13, 14, 15, 16, 11, 17, 20, 21, 22, 23] (by decide +kernel) (by decide +kernel)
set_option maxRecDepth 20000 in
theorem gX4_blocks_X2_blocks : GoodIn wsX4_blocks (wsV RX4 47 RX2 yX2_blocks wsX2_blocks) := goodIn_app (goodIn_of _ (by decide +kernel)) ggX4_blocks_X2_blocks
