set_option maxRecDepth 20000 in
theorem ggX1_init_X2_blank : GoodIn wsX1_init wsX2_blank := goodIn_r _ [13, 14, 15, 12, 16, 17, 18, 19, 20, 2, 3, 21, 22, 23, 24, 31, 32, 33, 34] (by decide +kernel) (by decide +kernel)
set_option maxRecDepth 20000 in
theorem gX1_init_X2_blank : GoodIn wsX1_init (va_wsS RX1 24 yX2_blank wsX2_blank) := goodIn_app (goodIn_of _ (by decide +kernel)) ggX1_init_X2_blank
set_option maxRecDepth 20000 in
theorem ggX1_weigh_X4_at : GoodIn wsX1_weigh wsX4_at := goodIn_r _ [11, 12, 13, 66, 67] (by decide +kernel) (by decide +kernel)
set_option maxRecDepth 20000 in
theorem gX1_weigh_X4_at : GoodIn wsX1_weigh (wsV RX1 42 RX4 yX4_at wsX4_at) := goodIn_app (goodIn_of _ (by decide +kernel)) ggX1_weigh_X4_at
set_option maxRecDepth 20000 in
theorem ggX1_weigh_X4_find : GoodIn wsX1_weigh wsX4_find := goodIn_r _ [17, 18, 19, 20, 10, 21, 12, 13, 22, 23, 8, 9, 11, 66, 67, 68, 69, 70, 71] (by decide +kernel) (by decide +kernel)
set_option maxRecDepth 20000 in
theorem gX1_weigh_X4_find : GoodIn wsX1_weigh (wsV RX1 49 RX4 yX4_find wsX4_find) := goodIn_app (goodIn_of _ (by decide +kernel)) ggX1_weigh_X4_find
set_option maxRecDepth 20000 in
theorem ggX1_weigh_X1_weighKept : GoodIn wsX1_weigh wsX1_weighKept := goodIn_r _ [28, 29, 30, 31, 27, 32, 33, 34, 1, 2, 35, 3, 4, 36, 37, 38, 39, 40, 41, 42, 43, 44, 45, 46, 47, 48, 49, 50, 51, 52, 53, 68, 69, 70, 71, 60, 61, 62, 63, 64, 65] (by decide +kernel) (by decide +kernel)
set_option maxRecDepth 20000 in
theorem gX1_weigh_X1_weighKept : GoodIn wsX1_weigh (wsV RX1 52 RX1 yX1_weighKept wsX1_weighKept) := goodIn_app (goodIn_of _ (by decide +kernel)) ggX1_weigh_X1_weighKept
set_option maxRecDepth 20000 in
theorem ggX1_weigh_X1_weighMade : GoodIn wsX1_weigh wsX1_weighMade := goodIn_r _ [57, 35, 58, 59, 1, 29, 30, 31, 27, 32, 33, 34, 2, 3, 4, 36, 37, 38, 39, 40, 41, 42, 43, 44, 45, 46, 47, 48, 49, 50, 51, 52, 53, 68, 69, 70, 71, 60, 61, 62, 63, 64, 65] (by decide +kernel) (by decide +kernel)
set_option maxRecDepth 20000 in
theorem gX1_weigh_X1_weighMade : GoodIn wsX1_weigh (wsV RX1 56 RX1 yX1_weighMade wsX1_weighMade) := goodIn_app (goodIn_of _ (by decide +kernel)) ggX1_weigh_X1_weighMade
set_option maxRecDepth 20000 in
theorem ggX1_weighKept_X1_weighNode : GoodIn wsX1_weighKept wsX1_weighNode := goodIn_r _ [5, 6, 7, 8, 9, 10, 11, 12, 13, 14, 15, 16, 17, 18, 19, 20, 4, 21, 22, 23, 24, 25, 26, 27, 28, 29, 30, 31, 32, 33, 34, 35, 36, 37, 38, 39, 40] (by decide +kernel) (by decide +kernel)
set_option maxRecDepth 20000 in
theorem gX1_weighKept_X1_weighNode : GoodIn wsX1_weighKept (wsV RX1 60 RX1 yX1_weighNode wsX1_weighNode) := goodIn_app (goodIn_of _ (by decide +kernel)) ggX1_weighKept_X1_weighNode
set_option maxRecDepth 20000 in
theorem ggX1_weighMade_X1_weighNode : GoodIn wsX1_weighMade wsX1_weighNode := goodIn_r _ [9, 10, 11, 4, 12, 1, 13, 14, 15, 16, 17, 18, 19, 20, 21, 22, 8, 23, 24, 25, 26, 27, 28, 29, 30, 31, 32, 33, 34, 35, 36, 37, 38, 39, 40, 41, 42] (by decide +kernel) (by decide +kernel)
set_option maxRecDepth 20000 in
theorem gX1_weighMade_X1_weighNode : GoodIn wsX1_weighMade (wsV RX1 60 RX1 yX1_weighNode wsX1_weighNode) := goodIn_app (goodIn_of _ (by decide +kernel)) ggX1_weighMade_X1_weighNode
set_option maxRecDepth 20000 in
theorem ggX1_weighNode_X2_cell : GoodIn wsX1_weighNode wsX2_cell := goodIn_r _ [12, 13, 27, 28, 29, 30] (by decide +kernel) (by decide +kernel)
set_option maxRecDepth 20000 in
theorem gX1_weighNode_X2_cell : GoodIn wsX1_weighNode (wsV RX1 72 RX2 yX2_cell wsX2_cell) := goodIn_app (goodIn_of _ (by decide +kernel)) ggX1_weighNode_X2_cell
set_option maxRecDepth 20000 in
theorem ggX1_weighNode_X1_comes : GoodIn wsX1_weighNode wsX1_comes := goodIn_r _ [17] (by decide +kernel) (by decide +kernel)
set_option maxRecDepth 20000 in
theorem gX1_weighNode_X1_comes : GoodIn wsX1_weighNode (va_wsS RX1 76 yX1_comes wsX1_comes) := goodIn_app (goodIn_of _ (by decide +kernel)) ggX1_weighNode_X1_comes
set_option maxRecDepth 20000 in
theorem ggX1_weighNode_X1_merged : GoodIn wsX1_weighNode wsX1_merged := goodIn_r _ [20] (by decide +kernel) (by decide +kernel)
set_option maxRecDepth 20000 in
theorem gX1_weighNode_X1_merged : GoodIn wsX1_weighNode (va_wsS RX1 81 yX1_merged wsX1_merged) := goodIn_app (goodIn_of _ (by decide +kernel)) ggX1_weighNode_X1_merged
set_option maxRecDepth 20000 in
theorem ggX1_weighNode_X2_wordBlocks : GoodIn wsX1_weighNode wsX2_wordBlocks := goodIn_r _ [23] (by decide +kernel) (by decide +kernel)
set_option maxRecDepth 20000 in
theorem gX1_weighNode_X2_wordBlocks : GoodIn wsX1_weighNode (va_wsS RX1 85 yX2_wordBlocks wsX2_wordBlocks) := goodIn_app (goodIn_of _ (by decide +kernel)) ggX1_weighNode_X2_wordBlocks
set_option maxRecDepth 20000 in
theorem ggX1_weighNode_X1_wordBlocksComing : GoodIn wsX1_weighNode wsX1_wordBlocksComing := goodIn_r _ [26, 2, 18, 19, 16, 20, 8, 9, 10, 11, 12, 13, 14, 15, 17, 27, 28, 29, 30] (by decide +kernel) (by decide +kernel)
set_option maxRecDepth 20000 in
theorem gX1_weighNode_X1_wordBlocksComing : GoodIn wsX1_weighNode (va_wsS RX1 88 yX1_wordBlocksComing wsX1_wordBlocksComing) := goodIn_app (goodIn_of _ (by decide +kernel)) ggX1_weighNode_X1_wordBlocksComing
set_option maxRecDepth 20000 in
theorem ggX1_wordBlocksComing_X1_merged : GoodIn wsX1_wordBlocksComing wsX1_merged := goodIn_r _ [5] (by decide +kernel) (by decide +kernel)
set_option maxRecDepth 20000 in
theorem gX1_wordBlocksComing_X1_merged : GoodIn wsX1_wordBlocksComing (va_wsS RX1 81 yX1_merged wsX1_merged) := goodIn_app (goodIn_of _ (by decide +kernel)) ggX1_wordBlocksComing_X1_merged
set_option maxRecDepth 20000 in
theorem ggX1_wordBlocksComing_X2_cell : GoodIn wsX1_wordBlocksComing wsX2_cell := goodIn_r _ [10, 11, 15, 16, 17, 18] (by decide +kernel) (by decide +kernel)
set_option maxRecDepth 20000 in
theorem gX1_wordBlocksComing_X2_cell : GoodIn wsX1_wordBlocksComing (wsV RX1 72 RX2 yX2_cell wsX2_cell) := goodIn_app (goodIn_of _ (by decide +kernel)) ggX1_wordBlocksComing_X2_cell
set_option maxRecDepth 20000 in
theorem ggX1_wordBlocksComing_X1_comes : GoodIn wsX1_wordBlocksComing wsX1_comes := goodIn_r _ [14] (by decide +kernel) (by decide +kernel)
set_option maxRecDepth 20000 in
theorem gX1_wordBlocksComing_X1_comes : GoodIn wsX1_wordBlocksComing (va_wsS RX1 76 yX1_comes wsX1_comes) := goodIn_app (goodIn_of _ (by decide +kernel)) ggX1_wordBlocksComing_X1_comes
set_option maxRecDepth 20000 in
theorem ggX1_build_X4_at : GoodIn wsX1_build wsX4_at := goodIn_r _ [7, 8, 9, 55, 56] (by decide +kernel) (by decide +kernel)
set_option maxRecDepth 20000 in
theorem gX1_build_X4_at : GoodIn wsX1_build (wsV RX1 42 RX4 yX4_at wsX4_at) := goodIn_app (goodIn_of _ (by decide +kernel)) ggX1_build_X4_at
set_option maxRecDepth 20000 in
theorem ggX1_build_X4_find : GoodIn wsX1_build wsX4_find := goodIn_r _ [13, 14, 15, 16, 6, 17, 8, 9, 18, 19, 4, 5, 7, 55, 56, 57, 58, 59, 60] (by decide +kernel) (by decide +kernel)
set_option maxRecDepth 20000 in
theorem gX1_build_X4_find : GoodIn wsX1_build (wsV RX1 49 RX4 yX4_find wsX4_find) := goodIn_app (goodIn_of _ (by decide +kernel)) ggX1_build_X4_find
set_option maxRecDepth 20000 in
theorem ggX1_build_X1_addKept : GoodIn wsX1_build wsX1_addKept := goodIn_r _ [23, 24, 25, 26, 6, 27, 8, 9, 28, 29, 22, 30, 31, 32, 33, 34, 35, 36, 37, 2, 38, 39, 40, 41, 42, 43, 44, 45, 46, 47, 48, 49, 50, 51, 52, 53, 54, 55, 56, 57, 58, 59, 60] (by decide +kernel) (by decide +kernel)
set_option maxRecDepth 20000 in
theorem gX1_build_X1_addKept : GoodIn wsX1_build (va_wsS RX1 92 yX1_addKept wsX1_addKept) := goodIn_app (goodIn_of _ (by decide +kernel)) ggX1_build_X1_addKept
set_option maxRecDepth 20000 in
theorem ggX1_build_X4_add : GoodIn wsX1_build wsX4_add := goodIn_r _ [27, 8, 9, 55, 56] (by decide +kernel) (by decide +kernel)
set_option maxRecDepth 20000 in
theorem gX1_build_X4_add : GoodIn wsX1_build (wsV RX1 96 RX4 yX4_add wsX4_add) := goodIn_app (goodIn_of _ (by decide +kernel)) ggX1_build_X4_add
set_option maxRecDepth 20000 in
theorem ggX1_addKept_X4_add : GoodIn wsX1_addKept wsX4_add := goodIn_r _ [5, 6, 7, 37, 38] (by decide +kernel) (by decide +kernel)
set_option maxRecDepth 20000 in
theorem gX1_addKept_X4_add : GoodIn wsX1_addKept (wsV RX1 96 RX4 yX4_add wsX4_add) := goodIn_app (goodIn_of _ (by decide +kernel)) ggX1_addKept_X4_add
set_option maxRecDepth 20000 in
theorem ggX1_addKept_X1_mergedNode : GoodIn wsX1_addKept wsX1_mergedNode := goodIn_r _ [11, 12, 13, 14, 15, 16, 17, 18, 19, 20, 21, 10, 22, 23, 24, 25, 26, 27, 28, 29, 30, 31, 32, 33, 34, 35, 36, 39, 40, 41, 42] (by decide +kernel) (by decide +kernel)
set_option maxRecDepth 20000 in
theorem gX1_addKept_X1_mergedNode : GoodIn wsX1_addKept (va_wsS RX1 99 yX1_mergedNode wsX1_mergedNode) := goodIn_app (goodIn_of _ (by decide +kernel)) ggX1_addKept_X1_mergedNode
set_option maxRecDepth 20000 in
theorem ggX1_mergedNode_X1_merged : GoodIn wsX1_mergedNode wsX1_merged := goodIn_r _ [12] (by decide +kernel) (by decide +kernel)
set_option maxRecDepth 20000 in
theorem gX1_mergedNode_X1_merged : GoodIn wsX1_mergedNode (va_wsS RX1 81 yX1_merged wsX1_merged) := goodIn_app (goodIn_of _ (by decide +kernel)) ggX1_mergedNode_X1_merged
set_option maxRecDepth 20000 in
theorem ggX1_mergedNode_X2_cell : GoodIn wsX1_mergedNode wsX2_cell := goodIn_r _ [16, 17, 27, 28, 29, 30] (by decide +kernel) (by decide +kernel)
set_option maxRecDepth 20000 in
theorem gX1_mergedNode_X2_cell : GoodIn wsX1_mergedNode (wsV RX1 72 RX2 yX2_cell wsX2_cell) := goodIn_app (goodIn_of _ (by decide +kernel)) ggX1_mergedNode_X2_cell
set_option maxRecDepth 20000 in
theorem ggX1_mergedNode_X2_init : GoodIn wsX1_mergedNode wsX2_init := goodIn_r _ [20, 21, 22, 23, 24, 25, 26, 17, 27, 28, 29, 30] (by decide +kernel) (by decide +kernel)
set_option maxRecDepth 20000 in
theorem gX1_mergedNode_X2_init : GoodIn wsX1_mergedNode (wsX2_init) := ggX1_mergedNode_X2_init
