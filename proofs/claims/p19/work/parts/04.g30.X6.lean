set_option maxRecDepth 20000 in
theorem ggX6_makeTree_X6_copyTree : GoodIn wsX6_makeTree wsX6_copyTree := goodIn_r _ [15, 7, 16, 17, 18, 14, 19, 9, 10, 8, 20, 21, 52, 53, 54, 55, 56, 57, 58, 59, 60, 61, 62, 63, 64, 65, 66, 67, 68, 69, 70, 71, 72, 73, 74, 75] (by decide +kernel) (by decide +kernel)
set_option maxRecDepth 20000 in
theorem gX6_makeTree_X6_copyTree : GoodIn wsX6_makeTree (wsV RX6 105 RX6 yX6_copyTree wsX6_copyTree) := goodIn_app (goodIn_of _ (by decide +kernel)) ggX6_makeTree_X6_copyTree
set_option maxRecDepth 20000 in
theorem ggX6_makeTree_X6_find : GoodIn wsX6_makeTree wsX6_find := goodIn_r _ [25, 7, 9, 52, 53, 54, 55, 56, 57, 58, 59, 60, 61, 62, 63, 64, 65, 66, 67, 68, 69, 70, 71, 72, 73, 74, 75] (by decide +kernel) (by decide +kernel)
set_option maxRecDepth 20000 in
theorem gX6_makeTree_X6_find : GoodIn wsX6_makeTree (wsV RX6 74 RX6 yX6_find wsX6_find) := goodIn_app (goodIn_of _ (by decide +kernel)) ggX6_makeTree_X6_find
set_option maxRecDepth 20000 in
theorem ggX6_makeTree_X6_addNode : GoodIn wsX6_makeTree wsX6_addNode := goodIn_r _ [29, 7, 9, 10, 8, 20, 21, 2, 1, 52, 53, 54, 55, 56, 57, 58, 59, 60, 61, 62, 63, 64, 65, 66, 67, 68, 69, 70, 71, 72, 73, 74, 75] (by decide +kernel) (by decide +kernel)
set_option maxRecDepth 20000 in
theorem gX6_makeTree_X6_addNode : GoodIn wsX6_makeTree (wsV RX6 121 RX6 yX6_addNode wsX6_addNode) := goodIn_app (goodIn_of _ (by decide +kernel)) ggX6_makeTree_X6_addNode
set_option maxRecDepth 20000 in
theorem ggX6_makeTree_X6_hasCode : GoodIn wsX6_makeTree wsX6_hasCode := goodIn_r _ [32] (by decide +kernel) (by decide +kernel)
set_option maxRecDepth 20000 in
theorem gX6_makeTree_X6_hasCode : GoodIn wsX6_makeTree (va_wsS RX6 114 yX6_hasCode wsX6_hasCode) := goodIn_app (goodIn_of _ (by decide +kernel)) ggX6_makeTree_X6_hasCode
set_option maxRecDepth 20000 in
theorem ggX6_makeTree_X6_valueOf : GoodIn wsX6_makeTree wsX6_valueOf := goodIn_r _ [36, 20, 8, 21, 52, 53, 54, 55, 56, 57, 58, 59, 60, 61, 62, 63, 64, 65, 66, 67, 68, 69, 70, 71, 72, 73, 74, 75] (by decide +kernel) (by decide +kernel)
set_option maxRecDepth 20000 in
theorem gX6_makeTree_X6_valueOf : GoodIn wsX6_makeTree (wsV RX6 78 RX6 yX6_valueOf wsX6_valueOf) := goodIn_app (goodIn_of _ (by decide +kernel)) ggX6_makeTree_X6_valueOf
set_option maxRecDepth 20000 in
theorem ggX6_makeTree_X6_setValue : GoodIn wsX6_makeTree wsX6_setValue := goodIn_r _ [40, 20, 8, 21, 52, 53, 54, 55, 56, 57, 58, 59, 60, 61, 62, 63, 64, 65, 66, 67, 68, 69, 70, 71, 72, 73, 74, 75] (by decide +kernel) (by decide +kernel)
set_option maxRecDepth 20000 in
theorem gX6_makeTree_X6_setValue : GoodIn wsX6_makeTree (wsV RX6 124 RX6 yX6_setValue wsX6_setValue) := goodIn_app (goodIn_of _ (by decide +kernel)) ggX6_makeTree_X6_setValue
set_option maxRecDepth 20000 in
theorem ggX6_makeTree_X6_come : GoodIn wsX6_makeTree wsX6_come := goodIn_r _ [44, 1, 3, 4, 5, 52, 53, 54, 55, 56, 57, 58, 59, 60, 61, 62, 63, 64, 65, 66, 67, 68, 69, 70, 71, 72, 73, 74, 75] (by decide +kernel) (by decide +kernel)
set_option maxRecDepth 20000 in
theorem gX6_makeTree_X6_come : GoodIn wsX6_makeTree (wsV RX6 127 RX6 yX6_come wsX6_come) := goodIn_app (goodIn_of _ (by decide +kernel)) ggX6_makeTree_X6_come
set_option maxRecDepth 20000 in
theorem ggX6_makeTree_X6_sweep : GoodIn wsX6_makeTree wsX6_sweep := goodIn_r _ [48, 49, 7, 20, 50, 10, 2, 3, 4, 8, 5, 51, 6, 22, 23, 24, 14, 25, 9, 16, 17, 18, 19, 21, 52, 53, 54, 55, 56, 57, 58, 59, 60, 61, 62, 63, 64, 65, 66, 67, 68, 69, 70, 71, 72, 73, 74, 75] (by decide +kernel) (by decide +kernel)
set_option maxRecDepth 20000 in
theorem gX6_makeTree_X6_sweep : GoodIn wsX6_makeTree (wsV RX6 130 RX6 yX6_sweep wsX6_sweep) := goodIn_app (goodIn_of _ (by decide +kernel)) ggX6_makeTree_X6_sweep
set_option maxRecDepth 20000 in
theorem ggX6_sweep_X6_find : GoodIn wsX6_sweep wsX6_find := goodIn_r _ [17, 2, 18, 24, 25, 26, 27, 28, 29, 30, 31, 32, 33, 34, 35, 36, 37, 38, 39, 40, 41, 42, 43, 44, 45, 46, 47] (by decide +kernel) (by decide +kernel)
set_option maxRecDepth 20000 in
theorem gX6_sweep_X6_find : GoodIn wsX6_sweep (wsV RX6 74 RX6 yX6_find wsX6_find) := goodIn_app (goodIn_of _ (by decide +kernel)) ggX6_sweep_X6_find
set_option maxRecDepth 20000 in
theorem ggX6_sweep_X6_copyNode : GoodIn wsX6_sweep wsX6_copyNode := goodIn_r _ [22, 18, 5, 9, 3, 23, 24, 25, 26, 27, 28, 29, 30, 31, 32, 33, 34, 35, 36, 37, 38, 39, 40, 41, 42, 43, 44, 45, 46, 47] (by decide +kernel) (by decide +kernel)
set_option maxRecDepth 20000 in
theorem gX6_sweep_X6_copyNode : GoodIn wsX6_sweep (wsV RX6 70 RX6 yX6_copyNode wsX6_copyNode) := goodIn_app (goodIn_of _ (by decide +kernel)) ggX6_sweep_X6_copyNode
set_option maxRecDepth 20000 in
theorem ggX6_wouldBe_X6_isRefused : GoodIn wsX6_wouldBe wsX6_isRefused := goodIn_r _ [7, 1, 8, 9, 10, 11, 12, 6, 13, 14, 15, 16, 17, 18, 19, 20, 65, 66, 67, 68, 69, 70, 71, 72, 73, 74, 75, 76, 77, 78, 79, 80, 81, 82, 83, 84, 85, 86, 87, 88] (by decide +kernel) (by decide +kernel)
set_option maxRecDepth 20000 in
theorem gX6_wouldBe_X6_isRefused : GoodIn wsX6_wouldBe (wsV RX6 138 RX6 yX6_isRefused wsX6_isRefused) := goodIn_app (goodIn_of _ (by decide +kernel)) ggX6_wouldBe_X6_isRefused
set_option maxRecDepth 20000 in
theorem ggX6_wouldBe_X6_makeTree : GoodIn wsX6_wouldBe wsX6_makeTree := goodIn_r _ [24, 2, 25, 26, 27, 28, 29, 1, 19, 8, 30, 31, 32, 33, 6, 34, 35, 36, 37, 38, 18, 20, 10, 11, 12, 13, 39, 40, 41, 42, 43, 44, 45, 14, 15, 16, 17, 46, 47, 48, 49, 50, 51, 52, 53, 54, 55, 56, 57, 58, 59, 60, 65, 66, 67, 68, 69, 70, 71, 72, 73, 74, 75, 76, 77, 78, 79, 80, 81, 82, 83, 84, 85, 86, 87, 88] (by decide +kernel) (by decide +kernel)
set_option maxRecDepth 20000 in
theorem gX6_wouldBe_X6_makeTree : GoodIn wsX6_wouldBe (wsV RX6 141 RX6 yX6_makeTree wsX6_makeTree) := goodIn_app (goodIn_of _ (by decide +kernel)) ggX6_wouldBe_X6_makeTree
set_option maxRecDepth 20000 in
theorem ggX6_wouldBe_X6_blocks : GoodIn wsX6_wouldBe wsX6_blocks := goodIn_r _ [64, 1, 30, 19, 65, 66, 67, 68, 69, 70, 71, 72, 73, 74, 75, 76, 77, 78, 79, 80, 81, 82, 83, 84, 85, 86, 87, 88] (by decide +kernel) (by decide +kernel)
set_option maxRecDepth 20000 in
theorem gX6_wouldBe_X6_blocks : GoodIn wsX6_wouldBe (wsV RX6 145 RX6 yX6_blocks wsX6_blocks) := goodIn_app (goodIn_of _ (by decide +kernel)) ggX6_wouldBe_X6_blocks
set_option maxRecDepth 20000 in
theorem ggX6_check_X6_isOpen : GoodIn wsX6_check wsX6_isOpen := goodIn_r _ [5, 6, 7, 80, 81, 82, 83, 84, 85, 86, 87, 88, 89, 90, 91, 92, 93, 94, 95, 96, 97, 98, 99, 100, 101, 102, 103] (by decide +kernel) (by decide +kernel)
set_option maxRecDepth 20000 in
theorem gX6_check_X6_isOpen : GoodIn wsX6_check (wsV RX6 98 RX6 yX6_isOpen wsX6_isOpen) := goodIn_app (goodIn_of _ (by decide +kernel)) ggX6_check_X6_isOpen
set_option maxRecDepth 20000 in
theorem ggX6_check_X6_fails : GoodIn wsX6_check wsX6_fails := goodIn_r _ [11, 12, 80, 81, 82, 83, 84, 85, 86, 87, 88, 89, 90, 91, 92, 93, 94, 95, 96, 97, 98, 99, 100, 101, 102, 103] (by decide +kernel) (by decide +kernel)
set_option maxRecDepth 20000 in
theorem gX6_check_X6_fails : GoodIn wsX6_check (wsV RX6 102 RX6 yX6_fails wsX6_fails) := goodIn_app (goodIn_of _ (by decide +kernel)) ggX6_check_X6_fails
set_option maxRecDepth 20000 in
theorem ggX6_check_X6_wouldBe : GoodIn wsX6_check wsX6_wouldBe := goodIn_r _ [16, 17, 18, 19, 20, 21, 4, 22, 23, 24, 25, 26, 27, 28, 29, 30, 31, 32, 33, 34, 35, 36, 37, 38, 39, 40, 41, 42, 43, 44, 45, 46, 47, 48, 49, 50, 51, 52, 53, 54, 55, 56, 57, 58, 59, 60, 61, 62, 63, 64, 65, 66, 67, 68, 69, 70, 71, 72, 73, 74, 75, 76, 77, 78, 79, 80, 81, 82, 83, 84, 85, 86, 87, 88, 89, 90, 91, 92, 93, 94, 95, 96, 97, 98, 99, 100, 101, 102, 103] (by decide +kernel) (by decide +kernel)
set_option maxRecDepth 20000 in
theorem gX6_check_X6_wouldBe : GoodIn wsX6_check (wsV RX6 148 RX6 yX6_wouldBe wsX6_wouldBe) := goodIn_app (goodIn_of _ (by decide +kernel)) ggX6_check_X6_wouldBe
set_option maxRecDepth 20000 in
theorem ggX6_commit_X6_isOpen : GoodIn wsX6_commit wsX6_isOpen := goodIn_r _ [10, 11, 1, 88, 89, 90, 91, 92, 93, 94, 95, 96, 97, 98, 99, 100, 101, 102, 103, 104, 105, 106, 107, 108, 109, 110, 111] (by decide +kernel) (by decide +kernel)
set_option maxRecDepth 20000 in
theorem gX6_commit_X6_isOpen : GoodIn wsX6_commit (wsV RX6 98 RX6 yX6_isOpen wsX6_isOpen) := goodIn_app (goodIn_of _ (by decide +kernel)) ggX6_commit_X6_isOpen
set_option maxRecDepth 20000 in
theorem ggX6_commit_X6_fails : GoodIn wsX6_commit wsX6_fails := goodIn_r _ [15, 16, 88, 89, 90, 91, 92, 93, 94, 95, 96, 97, 98, 99, 100, 101, 102, 103, 104, 105, 106, 107, 108, 109, 110, 111] (by decide +kernel) (by decide +kernel)
set_option maxRecDepth 20000 in
theorem gX6_commit_X6_fails : GoodIn wsX6_commit (wsV RX6 102 RX6 yX6_fails wsX6_fails) := goodIn_app (goodIn_of _ (by decide +kernel)) ggX6_commit_X6_fails
set_option maxRecDepth 20000 in
theorem ggX6_commit_X6_wouldBe : GoodIn wsX6_commit wsX6_wouldBe := goodIn_r _ [20, 21, 2, 22, 23, 24, 9, 25, 26, 27, 28, 29, 30, 31, 32, 33, 34, 35, 36, 37, 38, 39, 40, 41, 42, 43, 44, 45, 46, 47, 48, 49, 50, 51, 52, 53, 54, 55, 56, 57, 58, 59, 60, 61, 62, 63, 64, 65, 66, 67, 68, 69, 70, 71, 72, 73, 74, 75, 76, 5, 77, 78, 79, 80, 81, 88, 89, 90, 91, 92, 93, 94, 95, 96, 97, 98, 99, 100, 101, 102, 103, 104, 105, 106, 107, 108, 109, 110, 111] (by decide +kernel) (by decide +kernel)
set_option maxRecDepth 20000 in
theorem gX6_commit_X6_wouldBe : GoodIn wsX6_commit (wsV RX6 148 RX6 yX6_wouldBe wsX6_wouldBe) := goodIn_app (goodIn_of _ (by decide +kernel)) ggX6_commit_X6_wouldBe
set_option maxRecDepth 20000 in
theorem ggX6_commit_X6_writes : GoodIn wsX6_commit wsX6_writes := goodIn_r _ [85, 86, 11, 1, 87, 88, 89, 90, 91, 92, 93, 94, 95, 96, 97, 98, 99, 100, 101, 102, 103, 104, 105, 106, 107, 108, 109, 110, 111] (by decide +kernel) (by decide +kernel)
set_option maxRecDepth 20000 in
theorem gX6_commit_X6_writes : GoodIn wsX6_commit (wsV RX6 154 RX6 yX6_writes wsX6_writes) := goodIn_app (goodIn_of _ (by decide +kernel)) ggX6_commit_X6_writes
set_option maxRecDepth 20000 in
theorem ggX6_commit_X6_copyTree : GoodIn wsX6_commit wsX6_copyTree := goodIn_r _ [52, 21, 53, 54, 55, 9, 56, 26, 48, 37, 36, 38, 88, 89, 90, 91, 92, 93, 94, 95, 96, 97, 98, 99, 100, 101, 102, 103, 104, 105, 106, 107, 108, 109, 110, 111] (by decide +kernel) (by decide +kernel)
set_option maxRecDepth 20000 in
theorem gX6_commit_X6_copyTree : GoodIn wsX6_commit (wsV RX6 105 RX6 yX6_copyTree wsX6_copyTree) := goodIn_app (goodIn_of _ (by decide +kernel)) ggX6_commit_X6_copyTree
set_option maxRecDepth 20000 in
theorem ggX6_power_X6_fails : GoodIn wsX6_power wsX6_fails := goodIn_r _ [6, 7, 8, 9, 10, 11, 12, 13, 14, 15, 16, 17, 18, 19, 20, 21, 22, 23, 24, 25, 26, 27, 28, 29, 30, 31] (by decide +kernel) (by decide +kernel)
set_option maxRecDepth 20000 in
theorem gX6_power_X6_fails : GoodIn wsX6_power (wsV RX6 102 RX6 yX6_fails wsX6_fails) := goodIn_app (goodIn_of _ (by decide +kernel)) ggX6_power_X6_fails
set_option maxRecDepth 20000 in
theorem ggX6_recover_X6_fails : GoodIn wsX6_recover wsX6_fails := goodIn_r _ [8, 9, 31, 32, 33, 34, 35, 36, 37, 38, 39, 40, 41, 42, 43, 44, 45, 46, 47, 48, 49, 50, 51, 52, 53, 54] (by decide +kernel) (by decide +kernel)
set_option maxRecDepth 20000 in
theorem gX6_recover_X6_fails : GoodIn wsX6_recover (wsV RX6 102 RX6 yX6_fails wsX6_fails) := goodIn_app (goodIn_of _ (by decide +kernel)) ggX6_recover_X6_fails
set_option maxRecDepth 20000 in
theorem ggX6_recover_X6_writes : GoodIn wsX6_recover wsX6_writes := goodIn_r _ [13, 14, 1, 15, 16, 31, 32, 33, 34, 35, 36, 37, 38, 39, 40, 41, 42, 43, 44, 45, 46, 47, 48, 49, 50, 51, 52, 53, 54] (by decide +kernel) (by decide +kernel)
set_option maxRecDepth 20000 in
theorem gX6_recover_X6_writes : GoodIn wsX6_recover (wsV RX6 154 RX6 yX6_writes wsX6_writes) := goodIn_app (goodIn_of _ (by decide +kernel)) ggX6_recover_X6_writes
set_option maxRecDepth 20000 in
theorem ggX6_recover_X6_copyTree : GoodIn wsX6_recover wsX6_copyTree := goodIn_r _ [20, 21, 22, 23, 24, 7, 25, 26, 27, 28, 29, 30, 31, 32, 33, 34, 35, 36, 37, 38, 39, 40, 41, 42, 43, 44, 45, 46, 47, 48, 49, 50, 51, 52, 53, 54] (by decide +kernel) (by decide +kernel)
set_option maxRecDepth 20000 in
theorem gX6_recover_X6_copyTree : GoodIn wsX6_recover (wsV RX6 105 RX6 yX6_copyTree wsX6_copyTree) := goodIn_app (goodIn_of _ (by decide +kernel)) ggX6_recover_X6_copyTree
set_option maxRecDepth 20000 in
theorem ggX6_count_X6_fails : GoodIn wsX6_count wsX6_fails := goodIn_r _ [10, 11, 18, 19, 20, 21, 22, 23, 24, 25, 26, 27, 28, 29, 30, 31, 32, 33, 34, 35, 36, 37, 38, 39, 40, 41] (by decide +kernel) (by decide +kernel)
set_option maxRecDepth 20000 in
theorem gX6_count_X6_fails : GoodIn wsX6_count (wsV RX6 102 RX6 yX6_fails wsX6_fails) := goodIn_app (goodIn_of _ (by decide +kernel)) ggX6_count_X6_fails
set_option maxRecDepth 20000 in
theorem ggX6_count_X6_blocks : GoodIn wsX6_count wsX6_blocks := goodIn_r _ [15, 3, 16, 17, 18, 19, 20, 21, 22, 23, 24, 25, 26, 27, 28, 29, 30, 31, 32, 33, 34, 35, 36, 37, 38, 39, 40, 41] (by decide +kernel) (by decide +kernel)
set_option maxRecDepth 20000 in
theorem gX6_count_X6_blocks : GoodIn wsX6_count (wsV RX6 145 RX6 yX6_blocks wsX6_blocks) := goodIn_app (goodIn_of _ (by decide +kernel)) ggX6_count_X6_blocks
set_option maxRecDepth 20000 in
theorem ggX6_parentOf_X6_lookUp : GoodIn wsX6_parentOf wsX6_lookUp := goodIn_r _ [5, 6, 7, 8, 9, 4, 10, 11, 12, 13, 14, 15, 16, 17, 18, 19, 20, 21, 22, 23, 24, 25, 26, 27, 28, 29, 30, 31, 32, 33, 34, 35, 36, 37, 38, 39, 40, 41, 42, 43, 44, 45, 46, 47, 48, 49, 50, 51, 52, 53, 54, 55, 56] (by decide +kernel) (by decide +kernel)
set_option maxRecDepth 20000 in
theorem gX6_parentOf_X6_lookUp : GoodIn wsX6_parentOf (wsV RX6 163 RX6 yX6_lookUp wsX6_lookUp) := goodIn_app (goodIn_of _ (by decide +kernel)) ggX6_parentOf_X6_lookUp
set_option maxRecDepth 20000 in
theorem ggX6_make_X6_isOpen : GoodIn wsX6_make wsX6_isOpen := goodIn_r _ [12, 13, 14, 53, 54, 55, 56, 57, 58, 59, 60, 61, 62, 63, 64, 65, 66, 67, 68, 69, 70, 71, 72, 73, 74, 75, 76] (by decide +kernel) (by decide +kernel)
set_option maxRecDepth 20000 in
theorem gX6_make_X6_isOpen : GoodIn wsX6_make (wsV RX6 98 RX6 yX6_isOpen wsX6_isOpen) := goodIn_app (goodIn_of _ (by decide +kernel)) ggX6_make_X6_isOpen
set_option maxRecDepth 20000 in
theorem ggX6_make_X6_isPath : GoodIn wsX6_make wsX6_isPath := goodIn_r _ [17, 18] (by decide +kernel) (by decide +kernel)
set_option maxRecDepth 20000 in
theorem gX6_make_X6_isPath : GoodIn wsX6_make (va_wsS RX6 166 yX6_isPath wsX6_isPath) := goodIn_app (goodIn_of _ (by decide +kernel)) ggX6_make_X6_isPath
