set_option maxRecDepth 20000 in
theorem ggX2_blank_X2_init : GoodIn wsX2_blank wsX2_init := goodIn_r _ [7, 8, 9, 10, 11, 12, 13, 14, 15, 16, 17, 18] (by decide +kernel) (by decide +kernel)
set_option maxRecDepth 20000 in
theorem gX2_blank_X2_init : GoodIn wsX2_blank (wsX2_init) := ggX2_blank_X2_init
set_option maxRecDepth 20000 in
theorem ggX2_withCell_X2_init : GoodIn wsX2_withCell wsX2_init := goodIn_r _ [15, 16, 17, 18, 11, 12, 19, 1, 20, 21, 22, 23] (by decide +kernel) (by decide +kernel)
set_option maxRecDepth 20000 in
theorem gX2_withCell_X2_init : GoodIn wsX2_withCell (wsX2_init) := ggX2_withCell_X2_init
set_option maxRecDepth 20000 in
theorem ggX2_cutTo_X2_init : GoodIn wsX2_cutTo wsX2_init := goodIn_r _ [19, 20, 21, 22, 15, 16, 23, 1, 24, 25, 26, 27] (by decide +kernel) (by decide +kernel)
set_option maxRecDepth 20000 in
theorem gX2_cutTo_X2_init : GoodIn wsX2_cutTo (wsX2_init) := ggX2_cutTo_X2_init
set_option maxRecDepth 20000 in
theorem ggX2_blocks_X2_wordBlocks : GoodIn wsX2_blocks wsX2_wordBlocks := goodIn_r _ [6] (by decide +kernel) (by decide +kernel)
set_option maxRecDepth 20000 in
theorem gX2_blocks_X2_wordBlocks : GoodIn wsX2_blocks (va_wsS RX2 40 yX2_wordBlocks wsX2_wordBlocks) := goodIn_app (goodIn_of _ (by decide +kernel)) ggX2_blocks_X2_wordBlocks
