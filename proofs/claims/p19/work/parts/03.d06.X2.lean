theorem dX2_init_0 : decode cX2_init 0 = .ok (.aload_n 0, 1) := by decide +kernel
theorem dX2_init_1 : decode cX2_init 1 = .ok (.invokespecial 3, 3) := by decide +kernel
theorem dX2_init_4 : decode cX2_init 4 = .ok (.aload_n 0, 1) := by decide +kernel
theorem dX2_init_5 : decode cX2_init 5 = .ok (.iload_n 1, 1) := by decide +kernel
theorem dX2_init_6 : decode cX2_init 6 = .ok (.putfield 9, 3) := by decide +kernel
theorem dX2_init_9 : decode cX2_init 9 = .ok (.aload_n 0, 1) := by decide +kernel
theorem dX2_init_10 : decode cX2_init 10 = .ok (.iload_n 2, 1) := by decide +kernel
theorem dX2_init_11 : decode cX2_init 11 = .ok (.putfield 15, 3) := by decide +kernel
theorem dX2_init_14 : decode cX2_init 14 = .ok (.aload_n 0, 1) := by decide +kernel
theorem dX2_init_15 : decode cX2_init 15 = .ok (.iload_n 3, 1) := by decide +kernel
theorem dX2_init_16 : decode cX2_init 16 = .ok (.putfield 19, 3) := by decide +kernel
theorem dX2_init_19 : decode cX2_init 19 = .ok (.aload_n 0, 1) := by decide +kernel
theorem dX2_init_20 : decode cX2_init 20 = .ok (.aload 4, 2) := by decide +kernel
theorem dX2_init_22 : decode cX2_init 22 = .ok (.putfield 22, 3) := by decide +kernel
theorem dX2_init_25 : decode cX2_init 25 = .ok (.return_, 1) := by decide +kernel
theorem dX2_blank_0 : decode cX2_blank 0 = .ok (.new 10, 3) := by decide +kernel
theorem dX2_blank_3 : decode cX2_blank 3 = .ok (.dup, 1) := by decide +kernel
theorem dX2_blank_4 : decode cX2_blank 4 = .ok (.iload_n 0, 1) := by decide +kernel
theorem dX2_blank_5 : decode cX2_blank 5 = .ok (.iload_n 1, 1) := by decide +kernel
theorem dX2_blank_6 : decode cX2_blank 6 = .ok (.iconst 0, 1) := by decide +kernel
theorem dX2_blank_7 : decode cX2_blank 7 = .ok (.iload_n 1, 1) := by decide +kernel
theorem dX2_blank_8 : decode cX2_blank 8 = .ok (.ifCond .eq 8, 3) := by decide +kernel
theorem dX2_blank_11 : decode cX2_blank 11 = .ok (.bipush 16, 2) := by decide +kernel
theorem dX2_blank_13 : decode cX2_blank 13 = .ok (.goto 5, 3) := by decide +kernel
theorem dX2_blank_16 : decode cX2_blank 16 = .ok (.bipush 64, 2) := by decide +kernel
theorem dX2_blank_18 : decode cX2_blank 18 = .ok (.newarray .int, 2) := by decide +kernel
theorem dX2_blank_20 : decode cX2_blank 20 = .ok (.invokespecial 26, 3) := by decide +kernel
theorem dX2_blank_23 : decode cX2_blank 23 = .ok (.areturn, 1) := by decide +kernel
theorem dX2_cell_0 : decode cX2_cell 0 = .ok (.iload_n 1, 1) := by decide +kernel
theorem dX2_cell_1 : decode cX2_cell 1 = .ok (.ifCond .lt 21, 3) := by decide +kernel
theorem dX2_cell_4 : decode cX2_cell 4 = .ok (.iload_n 1, 1) := by decide +kernel
theorem dX2_cell_5 : decode cX2_cell 5 = .ok (.aload_n 0, 1) := by decide +kernel
theorem dX2_cell_6 : decode cX2_cell 6 = .ok (.getfield 22, 3) := by decide +kernel
theorem dX2_cell_9 : decode cX2_cell 9 = .ok (.arraylength, 1) := by decide +kernel
theorem dX2_cell_10 : decode cX2_cell 10 = .ok (.if_icmp .ge 12, 3) := by decide +kernel
theorem dX2_cell_13 : decode cX2_cell 13 = .ok (.aload_n 0, 1) := by decide +kernel
theorem dX2_cell_14 : decode cX2_cell 14 = .ok (.getfield 22, 3) := by decide +kernel
theorem dX2_cell_17 : decode cX2_cell 17 = .ok (.iload_n 1, 1) := by decide +kernel
theorem dX2_cell_18 : decode cX2_cell 18 = .ok (.iaload, 1) := by decide +kernel
theorem dX2_cell_19 : decode cX2_cell 19 = .ok (.goto 4, 3) := by decide +kernel
theorem dX2_cell_22 : decode cX2_cell 22 = .ok (.iconst 0, 1) := by decide +kernel
theorem dX2_cell_23 : decode cX2_cell 23 = .ok (.ireturn, 1) := by decide +kernel
theorem dX2_withCell_0 : decode cX2_withCell 0 = .ok (.aload_n 0, 1) := by decide +kernel
theorem dX2_withCell_1 : decode cX2_withCell 1 = .ok (.getfield 22, 3) := by decide +kernel
theorem dX2_withCell_4 : decode cX2_withCell 4 = .ok (.invokevirtual 29, 3) := by decide +kernel
theorem dX2_withCell_7 : decode cX2_withCell 7 = .ok (.checkcast 30, 3) := by decide +kernel
theorem dX2_withCell_10 : decode cX2_withCell 10 = .ok (.astore 4, 2) := by decide +kernel
theorem dX2_withCell_12 : decode cX2_withCell 12 = .ok (.iload_n 1, 1) := by decide +kernel
theorem dX2_withCell_13 : decode cX2_withCell 13 = .ok (.ifCond .lt 15, 3) := by decide +kernel
theorem dX2_withCell_16 : decode cX2_withCell 16 = .ok (.iload_n 1, 1) := by decide +kernel
theorem dX2_withCell_17 : decode cX2_withCell 17 = .ok (.aload 4, 2) := by decide +kernel
theorem dX2_withCell_19 : decode cX2_withCell 19 = .ok (.arraylength, 1) := by decide +kernel
theorem dX2_withCell_20 : decode cX2_withCell 20 = .ok (.if_icmp .ge 8, 3) := by decide +kernel
theorem dX2_withCell_23 : decode cX2_withCell 23 = .ok (.aload 4, 2) := by decide +kernel
theorem dX2_withCell_25 : decode cX2_withCell 25 = .ok (.iload_n 1, 1) := by decide +kernel
theorem dX2_withCell_26 : decode cX2_withCell 26 = .ok (.iload_n 2, 1) := by decide +kernel
theorem dX2_withCell_27 : decode cX2_withCell 27 = .ok (.iastore, 1) := by decide +kernel
theorem dX2_withCell_28 : decode cX2_withCell 28 = .ok (.new 10, 3) := by decide +kernel
theorem dX2_withCell_31 : decode cX2_withCell 31 = .ok (.dup, 1) := by decide +kernel
theorem dX2_withCell_32 : decode cX2_withCell 32 = .ok (.aload_n 0, 1) := by decide +kernel
theorem dX2_withCell_33 : decode cX2_withCell 33 = .ok (.getfield 9, 3) := by decide +kernel
theorem dX2_withCell_36 : decode cX2_withCell 36 = .ok (.aload_n 0, 1) := by decide +kernel
theorem dX2_withCell_37 : decode cX2_withCell 37 = .ok (.getfield 15, 3) := by decide +kernel
theorem dX2_withCell_40 : decode cX2_withCell 40 = .ok (.iload_n 3, 1) := by decide +kernel
theorem dX2_withCell_41 : decode cX2_withCell 41 = .ok (.aload 4, 2) := by decide +kernel
theorem dX2_withCell_43 : decode cX2_withCell 43 = .ok (.invokespecial 26, 3) := by decide +kernel
theorem dX2_withCell_46 : decode cX2_withCell 46 = .ok (.areturn, 1) := by decide +kernel
theorem dX2_cutTo_0 : decode cX2_cutTo 0 = .ok (.aload_n 0, 1) := by decide +kernel
theorem dX2_cutTo_1 : decode cX2_cutTo 1 = .ok (.getfield 22, 3) := by decide +kernel
theorem dX2_cutTo_4 : decode cX2_cutTo 4 = .ok (.invokevirtual 29, 3) := by decide +kernel
theorem dX2_cutTo_7 : decode cX2_cutTo 7 = .ok (.checkcast 30, 3) := by decide +kernel
theorem dX2_cutTo_10 : decode cX2_cutTo 10 = .ok (.astore_n 2, 1) := by decide +kernel
theorem dX2_cutTo_11 : decode cX2_cutTo 11 = .ok (.iload_n 1, 1) := by decide +kernel
theorem dX2_cutTo_12 : decode cX2_cutTo 12 = .ok (.iconst 0, 1) := by decide +kernel
theorem dX2_cutTo_13 : decode cX2_cutTo 13 = .ok (.invokestatic 34, 3) := by decide +kernel
theorem dX2_cutTo_16 : decode cX2_cutTo 16 = .ok (.istore_n 3, 1) := by decide +kernel
theorem dX2_cutTo_17 : decode cX2_cutTo 17 = .ok (.iload_n 3, 1) := by decide +kernel
theorem dX2_cutTo_18 : decode cX2_cutTo 18 = .ok (.aload_n 2, 1) := by decide +kernel
theorem dX2_cutTo_19 : decode cX2_cutTo 19 = .ok (.arraylength, 1) := by decide +kernel
theorem dX2_cutTo_20 : decode cX2_cutTo 20 = .ok (.if_icmp .ge 13, 3) := by decide +kernel
theorem dX2_cutTo_23 : decode cX2_cutTo 23 = .ok (.aload_n 2, 1) := by decide +kernel
theorem dX2_cutTo_24 : decode cX2_cutTo 24 = .ok (.iload_n 3, 1) := by decide +kernel
theorem dX2_cutTo_25 : decode cX2_cutTo 25 = .ok (.iconst 0, 1) := by decide +kernel
theorem dX2_cutTo_26 : decode cX2_cutTo 26 = .ok (.iastore, 1) := by decide +kernel
theorem dX2_cutTo_27 : decode cX2_cutTo 27 = .ok (.iinc 3 1, 3) := by decide +kernel
theorem dX2_cutTo_30 : decode cX2_cutTo 30 = .ok (.goto (-13), 3) := by decide +kernel
theorem dX2_cutTo_33 : decode cX2_cutTo 33 = .ok (.new 10, 3) := by decide +kernel
theorem dX2_cutTo_36 : decode cX2_cutTo 36 = .ok (.dup, 1) := by decide +kernel
theorem dX2_cutTo_37 : decode cX2_cutTo 37 = .ok (.aload_n 0, 1) := by decide +kernel
theorem dX2_cutTo_38 : decode cX2_cutTo 38 = .ok (.getfield 9, 3) := by decide +kernel
theorem dX2_cutTo_41 : decode cX2_cutTo 41 = .ok (.aload_n 0, 1) := by decide +kernel
theorem dX2_cutTo_42 : decode cX2_cutTo 42 = .ok (.getfield 15, 3) := by decide +kernel
theorem dX2_cutTo_45 : decode cX2_cutTo 45 = .ok (.iload_n 1, 1) := by decide +kernel
theorem dX2_cutTo_46 : decode cX2_cutTo 46 = .ok (.aload_n 2, 1) := by decide +kernel
theorem dX2_cutTo_47 : decode cX2_cutTo 47 = .ok (.invokespecial 26, 3) := by decide +kernel
theorem dX2_cutTo_50 : decode cX2_cutTo 50 = .ok (.areturn, 1) := by decide +kernel
theorem dX2_blocks_0 : decode cX2_blocks 0 = .ok (.aload_n 0, 1) := by decide +kernel
theorem dX2_blocks_1 : decode cX2_blocks 1 = .ok (.getfield 15, 3) := by decide +kernel
theorem dX2_blocks_4 : decode cX2_blocks 4 = .ok (.ifCond .eq 7, 3) := by decide +kernel
theorem dX2_blocks_7 : decode cX2_blocks 7 = .ok (.iconst 1, 1) := by decide +kernel
theorem dX2_blocks_8 : decode cX2_blocks 8 = .ok (.goto 12, 3) := by decide +kernel
theorem dX2_blocks_11 : decode cX2_blocks 11 = .ok (.iconst 1, 1) := by decide +kernel
theorem dX2_blocks_12 : decode cX2_blocks 12 = .ok (.aload_n 0, 1) := by decide +kernel
theorem dX2_blocks_13 : decode cX2_blocks 13 = .ok (.getfield 19, 3) := by decide +kernel
theorem dX2_blocks_16 : decode cX2_blocks 16 = .ok (.invokestatic 40, 3) := by decide +kernel
theorem dX2_blocks_19 : decode cX2_blocks 19 = .ok (.iadd, 1) := by decide +kernel
theorem dX2_blocks_20 : decode cX2_blocks 20 = .ok (.ireturn, 1) := by decide +kernel
theorem dX2_wordBlocks_0 : decode cX2_wordBlocks 0 = .ok (.iload_n 0, 1) := by decide +kernel
theorem dX2_wordBlocks_1 : decode cX2_wordBlocks 1 = .ok (.bipush 8, 2) := by decide +kernel
theorem dX2_wordBlocks_3 : decode cX2_wordBlocks 3 = .ok (.iadd, 1) := by decide +kernel
theorem dX2_wordBlocks_4 : decode cX2_wordBlocks 4 = .ok (.iconst 1, 1) := by decide +kernel
theorem dX2_wordBlocks_5 : decode cX2_wordBlocks 5 = .ok (.isub, 1) := by decide +kernel
theorem dX2_wordBlocks_6 : decode cX2_wordBlocks 6 = .ok (.bipush 8, 2) := by decide +kernel
theorem dX2_wordBlocks_8 : decode cX2_wordBlocks 8 = .ok (.idiv, 1) := by decide +kernel
theorem dX2_wordBlocks_9 : decode cX2_wordBlocks 9 = .ok (.ireturn, 1) := by decide +kernel
