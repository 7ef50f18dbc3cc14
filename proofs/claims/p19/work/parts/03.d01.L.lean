theorem dL_begin_0 : decode cL_begin 0 = .ok (.aload_n 1, 1) := by decide +kernel
theorem dL_begin_1 : decode cL_begin 1 = .ok (.iconst 0, 1) := by decide +kernel
theorem dL_begin_2 : decode cL_begin 2 = .ok (.aload_n 0, 1) := by decide +kernel
theorem dL_begin_3 : decode cL_begin 3 = .ok (.invokevirtual 7, 3) := by decide +kernel
theorem dL_begin_6 : decode cL_begin 6 = .ok (.i2l, 1) := by decide +kernel
theorem dL_begin_7 : decode cL_begin 7 = .ok (.lastore, 1) := by decide +kernel
theorem dL_begin_8 : decode cL_begin 8 = .ok (.goto 9, 3) := by decide +kernel
theorem dL_begin_11 : decode cL_begin 11 = .ok (.astore_n 2, 1) := by decide +kernel
theorem dL_begin_12 : decode cL_begin 12 = .ok (.iconst 1, 1) := by decide +kernel
theorem dL_begin_13 : decode cL_begin 13 = .ok (.ireturn, 1) := by decide +kernel
theorem dL_begin_14 : decode cL_begin 14 = .ok (.astore_n 2, 1) := by decide +kernel
theorem dL_begin_15 : decode cL_begin 15 = .ok (.iconst 2, 1) := by decide +kernel
theorem dL_begin_16 : decode cL_begin 16 = .ok (.ireturn, 1) := by decide +kernel
theorem dL_begin_17 : decode cL_begin 17 = .ok (.iconst 0, 1) := by decide +kernel
theorem dL_begin_18 : decode cL_begin 18 = .ok (.ireturn, 1) := by decide +kernel
theorem dL_drop_0 : decode cL_drop 0 = .ok (.aload_n 2, 1) := by decide +kernel
theorem dL_drop_1 : decode cL_drop 1 = .ok (.iconst 0, 1) := by decide +kernel
theorem dL_drop_2 : decode cL_drop 2 = .ok (.aload_n 0, 1) := by decide +kernel
theorem dL_drop_3 : decode cL_drop 3 = .ok (.iload_n 1, 1) := by decide +kernel
theorem dL_drop_4 : decode cL_drop 4 = .ok (.invokevirtual 17, 3) := by decide +kernel
theorem dL_drop_7 : decode cL_drop 7 = .ok (.i2l, 1) := by decide +kernel
theorem dL_drop_8 : decode cL_drop 8 = .ok (.lastore, 1) := by decide +kernel
theorem dL_drop_9 : decode cL_drop 9 = .ok (.goto 6, 3) := by decide +kernel
theorem dL_drop_12 : decode cL_drop 12 = .ok (.astore_n 3, 1) := by decide +kernel
theorem dL_drop_13 : decode cL_drop 13 = .ok (.iconst 1, 1) := by decide +kernel
theorem dL_drop_14 : decode cL_drop 14 = .ok (.ireturn, 1) := by decide +kernel
theorem dL_drop_15 : decode cL_drop 15 = .ok (.iconst 0, 1) := by decide +kernel
theorem dL_drop_16 : decode cL_drop 16 = .ok (.ireturn, 1) := by decide +kernel
theorem dL_commit_0 : decode cL_commit 0 = .ok (.aload_n 2, 1) := by decide +kernel
theorem dL_commit_1 : decode cL_commit 1 = .ok (.iconst 0, 1) := by decide +kernel
theorem dL_commit_2 : decode cL_commit 2 = .ok (.aload_n 0, 1) := by decide +kernel
theorem dL_commit_3 : decode cL_commit 3 = .ok (.iload_n 1, 1) := by decide +kernel
theorem dL_commit_4 : decode cL_commit 4 = .ok (.invokevirtual 21, 3) := by decide +kernel
theorem dL_commit_7 : decode cL_commit 7 = .ok (.i2l, 1) := by decide +kernel
theorem dL_commit_8 : decode cL_commit 8 = .ok (.lastore, 1) := by decide +kernel
theorem dL_commit_9 : decode cL_commit 9 = .ok (.goto 6, 3) := by decide +kernel
theorem dL_commit_12 : decode cL_commit 12 = .ok (.astore_n 3, 1) := by decide +kernel
theorem dL_commit_13 : decode cL_commit 13 = .ok (.iconst 1, 1) := by decide +kernel
theorem dL_commit_14 : decode cL_commit 14 = .ok (.ireturn, 1) := by decide +kernel
theorem dL_commit_15 : decode cL_commit 15 = .ok (.iconst 0, 1) := by decide +kernel
theorem dL_commit_16 : decode cL_commit 16 = .ok (.ireturn, 1) := by decide +kernel
theorem dL_check_0 : decode cL_check 0 = .ok (.aload_n 2, 1) := by decide +kernel
theorem dL_check_1 : decode cL_check 1 = .ok (.iconst 0, 1) := by decide +kernel
theorem dL_check_2 : decode cL_check 2 = .ok (.aload_n 0, 1) := by decide +kernel
theorem dL_check_3 : decode cL_check 3 = .ok (.iload_n 1, 1) := by decide +kernel
theorem dL_check_4 : decode cL_check 4 = .ok (.invokevirtual 24, 3) := by decide +kernel
theorem dL_check_7 : decode cL_check 7 = .ok (.i2l, 1) := by decide +kernel
theorem dL_check_8 : decode cL_check 8 = .ok (.lastore, 1) := by decide +kernel
theorem dL_check_9 : decode cL_check 9 = .ok (.goto 6, 3) := by decide +kernel
theorem dL_check_12 : decode cL_check 12 = .ok (.astore_n 3, 1) := by decide +kernel
theorem dL_check_13 : decode cL_check 13 = .ok (.iconst 1, 1) := by decide +kernel
theorem dL_check_14 : decode cL_check 14 = .ok (.ireturn, 1) := by decide +kernel
theorem dL_check_15 : decode cL_check 15 = .ok (.iconst 0, 1) := by decide +kernel
theorem dL_check_16 : decode cL_check 16 = .ok (.ireturn, 1) := by decide +kernel
theorem dL_make_0 : decode cL_make 0 = .ok (.aload_n 0, 1) := by decide +kernel
theorem dL_make_1 : decode cL_make 1 = .ok (.iload_n 1, 1) := by decide +kernel
theorem dL_make_2 : decode cL_make 2 = .ok (.iload_n 2, 1) := by decide +kernel
theorem dL_make_3 : decode cL_make 3 = .ok (.iload_n 3, 1) := by decide +kernel
theorem dL_make_4 : decode cL_make 4 = .ok (.invokevirtual 27, 3) := by decide +kernel
theorem dL_make_7 : decode cL_make 7 = .ok (.goto 19, 3) := by decide +kernel
theorem dL_make_10 : decode cL_make 10 = .ok (.astore 4, 2) := by decide +kernel
theorem dL_make_12 : decode cL_make 12 = .ok (.iconst 1, 1) := by decide +kernel
theorem dL_make_13 : decode cL_make 13 = .ok (.ireturn, 1) := by decide +kernel
theorem dL_make_14 : decode cL_make 14 = .ok (.astore 4, 2) := by decide +kernel
theorem dL_make_16 : decode cL_make 16 = .ok (.iconst 2, 1) := by decide +kernel
theorem dL_make_17 : decode cL_make 17 = .ok (.ireturn, 1) := by decide +kernel
theorem dL_make_18 : decode cL_make 18 = .ok (.astore 4, 2) := by decide +kernel
theorem dL_make_20 : decode cL_make 20 = .ok (.iconst 3, 1) := by decide +kernel
theorem dL_make_21 : decode cL_make 21 = .ok (.ireturn, 1) := by decide +kernel
theorem dL_make_22 : decode cL_make 22 = .ok (.astore 4, 2) := by decide +kernel
theorem dL_make_24 : decode cL_make 24 = .ok (.iconst 4, 1) := by decide +kernel
theorem dL_make_25 : decode cL_make 25 = .ok (.ireturn, 1) := by decide +kernel
theorem dL_make_26 : decode cL_make 26 = .ok (.iconst 0, 1) := by decide +kernel
theorem dL_make_27 : decode cL_make 27 = .ok (.ireturn, 1) := by decide +kernel
theorem dL_remove_0 : decode cL_remove 0 = .ok (.aload_n 3, 1) := by decide +kernel
theorem dL_remove_1 : decode cL_remove 1 = .ok (.iconst 0, 1) := by decide +kernel
theorem dL_remove_2 : decode cL_remove 2 = .ok (.aload_n 0, 1) := by decide +kernel
theorem dL_remove_3 : decode cL_remove 3 = .ok (.iload_n 1, 1) := by decide +kernel
theorem dL_remove_4 : decode cL_remove 4 = .ok (.iload_n 2, 1) := by decide +kernel
theorem dL_remove_5 : decode cL_remove 5 = .ok (.invokevirtual 35, 3) := by decide +kernel
theorem dL_remove_8 : decode cL_remove 8 = .ok (.ifCond .eq 7, 3) := by decide +kernel
theorem dL_remove_11 : decode cL_remove 11 = .ok (.lconst 1, 1) := by decide +kernel
theorem dL_remove_12 : decode cL_remove 12 = .ok (.goto 4, 3) := by decide +kernel
theorem dL_remove_15 : decode cL_remove 15 = .ok (.lconst 0, 1) := by decide +kernel
theorem dL_remove_16 : decode cL_remove 16 = .ok (.lastore, 1) := by decide +kernel
theorem dL_remove_17 : decode cL_remove 17 = .ok (.goto 19, 3) := by decide +kernel
theorem dL_remove_20 : decode cL_remove 20 = .ok (.astore 4, 2) := by decide +kernel
theorem dL_remove_22 : decode cL_remove 22 = .ok (.iconst 1, 1) := by decide +kernel
theorem dL_remove_23 : decode cL_remove 23 = .ok (.ireturn, 1) := by decide +kernel
theorem dL_remove_24 : decode cL_remove 24 = .ok (.astore 4, 2) := by decide +kernel
theorem dL_remove_26 : decode cL_remove 26 = .ok (.iconst 2, 1) := by decide +kernel
theorem dL_remove_27 : decode cL_remove 27 = .ok (.ireturn, 1) := by decide +kernel
theorem dL_remove_28 : decode cL_remove 28 = .ok (.astore 4, 2) := by decide +kernel
theorem dL_remove_30 : decode cL_remove 30 = .ok (.iconst 3, 1) := by decide +kernel
theorem dL_remove_31 : decode cL_remove 31 = .ok (.ireturn, 1) := by decide +kernel
theorem dL_remove_32 : decode cL_remove 32 = .ok (.astore 4, 2) := by decide +kernel
theorem dL_remove_34 : decode cL_remove 34 = .ok (.iconst 4, 1) := by decide +kernel
theorem dL_remove_35 : decode cL_remove 35 = .ok (.ireturn, 1) := by decide +kernel
theorem dL_remove_36 : decode cL_remove 36 = .ok (.iconst 0, 1) := by decide +kernel
theorem dL_remove_37 : decode cL_remove 37 = .ok (.ireturn, 1) := by decide +kernel
theorem dL_move_0 : decode cL_move 0 = .ok (.aload 4, 2) := by decide +kernel
theorem dL_move_2 : decode cL_move 2 = .ok (.iconst 0, 1) := by decide +kernel
theorem dL_move_3 : decode cL_move 3 = .ok (.aload_n 0, 1) := by decide +kernel
theorem dL_move_4 : decode cL_move 4 = .ok (.iload_n 1, 1) := by decide +kernel
theorem dL_move_5 : decode cL_move 5 = .ok (.iload_n 2, 1) := by decide +kernel
theorem dL_move_6 : decode cL_move 6 = .ok (.iload_n 3, 1) := by decide +kernel
theorem dL_move_7 : decode cL_move 7 = .ok (.invokevirtual 39, 3) := by decide +kernel
theorem dL_move_10 : decode cL_move 10 = .ok (.ifCond .eq 7, 3) := by decide +kernel
theorem dL_move_13 : decode cL_move 13 = .ok (.lconst 1, 1) := by decide +kernel
theorem dL_move_14 : decode cL_move 14 = .ok (.goto 4, 3) := by decide +kernel
theorem dL_move_17 : decode cL_move 17 = .ok (.lconst 0, 1) := by decide +kernel
theorem dL_move_18 : decode cL_move 18 = .ok (.lastore, 1) := by decide +kernel
theorem dL_move_19 : decode cL_move 19 = .ok (.goto 19, 3) := by decide +kernel
theorem dL_move_22 : decode cL_move 22 = .ok (.astore 5, 2) := by decide +kernel
theorem dL_move_24 : decode cL_move 24 = .ok (.iconst 1, 1) := by decide +kernel
theorem dL_move_25 : decode cL_move 25 = .ok (.ireturn, 1) := by decide +kernel
theorem dL_move_26 : decode cL_move 26 = .ok (.astore 5, 2) := by decide +kernel
theorem dL_move_28 : decode cL_move 28 = .ok (.iconst 2, 1) := by decide +kernel
theorem dL_move_29 : decode cL_move 29 = .ok (.ireturn, 1) := by decide +kernel
theorem dL_move_30 : decode cL_move 30 = .ok (.astore 5, 2) := by decide +kernel
theorem dL_move_32 : decode cL_move 32 = .ok (.iconst 3, 1) := by decide +kernel
theorem dL_move_33 : decode cL_move 33 = .ok (.ireturn, 1) := by decide +kernel
theorem dL_move_34 : decode cL_move 34 = .ok (.astore 5, 2) := by decide +kernel
theorem dL_move_36 : decode cL_move 36 = .ok (.iconst 4, 1) := by decide +kernel
theorem dL_move_37 : decode cL_move 37 = .ok (.ireturn, 1) := by decide +kernel
theorem dL_move_38 : decode cL_move 38 = .ok (.iconst 0, 1) := by decide +kernel
theorem dL_move_39 : decode cL_move 39 = .ok (.ireturn, 1) := by decide +kernel
theorem dL_write_0 : decode cL_write 0 = .ok (.aload 5, 2) := by decide +kernel
theorem dL_write_2 : decode cL_write 2 = .ok (.iconst 0, 1) := by decide +kernel
theorem dL_write_3 : decode cL_write 3 = .ok (.aload_n 0, 1) := by decide +kernel
theorem dL_write_4 : decode cL_write 4 = .ok (.iload_n 1, 1) := by decide +kernel
theorem dL_write_5 : decode cL_write 5 = .ok (.iload_n 2, 1) := by decide +kernel
theorem dL_write_6 : decode cL_write 6 = .ok (.iload_n 3, 1) := by decide +kernel
theorem dL_write_7 : decode cL_write 7 = .ok (.iload 4, 2) := by decide +kernel
theorem dL_write_9 : decode cL_write 9 = .ok (.invokevirtual 43, 3) := by decide +kernel
theorem dL_write_12 : decode cL_write 12 = .ok (.i2l, 1) := by decide +kernel
theorem dL_write_13 : decode cL_write 13 = .ok (.lastore, 1) := by decide +kernel
theorem dL_write_14 : decode cL_write 14 = .ok (.goto 23, 3) := by decide +kernel
theorem dL_write_17 : decode cL_write 17 = .ok (.astore 6, 2) := by decide +kernel
theorem dL_write_19 : decode cL_write 19 = .ok (.iconst 1, 1) := by decide +kernel
theorem dL_write_20 : decode cL_write 20 = .ok (.ireturn, 1) := by decide +kernel
theorem dL_write_21 : decode cL_write 21 = .ok (.astore 6, 2) := by decide +kernel
theorem dL_write_23 : decode cL_write 23 = .ok (.iconst 2, 1) := by decide +kernel
theorem dL_write_24 : decode cL_write 24 = .ok (.ireturn, 1) := by decide +kernel
theorem dL_write_25 : decode cL_write 25 = .ok (.astore 6, 2) := by decide +kernel
theorem dL_write_27 : decode cL_write 27 = .ok (.iconst 3, 1) := by decide +kernel
theorem dL_write_28 : decode cL_write 28 = .ok (.ireturn, 1) := by decide +kernel
theorem dL_write_29 : decode cL_write 29 = .ok (.astore 6, 2) := by decide +kernel
theorem dL_write_31 : decode cL_write 31 = .ok (.iconst 4, 1) := by decide +kernel
theorem dL_write_32 : decode cL_write 32 = .ok (.ireturn, 1) := by decide +kernel
theorem dL_write_33 : decode cL_write 33 = .ok (.astore 6, 2) := by decide +kernel
theorem dL_write_35 : decode cL_write 35 = .ok (.iconst 5, 1) := by decide +kernel
theorem dL_write_36 : decode cL_write 36 = .ok (.ireturn, 1) := by decide +kernel
theorem dL_write_37 : decode cL_write 37 = .ok (.iconst 0, 1) := by decide +kernel
theorem dL_write_38 : decode cL_write 38 = .ok (.ireturn, 1) := by decide +kernel
theorem dL_append_0 : decode cL_append 0 = .ok (.aload 4, 2) := by decide +kernel
theorem dL_append_2 : decode cL_append 2 = .ok (.iconst 0, 1) := by decide +kernel
theorem dL_append_3 : decode cL_append 3 = .ok (.aload_n 0, 1) := by decide +kernel
theorem dL_append_4 : decode cL_append 4 = .ok (.iload_n 1, 1) := by decide +kernel
theorem dL_append_5 : decode cL_append 5 = .ok (.iload_n 2, 1) := by decide +kernel
theorem dL_append_6 : decode cL_append 6 = .ok (.iload_n 3, 1) := by decide +kernel
theorem dL_append_7 : decode cL_append 7 = .ok (.invokevirtual 49, 3) := by decide +kernel
theorem dL_append_10 : decode cL_append 10 = .ok (.i2l, 1) := by decide +kernel
theorem dL_append_11 : decode cL_append 11 = .ok (.lastore, 1) := by decide +kernel
theorem dL_append_12 : decode cL_append 12 = .ok (.goto 19, 3) := by decide +kernel
theorem dL_append_15 : decode cL_append 15 = .ok (.astore 5, 2) := by decide +kernel
theorem dL_append_17 : decode cL_append 17 = .ok (.iconst 1, 1) := by decide +kernel
theorem dL_append_18 : decode cL_append 18 = .ok (.ireturn, 1) := by decide +kernel
theorem dL_append_19 : decode cL_append 19 = .ok (.astore 5, 2) := by decide +kernel
theorem dL_append_21 : decode cL_append 21 = .ok (.iconst 2, 1) := by decide +kernel
theorem dL_append_22 : decode cL_append 22 = .ok (.ireturn, 1) := by decide +kernel
theorem dL_append_23 : decode cL_append 23 = .ok (.astore 5, 2) := by decide +kernel
theorem dL_append_25 : decode cL_append 25 = .ok (.iconst 3, 1) := by decide +kernel
theorem dL_append_26 : decode cL_append 26 = .ok (.ireturn, 1) := by decide +kernel
theorem dL_append_27 : decode cL_append 27 = .ok (.astore 5, 2) := by decide +kernel
theorem dL_append_29 : decode cL_append 29 = .ok (.iconst 4, 1) := by decide +kernel
theorem dL_append_30 : decode cL_append 30 = .ok (.ireturn, 1) := by decide +kernel
theorem dL_append_31 : decode cL_append 31 = .ok (.iconst 0, 1) := by decide +kernel
theorem dL_append_32 : decode cL_append 32 = .ok (.ireturn, 1) := by decide +kernel
theorem dL_cut_0 : decode cL_cut 0 = .ok (.aload 4, 2) := by decide +kernel
theorem dL_cut_2 : decode cL_cut 2 = .ok (.iconst 0, 1) := by decide +kernel
theorem dL_cut_3 : decode cL_cut 3 = .ok (.aload_n 0, 1) := by decide +kernel
theorem dL_cut_4 : decode cL_cut 4 = .ok (.iload_n 1, 1) := by decide +kernel
theorem dL_cut_5 : decode cL_cut 5 = .ok (.iload_n 2, 1) := by decide +kernel
theorem dL_cut_6 : decode cL_cut 6 = .ok (.iload_n 3, 1) := by decide +kernel
theorem dL_cut_7 : decode cL_cut 7 = .ok (.invokevirtual 53, 3) := by decide +kernel
theorem dL_cut_10 : decode cL_cut 10 = .ok (.i2l, 1) := by decide +kernel
theorem dL_cut_11 : decode cL_cut 11 = .ok (.lastore, 1) := by decide +kernel
theorem dL_cut_12 : decode cL_cut 12 = .ok (.goto 23, 3) := by decide +kernel
theorem dL_cut_15 : decode cL_cut 15 = .ok (.astore 5, 2) := by decide +kernel
theorem dL_cut_17 : decode cL_cut 17 = .ok (.iconst 1, 1) := by decide +kernel
theorem dL_cut_18 : decode cL_cut 18 = .ok (.ireturn, 1) := by decide +kernel
theorem dL_cut_19 : decode cL_cut 19 = .ok (.astore 5, 2) := by decide +kernel
theorem dL_cut_21 : decode cL_cut 21 = .ok (.iconst 2, 1) := by decide +kernel
theorem dL_cut_22 : decode cL_cut 22 = .ok (.ireturn, 1) := by decide +kernel
theorem dL_cut_23 : decode cL_cut 23 = .ok (.astore 5, 2) := by decide +kernel
theorem dL_cut_25 : decode cL_cut 25 = .ok (.iconst 3, 1) := by decide +kernel
theorem dL_cut_26 : decode cL_cut 26 = .ok (.ireturn, 1) := by decide +kernel
theorem dL_cut_27 : decode cL_cut 27 = .ok (.astore 5, 2) := by decide +kernel
theorem dL_cut_29 : decode cL_cut 29 = .ok (.iconst 4, 1) := by decide +kernel
theorem dL_cut_30 : decode cL_cut 30 = .ok (.ireturn, 1) := by decide +kernel
theorem dL_cut_31 : decode cL_cut 31 = .ok (.astore 5, 2) := by decide +kernel
theorem dL_cut_33 : decode cL_cut 33 = .ok (.iconst 5, 1) := by decide +kernel
theorem dL_cut_34 : decode cL_cut 34 = .ok (.ireturn, 1) := by decide +kernel
theorem dL_cut_35 : decode cL_cut 35 = .ok (.iconst 0, 1) := by decide +kernel
theorem dL_cut_36 : decode cL_cut 36 = .ok (.ireturn, 1) := by decide +kernel
theorem dL_read_0 : decode cL_read 0 = .ok (.aload 4, 2) := by decide +kernel
theorem dL_read_2 : decode cL_read 2 = .ok (.iconst 0, 1) := by decide +kernel
theorem dL_read_3 : decode cL_read 3 = .ok (.aload_n 0, 1) := by decide +kernel
theorem dL_read_4 : decode cL_read 4 = .ok (.iload_n 1, 1) := by decide +kernel
theorem dL_read_5 : decode cL_read 5 = .ok (.iload_n 2, 1) := by decide +kernel
theorem dL_read_6 : decode cL_read 6 = .ok (.iload_n 3, 1) := by decide +kernel
theorem dL_read_7 : decode cL_read 7 = .ok (.invokevirtual 56, 3) := by decide +kernel
theorem dL_read_10 : decode cL_read 10 = .ok (.i2l, 1) := by decide +kernel
theorem dL_read_11 : decode cL_read 11 = .ok (.lastore, 1) := by decide +kernel
theorem dL_read_12 : decode cL_read 12 = .ok (.goto 23, 3) := by decide +kernel
theorem dL_read_15 : decode cL_read 15 = .ok (.astore 5, 2) := by decide +kernel
theorem dL_read_17 : decode cL_read 17 = .ok (.iconst 1, 1) := by decide +kernel
theorem dL_read_18 : decode cL_read 18 = .ok (.ireturn, 1) := by decide +kernel
theorem dL_read_19 : decode cL_read 19 = .ok (.astore 5, 2) := by decide +kernel
theorem dL_read_21 : decode cL_read 21 = .ok (.iconst 2, 1) := by decide +kernel
theorem dL_read_22 : decode cL_read 22 = .ok (.ireturn, 1) := by decide +kernel
theorem dL_read_23 : decode cL_read 23 = .ok (.astore 5, 2) := by decide +kernel
theorem dL_read_25 : decode cL_read 25 = .ok (.iconst 3, 1) := by decide +kernel
theorem dL_read_26 : decode cL_read 26 = .ok (.ireturn, 1) := by decide +kernel
theorem dL_read_27 : decode cL_read 27 = .ok (.astore 5, 2) := by decide +kernel
theorem dL_read_29 : decode cL_read 29 = .ok (.iconst 4, 1) := by decide +kernel
theorem dL_read_30 : decode cL_read 30 = .ok (.ireturn, 1) := by decide +kernel
theorem dL_read_31 : decode cL_read 31 = .ok (.astore 5, 2) := by decide +kernel
theorem dL_read_33 : decode cL_read 33 = .ok (.iconst 5, 1) := by decide +kernel
theorem dL_read_34 : decode cL_read 34 = .ok (.ireturn, 1) := by decide +kernel
theorem dL_read_35 : decode cL_read 35 = .ok (.iconst 0, 1) := by decide +kernel
theorem dL_read_36 : decode cL_read 36 = .ok (.ireturn, 1) := by decide +kernel
theorem dL_length_0 : decode cL_length 0 = .ok (.aload_n 3, 1) := by decide +kernel
theorem dL_length_1 : decode cL_length 1 = .ok (.iconst 0, 1) := by decide +kernel
theorem dL_length_2 : decode cL_length 2 = .ok (.aload_n 0, 1) := by decide +kernel
theorem dL_length_3 : decode cL_length 3 = .ok (.iload_n 1, 1) := by decide +kernel
theorem dL_length_4 : decode cL_length 4 = .ok (.iload_n 2, 1) := by decide +kernel
theorem dL_length_5 : decode cL_length 5 = .ok (.invokevirtual 59, 3) := by decide +kernel
theorem dL_length_8 : decode cL_length 8 = .ok (.i2l, 1) := by decide +kernel
theorem dL_length_9 : decode cL_length 9 = .ok (.lastore, 1) := by decide +kernel
theorem dL_length_10 : decode cL_length 10 = .ok (.goto 19, 3) := by decide +kernel
theorem dL_length_13 : decode cL_length 13 = .ok (.astore 4, 2) := by decide +kernel
theorem dL_length_15 : decode cL_length 15 = .ok (.iconst 1, 1) := by decide +kernel
theorem dL_length_16 : decode cL_length 16 = .ok (.ireturn, 1) := by decide +kernel
theorem dL_length_17 : decode cL_length 17 = .ok (.astore 4, 2) := by decide +kernel
theorem dL_length_19 : decode cL_length 19 = .ok (.iconst 2, 1) := by decide +kernel
theorem dL_length_20 : decode cL_length 20 = .ok (.ireturn, 1) := by decide +kernel
theorem dL_length_21 : decode cL_length 21 = .ok (.astore 4, 2) := by decide +kernel
theorem dL_length_23 : decode cL_length 23 = .ok (.iconst 3, 1) := by decide +kernel
theorem dL_length_24 : decode cL_length 24 = .ok (.ireturn, 1) := by decide +kernel
theorem dL_length_25 : decode cL_length 25 = .ok (.astore 4, 2) := by decide +kernel
theorem dL_length_27 : decode cL_length 27 = .ok (.iconst 4, 1) := by decide +kernel
theorem dL_length_28 : decode cL_length 28 = .ok (.ireturn, 1) := by decide +kernel
theorem dL_length_29 : decode cL_length 29 = .ok (.iconst 0, 1) := by decide +kernel
theorem dL_length_30 : decode cL_length 30 = .ok (.ireturn, 1) := by decide +kernel
theorem dL_kind_0 : decode cL_kind 0 = .ok (.aload_n 3, 1) := by decide +kernel
theorem dL_kind_1 : decode cL_kind 1 = .ok (.iconst 0, 1) := by decide +kernel
theorem dL_kind_2 : decode cL_kind 2 = .ok (.aload_n 0, 1) := by decide +kernel
theorem dL_kind_3 : decode cL_kind 3 = .ok (.iload_n 1, 1) := by decide +kernel
theorem dL_kind_4 : decode cL_kind 4 = .ok (.iload_n 2, 1) := by decide +kernel
theorem dL_kind_5 : decode cL_kind 5 = .ok (.invokevirtual 63, 3) := by decide +kernel
theorem dL_kind_8 : decode cL_kind 8 = .ok (.i2l, 1) := by decide +kernel
theorem dL_kind_9 : decode cL_kind 9 = .ok (.lastore, 1) := by decide +kernel
theorem dL_kind_10 : decode cL_kind 10 = .ok (.goto 11, 3) := by decide +kernel
theorem dL_kind_13 : decode cL_kind 13 = .ok (.astore 4, 2) := by decide +kernel
theorem dL_kind_15 : decode cL_kind 15 = .ok (.iconst 1, 1) := by decide +kernel
theorem dL_kind_16 : decode cL_kind 16 = .ok (.ireturn, 1) := by decide +kernel
theorem dL_kind_17 : decode cL_kind 17 = .ok (.astore 4, 2) := by decide +kernel
theorem dL_kind_19 : decode cL_kind 19 = .ok (.iconst 2, 1) := by decide +kernel
theorem dL_kind_20 : decode cL_kind 20 = .ok (.ireturn, 1) := by decide +kernel
theorem dL_kind_21 : decode cL_kind 21 = .ok (.iconst 0, 1) := by decide +kernel
theorem dL_kind_22 : decode cL_kind 22 = .ok (.ireturn, 1) := by decide +kernel
theorem dL_list_0 : decode cL_list 0 = .ok (.aload_n 3, 1) := by decide +kernel
theorem dL_list_1 : decode cL_list 1 = .ok (.iconst 0, 1) := by decide +kernel
theorem dL_list_2 : decode cL_list 2 = .ok (.aload_n 0, 1) := by decide +kernel
theorem dL_list_3 : decode cL_list 3 = .ok (.iload_n 1, 1) := by decide +kernel
theorem dL_list_4 : decode cL_list 4 = .ok (.iload_n 2, 1) := by decide +kernel
theorem dL_list_5 : decode cL_list 5 = .ok (.invokevirtual 66, 3) := by decide +kernel
theorem dL_list_8 : decode cL_list 8 = .ok (.i2l, 1) := by decide +kernel
theorem dL_list_9 : decode cL_list 9 = .ok (.lastore, 1) := by decide +kernel
theorem dL_list_10 : decode cL_list 10 = .ok (.goto 19, 3) := by decide +kernel
theorem dL_list_13 : decode cL_list 13 = .ok (.astore 4, 2) := by decide +kernel
theorem dL_list_15 : decode cL_list 15 = .ok (.iconst 1, 1) := by decide +kernel
theorem dL_list_16 : decode cL_list 16 = .ok (.ireturn, 1) := by decide +kernel
theorem dL_list_17 : decode cL_list 17 = .ok (.astore 4, 2) := by decide +kernel
theorem dL_list_19 : decode cL_list 19 = .ok (.iconst 2, 1) := by decide +kernel
theorem dL_list_20 : decode cL_list 20 = .ok (.ireturn, 1) := by decide +kernel
theorem dL_list_21 : decode cL_list 21 = .ok (.astore 4, 2) := by decide +kernel
theorem dL_list_23 : decode cL_list 23 = .ok (.iconst 3, 1) := by decide +kernel
theorem dL_list_24 : decode cL_list 24 = .ok (.ireturn, 1) := by decide +kernel
theorem dL_list_25 : decode cL_list 25 = .ok (.astore 4, 2) := by decide +kernel
theorem dL_list_27 : decode cL_list 27 = .ok (.iconst 4, 1) := by decide +kernel
theorem dL_list_28 : decode cL_list 28 = .ok (.ireturn, 1) := by decide +kernel
theorem dL_list_29 : decode cL_list 29 = .ok (.iconst 0, 1) := by decide +kernel
theorem dL_list_30 : decode cL_list 30 = .ok (.ireturn, 1) := by decide +kernel
theorem dL_mark_0 : decode cL_mark 0 = .ok (.aload_n 2, 1) := by decide +kernel
theorem dL_mark_1 : decode cL_mark 1 = .ok (.iconst 0, 1) := by decide +kernel
theorem dL_mark_2 : decode cL_mark 2 = .ok (.aload_n 0, 1) := by decide +kernel
theorem dL_mark_3 : decode cL_mark 3 = .ok (.iload_n 1, 1) := by decide +kernel
theorem dL_mark_4 : decode cL_mark 4 = .ok (.invokevirtual 69, 3) := by decide +kernel
theorem dL_mark_7 : decode cL_mark 7 = .ok (.i2l, 1) := by decide +kernel
theorem dL_mark_8 : decode cL_mark 8 = .ok (.lastore, 1) := by decide +kernel
theorem dL_mark_9 : decode cL_mark 9 = .ok (.goto 9, 3) := by decide +kernel
theorem dL_mark_12 : decode cL_mark 12 = .ok (.astore_n 3, 1) := by decide +kernel
theorem dL_mark_13 : decode cL_mark 13 = .ok (.iconst 1, 1) := by decide +kernel
theorem dL_mark_14 : decode cL_mark 14 = .ok (.ireturn, 1) := by decide +kernel
theorem dL_mark_15 : decode cL_mark 15 = .ok (.astore_n 3, 1) := by decide +kernel
theorem dL_mark_16 : decode cL_mark 16 = .ok (.iconst 2, 1) := by decide +kernel
theorem dL_mark_17 : decode cL_mark 17 = .ok (.ireturn, 1) := by decide +kernel
theorem dL_mark_18 : decode cL_mark 18 = .ok (.iconst 0, 1) := by decide +kernel
theorem dL_mark_19 : decode cL_mark 19 = .ok (.ireturn, 1) := by decide +kernel
theorem dL_back_0 : decode cL_back 0 = .ok (.aload_n 2, 1) := by decide +kernel
theorem dL_back_1 : decode cL_back 1 = .ok (.iconst 0, 1) := by decide +kernel
theorem dL_back_2 : decode cL_back 2 = .ok (.aload_n 0, 1) := by decide +kernel
theorem dL_back_3 : decode cL_back 3 = .ok (.iload_n 1, 1) := by decide +kernel
theorem dL_back_4 : decode cL_back 4 = .ok (.invokevirtual 72, 3) := by decide +kernel
theorem dL_back_7 : decode cL_back 7 = .ok (.i2l, 1) := by decide +kernel
theorem dL_back_8 : decode cL_back 8 = .ok (.lastore, 1) := by decide +kernel
theorem dL_back_9 : decode cL_back 9 = .ok (.goto 9, 3) := by decide +kernel
theorem dL_back_12 : decode cL_back 12 = .ok (.astore_n 3, 1) := by decide +kernel
theorem dL_back_13 : decode cL_back 13 = .ok (.iconst 1, 1) := by decide +kernel
theorem dL_back_14 : decode cL_back 14 = .ok (.ireturn, 1) := by decide +kernel
theorem dL_back_15 : decode cL_back 15 = .ok (.astore_n 3, 1) := by decide +kernel
theorem dL_back_16 : decode cL_back 16 = .ok (.iconst 2, 1) := by decide +kernel
theorem dL_back_17 : decode cL_back 17 = .ok (.ireturn, 1) := by decide +kernel
theorem dL_back_18 : decode cL_back 18 = .ok (.iconst 0, 1) := by decide +kernel
theorem dL_back_19 : decode cL_back 19 = .ok (.ireturn, 1) := by decide +kernel
theorem dL_about_0 : decode cL_about 0 = .ok (.aload_n 3, 1) := by decide +kernel
theorem dL_about_1 : decode cL_about 1 = .ok (.iconst 0, 1) := by decide +kernel
theorem dL_about_2 : decode cL_about 2 = .ok (.aload_n 0, 1) := by decide +kernel
theorem dL_about_3 : decode cL_about 3 = .ok (.iload_n 1, 1) := by decide +kernel
theorem dL_about_4 : decode cL_about 4 = .ok (.iload_n 2, 1) := by decide +kernel
theorem dL_about_5 : decode cL_about 5 = .ok (.invokevirtual 75, 3) := by decide +kernel
theorem dL_about_8 : decode cL_about 8 = .ok (.i2l, 1) := by decide +kernel
theorem dL_about_9 : decode cL_about 9 = .ok (.lastore, 1) := by decide +kernel
theorem dL_about_10 : decode cL_about 10 = .ok (.goto 11, 3) := by decide +kernel
theorem dL_about_13 : decode cL_about 13 = .ok (.astore 4, 2) := by decide +kernel
theorem dL_about_15 : decode cL_about 15 = .ok (.iconst 1, 1) := by decide +kernel
theorem dL_about_16 : decode cL_about 16 = .ok (.ireturn, 1) := by decide +kernel
theorem dL_about_17 : decode cL_about 17 = .ok (.astore 4, 2) := by decide +kernel
theorem dL_about_19 : decode cL_about 19 = .ok (.iconst 2, 1) := by decide +kernel
theorem dL_about_20 : decode cL_about 20 = .ok (.ireturn, 1) := by decide +kernel
theorem dL_about_21 : decode cL_about 21 = .ok (.iconst 0, 1) := by decide +kernel
theorem dL_about_22 : decode cL_about 22 = .ok (.ireturn, 1) := by decide +kernel
theorem dL_power_0 : decode cL_power 0 = .ok (.aload_n 0, 1) := by decide +kernel
theorem dL_power_1 : decode cL_power 1 = .ok (.iload_n 1, 1) := by decide +kernel
theorem dL_power_2 : decode cL_power 2 = .ok (.invokevirtual 78, 3) := by decide +kernel
theorem dL_power_5 : decode cL_power 5 = .ok (.goto 6, 3) := by decide +kernel
theorem dL_power_8 : decode cL_power 8 = .ok (.astore_n 2, 1) := by decide +kernel
theorem dL_power_9 : decode cL_power 9 = .ok (.iconst 1, 1) := by decide +kernel
theorem dL_power_10 : decode cL_power 10 = .ok (.ireturn, 1) := by decide +kernel
theorem dL_power_11 : decode cL_power 11 = .ok (.iconst 0, 1) := by decide +kernel
theorem dL_power_12 : decode cL_power 12 = .ok (.ireturn, 1) := by decide +kernel
theorem dL_recover_0 : decode cL_recover 0 = .ok (.aload_n 1, 1) := by decide +kernel
theorem dL_recover_1 : decode cL_recover 1 = .ok (.iconst 0, 1) := by decide +kernel
theorem dL_recover_2 : decode cL_recover 2 = .ok (.aload_n 0, 1) := by decide +kernel
theorem dL_recover_3 : decode cL_recover 3 = .ok (.invokevirtual 82, 3) := by decide +kernel
theorem dL_recover_6 : decode cL_recover 6 = .ok (.i2l, 1) := by decide +kernel
theorem dL_recover_7 : decode cL_recover 7 = .ok (.lastore, 1) := by decide +kernel
theorem dL_recover_8 : decode cL_recover 8 = .ok (.goto 6, 3) := by decide +kernel
theorem dL_recover_11 : decode cL_recover 11 = .ok (.astore_n 2, 1) := by decide +kernel
theorem dL_recover_12 : decode cL_recover 12 = .ok (.iconst 1, 1) := by decide +kernel
theorem dL_recover_13 : decode cL_recover 13 = .ok (.ireturn, 1) := by decide +kernel
theorem dL_recover_14 : decode cL_recover 14 = .ok (.iconst 0, 1) := by decide +kernel
theorem dL_recover_15 : decode cL_recover 15 = .ok (.ireturn, 1) := by decide +kernel
theorem dL_count_0 : decode cL_count 0 = .ok (.aload_n 2, 1) := by decide +kernel
theorem dL_count_1 : decode cL_count 1 = .ok (.iconst 0, 1) := by decide +kernel
theorem dL_count_2 : decode cL_count 2 = .ok (.aload_n 0, 1) := by decide +kernel
theorem dL_count_3 : decode cL_count 3 = .ok (.iload_n 1, 1) := by decide +kernel
theorem dL_count_4 : decode cL_count 4 = .ok (.invokevirtual 85, 3) := by decide +kernel
theorem dL_count_7 : decode cL_count 7 = .ok (.i2l, 1) := by decide +kernel
theorem dL_count_8 : decode cL_count 8 = .ok (.lastore, 1) := by decide +kernel
theorem dL_count_9 : decode cL_count 9 = .ok (.goto 6, 3) := by decide +kernel
theorem dL_count_12 : decode cL_count 12 = .ok (.astore_n 3, 1) := by decide +kernel
theorem dL_count_13 : decode cL_count 13 = .ok (.iconst 1, 1) := by decide +kernel
theorem dL_count_14 : decode cL_count 14 = .ok (.ireturn, 1) := by decide +kernel
theorem dL_count_15 : decode cL_count 15 = .ok (.iconst 0, 1) := by decide +kernel
theorem dL_count_16 : decode cL_count 16 = .ok (.ireturn, 1) := by decide +kernel
theorem dL_law_0 : decode cL_law 0 = .ok (.new 8, 3) := by decide +kernel
theorem dL_law_3 : decode cL_law 3 = .ok (.dup, 1) := by decide +kernel
theorem dL_law_4 : decode cL_law 4 = .ok (.invokespecial 88, 3) := by decide +kernel
theorem dL_law_7 : decode cL_law 7 = .ok (.astore_n 1, 1) := by decide +kernel
theorem dL_law_8 : decode cL_law 8 = .ok (.new 89, 3) := by decide +kernel
theorem dL_law_11 : decode cL_law 11 = .ok (.dup, 1) := by decide +kernel
theorem dL_law_12 : decode cL_law 12 = .ok (.invokespecial 91, 3) := by decide +kernel
theorem dL_law_15 : decode cL_law 15 = .ok (.astore_n 2, 1) := by decide +kernel
theorem dL_law_16 : decode cL_law 16 = .ok (.iconst 1, 1) := by decide +kernel
theorem dL_law_17 : decode cL_law 17 = .ok (.newarray .long, 2) := by decide +kernel
theorem dL_law_19 : decode cL_law 19 = .ok (.astore_n 3, 1) := by decide +kernel
theorem dL_law_20 : decode cL_law 20 = .ok (.iconst 0, 1) := by decide +kernel
theorem dL_law_21 : decode cL_law 21 = .ok (.istore 4, 2) := by decide +kernel
theorem dL_law_23 : decode cL_law 23 = .ok (.iload 4, 2) := by decide +kernel
theorem dL_law_25 : decode cL_law 25 = .ok (.aload_n 0, 1) := by decide +kernel
theorem dL_law_26 : decode cL_law 26 = .ok (.arraylength, 1) := by decide +kernel
theorem dL_law_27 : decode cL_law 27 = .ok (.iconst 5, 1) := by decide +kernel
theorem dL_law_28 : decode cL_law 28 = .ok (.isub, 1) := by decide +kernel
theorem dL_law_29 : decode cL_law 29 = .ok (.if_icmp .gt 882, 3) := by decide +kernel
theorem dL_law_32 : decode cL_law 32 = .ok (.aload_n 0, 1) := by decide +kernel
theorem dL_law_33 : decode cL_law 33 = .ok (.iload 4, 2) := by decide +kernel
theorem dL_law_35 : decode cL_law 35 = .ok (.iaload, 1) := by decide +kernel
theorem dL_law_36 : decode cL_law 36 = .ok (.bipush 31, 2) := by decide +kernel
theorem dL_law_38 : decode cL_law 38 = .ok (.iand, 1) := by decide +kernel
theorem dL_law_39 : decode cL_law 39 = .ok (.tableswitch 866 0 19 #[93, 109, 137, 165, 193, 258, 298, 350, 414, 466, 518, 570, 610, 650, 690, 718, 746, 786, 822, 838], 93) := by decide +kernel
theorem dL_law_132 : decode cL_law 132 = .ok (.aload_n 1, 1) := by decide +kernel
theorem dL_law_133 : decode cL_law 133 = .ok (.aload_n 3, 1) := by decide +kernel
theorem dL_law_134 : decode cL_law 134 = .ok (.invokestatic 92, 3) := by decide +kernel
theorem dL_law_137 : decode cL_law 137 = .ok (.istore 5, 2) := by decide +kernel
theorem dL_law_139 : decode cL_law 139 = .ok (.aload_n 2, 1) := by decide +kernel
theorem dL_law_140 : decode cL_law 140 = .ok (.invokevirtual 97, 3) := by decide +kernel
theorem dL_law_143 : decode cL_law 143 = .ok (.istore 6, 2) := by decide +kernel
theorem dL_law_145 : decode cL_law 145 = .ok (.goto 760, 3) := by decide +kernel
theorem dL_law_148 : decode cL_law 148 = .ok (.aload_n 1, 1) := by decide +kernel
theorem dL_law_149 : decode cL_law 149 = .ok (.aload_n 0, 1) := by decide +kernel
theorem dL_law_150 : decode cL_law 150 = .ok (.iload 4, 2) := by decide +kernel
theorem dL_law_152 : decode cL_law 152 = .ok (.iconst 1, 1) := by decide +kernel
theorem dL_law_153 : decode cL_law 153 = .ok (.iadd, 1) := by decide +kernel
theorem dL_law_154 : decode cL_law 154 = .ok (.iaload, 1) := by decide +kernel
theorem dL_law_155 : decode cL_law 155 = .ok (.aload_n 3, 1) := by decide +kernel
theorem dL_law_156 : decode cL_law 156 = .ok (.invokestatic 98, 3) := by decide +kernel
theorem dL_law_159 : decode cL_law 159 = .ok (.istore 5, 2) := by decide +kernel
theorem dL_law_161 : decode cL_law 161 = .ok (.aload_n 2, 1) := by decide +kernel
theorem dL_law_162 : decode cL_law 162 = .ok (.aload_n 0, 1) := by decide +kernel
theorem dL_law_163 : decode cL_law 163 = .ok (.iload 4, 2) := by decide +kernel
theorem dL_law_165 : decode cL_law 165 = .ok (.iconst 1, 1) := by decide +kernel
theorem dL_law_166 : decode cL_law 166 = .ok (.iadd, 1) := by decide +kernel
theorem dL_law_167 : decode cL_law 167 = .ok (.iaload, 1) := by decide +kernel
theorem dL_law_168 : decode cL_law 168 = .ok (.invokevirtual 101, 3) := by decide +kernel
theorem dL_law_171 : decode cL_law 171 = .ok (.istore 6, 2) := by decide +kernel
theorem dL_law_173 : decode cL_law 173 = .ok (.goto 732, 3) := by decide +kernel
theorem dL_law_176 : decode cL_law 176 = .ok (.aload_n 1, 1) := by decide +kernel
theorem dL_law_177 : decode cL_law 177 = .ok (.aload_n 0, 1) := by decide +kernel
theorem dL_law_178 : decode cL_law 178 = .ok (.iload 4, 2) := by decide +kernel
theorem dL_law_180 : decode cL_law 180 = .ok (.iconst 1, 1) := by decide +kernel
theorem dL_law_181 : decode cL_law 181 = .ok (.iadd, 1) := by decide +kernel
theorem dL_law_182 : decode cL_law 182 = .ok (.iaload, 1) := by decide +kernel
theorem dL_law_183 : decode cL_law 183 = .ok (.aload_n 3, 1) := by decide +kernel
theorem dL_law_184 : decode cL_law 184 = .ok (.invokestatic 102, 3) := by decide +kernel
theorem dL_law_187 : decode cL_law 187 = .ok (.istore 5, 2) := by decide +kernel
theorem dL_law_189 : decode cL_law 189 = .ok (.aload_n 2, 1) := by decide +kernel
theorem dL_law_190 : decode cL_law 190 = .ok (.aload_n 0, 1) := by decide +kernel
theorem dL_law_191 : decode cL_law 191 = .ok (.iload 4, 2) := by decide +kernel
theorem dL_law_193 : decode cL_law 193 = .ok (.iconst 1, 1) := by decide +kernel
theorem dL_law_194 : decode cL_law 194 = .ok (.iadd, 1) := by decide +kernel
theorem dL_law_195 : decode cL_law 195 = .ok (.iaload, 1) := by decide +kernel
theorem dL_law_196 : decode cL_law 196 = .ok (.invokevirtual 104, 3) := by decide +kernel
theorem dL_law_199 : decode cL_law 199 = .ok (.istore 6, 2) := by decide +kernel
theorem dL_law_201 : decode cL_law 201 = .ok (.goto 704, 3) := by decide +kernel
theorem dL_law_204 : decode cL_law 204 = .ok (.aload_n 1, 1) := by decide +kernel
theorem dL_law_205 : decode cL_law 205 = .ok (.aload_n 0, 1) := by decide +kernel
