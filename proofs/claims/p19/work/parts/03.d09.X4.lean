theorem dX4_init_0 : decode cX4_init 0 = .ok (.aload_n 0, 1) := by decide +kernel
theorem dX4_init_1 : decode cX4_init 1 = .ok (.invokespecial 3, 3) := by decide +kernel
theorem dX4_init_4 : decode cX4_init 4 = .ok (.aload_n 0, 1) := by decide +kernel
theorem dX4_init_5 : decode cX4_init 5 = .ok (.bipush 60, 2) := by decide +kernel
theorem dX4_init_7 : decode cX4_init 7 = .ok (.anewarray 9, 3) := by decide +kernel
theorem dX4_init_10 : decode cX4_init 10 = .ok (.putfield 11, 3) := by decide +kernel
theorem dX4_init_13 : decode cX4_init 13 = .ok (.aload_n 0, 1) := by decide +kernel
theorem dX4_init_14 : decode cX4_init 14 = .ok (.iconst 0, 1) := by decide +kernel
theorem dX4_init_15 : decode cX4_init 15 = .ok (.putfield 17, 3) := by decide +kernel
theorem dX4_init_18 : decode cX4_init 18 = .ok (.return_, 1) := by decide +kernel
theorem dX4_at_0 : decode cX4_at 0 = .ok (.iload_n 1, 1) := by decide +kernel
theorem dX4_at_1 : decode cX4_at 1 = .ok (.ifCond .lt 29, 3) := by decide +kernel
theorem dX4_at_4 : decode cX4_at 4 = .ok (.iload_n 1, 1) := by decide +kernel
theorem dX4_at_5 : decode cX4_at 5 = .ok (.aload_n 0, 1) := by decide +kernel
theorem dX4_at_6 : decode cX4_at 6 = .ok (.getfield 17, 3) := by decide +kernel
theorem dX4_at_9 : decode cX4_at 9 = .ok (.if_icmp .ge 21, 3) := by decide +kernel
theorem dX4_at_12 : decode cX4_at 12 = .ok (.iload_n 1, 1) := by decide +kernel
theorem dX4_at_13 : decode cX4_at 13 = .ok (.aload_n 0, 1) := by decide +kernel
theorem dX4_at_14 : decode cX4_at 14 = .ok (.getfield 11, 3) := by decide +kernel
theorem dX4_at_17 : decode cX4_at 17 = .ok (.arraylength, 1) := by decide +kernel
theorem dX4_at_18 : decode cX4_at 18 = .ok (.if_icmp .ge 12, 3) := by decide +kernel
theorem dX4_at_21 : decode cX4_at 21 = .ok (.aload_n 0, 1) := by decide +kernel
theorem dX4_at_22 : decode cX4_at 22 = .ok (.getfield 11, 3) := by decide +kernel
theorem dX4_at_25 : decode cX4_at 25 = .ok (.iload_n 1, 1) := by decide +kernel
theorem dX4_at_26 : decode cX4_at 26 = .ok (.aaload, 1) := by decide +kernel
theorem dX4_at_27 : decode cX4_at 27 = .ok (.goto 4, 3) := by decide +kernel
theorem dX4_at_30 : decode cX4_at 30 = .ok (.aconst_null, 1) := by decide +kernel
theorem dX4_at_31 : decode cX4_at 31 = .ok (.areturn, 1) := by decide +kernel
theorem dX4_placeOf_0 : decode cX4_placeOf 0 = .ok (.iconst 0, 1) := by decide +kernel
theorem dX4_placeOf_1 : decode cX4_placeOf 1 = .ok (.istore_n 2, 1) := by decide +kernel
theorem dX4_placeOf_2 : decode cX4_placeOf 2 = .ok (.iload_n 2, 1) := by decide +kernel
theorem dX4_placeOf_3 : decode cX4_placeOf 3 = .ok (.aload_n 0, 1) := by decide +kernel
theorem dX4_placeOf_4 : decode cX4_placeOf 4 = .ok (.getfield 17, 3) := by decide +kernel
theorem dX4_placeOf_7 : decode cX4_placeOf 7 = .ok (.if_icmp .ge 39, 3) := by decide +kernel
theorem dX4_placeOf_10 : decode cX4_placeOf 10 = .ok (.iload_n 2, 1) := by decide +kernel
theorem dX4_placeOf_11 : decode cX4_placeOf 11 = .ok (.aload_n 0, 1) := by decide +kernel
theorem dX4_placeOf_12 : decode cX4_placeOf 12 = .ok (.getfield 11, 3) := by decide +kernel
theorem dX4_placeOf_15 : decode cX4_placeOf 15 = .ok (.arraylength, 1) := by decide +kernel
theorem dX4_placeOf_16 : decode cX4_placeOf 16 = .ok (.if_icmp .ge 30, 3) := by decide +kernel
theorem dX4_placeOf_19 : decode cX4_placeOf 19 = .ok (.aload_n 0, 1) := by decide +kernel
theorem dX4_placeOf_20 : decode cX4_placeOf 20 = .ok (.getfield 11, 3) := by decide +kernel
theorem dX4_placeOf_23 : decode cX4_placeOf 23 = .ok (.iload_n 2, 1) := by decide +kernel
theorem dX4_placeOf_24 : decode cX4_placeOf 24 = .ok (.aaload, 1) := by decide +kernel
theorem dX4_placeOf_25 : decode cX4_placeOf 25 = .ok (.astore_n 3, 1) := by decide +kernel
theorem dX4_placeOf_26 : decode cX4_placeOf 26 = .ok (.aload_n 3, 1) := by decide +kernel
theorem dX4_placeOf_27 : decode cX4_placeOf 27 = .ok (.ifnull 13, 3) := by decide +kernel
theorem dX4_placeOf_30 : decode cX4_placeOf 30 = .ok (.aload_n 3, 1) := by decide +kernel
theorem dX4_placeOf_31 : decode cX4_placeOf 31 = .ok (.getfield 21, 3) := by decide +kernel
theorem dX4_placeOf_34 : decode cX4_placeOf 34 = .ok (.iload_n 1, 1) := by decide +kernel
theorem dX4_placeOf_35 : decode cX4_placeOf 35 = .ok (.if_icmp .ne 5, 3) := by decide +kernel
theorem dX4_placeOf_38 : decode cX4_placeOf 38 = .ok (.iload_n 2, 1) := by decide +kernel
theorem dX4_placeOf_39 : decode cX4_placeOf 39 = .ok (.ireturn, 1) := by decide +kernel
theorem dX4_placeOf_40 : decode cX4_placeOf 40 = .ok (.iinc 2 1, 3) := by decide +kernel
theorem dX4_placeOf_43 : decode cX4_placeOf 43 = .ok (.goto (-41), 3) := by decide +kernel
theorem dX4_placeOf_46 : decode cX4_placeOf 46 = .ok (.iconst (-1), 1) := by decide +kernel
theorem dX4_placeOf_47 : decode cX4_placeOf 47 = .ok (.ireturn, 1) := by decide +kernel
theorem dX4_find_0 : decode cX4_find 0 = .ok (.aload_n 0, 1) := by decide +kernel
theorem dX4_find_1 : decode cX4_find 1 = .ok (.aload_n 0, 1) := by decide +kernel
theorem dX4_find_2 : decode cX4_find 2 = .ok (.iload_n 1, 1) := by decide +kernel
theorem dX4_find_3 : decode cX4_find 3 = .ok (.invokevirtual 24, 3) := by decide +kernel
theorem dX4_find_6 : decode cX4_find 6 = .ok (.invokevirtual 28, 3) := by decide +kernel
theorem dX4_find_9 : decode cX4_find 9 = .ok (.areturn, 1) := by decide +kernel
theorem dX4_add_0 : decode cX4_add 0 = .ok (.aload_n 0, 1) := by decide +kernel
theorem dX4_add_1 : decode cX4_add 1 = .ok (.getfield 17, 3) := by decide +kernel
theorem dX4_add_4 : decode cX4_add 4 = .ok (.ifCond .lt 35, 3) := by decide +kernel
theorem dX4_add_7 : decode cX4_add 7 = .ok (.aload_n 0, 1) := by decide +kernel
theorem dX4_add_8 : decode cX4_add 8 = .ok (.getfield 17, 3) := by decide +kernel
theorem dX4_add_11 : decode cX4_add 11 = .ok (.aload_n 0, 1) := by decide +kernel
theorem dX4_add_12 : decode cX4_add 12 = .ok (.getfield 11, 3) := by decide +kernel
theorem dX4_add_15 : decode cX4_add 15 = .ok (.arraylength, 1) := by decide +kernel
theorem dX4_add_16 : decode cX4_add 16 = .ok (.if_icmp .ge 23, 3) := by decide +kernel
theorem dX4_add_19 : decode cX4_add 19 = .ok (.aload_n 0, 1) := by decide +kernel
theorem dX4_add_20 : decode cX4_add 20 = .ok (.getfield 11, 3) := by decide +kernel
theorem dX4_add_23 : decode cX4_add 23 = .ok (.aload_n 0, 1) := by decide +kernel
theorem dX4_add_24 : decode cX4_add 24 = .ok (.getfield 17, 3) := by decide +kernel
theorem dX4_add_27 : decode cX4_add 27 = .ok (.aload_n 1, 1) := by decide +kernel
theorem dX4_add_28 : decode cX4_add 28 = .ok (.aastore, 1) := by decide +kernel
theorem dX4_add_29 : decode cX4_add 29 = .ok (.aload_n 0, 1) := by decide +kernel
theorem dX4_add_30 : decode cX4_add 30 = .ok (.dup, 1) := by decide +kernel
theorem dX4_add_31 : decode cX4_add 31 = .ok (.getfield 17, 3) := by decide +kernel
theorem dX4_add_34 : decode cX4_add 34 = .ok (.iconst 1, 1) := by decide +kernel
theorem dX4_add_35 : decode cX4_add 35 = .ok (.iadd, 1) := by decide +kernel
theorem dX4_add_36 : decode cX4_add 36 = .ok (.putfield 17, 3) := by decide +kernel
theorem dX4_add_39 : decode cX4_add 39 = .ok (.return_, 1) := by decide +kernel
theorem dX4_put_0 : decode cX4_put 0 = .ok (.aload_n 0, 1) := by decide +kernel
theorem dX4_put_1 : decode cX4_put 1 = .ok (.aload_n 1, 1) := by decide +kernel
theorem dX4_put_2 : decode cX4_put 2 = .ok (.getfield 21, 3) := by decide +kernel
theorem dX4_put_5 : decode cX4_put 5 = .ok (.invokevirtual 24, 3) := by decide +kernel
theorem dX4_put_8 : decode cX4_put 8 = .ok (.istore_n 2, 1) := by decide +kernel
theorem dX4_put_9 : decode cX4_put 9 = .ok (.iload_n 2, 1) := by decide +kernel
theorem dX4_put_10 : decode cX4_put 10 = .ok (.ifCond .lt 22, 3) := by decide +kernel
theorem dX4_put_13 : decode cX4_put 13 = .ok (.iload_n 2, 1) := by decide +kernel
theorem dX4_put_14 : decode cX4_put 14 = .ok (.aload_n 0, 1) := by decide +kernel
theorem dX4_put_15 : decode cX4_put 15 = .ok (.getfield 11, 3) := by decide +kernel
theorem dX4_put_18 : decode cX4_put 18 = .ok (.arraylength, 1) := by decide +kernel
theorem dX4_put_19 : decode cX4_put 19 = .ok (.if_icmp .ge 13, 3) := by decide +kernel
theorem dX4_put_22 : decode cX4_put 22 = .ok (.aload_n 0, 1) := by decide +kernel
theorem dX4_put_23 : decode cX4_put 23 = .ok (.getfield 11, 3) := by decide +kernel
theorem dX4_put_26 : decode cX4_put 26 = .ok (.iload_n 2, 1) := by decide +kernel
theorem dX4_put_27 : decode cX4_put 27 = .ok (.aload_n 1, 1) := by decide +kernel
theorem dX4_put_28 : decode cX4_put 28 = .ok (.aastore, 1) := by decide +kernel
theorem dX4_put_29 : decode cX4_put 29 = .ok (.goto 8, 3) := by decide +kernel
theorem dX4_put_32 : decode cX4_put 32 = .ok (.aload_n 0, 1) := by decide +kernel
theorem dX4_put_33 : decode cX4_put 33 = .ok (.aload_n 1, 1) := by decide +kernel
theorem dX4_put_34 : decode cX4_put 34 = .ok (.invokevirtual 32, 3) := by decide +kernel
theorem dX4_put_37 : decode cX4_put 37 = .ok (.return_, 1) := by decide +kernel
theorem dX4_takeOut_0 : decode cX4_takeOut 0 = .ok (.aload_n 0, 1) := by decide +kernel
theorem dX4_takeOut_1 : decode cX4_takeOut 1 = .ok (.iload_n 1, 1) := by decide +kernel
theorem dX4_takeOut_2 : decode cX4_takeOut 2 = .ok (.invokevirtual 24, 3) := by decide +kernel
theorem dX4_takeOut_5 : decode cX4_takeOut 5 = .ok (.istore_n 2, 1) := by decide +kernel
theorem dX4_takeOut_6 : decode cX4_takeOut 6 = .ok (.aload_n 0, 1) := by decide +kernel
theorem dX4_takeOut_7 : decode cX4_takeOut 7 = .ok (.aload_n 0, 1) := by decide +kernel
theorem dX4_takeOut_8 : decode cX4_takeOut 8 = .ok (.getfield 17, 3) := by decide +kernel
theorem dX4_takeOut_11 : decode cX4_takeOut 11 = .ok (.iconst 1, 1) := by decide +kernel
theorem dX4_takeOut_12 : decode cX4_takeOut 12 = .ok (.isub, 1) := by decide +kernel
theorem dX4_takeOut_13 : decode cX4_takeOut 13 = .ok (.invokevirtual 28, 3) := by decide +kernel
theorem dX4_takeOut_16 : decode cX4_takeOut 16 = .ok (.astore_n 3, 1) := by decide +kernel
theorem dX4_takeOut_17 : decode cX4_takeOut 17 = .ok (.iload_n 2, 1) := by decide +kernel
theorem dX4_takeOut_18 : decode cX4_takeOut 18 = .ok (.ifCond .lt 33, 3) := by decide +kernel
theorem dX4_takeOut_21 : decode cX4_takeOut 21 = .ok (.iload_n 2, 1) := by decide +kernel
theorem dX4_takeOut_22 : decode cX4_takeOut 22 = .ok (.aload_n 0, 1) := by decide +kernel
theorem dX4_takeOut_23 : decode cX4_takeOut 23 = .ok (.getfield 11, 3) := by decide +kernel
theorem dX4_takeOut_26 : decode cX4_takeOut 26 = .ok (.arraylength, 1) := by decide +kernel
theorem dX4_takeOut_27 : decode cX4_takeOut 27 = .ok (.if_icmp .ge 24, 3) := by decide +kernel
theorem dX4_takeOut_30 : decode cX4_takeOut 30 = .ok (.aload_n 3, 1) := by decide +kernel
theorem dX4_takeOut_31 : decode cX4_takeOut 31 = .ok (.ifnull 20, 3) := by decide +kernel
theorem dX4_takeOut_34 : decode cX4_takeOut 34 = .ok (.aload_n 0, 1) := by decide +kernel
theorem dX4_takeOut_35 : decode cX4_takeOut 35 = .ok (.getfield 11, 3) := by decide +kernel
theorem dX4_takeOut_38 : decode cX4_takeOut 38 = .ok (.iload_n 2, 1) := by decide +kernel
theorem dX4_takeOut_39 : decode cX4_takeOut 39 = .ok (.aload_n 3, 1) := by decide +kernel
theorem dX4_takeOut_40 : decode cX4_takeOut 40 = .ok (.aastore, 1) := by decide +kernel
theorem dX4_takeOut_41 : decode cX4_takeOut 41 = .ok (.aload_n 0, 1) := by decide +kernel
theorem dX4_takeOut_42 : decode cX4_takeOut 42 = .ok (.dup, 1) := by decide +kernel
theorem dX4_takeOut_43 : decode cX4_takeOut 43 = .ok (.getfield 17, 3) := by decide +kernel
theorem dX4_takeOut_46 : decode cX4_takeOut 46 = .ok (.iconst 1, 1) := by decide +kernel
theorem dX4_takeOut_47 : decode cX4_takeOut 47 = .ok (.isub, 1) := by decide +kernel
theorem dX4_takeOut_48 : decode cX4_takeOut 48 = .ok (.putfield 17, 3) := by decide +kernel
theorem dX4_takeOut_51 : decode cX4_takeOut 51 = .ok (.return_, 1) := by decide +kernel
theorem dX4_setEntry_0 : decode cX4_setEntry 0 = .ok (.aload_n 0, 1) := by decide +kernel
theorem dX4_setEntry_1 : decode cX4_setEntry 1 = .ok (.iload_n 1, 1) := by decide +kernel
theorem dX4_setEntry_2 : decode cX4_setEntry 2 = .ok (.invokevirtual 36, 3) := by decide +kernel
theorem dX4_setEntry_5 : decode cX4_setEntry 5 = .ok (.astore 4, 2) := by decide +kernel
theorem dX4_setEntry_7 : decode cX4_setEntry 7 = .ok (.aload 4, 2) := by decide +kernel
theorem dX4_setEntry_9 : decode cX4_setEntry 9 = .ok (.ifnull 19, 3) := by decide +kernel
theorem dX4_setEntry_12 : decode cX4_setEntry 12 = .ok (.aload_n 0, 1) := by decide +kernel
theorem dX4_setEntry_13 : decode cX4_setEntry 13 = .ok (.aload 4, 2) := by decide +kernel
theorem dX4_setEntry_15 : decode cX4_setEntry 15 = .ok (.iload_n 2, 1) := by decide +kernel
theorem dX4_setEntry_16 : decode cX4_setEntry 16 = .ok (.iload_n 3, 1) := by decide +kernel
theorem dX4_setEntry_17 : decode cX4_setEntry 17 = .ok (.aload 4, 2) := by decide +kernel
theorem dX4_setEntry_19 : decode cX4_setEntry 19 = .ok (.getfield 39, 3) := by decide +kernel
theorem dX4_setEntry_22 : decode cX4_setEntry 22 = .ok (.invokevirtual 40, 3) := by decide +kernel
theorem dX4_setEntry_25 : decode cX4_setEntry 25 = .ok (.invokevirtual 44, 3) := by decide +kernel
theorem dX4_setEntry_28 : decode cX4_setEntry 28 = .ok (.return_, 1) := by decide +kernel
theorem dX4_copyFrom_0 : decode cX4_copyFrom 0 = .ok (.aload_n 0, 1) := by decide +kernel
theorem dX4_copyFrom_1 : decode cX4_copyFrom 1 = .ok (.iconst 0, 1) := by decide +kernel
theorem dX4_copyFrom_2 : decode cX4_copyFrom 2 = .ok (.putfield 17, 3) := by decide +kernel
theorem dX4_copyFrom_5 : decode cX4_copyFrom 5 = .ok (.iconst 0, 1) := by decide +kernel
theorem dX4_copyFrom_6 : decode cX4_copyFrom 6 = .ok (.istore_n 2, 1) := by decide +kernel
theorem dX4_copyFrom_7 : decode cX4_copyFrom 7 = .ok (.iload_n 2, 1) := by decide +kernel
theorem dX4_copyFrom_8 : decode cX4_copyFrom 8 = .ok (.aload_n 1, 1) := by decide +kernel
theorem dX4_copyFrom_9 : decode cX4_copyFrom 9 = .ok (.getfield 17, 3) := by decide +kernel
theorem dX4_copyFrom_12 : decode cX4_copyFrom 12 = .ok (.if_icmp .ge 24, 3) := by decide +kernel
theorem dX4_copyFrom_15 : decode cX4_copyFrom 15 = .ok (.aload_n 1, 1) := by decide +kernel
theorem dX4_copyFrom_16 : decode cX4_copyFrom 16 = .ok (.iload_n 2, 1) := by decide +kernel
theorem dX4_copyFrom_17 : decode cX4_copyFrom 17 = .ok (.invokevirtual 28, 3) := by decide +kernel
theorem dX4_copyFrom_20 : decode cX4_copyFrom 20 = .ok (.astore_n 3, 1) := by decide +kernel
theorem dX4_copyFrom_21 : decode cX4_copyFrom 21 = .ok (.aload_n 3, 1) := by decide +kernel
theorem dX4_copyFrom_22 : decode cX4_copyFrom 22 = .ok (.ifnull 8, 3) := by decide +kernel
theorem dX4_copyFrom_25 : decode cX4_copyFrom 25 = .ok (.aload_n 0, 1) := by decide +kernel
theorem dX4_copyFrom_26 : decode cX4_copyFrom 26 = .ok (.aload_n 3, 1) := by decide +kernel
theorem dX4_copyFrom_27 : decode cX4_copyFrom 27 = .ok (.invokevirtual 32, 3) := by decide +kernel
theorem dX4_copyFrom_30 : decode cX4_copyFrom 30 = .ok (.iinc 2 1, 3) := by decide +kernel
theorem dX4_copyFrom_33 : decode cX4_copyFrom 33 = .ok (.goto (-26), 3) := by decide +kernel
theorem dX4_copyFrom_36 : decode cX4_copyFrom 36 = .ok (.return_, 1) := by decide +kernel
theorem dX4_blocks_0 : decode cX4_blocks 0 = .ok (.iconst 0, 1) := by decide +kernel
theorem dX4_blocks_1 : decode cX4_blocks 1 = .ok (.istore_n 1, 1) := by decide +kernel
theorem dX4_blocks_2 : decode cX4_blocks 2 = .ok (.iconst 0, 1) := by decide +kernel
theorem dX4_blocks_3 : decode cX4_blocks 3 = .ok (.istore_n 2, 1) := by decide +kernel
theorem dX4_blocks_4 : decode cX4_blocks 4 = .ok (.iload_n 2, 1) := by decide +kernel
theorem dX4_blocks_5 : decode cX4_blocks 5 = .ok (.aload_n 0, 1) := by decide +kernel
theorem dX4_blocks_6 : decode cX4_blocks 6 = .ok (.getfield 17, 3) := by decide +kernel
theorem dX4_blocks_9 : decode cX4_blocks 9 = .ok (.if_icmp .ge 26, 3) := by decide +kernel
theorem dX4_blocks_12 : decode cX4_blocks 12 = .ok (.aload_n 0, 1) := by decide +kernel
theorem dX4_blocks_13 : decode cX4_blocks 13 = .ok (.iload_n 2, 1) := by decide +kernel
theorem dX4_blocks_14 : decode cX4_blocks 14 = .ok (.invokevirtual 28, 3) := by decide +kernel
theorem dX4_blocks_17 : decode cX4_blocks 17 = .ok (.astore_n 3, 1) := by decide +kernel
theorem dX4_blocks_18 : decode cX4_blocks 18 = .ok (.aload_n 3, 1) := by decide +kernel
theorem dX4_blocks_19 : decode cX4_blocks 19 = .ok (.ifnull 10, 3) := by decide +kernel
theorem dX4_blocks_22 : decode cX4_blocks 22 = .ok (.iload_n 1, 1) := by decide +kernel
theorem dX4_blocks_23 : decode cX4_blocks 23 = .ok (.aload_n 3, 1) := by decide +kernel
theorem dX4_blocks_24 : decode cX4_blocks 24 = .ok (.invokevirtual 47, 3) := by decide +kernel
theorem dX4_blocks_27 : decode cX4_blocks 27 = .ok (.iadd, 1) := by decide +kernel
theorem dX4_blocks_28 : decode cX4_blocks 28 = .ok (.istore_n 1, 1) := by decide +kernel
theorem dX4_blocks_29 : decode cX4_blocks 29 = .ok (.iinc 2 1, 3) := by decide +kernel
theorem dX4_blocks_32 : decode cX4_blocks 32 = .ok (.goto (-28), 3) := by decide +kernel
theorem dX4_blocks_35 : decode cX4_blocks 35 = .ok (.iload_n 1, 1) := by decide +kernel
theorem dX4_blocks_36 : decode cX4_blocks 36 = .ok (.ireturn, 1) := by decide +kernel
