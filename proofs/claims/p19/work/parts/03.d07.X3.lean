theorem dX3_init_0 : decode cX3_init 0 = .ok (.aload_n 0, 1) := by decide +kernel
theorem dX3_init_1 : decode cX3_init 1 = .ok (.invokespecial 3, 3) := by decide +kernel
theorem dX3_init_4 : decode cX3_init 4 = .ok (.aload_n 0, 1) := by decide +kernel
theorem dX3_init_5 : decode cX3_init 5 = .ok (.new 9, 3) := by decide +kernel
theorem dX3_init_8 : decode cX3_init 8 = .ok (.dup, 1) := by decide +kernel
theorem dX3_init_9 : decode cX3_init 9 = .ok (.invokespecial 11, 3) := by decide +kernel
theorem dX3_init_12 : decode cX3_init 12 = .ok (.putfield 12, 3) := by decide +kernel
theorem dX3_init_15 : decode cX3_init 15 = .ok (.aload_n 0, 1) := by decide +kernel
theorem dX3_init_16 : decode cX3_init 16 = .ok (.iconst 3, 1) := by decide +kernel
theorem dX3_init_17 : decode cX3_init 17 = .ok (.anewarray 9, 3) := by decide +kernel
theorem dX3_init_20 : decode cX3_init 20 = .ok (.putfield 18, 3) := by decide +kernel
theorem dX3_init_23 : decode cX3_init 23 = .ok (.aload_n 0, 1) := by decide +kernel
theorem dX3_init_24 : decode cX3_init 24 = .ok (.bipush 60, 2) := by decide +kernel
theorem dX3_init_26 : decode cX3_init 26 = .ok (.newarray .long, 2) := by decide +kernel
theorem dX3_init_28 : decode cX3_init 28 = .ok (.putfield 22, 3) := by decide +kernel
theorem dX3_init_31 : decode cX3_init 31 = .ok (.aload_n 0, 1) := by decide +kernel
theorem dX3_init_32 : decode cX3_init 32 = .ok (.bipush 60, 2) := by decide +kernel
theorem dX3_init_34 : decode cX3_init 34 = .ok (.newarray .long, 2) := by decide +kernel
theorem dX3_init_36 : decode cX3_init 36 = .ok (.putfield 26, 3) := by decide +kernel
theorem dX3_init_39 : decode cX3_init 39 = .ok (.aload_n 0, 1) := by decide +kernel
theorem dX3_init_40 : decode cX3_init 40 = .ok (.iconst 0, 1) := by decide +kernel
theorem dX3_init_41 : decode cX3_init 41 = .ok (.putfield 29, 3) := by decide +kernel
theorem dX3_init_44 : decode cX3_init 44 = .ok (.aload_n 0, 1) := by decide +kernel
theorem dX3_init_45 : decode cX3_init 45 = .ok (.iconst 0, 1) := by decide +kernel
theorem dX3_init_46 : decode cX3_init 46 = .ok (.putfield 33, 3) := by decide +kernel
theorem dX3_init_49 : decode cX3_init 49 = .ok (.aload_n 0, 1) := by decide +kernel
theorem dX3_init_50 : decode cX3_init 50 = .ok (.aload_n 1, 1) := by decide +kernel
theorem dX3_init_51 : decode cX3_init 51 = .ok (.putfield 37, 3) := by decide +kernel
theorem dX3_init_54 : decode cX3_init 54 = .ok (.iconst 0, 1) := by decide +kernel
theorem dX3_init_55 : decode cX3_init 55 = .ok (.istore_n 2, 1) := by decide +kernel
theorem dX3_init_56 : decode cX3_init 56 = .ok (.iload_n 2, 1) := by decide +kernel
theorem dX3_init_57 : decode cX3_init 57 = .ok (.aload_n 0, 1) := by decide +kernel
theorem dX3_init_58 : decode cX3_init 58 = .ok (.getfield 18, 3) := by decide +kernel
theorem dX3_init_61 : decode cX3_init 61 = .ok (.arraylength, 1) := by decide +kernel
theorem dX3_init_62 : decode cX3_init 62 = .ok (.if_icmp .ge 22, 3) := by decide +kernel
theorem dX3_init_65 : decode cX3_init 65 = .ok (.aload_n 0, 1) := by decide +kernel
theorem dX3_init_66 : decode cX3_init 66 = .ok (.getfield 18, 3) := by decide +kernel
theorem dX3_init_69 : decode cX3_init 69 = .ok (.iload_n 2, 1) := by decide +kernel
theorem dX3_init_70 : decode cX3_init 70 = .ok (.new 9, 3) := by decide +kernel
theorem dX3_init_73 : decode cX3_init 73 = .ok (.dup, 1) := by decide +kernel
theorem dX3_init_74 : decode cX3_init 74 = .ok (.invokespecial 11, 3) := by decide +kernel
theorem dX3_init_77 : decode cX3_init 77 = .ok (.aastore, 1) := by decide +kernel
theorem dX3_init_78 : decode cX3_init 78 = .ok (.iinc 2 1, 3) := by decide +kernel
theorem dX3_init_81 : decode cX3_init 81 = .ok (.goto (-25), 3) := by decide +kernel
theorem dX3_init_84 : decode cX3_init 84 = .ok (.return_, 1) := by decide +kernel
theorem dX3_start_0 : decode cX3_start 0 = .ok (.aload_n 0, 1) := by decide +kernel
theorem dX3_start_1 : decode cX3_start 1 = .ok (.getfield 12, 3) := by decide +kernel
theorem dX3_start_4 : decode cX3_start 4 = .ok (.aload_n 1, 1) := by decide +kernel
theorem dX3_start_5 : decode cX3_start 5 = .ok (.invokevirtual 40, 3) := by decide +kernel
theorem dX3_start_8 : decode cX3_start 8 = .ok (.aload_n 0, 1) := by decide +kernel
theorem dX3_start_9 : decode cX3_start 9 = .ok (.getfield 37, 3) := by decide +kernel
theorem dX3_start_12 : decode cX3_start 12 = .ok (.aload_n 1, 1) := by decide +kernel
theorem dX3_start_13 : decode cX3_start 13 = .ok (.invokevirtual 40, 3) := by decide +kernel
theorem dX3_start_16 : decode cX3_start 16 = .ok (.aload_n 0, 1) := by decide +kernel
theorem dX3_start_17 : decode cX3_start 17 = .ok (.getfield 22, 3) := by decide +kernel
theorem dX3_start_20 : decode cX3_start 20 = .ok (.lconst 0, 1) := by decide +kernel
theorem dX3_start_21 : decode cX3_start 21 = .ok (.invokestatic 44, 3) := by decide +kernel
theorem dX3_start_24 : decode cX3_start 24 = .ok (.aload_n 0, 1) := by decide +kernel
theorem dX3_start_25 : decode cX3_start 25 = .ok (.getfield 26, 3) := by decide +kernel
theorem dX3_start_28 : decode cX3_start 28 = .ok (.lconst 0, 1) := by decide +kernel
theorem dX3_start_29 : decode cX3_start 29 = .ok (.invokestatic 44, 3) := by decide +kernel
theorem dX3_start_32 : decode cX3_start 32 = .ok (.aload_n 0, 1) := by decide +kernel
theorem dX3_start_33 : decode cX3_start 33 = .ok (.iconst 0, 1) := by decide +kernel
theorem dX3_start_34 : decode cX3_start 34 = .ok (.putfield 33, 3) := by decide +kernel
theorem dX3_start_37 : decode cX3_start 37 = .ok (.aload_n 0, 1) := by decide +kernel
theorem dX3_start_38 : decode cX3_start 38 = .ok (.iconst 1, 1) := by decide +kernel
theorem dX3_start_39 : decode cX3_start 39 = .ok (.putfield 29, 3) := by decide +kernel
theorem dX3_start_42 : decode cX3_start 42 = .ok (.return_, 1) := by decide +kernel
theorem dX3_lookUp_0 : decode cX3_lookUp 0 = .ok (.aload_n 0, 1) := by decide +kernel
theorem dX3_lookUp_1 : decode cX3_lookUp 1 = .ok (.getfield 37, 3) := by decide +kernel
theorem dX3_lookUp_4 : decode cX3_lookUp 4 = .ok (.iconst 1, 1) := by decide +kernel
theorem dX3_lookUp_5 : decode cX3_lookUp 5 = .ok (.invokevirtual 50, 3) := by decide +kernel
theorem dX3_lookUp_8 : decode cX3_lookUp 8 = .ok (.astore_n 2, 1) := by decide +kernel
theorem dX3_lookUp_9 : decode cX3_lookUp 9 = .ok (.bipush 24, 2) := by decide +kernel
theorem dX3_lookUp_11 : decode cX3_lookUp 11 = .ok (.istore_n 3, 1) := by decide +kernel
theorem dX3_lookUp_12 : decode cX3_lookUp 12 = .ok (.iload_n 3, 1) := by decide +kernel
theorem dX3_lookUp_13 : decode cX3_lookUp 13 = .ok (.ifCond .lt 30, 3) := by decide +kernel
theorem dX3_lookUp_16 : decode cX3_lookUp 16 = .ok (.iload_n 1, 1) := by decide +kernel
theorem dX3_lookUp_17 : decode cX3_lookUp 17 = .ok (.iload_n 3, 1) := by decide +kernel
theorem dX3_lookUp_18 : decode cX3_lookUp 18 = .ok (.ishr, 1) := by decide +kernel
theorem dX3_lookUp_19 : decode cX3_lookUp 19 = .ok (.bipush 15, 2) := by decide +kernel
theorem dX3_lookUp_21 : decode cX3_lookUp 21 = .ok (.iand, 1) := by decide +kernel
theorem dX3_lookUp_22 : decode cX3_lookUp 22 = .ok (.istore 4, 2) := by decide +kernel
theorem dX3_lookUp_24 : decode cX3_lookUp 24 = .ok (.iload 4, 2) := by decide +kernel
theorem dX3_lookUp_26 : decode cX3_lookUp 26 = .ok (.ifCond .eq 11, 3) := by decide +kernel
theorem dX3_lookUp_29 : decode cX3_lookUp 29 = .ok (.aload_n 0, 1) := by decide +kernel
theorem dX3_lookUp_30 : decode cX3_lookUp 30 = .ok (.aload_n 2, 1) := by decide +kernel
theorem dX3_lookUp_31 : decode cX3_lookUp 31 = .ok (.iload 4, 2) := by decide +kernel
theorem dX3_lookUp_33 : decode cX3_lookUp 33 = .ok (.invokevirtual 54, 3) := by decide +kernel
theorem dX3_lookUp_36 : decode cX3_lookUp 36 = .ok (.astore_n 2, 1) := by decide +kernel
theorem dX3_lookUp_37 : decode cX3_lookUp 37 = .ok (.iinc 3 (-4), 3) := by decide +kernel
theorem dX3_lookUp_40 : decode cX3_lookUp 40 = .ok (.goto (-28), 3) := by decide +kernel
theorem dX3_lookUp_43 : decode cX3_lookUp 43 = .ok (.aload_n 2, 1) := by decide +kernel
theorem dX3_lookUp_44 : decode cX3_lookUp 44 = .ok (.areturn, 1) := by decide +kernel
theorem dX3_step_0 : decode cX3_step 0 = .ok (.aload_n 1, 1) := by decide +kernel
theorem dX3_step_1 : decode cX3_step 1 = .ok (.ifnull 10, 3) := by decide +kernel
theorem dX3_step_4 : decode cX3_step 4 = .ok (.aload_n 1, 1) := by decide +kernel
theorem dX3_step_5 : decode cX3_step 5 = .ok (.getfield 58, 3) := by decide +kernel
theorem dX3_step_8 : decode cX3_step 8 = .ok (.ifCond .ne 5, 3) := by decide +kernel
theorem dX3_step_11 : decode cX3_step 11 = .ok (.aconst_null, 1) := by decide +kernel
theorem dX3_step_12 : decode cX3_step 12 = .ok (.areturn, 1) := by decide +kernel
theorem dX3_step_13 : decode cX3_step 13 = .ok (.aload_n 0, 1) := by decide +kernel
theorem dX3_step_14 : decode cX3_step 14 = .ok (.aload_n 1, 1) := by decide +kernel
theorem dX3_step_15 : decode cX3_step 15 = .ok (.iload_n 2, 1) := by decide +kernel
theorem dX3_step_16 : decode cX3_step 16 = .ok (.invokevirtual 63, 3) := by decide +kernel
theorem dX3_step_19 : decode cX3_step 19 = .ok (.aload_n 0, 1) := by decide +kernel
theorem dX3_step_20 : decode cX3_step 20 = .ok (.getfield 37, 3) := by decide +kernel
theorem dX3_step_23 : decode cX3_step 23 = .ok (.aload_n 1, 1) := by decide +kernel
theorem dX3_step_24 : decode cX3_step 24 = .ok (.iload_n 2, 1) := by decide +kernel
theorem dX3_step_25 : decode cX3_step 25 = .ok (.invokevirtual 67, 3) := by decide +kernel
theorem dX3_step_28 : decode cX3_step 28 = .ok (.invokevirtual 50, 3) := by decide +kernel
theorem dX3_step_31 : decode cX3_step 31 = .ok (.areturn, 1) := by decide +kernel
theorem dX3_lookAtCell_0 : decode cX3_lookAtCell 0 = .ok (.aload_n 0, 1) := by decide +kernel
theorem dX3_lookAtCell_1 : decode cX3_lookAtCell 1 = .ok (.getfield 12, 3) := by decide +kernel
theorem dX3_lookAtCell_4 : decode cX3_lookAtCell 4 = .ok (.aload_n 1, 1) := by decide +kernel
theorem dX3_lookAtCell_5 : decode cX3_lookAtCell 5 = .ok (.getfield 71, 3) := by decide +kernel
theorem dX3_lookAtCell_8 : decode cX3_lookAtCell 8 = .ok (.invokevirtual 74, 3) := by decide +kernel
theorem dX3_lookAtCell_11 : decode cX3_lookAtCell 11 = .ok (.istore_n 3, 1) := by decide +kernel
theorem dX3_lookAtCell_12 : decode cX3_lookAtCell 12 = .ok (.aload_n 0, 1) := by decide +kernel
theorem dX3_lookAtCell_13 : decode cX3_lookAtCell 13 = .ok (.getfield 12, 3) := by decide +kernel
theorem dX3_lookAtCell_16 : decode cX3_lookAtCell 16 = .ok (.iload_n 3, 1) := by decide +kernel
theorem dX3_lookAtCell_17 : decode cX3_lookAtCell 17 = .ok (.invokevirtual 77, 3) := by decide +kernel
theorem dX3_lookAtCell_20 : decode cX3_lookAtCell 20 = .ok (.astore 4, 2) := by decide +kernel
theorem dX3_lookAtCell_22 : decode cX3_lookAtCell 22 = .ok (.aload 4, 2) := by decide +kernel
theorem dX3_lookAtCell_24 : decode cX3_lookAtCell 24 = .ok (.ifnull 26, 3) := by decide +kernel
theorem dX3_lookAtCell_27 : decode cX3_lookAtCell 27 = .ok (.aload 4, 2) := by decide +kernel
theorem dX3_lookAtCell_29 : decode cX3_lookAtCell 29 = .ok (.iload_n 2, 1) := by decide +kernel
theorem dX3_lookAtCell_30 : decode cX3_lookAtCell 30 = .ok (.invokevirtual 67, 3) := by decide +kernel
theorem dX3_lookAtCell_33 : decode cX3_lookAtCell 33 = .ok (.aload_n 1, 1) := by decide +kernel
theorem dX3_lookAtCell_34 : decode cX3_lookAtCell 34 = .ok (.iload_n 2, 1) := by decide +kernel
theorem dX3_lookAtCell_35 : decode cX3_lookAtCell 35 = .ok (.invokevirtual 67, 3) := by decide +kernel
theorem dX3_lookAtCell_38 : decode cX3_lookAtCell 38 = .ok (.if_icmp .ne 12, 3) := by decide +kernel
theorem dX3_lookAtCell_41 : decode cX3_lookAtCell 41 = .ok (.aload_n 0, 1) := by decide +kernel
theorem dX3_lookAtCell_42 : decode cX3_lookAtCell 42 = .ok (.getfield 22, 3) := by decide +kernel
theorem dX3_lookAtCell_45 : decode cX3_lookAtCell 45 = .ok (.iload_n 3, 1) := by decide +kernel
theorem dX3_lookAtCell_46 : decode cX3_lookAtCell 46 = .ok (.iload_n 2, 1) := by decide +kernel
theorem dX3_lookAtCell_47 : decode cX3_lookAtCell 47 = .ok (.invokestatic 80, 3) := by decide +kernel
theorem dX3_lookAtCell_50 : decode cX3_lookAtCell 50 = .ok (.return_, 1) := by decide +kernel
theorem dX3_lookAtSize_0 : decode cX3_lookAtSize 0 = .ok (.aload_n 0, 1) := by decide +kernel
theorem dX3_lookAtSize_1 : decode cX3_lookAtSize 1 = .ok (.getfield 12, 3) := by decide +kernel
theorem dX3_lookAtSize_4 : decode cX3_lookAtSize 4 = .ok (.aload_n 1, 1) := by decide +kernel
theorem dX3_lookAtSize_5 : decode cX3_lookAtSize 5 = .ok (.getfield 71, 3) := by decide +kernel
theorem dX3_lookAtSize_8 : decode cX3_lookAtSize 8 = .ok (.invokevirtual 74, 3) := by decide +kernel
theorem dX3_lookAtSize_11 : decode cX3_lookAtSize 11 = .ok (.istore_n 2, 1) := by decide +kernel
theorem dX3_lookAtSize_12 : decode cX3_lookAtSize 12 = .ok (.aload_n 0, 1) := by decide +kernel
theorem dX3_lookAtSize_13 : decode cX3_lookAtSize 13 = .ok (.getfield 12, 3) := by decide +kernel
theorem dX3_lookAtSize_16 : decode cX3_lookAtSize 16 = .ok (.iload_n 2, 1) := by decide +kernel
theorem dX3_lookAtSize_17 : decode cX3_lookAtSize 17 = .ok (.invokevirtual 77, 3) := by decide +kernel
theorem dX3_lookAtSize_20 : decode cX3_lookAtSize 20 = .ok (.astore_n 3, 1) := by decide +kernel
theorem dX3_lookAtSize_21 : decode cX3_lookAtSize 21 = .ok (.aload_n 3, 1) := by decide +kernel
theorem dX3_lookAtSize_22 : decode cX3_lookAtSize 22 = .ok (.ifnull 23, 3) := by decide +kernel
theorem dX3_lookAtSize_25 : decode cX3_lookAtSize 25 = .ok (.aload_n 3, 1) := by decide +kernel
theorem dX3_lookAtSize_26 : decode cX3_lookAtSize 26 = .ok (.getfield 84, 3) := by decide +kernel
theorem dX3_lookAtSize_29 : decode cX3_lookAtSize 29 = .ok (.aload_n 1, 1) := by decide +kernel
theorem dX3_lookAtSize_30 : decode cX3_lookAtSize 30 = .ok (.getfield 84, 3) := by decide +kernel
theorem dX3_lookAtSize_33 : decode cX3_lookAtSize 33 = .ok (.if_icmp .ne 12, 3) := by decide +kernel
theorem dX3_lookAtSize_36 : decode cX3_lookAtSize 36 = .ok (.aload_n 0, 1) := by decide +kernel
theorem dX3_lookAtSize_37 : decode cX3_lookAtSize 37 = .ok (.getfield 26, 3) := by decide +kernel
theorem dX3_lookAtSize_40 : decode cX3_lookAtSize 40 = .ok (.iload_n 2, 1) := by decide +kernel
theorem dX3_lookAtSize_41 : decode cX3_lookAtSize 41 = .ok (.iconst 0, 1) := by decide +kernel
theorem dX3_lookAtSize_42 : decode cX3_lookAtSize 42 = .ok (.invokestatic 80, 3) := by decide +kernel
theorem dX3_lookAtSize_45 : decode cX3_lookAtSize 45 = .ok (.return_, 1) := by decide +kernel
theorem dX3_namesOf_0 : decode cX3_namesOf 0 = .ok (.aload_n 0, 1) := by decide +kernel
theorem dX3_namesOf_1 : decode cX3_namesOf 1 = .ok (.getfield 12, 3) := by decide +kernel
theorem dX3_namesOf_4 : decode cX3_namesOf 4 = .ok (.aload_n 1, 1) := by decide +kernel
theorem dX3_namesOf_5 : decode cX3_namesOf 5 = .ok (.getfield 71, 3) := by decide +kernel
theorem dX3_namesOf_8 : decode cX3_namesOf 8 = .ok (.invokevirtual 74, 3) := by decide +kernel
theorem dX3_namesOf_11 : decode cX3_namesOf 11 = .ok (.istore_n 2, 1) := by decide +kernel
theorem dX3_namesOf_12 : decode cX3_namesOf 12 = .ok (.aload_n 0, 1) := by decide +kernel
theorem dX3_namesOf_13 : decode cX3_namesOf 13 = .ok (.getfield 12, 3) := by decide +kernel
theorem dX3_namesOf_16 : decode cX3_namesOf 16 = .ok (.iload_n 2, 1) := by decide +kernel
theorem dX3_namesOf_17 : decode cX3_namesOf 17 = .ok (.invokevirtual 77, 3) := by decide +kernel
theorem dX3_namesOf_20 : decode cX3_namesOf 20 = .ok (.astore_n 3, 1) := by decide +kernel
theorem dX3_namesOf_21 : decode cX3_namesOf 21 = .ok (.iconst 0, 1) := by decide +kernel
theorem dX3_namesOf_22 : decode cX3_namesOf 22 = .ok (.istore 4, 2) := by decide +kernel
theorem dX3_namesOf_24 : decode cX3_namesOf 24 = .ok (.iconst 1, 1) := by decide +kernel
theorem dX3_namesOf_25 : decode cX3_namesOf 25 = .ok (.istore 5, 2) := by decide +kernel
theorem dX3_namesOf_27 : decode cX3_namesOf 27 = .ok (.iload 5, 2) := by decide +kernel
theorem dX3_namesOf_29 : decode cX3_namesOf 29 = .ok (.bipush 15, 2) := by decide +kernel
theorem dX3_namesOf_31 : decode cX3_namesOf 31 = .ok (.if_icmp .gt 72, 3) := by decide +kernel
theorem dX3_namesOf_34 : decode cX3_namesOf 34 = .ok (.aload_n 1, 1) := by decide +kernel
theorem dX3_namesOf_35 : decode cX3_namesOf 35 = .ok (.iload 5, 2) := by decide +kernel
theorem dX3_namesOf_37 : decode cX3_namesOf 37 = .ok (.invokevirtual 67, 3) := by decide +kernel
theorem dX3_namesOf_40 : decode cX3_namesOf 40 = .ok (.ifCond .eq 7, 3) := by decide +kernel
theorem dX3_namesOf_43 : decode cX3_namesOf 43 = .ok (.iconst 1, 1) := by decide +kernel
theorem dX3_namesOf_44 : decode cX3_namesOf 44 = .ok (.goto 4, 3) := by decide +kernel
theorem dX3_namesOf_47 : decode cX3_namesOf 47 = .ok (.iconst 0, 1) := by decide +kernel
theorem dX3_namesOf_48 : decode cX3_namesOf 48 = .ok (.istore 6, 2) := by decide +kernel
theorem dX3_namesOf_50 : decode cX3_namesOf 50 = .ok (.iload 6, 2) := by decide +kernel
theorem dX3_namesOf_52 : decode cX3_namesOf 52 = .ok (.ifCond .eq 12, 3) := by decide +kernel
theorem dX3_namesOf_55 : decode cX3_namesOf 55 = .ok (.iload 4, 2) := by decide +kernel
theorem dX3_namesOf_57 : decode cX3_namesOf 57 = .ok (.iconst 1, 1) := by decide +kernel
theorem dX3_namesOf_58 : decode cX3_namesOf 58 = .ok (.iload 5, 2) := by decide +kernel
theorem dX3_namesOf_60 : decode cX3_namesOf 60 = .ok (.ishl, 1) := by decide +kernel
theorem dX3_namesOf_61 : decode cX3_namesOf 61 = .ok (.ior, 1) := by decide +kernel
theorem dX3_namesOf_62 : decode cX3_namesOf 62 = .ok (.istore 4, 2) := by decide +kernel
theorem dX3_namesOf_64 : decode cX3_namesOf 64 = .ok (.aload_n 3, 1) := by decide +kernel
theorem dX3_namesOf_65 : decode cX3_namesOf 65 = .ok (.ifnull 32, 3) := by decide +kernel
theorem dX3_namesOf_68 : decode cX3_namesOf 68 = .ok (.iload 6, 2) := by decide +kernel
theorem dX3_namesOf_70 : decode cX3_namesOf 70 = .ok (.aload_n 3, 1) := by decide +kernel
theorem dX3_namesOf_71 : decode cX3_namesOf 71 = .ok (.iload 5, 2) := by decide +kernel
theorem dX3_namesOf_73 : decode cX3_namesOf 73 = .ok (.invokevirtual 67, 3) := by decide +kernel
theorem dX3_namesOf_76 : decode cX3_namesOf 76 = .ok (.ifCond .eq 7, 3) := by decide +kernel
theorem dX3_namesOf_79 : decode cX3_namesOf 79 = .ok (.iconst 1, 1) := by decide +kernel
theorem dX3_namesOf_80 : decode cX3_namesOf 80 = .ok (.goto 4, 3) := by decide +kernel
theorem dX3_namesOf_83 : decode cX3_namesOf 83 = .ok (.iconst 0, 1) := by decide +kernel
theorem dX3_namesOf_84 : decode cX3_namesOf 84 = .ok (.if_icmp .ne 13, 3) := by decide +kernel
theorem dX3_namesOf_87 : decode cX3_namesOf 87 = .ok (.aload_n 0, 1) := by decide +kernel
theorem dX3_namesOf_88 : decode cX3_namesOf 88 = .ok (.getfield 26, 3) := by decide +kernel
theorem dX3_namesOf_91 : decode cX3_namesOf 91 = .ok (.iload_n 2, 1) := by decide +kernel
theorem dX3_namesOf_92 : decode cX3_namesOf 92 = .ok (.iload 5, 2) := by decide +kernel
theorem dX3_namesOf_94 : decode cX3_namesOf 94 = .ok (.invokestatic 80, 3) := by decide +kernel
theorem dX3_namesOf_97 : decode cX3_namesOf 97 = .ok (.iinc 5 1, 3) := by decide +kernel
theorem dX3_namesOf_100 : decode cX3_namesOf 100 = .ok (.goto (-73), 3) := by decide +kernel
theorem dX3_namesOf_103 : decode cX3_namesOf 103 = .ok (.iload 4, 2) := by decide +kernel
theorem dX3_namesOf_105 : decode cX3_namesOf 105 = .ok (.ireturn, 1) := by decide +kernel
theorem dX3_noteRead_0 : decode cX3_noteRead 0 = .ok (.iload_n 1, 1) := by decide +kernel
theorem dX3_noteRead_1 : decode cX3_noteRead 1 = .ok (.ifCond .lt 18, 3) := by decide +kernel
theorem dX3_noteRead_4 : decode cX3_noteRead 4 = .ok (.iload_n 1, 1) := by decide +kernel
theorem dX3_noteRead_5 : decode cX3_noteRead 5 = .ok (.aload_n 0, 1) := by decide +kernel
theorem dX3_noteRead_6 : decode cX3_noteRead 6 = .ok (.arraylength, 1) := by decide +kernel
theorem dX3_noteRead_7 : decode cX3_noteRead 7 = .ok (.if_icmp .ge 12, 3) := by decide +kernel
theorem dX3_noteRead_10 : decode cX3_noteRead 10 = .ok (.aload_n 0, 1) := by decide +kernel
theorem dX3_noteRead_11 : decode cX3_noteRead 11 = .ok (.iload_n 1, 1) := by decide +kernel
theorem dX3_noteRead_12 : decode cX3_noteRead 12 = .ok (.dup2, 1) := by decide +kernel
theorem dX3_noteRead_13 : decode cX3_noteRead 13 = .ok (.laload, 1) := by decide +kernel
theorem dX3_noteRead_14 : decode cX3_noteRead 14 = .ok (.lconst 1, 1) := by decide +kernel
theorem dX3_noteRead_15 : decode cX3_noteRead 15 = .ok (.iload_n 2, 1) := by decide +kernel
theorem dX3_noteRead_16 : decode cX3_noteRead 16 = .ok (.lshl, 1) := by decide +kernel
theorem dX3_noteRead_17 : decode cX3_noteRead 17 = .ok (.lor, 1) := by decide +kernel
theorem dX3_noteRead_18 : decode cX3_noteRead 18 = .ok (.lastore, 1) := by decide +kernel
theorem dX3_noteRead_19 : decode cX3_noteRead 19 = .ok (.return_, 1) := by decide +kernel
theorem dX3_itemsRead_0 : decode cX3_itemsRead 0 = .ok (.iconst 0, 1) := by decide +kernel
theorem dX3_itemsRead_1 : decode cX3_itemsRead 1 = .ok (.istore_n 1, 1) := by decide +kernel
theorem dX3_itemsRead_2 : decode cX3_itemsRead 2 = .ok (.iconst 0, 1) := by decide +kernel
theorem dX3_itemsRead_3 : decode cX3_itemsRead 3 = .ok (.istore_n 2, 1) := by decide +kernel
theorem dX3_itemsRead_4 : decode cX3_itemsRead 4 = .ok (.iload_n 2, 1) := by decide +kernel
theorem dX3_itemsRead_5 : decode cX3_itemsRead 5 = .ok (.aload_n 0, 1) := by decide +kernel
theorem dX3_itemsRead_6 : decode cX3_itemsRead 6 = .ok (.getfield 12, 3) := by decide +kernel
theorem dX3_itemsRead_9 : decode cX3_itemsRead 9 = .ok (.getfield 87, 3) := by decide +kernel
theorem dX3_itemsRead_12 : decode cX3_itemsRead 12 = .ok (.if_icmp .ge 49, 3) := by decide +kernel
theorem dX3_itemsRead_15 : decode cX3_itemsRead 15 = .ok (.iload_n 2, 1) := by decide +kernel
theorem dX3_itemsRead_16 : decode cX3_itemsRead 16 = .ok (.aload_n 0, 1) := by decide +kernel
theorem dX3_itemsRead_17 : decode cX3_itemsRead 17 = .ok (.getfield 22, 3) := by decide +kernel
theorem dX3_itemsRead_20 : decode cX3_itemsRead 20 = .ok (.arraylength, 1) := by decide +kernel
theorem dX3_itemsRead_21 : decode cX3_itemsRead 21 = .ok (.if_icmp .ge 40, 3) := by decide +kernel
theorem dX3_itemsRead_24 : decode cX3_itemsRead 24 = .ok (.iload_n 2, 1) := by decide +kernel
theorem dX3_itemsRead_25 : decode cX3_itemsRead 25 = .ok (.aload_n 0, 1) := by decide +kernel
theorem dX3_itemsRead_26 : decode cX3_itemsRead 26 = .ok (.getfield 26, 3) := by decide +kernel
theorem dX3_itemsRead_29 : decode cX3_itemsRead 29 = .ok (.arraylength, 1) := by decide +kernel
theorem dX3_itemsRead_30 : decode cX3_itemsRead 30 = .ok (.if_icmp .ge 31, 3) := by decide +kernel
theorem dX3_itemsRead_33 : decode cX3_itemsRead 33 = .ok (.iload_n 1, 1) := by decide +kernel
theorem dX3_itemsRead_34 : decode cX3_itemsRead 34 = .ok (.aload_n 0, 1) := by decide +kernel
theorem dX3_itemsRead_35 : decode cX3_itemsRead 35 = .ok (.getfield 22, 3) := by decide +kernel
theorem dX3_itemsRead_38 : decode cX3_itemsRead 38 = .ok (.iload_n 2, 1) := by decide +kernel
theorem dX3_itemsRead_39 : decode cX3_itemsRead 39 = .ok (.laload, 1) := by decide +kernel
theorem dX3_itemsRead_40 : decode cX3_itemsRead 40 = .ok (.invokestatic 88, 3) := by decide +kernel
theorem dX3_itemsRead_43 : decode cX3_itemsRead 43 = .ok (.aload_n 0, 1) := by decide +kernel
theorem dX3_itemsRead_44 : decode cX3_itemsRead 44 = .ok (.getfield 26, 3) := by decide +kernel
theorem dX3_itemsRead_47 : decode cX3_itemsRead 47 = .ok (.iload_n 2, 1) := by decide +kernel
theorem dX3_itemsRead_48 : decode cX3_itemsRead 48 = .ok (.laload, 1) := by decide +kernel
theorem dX3_itemsRead_49 : decode cX3_itemsRead 49 = .ok (.invokestatic 88, 3) := by decide +kernel
theorem dX3_itemsRead_52 : decode cX3_itemsRead 52 = .ok (.iadd, 1) := by decide +kernel
theorem dX3_itemsRead_53 : decode cX3_itemsRead 53 = .ok (.iadd, 1) := by decide +kernel
theorem dX3_itemsRead_54 : decode cX3_itemsRead 54 = .ok (.istore_n 1, 1) := by decide +kernel
theorem dX3_itemsRead_55 : decode cX3_itemsRead 55 = .ok (.iinc 2 1, 3) := by decide +kernel
theorem dX3_itemsRead_58 : decode cX3_itemsRead 58 = .ok (.goto (-54), 3) := by decide +kernel
theorem dX3_itemsRead_61 : decode cX3_itemsRead 61 = .ok (.iload_n 1, 1) := by decide +kernel
theorem dX3_itemsRead_62 : decode cX3_itemsRead 62 = .ok (.ireturn, 1) := by decide +kernel
theorem dX3_isStale_0 : decode cX3_isStale 0 = .ok (.iconst 0, 1) := by decide +kernel
theorem dX3_isStale_1 : decode cX3_isStale 1 = .ok (.istore_n 2, 1) := by decide +kernel
theorem dX3_isStale_2 : decode cX3_isStale 2 = .ok (.iload_n 2, 1) := by decide +kernel
theorem dX3_isStale_3 : decode cX3_isStale 3 = .ok (.aload_n 0, 1) := by decide +kernel
theorem dX3_isStale_4 : decode cX3_isStale 4 = .ok (.getfield 12, 3) := by decide +kernel
theorem dX3_isStale_7 : decode cX3_isStale 7 = .ok (.getfield 87, 3) := by decide +kernel
theorem dX3_isStale_10 : decode cX3_isStale 10 = .ok (.if_icmp .ge 87, 3) := by decide +kernel
theorem dX3_isStale_13 : decode cX3_isStale 13 = .ok (.iload_n 2, 1) := by decide +kernel
theorem dX3_isStale_14 : decode cX3_isStale 14 = .ok (.aload_n 0, 1) := by decide +kernel
theorem dX3_isStale_15 : decode cX3_isStale 15 = .ok (.getfield 22, 3) := by decide +kernel
theorem dX3_isStale_18 : decode cX3_isStale 18 = .ok (.arraylength, 1) := by decide +kernel
theorem dX3_isStale_19 : decode cX3_isStale 19 = .ok (.if_icmp .ge 78, 3) := by decide +kernel
theorem dX3_isStale_22 : decode cX3_isStale 22 = .ok (.iload_n 2, 1) := by decide +kernel
theorem dX3_isStale_23 : decode cX3_isStale 23 = .ok (.aload_n 0, 1) := by decide +kernel
theorem dX3_isStale_24 : decode cX3_isStale 24 = .ok (.getfield 26, 3) := by decide +kernel
theorem dX3_isStale_27 : decode cX3_isStale 27 = .ok (.arraylength, 1) := by decide +kernel
theorem dX3_isStale_28 : decode cX3_isStale 28 = .ok (.if_icmp .ge 69, 3) := by decide +kernel
theorem dX3_isStale_31 : decode cX3_isStale 31 = .ok (.aload_n 0, 1) := by decide +kernel
theorem dX3_isStale_32 : decode cX3_isStale 32 = .ok (.getfield 12, 3) := by decide +kernel
theorem dX3_isStale_35 : decode cX3_isStale 35 = .ok (.iload_n 2, 1) := by decide +kernel
theorem dX3_isStale_36 : decode cX3_isStale 36 = .ok (.invokevirtual 77, 3) := by decide +kernel
theorem dX3_isStale_39 : decode cX3_isStale 39 = .ok (.astore_n 3, 1) := by decide +kernel
theorem dX3_isStale_40 : decode cX3_isStale 40 = .ok (.aload_n 0, 1) := by decide +kernel
theorem dX3_isStale_41 : decode cX3_isStale 41 = .ok (.getfield 22, 3) := by decide +kernel
theorem dX3_isStale_44 : decode cX3_isStale 44 = .ok (.iload_n 2, 1) := by decide +kernel
theorem dX3_isStale_45 : decode cX3_isStale 45 = .ok (.laload, 1) := by decide +kernel
theorem dX3_isStale_46 : decode cX3_isStale 46 = .ok (.lstore 4, 2) := by decide +kernel
theorem dX3_isStale_48 : decode cX3_isStale 48 = .ok (.aload_n 0, 1) := by decide +kernel
theorem dX3_isStale_49 : decode cX3_isStale 49 = .ok (.getfield 26, 3) := by decide +kernel
theorem dX3_isStale_52 : decode cX3_isStale 52 = .ok (.iload_n 2, 1) := by decide +kernel
theorem dX3_isStale_53 : decode cX3_isStale 53 = .ok (.laload, 1) := by decide +kernel
theorem dX3_isStale_54 : decode cX3_isStale 54 = .ok (.lstore 6, 2) := by decide +kernel
theorem dX3_isStale_56 : decode cX3_isStale 56 = .ok (.aload_n 3, 1) := by decide +kernel
theorem dX3_isStale_57 : decode cX3_isStale 57 = .ok (.ifnull 34, 3) := by decide +kernel
theorem dX3_isStale_60 : decode cX3_isStale 60 = .ok (.lload 4, 2) := by decide +kernel
theorem dX3_isStale_62 : decode cX3_isStale 62 = .ok (.lload 6, 2) := by decide +kernel
theorem dX3_isStale_64 : decode cX3_isStale 64 = .ok (.lor, 1) := by decide +kernel
theorem dX3_isStale_65 : decode cX3_isStale 65 = .ok (.lconst 0, 1) := by decide +kernel
theorem dX3_isStale_66 : decode cX3_isStale 66 = .ok (.lcmp, 1) := by decide +kernel
theorem dX3_isStale_67 : decode cX3_isStale 67 = .ok (.ifCond .eq 24, 3) := by decide +kernel
theorem dX3_isStale_70 : decode cX3_isStale 70 = .ok (.aload_n 3, 1) := by decide +kernel
theorem dX3_isStale_71 : decode cX3_isStale 71 = .ok (.aload_n 1, 1) := by decide +kernel
theorem dX3_isStale_72 : decode cX3_isStale 72 = .ok (.aload_n 3, 1) := by decide +kernel
theorem dX3_isStale_73 : decode cX3_isStale 73 = .ok (.getfield 71, 3) := by decide +kernel
theorem dX3_isStale_76 : decode cX3_isStale 76 = .ok (.invokevirtual 50, 3) := by decide +kernel
theorem dX3_isStale_79 : decode cX3_isStale 79 = .ok (.lload 4, 2) := by decide +kernel
theorem dX3_isStale_81 : decode cX3_isStale 81 = .ok (.lload 6, 2) := by decide +kernel
theorem dX3_isStale_83 : decode cX3_isStale 83 = .ok (.invokestatic 94, 3) := by decide +kernel
theorem dX3_isStale_86 : decode cX3_isStale 86 = .ok (.ifCond .eq 5, 3) := by decide +kernel
theorem dX3_isStale_89 : decode cX3_isStale 89 = .ok (.iconst 1, 1) := by decide +kernel
theorem dX3_isStale_90 : decode cX3_isStale 90 = .ok (.ireturn, 1) := by decide +kernel
theorem dX3_isStale_91 : decode cX3_isStale 91 = .ok (.iinc 2 1, 3) := by decide +kernel
theorem dX3_isStale_94 : decode cX3_isStale 94 = .ok (.goto (-92), 3) := by decide +kernel
theorem dX3_isStale_97 : decode cX3_isStale 97 = .ok (.iconst 0, 1) := by decide +kernel
theorem dX3_isStale_98 : decode cX3_isStale 98 = .ok (.ireturn, 1) := by decide +kernel
theorem dX3_differs_0 : decode cX3_differs 0 = .ok (.aload_n 1, 1) := by decide +kernel
theorem dX3_differs_1 : decode cX3_differs 1 = .ok (.ifnonnull 5, 3) := by decide +kernel
theorem dX3_differs_4 : decode cX3_differs 4 = .ok (.iconst 1, 1) := by decide +kernel
theorem dX3_differs_5 : decode cX3_differs 5 = .ok (.ireturn, 1) := by decide +kernel
theorem dX3_differs_6 : decode cX3_differs 6 = .ok (.aload_n 0, 1) := by decide +kernel
theorem dX3_differs_7 : decode cX3_differs 7 = .ok (.getfield 58, 3) := by decide +kernel
theorem dX3_differs_10 : decode cX3_differs 10 = .ok (.ifCond .ne 23, 3) := by decide +kernel
theorem dX3_differs_13 : decode cX3_differs 13 = .ok (.lload 4, 2) := by decide +kernel
theorem dX3_differs_15 : decode cX3_differs 15 = .ok (.lconst 0, 1) := by decide +kernel
theorem dX3_differs_16 : decode cX3_differs 16 = .ok (.lcmp, 1) := by decide +kernel
theorem dX3_differs_17 : decode cX3_differs 17 = .ok (.ifCond .eq 16, 3) := by decide +kernel
theorem dX3_differs_20 : decode cX3_differs 20 = .ok (.aload_n 0, 1) := by decide +kernel
theorem dX3_differs_21 : decode cX3_differs 21 = .ok (.getfield 84, 3) := by decide +kernel
theorem dX3_differs_24 : decode cX3_differs 24 = .ok (.aload_n 1, 1) := by decide +kernel
theorem dX3_differs_25 : decode cX3_differs 25 = .ok (.getfield 84, 3) := by decide +kernel
theorem dX3_differs_28 : decode cX3_differs 28 = .ok (.if_icmp .eq 5, 3) := by decide +kernel
theorem dX3_differs_31 : decode cX3_differs 31 = .ok (.iconst 1, 1) := by decide +kernel
theorem dX3_differs_32 : decode cX3_differs 32 = .ok (.ireturn, 1) := by decide +kernel
theorem dX3_differs_33 : decode cX3_differs 33 = .ok (.iconst 0, 1) := by decide +kernel
theorem dX3_differs_34 : decode cX3_differs 34 = .ok (.istore 6, 2) := by decide +kernel
theorem dX3_differs_36 : decode cX3_differs 36 = .ok (.iload 6, 2) := by decide +kernel
theorem dX3_differs_38 : decode cX3_differs 38 = .ok (.aload_n 0, 1) := by decide +kernel
theorem dX3_differs_39 : decode cX3_differs 39 = .ok (.getfield 98, 3) := by decide +kernel
theorem dX3_differs_42 : decode cX3_differs 42 = .ok (.arraylength, 1) := by decide +kernel
theorem dX3_differs_43 : decode cX3_differs 43 = .ok (.if_icmp .ge 89, 3) := by decide +kernel
theorem dX3_differs_46 : decode cX3_differs 46 = .ok (.aload_n 0, 1) := by decide +kernel
theorem dX3_differs_47 : decode cX3_differs 47 = .ok (.iload 6, 2) := by decide +kernel
theorem dX3_differs_49 : decode cX3_differs 49 = .ok (.invokevirtual 67, 3) := by decide +kernel
theorem dX3_differs_52 : decode cX3_differs 52 = .ok (.istore 7, 2) := by decide +kernel
theorem dX3_differs_54 : decode cX3_differs 54 = .ok (.aload_n 1, 1) := by decide +kernel
theorem dX3_differs_55 : decode cX3_differs 55 = .ok (.iload 6, 2) := by decide +kernel
theorem dX3_differs_57 : decode cX3_differs 57 = .ok (.invokevirtual 67, 3) := by decide +kernel
theorem dX3_differs_60 : decode cX3_differs 60 = .ok (.istore 8, 2) := by decide +kernel
theorem dX3_differs_62 : decode cX3_differs 62 = .ok (.lload_n 2, 1) := by decide +kernel
theorem dX3_differs_63 : decode cX3_differs 63 = .ok (.iload 6, 2) := by decide +kernel
theorem dX3_differs_65 : decode cX3_differs 65 = .ok (.lshr, 1) := by decide +kernel
theorem dX3_differs_66 : decode cX3_differs 66 = .ok (.lconst 1, 1) := by decide +kernel
theorem dX3_differs_67 : decode cX3_differs 67 = .ok (.land, 1) := by decide +kernel
theorem dX3_differs_68 : decode cX3_differs 68 = .ok (.lconst 0, 1) := by decide +kernel
theorem dX3_differs_69 : decode cX3_differs 69 = .ok (.lcmp, 1) := by decide +kernel
theorem dX3_differs_70 : decode cX3_differs 70 = .ok (.ifCond .eq 12, 3) := by decide +kernel
theorem dX3_differs_73 : decode cX3_differs 73 = .ok (.iload 7, 2) := by decide +kernel
theorem dX3_differs_75 : decode cX3_differs 75 = .ok (.iload 8, 2) := by decide +kernel
theorem dX3_differs_77 : decode cX3_differs 77 = .ok (.if_icmp .eq 5, 3) := by decide +kernel
theorem dX3_differs_80 : decode cX3_differs 80 = .ok (.iconst 1, 1) := by decide +kernel
theorem dX3_differs_81 : decode cX3_differs 81 = .ok (.ireturn, 1) := by decide +kernel
theorem dX3_differs_82 : decode cX3_differs 82 = .ok (.aload_n 0, 1) := by decide +kernel
theorem dX3_differs_83 : decode cX3_differs 83 = .ok (.getfield 58, 3) := by decide +kernel
theorem dX3_differs_86 : decode cX3_differs 86 = .ok (.ifCond .eq 40, 3) := by decide +kernel
theorem dX3_differs_89 : decode cX3_differs 89 = .ok (.lload 4, 2) := by decide +kernel
theorem dX3_differs_91 : decode cX3_differs 91 = .ok (.iload 6, 2) := by decide +kernel
theorem dX3_differs_93 : decode cX3_differs 93 = .ok (.lshr, 1) := by decide +kernel
theorem dX3_differs_94 : decode cX3_differs 94 = .ok (.lconst 1, 1) := by decide +kernel
theorem dX3_differs_95 : decode cX3_differs 95 = .ok (.land, 1) := by decide +kernel
theorem dX3_differs_96 : decode cX3_differs 96 = .ok (.lconst 0, 1) := by decide +kernel
theorem dX3_differs_97 : decode cX3_differs 97 = .ok (.lcmp, 1) := by decide +kernel
theorem dX3_differs_98 : decode cX3_differs 98 = .ok (.ifCond .eq 28, 3) := by decide +kernel
theorem dX3_differs_101 : decode cX3_differs 101 = .ok (.iload 7, 2) := by decide +kernel
theorem dX3_differs_103 : decode cX3_differs 103 = .ok (.ifCond .eq 7, 3) := by decide +kernel
theorem dX3_differs_106 : decode cX3_differs 106 = .ok (.iconst 1, 1) := by decide +kernel
theorem dX3_differs_107 : decode cX3_differs 107 = .ok (.goto 4, 3) := by decide +kernel
theorem dX3_differs_110 : decode cX3_differs 110 = .ok (.iconst 0, 1) := by decide +kernel
theorem dX3_differs_111 : decode cX3_differs 111 = .ok (.iload 8, 2) := by decide +kernel
theorem dX3_differs_113 : decode cX3_differs 113 = .ok (.ifCond .eq 7, 3) := by decide +kernel
theorem dX3_differs_116 : decode cX3_differs 116 = .ok (.iconst 1, 1) := by decide +kernel
theorem dX3_differs_117 : decode cX3_differs 117 = .ok (.goto 4, 3) := by decide +kernel
theorem dX3_differs_120 : decode cX3_differs 120 = .ok (.iconst 0, 1) := by decide +kernel
theorem dX3_differs_121 : decode cX3_differs 121 = .ok (.if_icmp .eq 5, 3) := by decide +kernel
theorem dX3_differs_124 : decode cX3_differs 124 = .ok (.iconst 1, 1) := by decide +kernel
theorem dX3_differs_125 : decode cX3_differs 125 = .ok (.ireturn, 1) := by decide +kernel
theorem dX3_differs_126 : decode cX3_differs 126 = .ok (.iinc 6 1, 3) := by decide +kernel
theorem dX3_differs_129 : decode cX3_differs 129 = .ok (.goto (-93), 3) := by decide +kernel
theorem dX3_differs_132 : decode cX3_differs 132 = .ok (.iconst 0, 1) := by decide +kernel
theorem dX3_differs_133 : decode cX3_differs 133 = .ok (.ireturn, 1) := by decide +kernel
theorem dX3_pushMark_0 : decode cX3_pushMark 0 = .ok (.aload_n 0, 1) := by decide +kernel
theorem dX3_pushMark_1 : decode cX3_pushMark 1 = .ok (.aload_n 0, 1) := by decide +kernel
theorem dX3_pushMark_2 : decode cX3_pushMark 2 = .ok (.getfield 33, 3) := by decide +kernel
theorem dX3_pushMark_5 : decode cX3_pushMark 5 = .ok (.invokevirtual 102, 3) := by decide +kernel
theorem dX3_pushMark_8 : decode cX3_pushMark 8 = .ok (.astore_n 1, 1) := by decide +kernel
theorem dX3_pushMark_9 : decode cX3_pushMark 9 = .ok (.aload_n 1, 1) := by decide +kernel
theorem dX3_pushMark_10 : decode cX3_pushMark 10 = .ok (.ifnonnull 5, 3) := by decide +kernel
theorem dX3_pushMark_13 : decode cX3_pushMark 13 = .ok (.iconst 0, 1) := by decide +kernel
theorem dX3_pushMark_14 : decode cX3_pushMark 14 = .ok (.ireturn, 1) := by decide +kernel
theorem dX3_pushMark_15 : decode cX3_pushMark 15 = .ok (.aload_n 1, 1) := by decide +kernel
theorem dX3_pushMark_16 : decode cX3_pushMark 16 = .ok (.aload_n 0, 1) := by decide +kernel
theorem dX3_pushMark_17 : decode cX3_pushMark 17 = .ok (.getfield 37, 3) := by decide +kernel
theorem dX3_pushMark_20 : decode cX3_pushMark 20 = .ok (.invokevirtual 40, 3) := by decide +kernel
theorem dX3_pushMark_23 : decode cX3_pushMark 23 = .ok (.aload_n 0, 1) := by decide +kernel
theorem dX3_pushMark_24 : decode cX3_pushMark 24 = .ok (.dup, 1) := by decide +kernel
theorem dX3_pushMark_25 : decode cX3_pushMark 25 = .ok (.getfield 33, 3) := by decide +kernel
theorem dX3_pushMark_28 : decode cX3_pushMark 28 = .ok (.iconst 1, 1) := by decide +kernel
theorem dX3_pushMark_29 : decode cX3_pushMark 29 = .ok (.iadd, 1) := by decide +kernel
theorem dX3_pushMark_30 : decode cX3_pushMark 30 = .ok (.putfield 33, 3) := by decide +kernel
theorem dX3_pushMark_33 : decode cX3_pushMark 33 = .ok (.iconst 1, 1) := by decide +kernel
theorem dX3_pushMark_34 : decode cX3_pushMark 34 = .ok (.ireturn, 1) := by decide +kernel
theorem dX3_popMark_0 : decode cX3_popMark 0 = .ok (.aload_n 0, 1) := by decide +kernel
theorem dX3_popMark_1 : decode cX3_popMark 1 = .ok (.aload_n 0, 1) := by decide +kernel
theorem dX3_popMark_2 : decode cX3_popMark 2 = .ok (.getfield 33, 3) := by decide +kernel
theorem dX3_popMark_5 : decode cX3_popMark 5 = .ok (.iconst 1, 1) := by decide +kernel
theorem dX3_popMark_6 : decode cX3_popMark 6 = .ok (.isub, 1) := by decide +kernel
theorem dX3_popMark_7 : decode cX3_popMark 7 = .ok (.invokevirtual 102, 3) := by decide +kernel
theorem dX3_popMark_10 : decode cX3_popMark 10 = .ok (.astore_n 1, 1) := by decide +kernel
theorem dX3_popMark_11 : decode cX3_popMark 11 = .ok (.aload_n 1, 1) := by decide +kernel
theorem dX3_popMark_12 : decode cX3_popMark 12 = .ok (.ifnonnull 5, 3) := by decide +kernel
theorem dX3_popMark_15 : decode cX3_popMark 15 = .ok (.iconst 0, 1) := by decide +kernel
theorem dX3_popMark_16 : decode cX3_popMark 16 = .ok (.ireturn, 1) := by decide +kernel
theorem dX3_popMark_17 : decode cX3_popMark 17 = .ok (.aload_n 0, 1) := by decide +kernel
theorem dX3_popMark_18 : decode cX3_popMark 18 = .ok (.getfield 37, 3) := by decide +kernel
theorem dX3_popMark_21 : decode cX3_popMark 21 = .ok (.aload_n 1, 1) := by decide +kernel
theorem dX3_popMark_22 : decode cX3_popMark 22 = .ok (.invokevirtual 40, 3) := by decide +kernel
theorem dX3_popMark_25 : decode cX3_popMark 25 = .ok (.aload_n 0, 1) := by decide +kernel
theorem dX3_popMark_26 : decode cX3_popMark 26 = .ok (.dup, 1) := by decide +kernel
theorem dX3_popMark_27 : decode cX3_popMark 27 = .ok (.getfield 33, 3) := by decide +kernel
theorem dX3_popMark_30 : decode cX3_popMark 30 = .ok (.iconst 1, 1) := by decide +kernel
theorem dX3_popMark_31 : decode cX3_popMark 31 = .ok (.isub, 1) := by decide +kernel
theorem dX3_popMark_32 : decode cX3_popMark 32 = .ok (.putfield 33, 3) := by decide +kernel
theorem dX3_popMark_35 : decode cX3_popMark 35 = .ok (.iconst 1, 1) := by decide +kernel
theorem dX3_popMark_36 : decode cX3_popMark 36 = .ok (.ireturn, 1) := by decide +kernel
theorem dX3_markAt_0 : decode cX3_markAt 0 = .ok (.iload_n 1, 1) := by decide +kernel
theorem dX3_markAt_1 : decode cX3_markAt 1 = .ok (.ifCond .lt 21, 3) := by decide +kernel
theorem dX3_markAt_4 : decode cX3_markAt 4 = .ok (.iload_n 1, 1) := by decide +kernel
theorem dX3_markAt_5 : decode cX3_markAt 5 = .ok (.aload_n 0, 1) := by decide +kernel
theorem dX3_markAt_6 : decode cX3_markAt 6 = .ok (.getfield 18, 3) := by decide +kernel
theorem dX3_markAt_9 : decode cX3_markAt 9 = .ok (.arraylength, 1) := by decide +kernel
theorem dX3_markAt_10 : decode cX3_markAt 10 = .ok (.if_icmp .ge 12, 3) := by decide +kernel
theorem dX3_markAt_13 : decode cX3_markAt 13 = .ok (.aload_n 0, 1) := by decide +kernel
