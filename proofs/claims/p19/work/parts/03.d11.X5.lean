theorem dX5_read_0 : decode cX5_read 0 = .ok (.aload_n 0, 1) := by decide +kernel
theorem dX5_read_1 : decode cX5_read 1 = .ok (.iload_n 1, 1) := by decide +kernel
theorem dX5_read_2 : decode cX5_read 2 = .ok (.invokevirtual 206, 3) := by decide +kernel
theorem dX5_read_5 : decode cX5_read 5 = .ok (.astore 4, 2) := by decide +kernel
theorem dX5_read_7 : decode cX5_read 7 = .ok (.aload 4, 2) := by decide +kernel
theorem dX5_read_9 : decode cX5_read 9 = .ok (.iload_n 2, 1) := by decide +kernel
theorem dX5_read_10 : decode cX5_read 10 = .ok (.invokestatic 182, 3) := by decide +kernel
theorem dX5_read_13 : decode cX5_read 13 = .ok (.astore 5, 2) := by decide +kernel
theorem dX5_read_15 : decode cX5_read 15 = .ok (.aload 5, 2) := by decide +kernel
theorem dX5_read_17 : decode cX5_read 17 = .ok (.iload_n 3, 1) := by decide +kernel
theorem dX5_read_18 : decode cX5_read 18 = .ok (.invokestatic 185, 3) := by decide +kernel
theorem dX5_read_21 : decode cX5_read 21 = .ok (.aload 4, 2) := by decide +kernel
theorem dX5_read_23 : decode cX5_read 23 = .ok (.aload 5, 2) := by decide +kernel
theorem dX5_read_25 : decode cX5_read 25 = .ok (.iload_n 3, 1) := by decide +kernel
theorem dX5_read_26 : decode cX5_read 26 = .ok (.invokevirtual 209, 3) := by decide +kernel
theorem dX5_read_29 : decode cX5_read 29 = .ok (.aload 5, 2) := by decide +kernel
theorem dX5_read_31 : decode cX5_read 31 = .ok (.iload_n 3, 1) := by decide +kernel
theorem dX5_read_32 : decode cX5_read 32 = .ok (.invokevirtual 212, 3) := by decide +kernel
theorem dX5_read_35 : decode cX5_read 35 = .ok (.ireturn, 1) := by decide +kernel
theorem dX5_length_0 : decode cX5_length 0 = .ok (.aload_n 0, 1) := by decide +kernel
theorem dX5_length_1 : decode cX5_length 1 = .ok (.iload_n 1, 1) := by decide +kernel
theorem dX5_length_2 : decode cX5_length 2 = .ok (.invokevirtual 206, 3) := by decide +kernel
theorem dX5_length_5 : decode cX5_length 5 = .ok (.iload_n 2, 1) := by decide +kernel
theorem dX5_length_6 : decode cX5_length 6 = .ok (.invokestatic 182, 3) := by decide +kernel
theorem dX5_length_9 : decode cX5_length 9 = .ok (.getfield 189, 3) := by decide +kernel
theorem dX5_length_12 : decode cX5_length 12 = .ok (.ireturn, 1) := by decide +kernel
theorem dX5_kind_0 : decode cX5_kind 0 = .ok (.aload_n 0, 1) := by decide +kernel
theorem dX5_kind_1 : decode cX5_kind 1 = .ok (.iload_n 1, 1) := by decide +kernel
theorem dX5_kind_2 : decode cX5_kind 2 = .ok (.invokevirtual 206, 3) := by decide +kernel
theorem dX5_kind_5 : decode cX5_kind 5 = .ok (.astore_n 3, 1) := by decide +kernel
theorem dX5_kind_6 : decode cX5_kind 6 = .ok (.iload_n 2, 1) := by decide +kernel
theorem dX5_kind_7 : decode cX5_kind 7 = .ok (.invokestatic 216, 3) := by decide +kernel
theorem dX5_kind_10 : decode cX5_kind 10 = .ok (.aload_n 3, 1) := by decide +kernel
theorem dX5_kind_11 : decode cX5_kind 11 = .ok (.iload_n 2, 1) := by decide +kernel
theorem dX5_kind_12 : decode cX5_kind 12 = .ok (.invokevirtual 146, 3) := by decide +kernel
theorem dX5_kind_15 : decode cX5_kind 15 = .ok (.astore 4, 2) := by decide +kernel
theorem dX5_kind_17 : decode cX5_kind 17 = .ok (.aload 4, 2) := by decide +kernel
theorem dX5_kind_19 : decode cX5_kind 19 = .ok (.ifnonnull 5, 3) := by decide +kernel
theorem dX5_kind_22 : decode cX5_kind 22 = .ok (.iconst 0, 1) := by decide +kernel
theorem dX5_kind_23 : decode cX5_kind 23 = .ok (.ireturn, 1) := by decide +kernel
theorem dX5_kind_24 : decode cX5_kind 24 = .ok (.aload 4, 2) := by decide +kernel
theorem dX5_kind_26 : decode cX5_kind 26 = .ok (.getfield 159, 3) := by decide +kernel
theorem dX5_kind_29 : decode cX5_kind 29 = .ok (.ifCond .eq 7, 3) := by decide +kernel
theorem dX5_kind_32 : decode cX5_kind 32 = .ok (.iconst 1, 1) := by decide +kernel
theorem dX5_kind_33 : decode cX5_kind 33 = .ok (.goto 4, 3) := by decide +kernel
theorem dX5_kind_36 : decode cX5_kind 36 = .ok (.iconst 2, 1) := by decide +kernel
theorem dX5_kind_37 : decode cX5_kind 37 = .ok (.ireturn, 1) := by decide +kernel
theorem dX5_list_0 : decode cX5_list 0 = .ok (.aload_n 0, 1) := by decide +kernel
theorem dX5_list_1 : decode cX5_list 1 = .ok (.iload_n 1, 1) := by decide +kernel
theorem dX5_list_2 : decode cX5_list 2 = .ok (.invokevirtual 206, 3) := by decide +kernel
theorem dX5_list_5 : decode cX5_list 5 = .ok (.astore_n 3, 1) := by decide +kernel
theorem dX5_list_6 : decode cX5_list 6 = .ok (.iload_n 2, 1) := by decide +kernel
theorem dX5_list_7 : decode cX5_list 7 = .ok (.invokestatic 216, 3) := by decide +kernel
theorem dX5_list_10 : decode cX5_list 10 = .ok (.aload_n 3, 1) := by decide +kernel
theorem dX5_list_11 : decode cX5_list 11 = .ok (.iload_n 2, 1) := by decide +kernel
theorem dX5_list_12 : decode cX5_list 12 = .ok (.invokevirtual 146, 3) := by decide +kernel
theorem dX5_list_15 : decode cX5_list 15 = .ok (.astore 4, 2) := by decide +kernel
theorem dX5_list_17 : decode cX5_list 17 = .ok (.aload 4, 2) := by decide +kernel
theorem dX5_list_19 : decode cX5_list 19 = .ok (.ifnonnull 13, 3) := by decide +kernel
theorem dX5_list_22 : decode cX5_list 22 = .ok (.new 154, 3) := by decide +kernel
theorem dX5_list_25 : decode cX5_list 25 = .ok (.dup, 1) := by decide +kernel
theorem dX5_list_26 : decode cX5_list 26 = .ok (.ldc 156, 2) := by decide +kernel
theorem dX5_list_28 : decode cX5_list 28 = .ok (.invokespecial 158, 3) := by decide +kernel
theorem dX5_list_31 : decode cX5_list 31 = .ok (.athrow, 1) := by decide +kernel
theorem dX5_list_32 : decode cX5_list 32 = .ok (.aload 4, 2) := by decide +kernel
theorem dX5_list_34 : decode cX5_list 34 = .ok (.getfield 159, 3) := by decide +kernel
theorem dX5_list_37 : decode cX5_list 37 = .ok (.ifCond .ne 13, 3) := by decide +kernel
theorem dX5_list_40 : decode cX5_list 40 = .ok (.new 86, 3) := by decide +kernel
theorem dX5_list_43 : decode cX5_list 43 = .ok (.dup, 1) := by decide +kernel
theorem dX5_list_44 : decode cX5_list 44 = .ok (.ldc 219, 2) := by decide +kernel
theorem dX5_list_46 : decode cX5_list 46 = .ok (.invokespecial 90, 3) := by decide +kernel
theorem dX5_list_49 : decode cX5_list 49 = .ok (.athrow, 1) := by decide +kernel
theorem dX5_list_50 : decode cX5_list 50 = .ok (.aload_n 3, 1) := by decide +kernel
theorem dX5_list_51 : decode cX5_list 51 = .ok (.aload 4, 2) := by decide +kernel
theorem dX5_list_53 : decode cX5_list 53 = .ok (.invokevirtual 162, 3) := by decide +kernel
theorem dX5_list_56 : decode cX5_list 56 = .ok (.ireturn, 1) := by decide +kernel
theorem dX5_mark_0 : decode cX5_mark 0 = .ok (.aload_n 0, 1) := by decide +kernel
theorem dX5_mark_1 : decode cX5_mark 1 = .ok (.iload_n 1, 1) := by decide +kernel
theorem dX5_mark_2 : decode cX5_mark 2 = .ok (.invokevirtual 91, 3) := by decide +kernel
theorem dX5_mark_5 : decode cX5_mark 5 = .ok (.astore_n 2, 1) := by decide +kernel
theorem dX5_mark_6 : decode cX5_mark 6 = .ok (.aload_n 2, 1) := by decide +kernel
theorem dX5_mark_7 : decode cX5_mark 7 = .ok (.invokevirtual 221, 3) := by decide +kernel
theorem dX5_mark_10 : decode cX5_mark 10 = .ok (.ifCond .ne 13, 3) := by decide +kernel
theorem dX5_mark_13 : decode cX5_mark 13 = .ok (.new 86, 3) := by decide +kernel
theorem dX5_mark_16 : decode cX5_mark 16 = .ok (.dup, 1) := by decide +kernel
theorem dX5_mark_17 : decode cX5_mark 17 = .ok (.ldc 225, 2) := by decide +kernel
theorem dX5_mark_19 : decode cX5_mark 19 = .ok (.invokespecial 90, 3) := by decide +kernel
theorem dX5_mark_22 : decode cX5_mark 22 = .ok (.athrow, 1) := by decide +kernel
theorem dX5_mark_23 : decode cX5_mark 23 = .ok (.aload_n 2, 1) := by decide +kernel
theorem dX5_mark_24 : decode cX5_mark 24 = .ok (.getfield 227, 3) := by decide +kernel
theorem dX5_mark_27 : decode cX5_mark 27 = .ok (.ireturn, 1) := by decide +kernel
theorem dX5_back_0 : decode cX5_back 0 = .ok (.aload_n 0, 1) := by decide +kernel
theorem dX5_back_1 : decode cX5_back 1 = .ok (.iload_n 1, 1) := by decide +kernel
theorem dX5_back_2 : decode cX5_back 2 = .ok (.invokevirtual 91, 3) := by decide +kernel
theorem dX5_back_5 : decode cX5_back 5 = .ok (.astore_n 2, 1) := by decide +kernel
theorem dX5_back_6 : decode cX5_back 6 = .ok (.aload_n 2, 1) := by decide +kernel
theorem dX5_back_7 : decode cX5_back 7 = .ok (.invokevirtual 230, 3) := by decide +kernel
theorem dX5_back_10 : decode cX5_back 10 = .ok (.ifCond .ne 13, 3) := by decide +kernel
theorem dX5_back_13 : decode cX5_back 13 = .ok (.new 86, 3) := by decide +kernel
theorem dX5_back_16 : decode cX5_back 16 = .ok (.dup, 1) := by decide +kernel
theorem dX5_back_17 : decode cX5_back 17 = .ok (.ldc 233, 2) := by decide +kernel
theorem dX5_back_19 : decode cX5_back 19 = .ok (.invokespecial 90, 3) := by decide +kernel
theorem dX5_back_22 : decode cX5_back 22 = .ok (.athrow, 1) := by decide +kernel
theorem dX5_back_23 : decode cX5_back 23 = .ok (.aload_n 2, 1) := by decide +kernel
theorem dX5_back_24 : decode cX5_back 24 = .ok (.getfield 227, 3) := by decide +kernel
theorem dX5_back_27 : decode cX5_back 27 = .ok (.ireturn, 1) := by decide +kernel
theorem dX5_about_0 : decode cX5_about 0 = .ok (.aload_n 0, 1) := by decide +kernel
theorem dX5_about_1 : decode cX5_about 1 = .ok (.iload_n 1, 1) := by decide +kernel
theorem dX5_about_2 : decode cX5_about 2 = .ok (.invokevirtual 91, 3) := by decide +kernel
theorem dX5_about_5 : decode cX5_about 5 = .ok (.astore_n 3, 1) := by decide +kernel
theorem dX5_about_6 : decode cX5_about 6 = .ok (.iload_n 2, 1) := by decide +kernel
theorem dX5_about_7 : decode cX5_about 7 = .ok (.tableswitch 74 0 3 #[29, 34, 61, 69], 29) := by decide +kernel
theorem dX5_about_36 : decode cX5_about 36 = .ok (.aload_n 3, 1) := by decide +kernel
theorem dX5_about_37 : decode cX5_about 37 = .ok (.invokevirtual 95, 3) := by decide +kernel
theorem dX5_about_40 : decode cX5_about 40 = .ok (.ireturn, 1) := by decide +kernel
theorem dX5_about_41 : decode cX5_about 41 = .ok (.aload_n 0, 1) := by decide +kernel
theorem dX5_about_42 : decode cX5_about 42 = .ok (.getfield 32, 3) := by decide +kernel
theorem dX5_about_45 : decode cX5_about 45 = .ok (.aload_n 3, 1) := by decide +kernel
theorem dX5_about_46 : decode cX5_about 46 = .ok (.getfield 106, 3) := by decide +kernel
theorem dX5_about_49 : decode cX5_about 49 = .ok (.aload_n 3, 1) := by decide +kernel
theorem dX5_about_50 : decode cX5_about 50 = .ok (.getfield 109, 3) := by decide +kernel
theorem dX5_about_53 : decode cX5_about 53 = .ok (.aload_n 3, 1) := by decide +kernel
theorem dX5_about_54 : decode cX5_about 54 = .ok (.getfield 106, 3) := by decide +kernel
theorem dX5_about_57 : decode cX5_about 57 = .ok (.invokevirtual 235, 3) := by decide +kernel
theorem dX5_about_60 : decode cX5_about 60 = .ok (.aload_n 0, 1) := by decide +kernel
theorem dX5_about_61 : decode cX5_about 61 = .ok (.getfield 32, 3) := by decide +kernel
theorem dX5_about_64 : decode cX5_about 64 = .ok (.getfield 103, 3) := by decide +kernel
theorem dX5_about_67 : decode cX5_about 67 = .ok (.ireturn, 1) := by decide +kernel
theorem dX5_about_68 : decode cX5_about 68 = .ok (.aload_n 3, 1) := by decide +kernel
theorem dX5_about_69 : decode cX5_about 69 = .ok (.getfield 109, 3) := by decide +kernel
theorem dX5_about_72 : decode cX5_about 72 = .ok (.getfield 131, 3) := by decide +kernel
theorem dX5_about_75 : decode cX5_about 75 = .ok (.ireturn, 1) := by decide +kernel
theorem dX5_about_76 : decode cX5_about 76 = .ok (.aload_n 3, 1) := by decide +kernel
theorem dX5_about_77 : decode cX5_about 77 = .ok (.getfield 227, 3) := by decide +kernel
theorem dX5_about_80 : decode cX5_about 80 = .ok (.ireturn, 1) := by decide +kernel
theorem dX5_about_81 : decode cX5_about 81 = .ok (.new 175, 3) := by decide +kernel
theorem dX5_about_84 : decode cX5_about 84 = .ok (.dup, 1) := by decide +kernel
theorem dX5_about_85 : decode cX5_about 85 = .ok (.ldc 239, 2) := by decide +kernel
theorem dX5_about_87 : decode cX5_about 87 = .ok (.invokespecial 179, 3) := by decide +kernel
theorem dX5_about_90 : decode cX5_about 90 = .ok (.athrow, 1) := by decide +kernel
theorem dX5_power_0 : decode cX5_power 0 = .ok (.iload_n 1, 1) := by decide +kernel
theorem dX5_power_1 : decode cX5_power 1 = .ok (.iconst (-1), 1) := by decide +kernel
theorem dX5_power_2 : decode cX5_power 2 = .ok (.if_icmp .lt 10, 3) := by decide +kernel
theorem dX5_power_5 : decode cX5_power 5 = .ok (.iload_n 1, 1) := by decide +kernel
theorem dX5_power_6 : decode cX5_power 6 = .ok (.sipush 1000, 3) := by decide +kernel
theorem dX5_power_9 : decode cX5_power 9 = .ok (.if_icmp .le 13, 3) := by decide +kernel
theorem dX5_power_12 : decode cX5_power 12 = .ok (.new 175, 3) := by decide +kernel
theorem dX5_power_15 : decode cX5_power 15 = .ok (.dup, 1) := by decide +kernel
theorem dX5_power_16 : decode cX5_power 16 = .ok (.ldc 241, 2) := by decide +kernel
theorem dX5_power_18 : decode cX5_power 18 = .ok (.invokespecial 179, 3) := by decide +kernel
theorem dX5_power_21 : decode cX5_power 21 = .ok (.athrow, 1) := by decide +kernel
theorem dX5_power_22 : decode cX5_power 22 = .ok (.aload_n 0, 1) := by decide +kernel
theorem dX5_power_23 : decode cX5_power 23 = .ok (.getfield 39, 3) := by decide +kernel
theorem dX5_power_26 : decode cX5_power 26 = .ok (.iload_n 1, 1) := by decide +kernel
theorem dX5_power_27 : decode cX5_power 27 = .ok (.putfield 243, 3) := by decide +kernel
theorem dX5_power_30 : decode cX5_power 30 = .ok (.return_, 1) := by decide +kernel
theorem dX5_recover_0 : decode cX5_recover 0 = .ok (.aload_n 0, 1) := by decide +kernel
theorem dX5_recover_1 : decode cX5_recover 1 = .ok (.getfield 66, 3) := by decide +kernel
theorem dX5_recover_4 : decode cX5_recover 4 = .ok (.ifCond .ne 13, 3) := by decide +kernel
theorem dX5_recover_7 : decode cX5_recover 7 = .ok (.new 73, 3) := by decide +kernel
theorem dX5_recover_10 : decode cX5_recover 10 = .ok (.dup, 1) := by decide +kernel
theorem dX5_recover_11 : decode cX5_recover 11 = .ok (.ldc 246, 2) := by decide +kernel
theorem dX5_recover_13 : decode cX5_recover 13 = .ok (.invokespecial 77, 3) := by decide +kernel
theorem dX5_recover_16 : decode cX5_recover 16 = .ok (.athrow, 1) := by decide +kernel
theorem dX5_recover_17 : decode cX5_recover 17 = .ok (.aload_n 0, 1) := by decide +kernel
theorem dX5_recover_18 : decode cX5_recover 18 = .ok (.getfield 70, 3) := by decide +kernel
theorem dX5_recover_21 : decode cX5_recover 21 = .ok (.ifCond .ne 10, 3) := by decide +kernel
theorem dX5_recover_24 : decode cX5_recover 24 = .ok (.aload_n 0, 1) := by decide +kernel
theorem dX5_recover_25 : decode cX5_recover 25 = .ok (.iconst 0, 1) := by decide +kernel
theorem dX5_recover_26 : decode cX5_recover 26 = .ok (.putfield 66, 3) := by decide +kernel
theorem dX5_recover_29 : decode cX5_recover 29 = .ok (.iconst 0, 1) := by decide +kernel
theorem dX5_recover_30 : decode cX5_recover 30 = .ok (.ireturn, 1) := by decide +kernel
theorem dX5_recover_31 : decode cX5_recover 31 = .ok (.aload_n 0, 1) := by decide +kernel
theorem dX5_recover_32 : decode cX5_recover 32 = .ok (.invokevirtual 248, 3) := by decide +kernel
theorem dX5_recover_35 : decode cX5_recover 35 = .ok (.ifCond .ne 6, 3) := by decide +kernel
theorem dX5_recover_38 : decode cX5_recover 38 = .ok (.bipush (-4), 2) := by decide +kernel
theorem dX5_recover_40 : decode cX5_recover 40 = .ok (.ireturn, 1) := by decide +kernel
theorem dX5_recover_41 : decode cX5_recover 41 = .ok (.aload_n 0, 1) := by decide +kernel
theorem dX5_recover_42 : decode cX5_recover 42 = .ok (.iconst 0, 1) := by decide +kernel
theorem dX5_recover_43 : decode cX5_recover 43 = .ok (.putfield 66, 3) := by decide +kernel
theorem dX5_recover_46 : decode cX5_recover 46 = .ok (.aload_n 0, 1) := by decide +kernel
theorem dX5_recover_47 : decode cX5_recover 47 = .ok (.getfield 63, 3) := by decide +kernel
theorem dX5_recover_50 : decode cX5_recover 50 = .ok (.iconst 1, 1) := by decide +kernel
theorem dX5_recover_51 : decode cX5_recover 51 = .ok (.iadd, 1) := by decide +kernel
theorem dX5_recover_52 : decode cX5_recover 52 = .ok (.ireturn, 1) := by decide +kernel
theorem dX5_count_0 : decode cX5_count 0 = .ok (.iload_n 1, 1) := by decide +kernel
theorem dX5_count_1 : decode cX5_count 1 = .ok (.tableswitch 86 0 5 #[39, 44, 52, 60, 65, 78], 39) := by decide +kernel
theorem dX5_count_40 : decode cX5_count 40 = .ok (.aload_n 0, 1) := by decide +kernel
theorem dX5_count_41 : decode cX5_count 41 = .ok (.getfield 60, 3) := by decide +kernel
theorem dX5_count_44 : decode cX5_count 44 = .ok (.ireturn, 1) := by decide +kernel
theorem dX5_count_45 : decode cX5_count 45 = .ok (.aload_n 0, 1) := by decide +kernel
theorem dX5_count_46 : decode cX5_count 46 = .ok (.getfield 10, 3) := by decide +kernel
theorem dX5_count_49 : decode cX5_count 49 = .ok (.getfield 131, 3) := by decide +kernel
theorem dX5_count_52 : decode cX5_count 52 = .ok (.ireturn, 1) := by decide +kernel
theorem dX5_count_53 : decode cX5_count 53 = .ok (.aload_n 0, 1) := by decide +kernel
theorem dX5_count_54 : decode cX5_count 54 = .ok (.getfield 10, 3) := by decide +kernel
theorem dX5_count_57 : decode cX5_count 57 = .ok (.invokevirtual 251, 3) := by decide +kernel
theorem dX5_count_60 : decode cX5_count 60 = .ok (.ireturn, 1) := by decide +kernel
theorem dX5_count_61 : decode cX5_count 61 = .ok (.aload_n 0, 1) := by decide +kernel
theorem dX5_count_62 : decode cX5_count 62 = .ok (.invokevirtual 254, 3) := by decide +kernel
theorem dX5_count_65 : decode cX5_count 65 = .ok (.ireturn, 1) := by decide +kernel
theorem dX5_count_66 : decode cX5_count 66 = .ok (.aload_n 0, 1) := by decide +kernel
theorem dX5_count_67 : decode cX5_count 67 = .ok (.getfield 66, 3) := by decide +kernel
theorem dX5_count_70 : decode cX5_count 70 = .ok (.ifCond .eq 7, 3) := by decide +kernel
theorem dX5_count_73 : decode cX5_count 73 = .ok (.iconst 1, 1) := by decide +kernel
theorem dX5_count_74 : decode cX5_count 74 = .ok (.goto 4, 3) := by decide +kernel
theorem dX5_count_77 : decode cX5_count 77 = .ok (.iconst 0, 1) := by decide +kernel
theorem dX5_count_78 : decode cX5_count 78 = .ok (.ireturn, 1) := by decide +kernel
theorem dX5_count_79 : decode cX5_count 79 = .ok (.aload_n 0, 1) := by decide +kernel
theorem dX5_count_80 : decode cX5_count 80 = .ok (.getfield 39, 3) := by decide +kernel
theorem dX5_count_83 : decode cX5_count 83 = .ok (.getfield 257, 3) := by decide +kernel
theorem dX5_count_86 : decode cX5_count 86 = .ok (.ireturn, 1) := by decide +kernel
theorem dX5_count_87 : decode cX5_count 87 = .ok (.new 175, 3) := by decide +kernel
theorem dX5_count_90 : decode cX5_count 90 = .ok (.dup, 1) := by decide +kernel
theorem dX5_count_91 : decode cX5_count 91 = .ok (.ldc 239, 2) := by decide +kernel
theorem dX5_count_93 : decode cX5_count 93 = .ok (.invokespecial 179, 3) := by decide +kernel
theorem dX5_count_96 : decode cX5_count 96 = .ok (.athrow, 1) := by decide +kernel
theorem dX5_opened_0 : decode cX5_opened 0 = .ok (.iload_n 1, 1) := by decide +kernel
theorem dX5_opened_1 : decode cX5_opened 1 = .ok (.ifCond .lt 21, 3) := by decide +kernel
theorem dX5_opened_4 : decode cX5_opened 4 = .ok (.iload_n 1, 1) := by decide +kernel
theorem dX5_opened_5 : decode cX5_opened 5 = .ok (.aload_n 0, 1) := by decide +kernel
theorem dX5_opened_6 : decode cX5_opened 6 = .ok (.getfield 45, 3) := by decide +kernel
theorem dX5_opened_9 : decode cX5_opened 9 = .ok (.arraylength, 1) := by decide +kernel
theorem dX5_opened_10 : decode cX5_opened 10 = .ok (.if_icmp .ge 12, 3) := by decide +kernel
theorem dX5_opened_13 : decode cX5_opened 13 = .ok (.aload_n 0, 1) := by decide +kernel
theorem dX5_opened_14 : decode cX5_opened 14 = .ok (.getfield 45, 3) := by decide +kernel
theorem dX5_opened_17 : decode cX5_opened 17 = .ok (.iload_n 1, 1) := by decide +kernel
theorem dX5_opened_18 : decode cX5_opened 18 = .ok (.aaload, 1) := by decide +kernel
theorem dX5_opened_19 : decode cX5_opened 19 = .ok (.goto 4, 3) := by decide +kernel
theorem dX5_opened_22 : decode cX5_opened 22 = .ok (.aconst_null, 1) := by decide +kernel
theorem dX5_opened_23 : decode cX5_opened 23 = .ok (.astore_n 2, 1) := by decide +kernel
theorem dX5_opened_24 : decode cX5_opened 24 = .ok (.aload_n 0, 1) := by decide +kernel
theorem dX5_opened_25 : decode cX5_opened 25 = .ok (.getfield 66, 3) := by decide +kernel
theorem dX5_opened_28 : decode cX5_opened 28 = .ok (.ifCond .ne 14, 3) := by decide +kernel
theorem dX5_opened_31 : decode cX5_opened 31 = .ok (.aload_n 2, 1) := by decide +kernel
theorem dX5_opened_32 : decode cX5_opened 32 = .ok (.ifnull 10, 3) := by decide +kernel
theorem dX5_opened_35 : decode cX5_opened 35 = .ok (.aload_n 2, 1) := by decide +kernel
theorem dX5_opened_36 : decode cX5_opened 36 = .ok (.getfield 80, 3) := by decide +kernel
theorem dX5_opened_39 : decode cX5_opened 39 = .ok (.ifCond .ne 14, 3) := by decide +kernel
theorem dX5_opened_42 : decode cX5_opened 42 = .ok (.new 73, 3) := by decide +kernel
theorem dX5_opened_45 : decode cX5_opened 45 = .ok (.dup, 1) := by decide +kernel
theorem dX5_opened_46 : decode cX5_opened 46 = .ok (.ldc_w 259, 3) := by decide +kernel
theorem dX5_opened_49 : decode cX5_opened 49 = .ok (.invokespecial 77, 3) := by decide +kernel
theorem dX5_opened_52 : decode cX5_opened 52 = .ok (.athrow, 1) := by decide +kernel
theorem dX5_opened_53 : decode cX5_opened 53 = .ok (.aload_n 2, 1) := by decide +kernel
theorem dX5_opened_54 : decode cX5_opened 54 = .ok (.areturn, 1) := by decide +kernel
theorem dX5_openedOrNone_0 : decode cX5_openedOrNone 0 = .ok (.iload_n 1, 1) := by decide +kernel
theorem dX5_openedOrNone_1 : decode cX5_openedOrNone 1 = .ok (.iconst (-1), 1) := by decide +kernel
theorem dX5_openedOrNone_2 : decode cX5_openedOrNone 2 = .ok (.if_icmp .ne 17, 3) := by decide +kernel
theorem dX5_openedOrNone_5 : decode cX5_openedOrNone 5 = .ok (.aload_n 0, 1) := by decide +kernel
theorem dX5_openedOrNone_6 : decode cX5_openedOrNone 6 = .ok (.getfield 66, 3) := by decide +kernel
theorem dX5_openedOrNone_9 : decode cX5_openedOrNone 9 = .ok (.ifCond .ne 10, 3) := by decide +kernel
theorem dX5_openedOrNone_12 : decode cX5_openedOrNone 12 = .ok (.aload_n 0, 1) := by decide +kernel
theorem dX5_openedOrNone_13 : decode cX5_openedOrNone 13 = .ok (.getfield 52, 3) := by decide +kernel
theorem dX5_openedOrNone_16 : decode cX5_openedOrNone 16 = .ok (.goto 8, 3) := by decide +kernel
theorem dX5_openedOrNone_19 : decode cX5_openedOrNone 19 = .ok (.aload_n 0, 1) := by decide +kernel
theorem dX5_openedOrNone_20 : decode cX5_openedOrNone 20 = .ok (.iload_n 1, 1) := by decide +kernel
theorem dX5_openedOrNone_21 : decode cX5_openedOrNone 21 = .ok (.invokevirtual 91, 3) := by decide +kernel
theorem dX5_openedOrNone_24 : decode cX5_openedOrNone 24 = .ok (.areturn, 1) := by decide +kernel
theorem dX5_needPath_0 : decode cX5_needPath 0 = .ok (.iload_n 0, 1) := by decide +kernel
theorem dX5_needPath_1 : decode cX5_needPath 1 = .ok (.invokestatic 261, 3) := by decide +kernel
theorem dX5_needPath_4 : decode cX5_needPath 4 = .ok (.ifCond .ne 14, 3) := by decide +kernel
theorem dX5_needPath_7 : decode cX5_needPath 7 = .ok (.new 175, 3) := by decide +kernel
theorem dX5_needPath_10 : decode cX5_needPath 10 = .ok (.dup, 1) := by decide +kernel
theorem dX5_needPath_11 : decode cX5_needPath 11 = .ok (.ldc_w 264, 3) := by decide +kernel
theorem dX5_needPath_14 : decode cX5_needPath 14 = .ok (.invokespecial 179, 3) := by decide +kernel
theorem dX5_needPath_17 : decode cX5_needPath 17 = .ok (.athrow, 1) := by decide +kernel
theorem dX5_needPath_18 : decode cX5_needPath 18 = .ok (.return_, 1) := by decide +kernel
theorem dX5_needPathBelowRoot_0 : decode cX5_needPathBelowRoot 0 = .ok (.iload_n 0, 1) := by decide +kernel
theorem dX5_needPathBelowRoot_1 : decode cX5_needPathBelowRoot 1 = .ok (.ifCond .eq 10, 3) := by decide +kernel
theorem dX5_needPathBelowRoot_4 : decode cX5_needPathBelowRoot 4 = .ok (.iload_n 0, 1) := by decide +kernel
theorem dX5_needPathBelowRoot_5 : decode cX5_needPathBelowRoot 5 = .ok (.invokestatic 261, 3) := by decide +kernel
theorem dX5_needPathBelowRoot_8 : decode cX5_needPathBelowRoot 8 = .ok (.ifCond .ne 14, 3) := by decide +kernel
theorem dX5_needPathBelowRoot_11 : decode cX5_needPathBelowRoot 11 = .ok (.new 175, 3) := by decide +kernel
theorem dX5_needPathBelowRoot_14 : decode cX5_needPathBelowRoot 14 = .ok (.dup, 1) := by decide +kernel
theorem dX5_needPathBelowRoot_15 : decode cX5_needPathBelowRoot 15 = .ok (.ldc_w 266, 3) := by decide +kernel
theorem dX5_needPathBelowRoot_18 : decode cX5_needPathBelowRoot 18 = .ok (.invokespecial 179, 3) := by decide +kernel
theorem dX5_needPathBelowRoot_21 : decode cX5_needPathBelowRoot 21 = .ok (.athrow, 1) := by decide +kernel
theorem dX5_needPathBelowRoot_22 : decode cX5_needPathBelowRoot 22 = .ok (.return_, 1) := by decide +kernel
theorem dX5_isPath_0 : decode cX5_isPath 0 = .ok (.iload_n 0, 1) := by decide +kernel
theorem dX5_isPath_1 : decode cX5_isPath 1 = .ok (.ifCond .lt 10, 3) := by decide +kernel
theorem dX5_isPath_4 : decode cX5_isPath 4 = .ok (.iload_n 0, 1) := by decide +kernel
theorem dX5_isPath_5 : decode cX5_isPath 5 = .ok (.ldc_w 268, 3) := by decide +kernel
theorem dX5_isPath_8 : decode cX5_isPath 8 = .ok (.if_icmp .le 5, 3) := by decide +kernel
theorem dX5_isPath_11 : decode cX5_isPath 11 = .ok (.iconst 0, 1) := by decide +kernel
theorem dX5_isPath_12 : decode cX5_isPath 12 = .ok (.ireturn, 1) := by decide +kernel
theorem dX5_isPath_13 : decode cX5_isPath 13 = .ok (.iconst 0, 1) := by decide +kernel
theorem dX5_isPath_14 : decode cX5_isPath 14 = .ok (.istore_n 1, 1) := by decide +kernel
theorem dX5_isPath_15 : decode cX5_isPath 15 = .ok (.iload_n 1, 1) := by decide +kernel
theorem dX5_isPath_16 : decode cX5_isPath 16 = .ok (.bipush 24, 2) := by decide +kernel
theorem dX5_isPath_18 : decode cX5_isPath 18 = .ok (.if_icmp .gt 26, 3) := by decide +kernel
theorem dX5_isPath_21 : decode cX5_isPath 21 = .ok (.iload_n 0, 1) := by decide +kernel
theorem dX5_isPath_22 : decode cX5_isPath 22 = .ok (.iload_n 1, 1) := by decide +kernel
theorem dX5_isPath_23 : decode cX5_isPath 23 = .ok (.ishr, 1) := by decide +kernel
theorem dX5_isPath_24 : decode cX5_isPath 24 = .ok (.istore_n 2, 1) := by decide +kernel
theorem dX5_isPath_25 : decode cX5_isPath 25 = .ok (.iload_n 2, 1) := by decide +kernel
theorem dX5_isPath_26 : decode cX5_isPath 26 = .ok (.ifCond .eq 12, 3) := by decide +kernel
theorem dX5_isPath_29 : decode cX5_isPath 29 = .ok (.iload_n 2, 1) := by decide +kernel
theorem dX5_isPath_30 : decode cX5_isPath 30 = .ok (.bipush 15, 2) := by decide +kernel
theorem dX5_isPath_32 : decode cX5_isPath 32 = .ok (.iand, 1) := by decide +kernel
theorem dX5_isPath_33 : decode cX5_isPath 33 = .ok (.ifCond .ne 5, 3) := by decide +kernel
theorem dX5_isPath_36 : decode cX5_isPath 36 = .ok (.iconst 0, 1) := by decide +kernel
theorem dX5_isPath_37 : decode cX5_isPath 37 = .ok (.ireturn, 1) := by decide +kernel
theorem dX5_isPath_38 : decode cX5_isPath 38 = .ok (.iinc 1 4, 3) := by decide +kernel
theorem dX5_isPath_41 : decode cX5_isPath 41 = .ok (.goto (-26), 3) := by decide +kernel
theorem dX5_isPath_44 : decode cX5_isPath 44 = .ok (.iconst 1, 1) := by decide +kernel
theorem dX5_isPath_45 : decode cX5_isPath 45 = .ok (.ireturn, 1) := by decide +kernel
theorem dX5_isOrGoesThrough_0 : decode cX5_isOrGoesThrough 0 = .ok (.iconst 0, 1) := by decide +kernel
theorem dX5_isOrGoesThrough_1 : decode cX5_isOrGoesThrough 1 = .ok (.istore_n 2, 1) := by decide +kernel
theorem dX5_isOrGoesThrough_2 : decode cX5_isOrGoesThrough 2 = .ok (.iload_n 2, 1) := by decide +kernel
theorem dX5_isOrGoesThrough_3 : decode cX5_isOrGoesThrough 3 = .ok (.bipush 24, 2) := by decide +kernel
theorem dX5_isOrGoesThrough_5 : decode cX5_isOrGoesThrough 5 = .ok (.if_icmp .gt 18, 3) := by decide +kernel
theorem dX5_isOrGoesThrough_8 : decode cX5_isOrGoesThrough 8 = .ok (.iload_n 0, 1) := by decide +kernel
theorem dX5_isOrGoesThrough_9 : decode cX5_isOrGoesThrough 9 = .ok (.iload_n 2, 1) := by decide +kernel
theorem dX5_isOrGoesThrough_10 : decode cX5_isOrGoesThrough 10 = .ok (.ishr, 1) := by decide +kernel
theorem dX5_isOrGoesThrough_11 : decode cX5_isOrGoesThrough 11 = .ok (.iload_n 1, 1) := by decide +kernel
theorem dX5_isOrGoesThrough_12 : decode cX5_isOrGoesThrough 12 = .ok (.if_icmp .ne 5, 3) := by decide +kernel
theorem dX5_isOrGoesThrough_15 : decode cX5_isOrGoesThrough 15 = .ok (.iconst 1, 1) := by decide +kernel
theorem dX5_isOrGoesThrough_16 : decode cX5_isOrGoesThrough 16 = .ok (.ireturn, 1) := by decide +kernel
theorem dX5_isOrGoesThrough_17 : decode cX5_isOrGoesThrough 17 = .ok (.iinc 2 4, 3) := by decide +kernel
theorem dX5_isOrGoesThrough_20 : decode cX5_isOrGoesThrough 20 = .ok (.goto (-18), 3) := by decide +kernel
theorem dX5_isOrGoesThrough_23 : decode cX5_isOrGoesThrough 23 = .ok (.iconst 0, 1) := by decide +kernel
theorem dX5_isOrGoesThrough_24 : decode cX5_isOrGoesThrough 24 = .ok (.ireturn, 1) := by decide +kernel
theorem dX5_parentWithRoom_0 : decode cX5_parentWithRoom 0 = .ok (.aload_n 0, 1) := by decide +kernel
theorem dX5_parentWithRoom_1 : decode cX5_parentWithRoom 1 = .ok (.iload_n 1, 1) := by decide +kernel
theorem dX5_parentWithRoom_2 : decode cX5_parentWithRoom 2 = .ok (.iconst 4, 1) := by decide +kernel
theorem dX5_parentWithRoom_3 : decode cX5_parentWithRoom 3 = .ok (.ishr, 1) := by decide +kernel
theorem dX5_parentWithRoom_4 : decode cX5_parentWithRoom 4 = .ok (.invokevirtual 146, 3) := by decide +kernel
theorem dX5_parentWithRoom_7 : decode cX5_parentWithRoom 7 = .ok (.astore_n 2, 1) := by decide +kernel
theorem dX5_parentWithRoom_8 : decode cX5_parentWithRoom 8 = .ok (.aload_n 2, 1) := by decide +kernel
theorem dX5_parentWithRoom_9 : decode cX5_parentWithRoom 9 = .ok (.ifnonnull 14, 3) := by decide +kernel
theorem dX5_parentWithRoom_12 : decode cX5_parentWithRoom 12 = .ok (.new 154, 3) := by decide +kernel
theorem dX5_parentWithRoom_15 : decode cX5_parentWithRoom 15 = .ok (.dup, 1) := by decide +kernel
theorem dX5_parentWithRoom_16 : decode cX5_parentWithRoom 16 = .ok (.ldc_w 269, 3) := by decide +kernel
theorem dX5_parentWithRoom_19 : decode cX5_parentWithRoom 19 = .ok (.invokespecial 158, 3) := by decide +kernel
theorem dX5_parentWithRoom_22 : decode cX5_parentWithRoom 22 = .ok (.athrow, 1) := by decide +kernel
theorem dX5_parentWithRoom_23 : decode cX5_parentWithRoom 23 = .ok (.aload_n 2, 1) := by decide +kernel
theorem dX5_parentWithRoom_24 : decode cX5_parentWithRoom 24 = .ok (.getfield 159, 3) := by decide +kernel
theorem dX5_parentWithRoom_27 : decode cX5_parentWithRoom 27 = .ok (.ifCond .ne 14, 3) := by decide +kernel
theorem dX5_parentWithRoom_30 : decode cX5_parentWithRoom 30 = .ok (.new 86, 3) := by decide +kernel
theorem dX5_parentWithRoom_33 : decode cX5_parentWithRoom 33 = .ok (.dup, 1) := by decide +kernel
theorem dX5_parentWithRoom_34 : decode cX5_parentWithRoom 34 = .ok (.ldc_w 271, 3) := by decide +kernel
theorem dX5_parentWithRoom_37 : decode cX5_parentWithRoom 37 = .ok (.invokespecial 90, 3) := by decide +kernel
theorem dX5_parentWithRoom_40 : decode cX5_parentWithRoom 40 = .ok (.athrow, 1) := by decide +kernel
theorem dX5_parentWithRoom_41 : decode cX5_parentWithRoom 41 = .ok (.aload_n 0, 1) := by decide +kernel
theorem dX5_parentWithRoom_42 : decode cX5_parentWithRoom 42 = .ok (.aload_n 2, 1) := by decide +kernel
theorem dX5_parentWithRoom_43 : decode cX5_parentWithRoom 43 = .ok (.iload_n 1, 1) := by decide +kernel
theorem dX5_parentWithRoom_44 : decode cX5_parentWithRoom 44 = .ok (.bipush 15, 2) := by decide +kernel
theorem dX5_parentWithRoom_46 : decode cX5_parentWithRoom 46 = .ok (.iand, 1) := by decide +kernel
theorem dX5_parentWithRoom_47 : decode cX5_parentWithRoom 47 = .ok (.invokevirtual 150, 3) := by decide +kernel
theorem dX5_parentWithRoom_50 : decode cX5_parentWithRoom 50 = .ok (.ifnull 14, 3) := by decide +kernel
theorem dX5_parentWithRoom_53 : decode cX5_parentWithRoom 53 = .ok (.new 86, 3) := by decide +kernel
theorem dX5_parentWithRoom_56 : decode cX5_parentWithRoom 56 = .ok (.dup, 1) := by decide +kernel
theorem dX5_parentWithRoom_57 : decode cX5_parentWithRoom 57 = .ok (.ldc_w 273, 3) := by decide +kernel
theorem dX5_parentWithRoom_60 : decode cX5_parentWithRoom 60 = .ok (.invokespecial 90, 3) := by decide +kernel
theorem dX5_parentWithRoom_63 : decode cX5_parentWithRoom 63 = .ok (.athrow, 1) := by decide +kernel
theorem dX5_parentWithRoom_64 : decode cX5_parentWithRoom 64 = .ok (.aload_n 2, 1) := by decide +kernel
theorem dX5_parentWithRoom_65 : decode cX5_parentWithRoom 65 = .ok (.areturn, 1) := by decide +kernel
theorem dX5_measuredFile_0 : decode cX5_measuredFile 0 = .ok (.iload_n 1, 1) := by decide +kernel
theorem dX5_measuredFile_1 : decode cX5_measuredFile 1 = .ok (.invokestatic 216, 3) := by decide +kernel
theorem dX5_measuredFile_4 : decode cX5_measuredFile 4 = .ok (.aload_n 0, 1) := by decide +kernel
theorem dX5_measuredFile_5 : decode cX5_measuredFile 5 = .ok (.iload_n 1, 1) := by decide +kernel
theorem dX5_measuredFile_6 : decode cX5_measuredFile 6 = .ok (.invokevirtual 146, 3) := by decide +kernel
theorem dX5_measuredFile_9 : decode cX5_measuredFile 9 = .ok (.astore_n 2, 1) := by decide +kernel
theorem dX5_measuredFile_10 : decode cX5_measuredFile 10 = .ok (.aload_n 2, 1) := by decide +kernel
theorem dX5_measuredFile_11 : decode cX5_measuredFile 11 = .ok (.ifnonnull 13, 3) := by decide +kernel
theorem dX5_measuredFile_14 : decode cX5_measuredFile 14 = .ok (.new 154, 3) := by decide +kernel
theorem dX5_measuredFile_17 : decode cX5_measuredFile 17 = .ok (.dup, 1) := by decide +kernel
theorem dX5_measuredFile_18 : decode cX5_measuredFile 18 = .ok (.ldc 156, 2) := by decide +kernel
theorem dX5_measuredFile_20 : decode cX5_measuredFile 20 = .ok (.invokespecial 158, 3) := by decide +kernel
theorem dX5_measuredFile_23 : decode cX5_measuredFile 23 = .ok (.athrow, 1) := by decide +kernel
theorem dX5_measuredFile_24 : decode cX5_measuredFile 24 = .ok (.aload_n 2, 1) := by decide +kernel
theorem dX5_measuredFile_25 : decode cX5_measuredFile 25 = .ok (.getfield 159, 3) := by decide +kernel
theorem dX5_measuredFile_28 : decode cX5_measuredFile 28 = .ok (.ifCond .eq 14, 3) := by decide +kernel
theorem dX5_measuredFile_31 : decode cX5_measuredFile 31 = .ok (.new 86, 3) := by decide +kernel
theorem dX5_measuredFile_34 : decode cX5_measuredFile 34 = .ok (.dup, 1) := by decide +kernel
theorem dX5_measuredFile_35 : decode cX5_measuredFile 35 = .ok (.ldc_w 275, 3) := by decide +kernel
theorem dX5_measuredFile_38 : decode cX5_measuredFile 38 = .ok (.invokespecial 90, 3) := by decide +kernel
theorem dX5_measuredFile_41 : decode cX5_measuredFile 41 = .ok (.athrow, 1) := by decide +kernel
theorem dX5_measuredFile_42 : decode cX5_measuredFile 42 = .ok (.aload_n 0, 1) := by decide +kernel
theorem dX5_measuredFile_43 : decode cX5_measuredFile 43 = .ok (.aload_n 2, 1) := by decide +kernel
theorem dX5_measuredFile_44 : decode cX5_measuredFile 44 = .ok (.invokevirtual 277, 3) := by decide +kernel
theorem dX5_measuredFile_47 : decode cX5_measuredFile 47 = .ok (.aload_n 2, 1) := by decide +kernel
theorem dX5_measuredFile_48 : decode cX5_measuredFile 48 = .ok (.areturn, 1) := by decide +kernel
theorem dX5_needWord_0 : decode cX5_needWord 0 = .ok (.iload_n 1, 1) := by decide +kernel
theorem dX5_needWord_1 : decode cX5_needWord 1 = .ok (.ifCond .lt 11, 3) := by decide +kernel
theorem dX5_needWord_4 : decode cX5_needWord 4 = .ok (.iload_n 1, 1) := by decide +kernel
theorem dX5_needWord_5 : decode cX5_needWord 5 = .ok (.aload_n 0, 1) := by decide +kernel
theorem dX5_needWord_6 : decode cX5_needWord 6 = .ok (.getfield 189, 3) := by decide +kernel
theorem dX5_needWord_9 : decode cX5_needWord 9 = .ok (.if_icmp .lt 14, 3) := by decide +kernel
theorem dX5_needWord_12 : decode cX5_needWord 12 = .ok (.new 198, 3) := by decide +kernel
theorem dX5_needWord_15 : decode cX5_needWord 15 = .ok (.dup, 1) := by decide +kernel
theorem dX5_needWord_16 : decode cX5_needWord 16 = .ok (.ldc_w 280, 3) := by decide +kernel
theorem dX5_needWord_19 : decode cX5_needWord 19 = .ok (.invokespecial 202, 3) := by decide +kernel
theorem dX5_needWord_22 : decode cX5_needWord 22 = .ok (.athrow, 1) := by decide +kernel
theorem dX5_needWord_23 : decode cX5_needWord 23 = .ok (.return_, 1) := by decide +kernel
theorem dX5_judged_0 : decode cX5_judged 0 = .ok (.aload_n 1, 1) := by decide +kernel
theorem dX5_judged_1 : decode cX5_judged 1 = .ok (.aload_n 0, 1) := by decide +kernel
theorem dX5_judged_2 : decode cX5_judged 2 = .ok (.getfield 10, 3) := by decide +kernel
theorem dX5_judged_5 : decode cX5_judged 5 = .ok (.invokevirtual 282, 3) := by decide +kernel
theorem dX5_judged_8 : decode cX5_judged 8 = .ok (.ifCond .eq 6, 3) := by decide +kernel
theorem dX5_judged_11 : decode cX5_judged 11 = .ok (.bipush (-2), 2) := by decide +kernel
theorem dX5_judged_13 : decode cX5_judged 13 = .ok (.ireturn, 1) := by decide +kernel
theorem dX5_judged_14 : decode cX5_judged 14 = .ok (.aload_n 0, 1) := by decide +kernel
theorem dX5_judged_15 : decode cX5_judged 15 = .ok (.getfield 32, 3) := by decide +kernel
theorem dX5_judged_18 : decode cX5_judged 18 = .ok (.aload_n 1, 1) := by decide +kernel
theorem dX5_judged_19 : decode cX5_judged 19 = .ok (.getfield 106, 3) := by decide +kernel
theorem dX5_judged_22 : decode cX5_judged 22 = .ok (.aload_n 1, 1) := by decide +kernel
theorem dX5_judged_23 : decode cX5_judged 23 = .ok (.getfield 109, 3) := by decide +kernel
theorem dX5_judged_26 : decode cX5_judged 26 = .ok (.aload_n 0, 1) := by decide +kernel
theorem dX5_judged_27 : decode cX5_judged 27 = .ok (.getfield 10, 3) := by decide +kernel
theorem dX5_judged_30 : decode cX5_judged 30 = .ok (.invokevirtual 235, 3) := by decide +kernel
theorem dX5_judged_33 : decode cX5_judged 33 = .ok (.aload_n 0, 1) := by decide +kernel
theorem dX5_judged_34 : decode cX5_judged 34 = .ok (.getfield 32, 3) := by decide +kernel
theorem dX5_judged_37 : decode cX5_judged 37 = .ok (.invokevirtual 286, 3) := by decide +kernel
theorem dX5_judged_40 : decode cX5_judged 40 = .ok (.ifCond .eq 8, 3) := by decide +kernel
theorem dX5_judged_43 : decode cX5_judged 43 = .ok (.bipush (-3), 2) := by decide +kernel
theorem dX5_judged_45 : decode cX5_judged 45 = .ok (.goto 4, 3) := by decide +kernel
theorem dX5_judged_48 : decode cX5_judged 48 = .ok (.iconst 0, 1) := by decide +kernel
theorem dX5_judged_49 : decode cX5_judged 49 = .ok (.ireturn, 1) := by decide +kernel
theorem dX5_written_0 : decode cX5_written 0 = .ok (.iload_n 1, 1) := by decide +kernel
theorem dX5_written_1 : decode cX5_written 1 = .ok (.iconst 4, 1) := by decide +kernel
theorem dX5_written_2 : decode cX5_written 2 = .ok (.iadd, 1) := by decide +kernel
theorem dX5_written_3 : decode cX5_written 3 = .ok (.iconst 1, 1) := by decide +kernel
theorem dX5_written_4 : decode cX5_written 4 = .ok (.isub, 1) := by decide +kernel
theorem dX5_written_5 : decode cX5_written 5 = .ok (.iconst 4, 1) := by decide +kernel
theorem dX5_written_6 : decode cX5_written 6 = .ok (.idiv, 1) := by decide +kernel
theorem dX5_written_7 : decode cX5_written 7 = .ok (.istore_n 2, 1) := by decide +kernel
theorem dX5_written_8 : decode cX5_written 8 = .ok (.aload_n 0, 1) := by decide +kernel
theorem dX5_written_9 : decode cX5_written 9 = .ok (.getfield 39, 3) := by decide +kernel
theorem dX5_written_12 : decode cX5_written 12 = .ok (.iload_n 2, 1) := by decide +kernel
theorem dX5_written_13 : decode cX5_written 13 = .ok (.iconst 1, 1) := by decide +kernel
theorem dX5_written_14 : decode cX5_written 14 = .ok (.iadd, 1) := by decide +kernel
theorem dX5_written_15 : decode cX5_written 15 = .ok (.invokevirtual 289, 3) := by decide +kernel
theorem dX5_written_18 : decode cX5_written 18 = .ok (.ifCond .ne 9, 3) := by decide +kernel
theorem dX5_written_21 : decode cX5_written 21 = .ok (.aload_n 0, 1) := by decide +kernel
theorem dX5_written_22 : decode cX5_written 22 = .ok (.invokevirtual 291, 3) := by decide +kernel
theorem dX5_written_25 : decode cX5_written 25 = .ok (.iconst 0, 1) := by decide +kernel
theorem dX5_written_26 : decode cX5_written 26 = .ok (.ireturn, 1) := by decide +kernel
theorem dX5_written_27 : decode cX5_written 27 = .ok (.aload_n 0, 1) := by decide +kernel
theorem dX5_written_28 : decode cX5_written 28 = .ok (.dup, 1) := by decide +kernel
theorem dX5_written_29 : decode cX5_written 29 = .ok (.getfield 60, 3) := by decide +kernel
theorem dX5_written_32 : decode cX5_written 32 = .ok (.iconst 1, 1) := by decide +kernel
theorem dX5_written_33 : decode cX5_written 33 = .ok (.iadd, 1) := by decide +kernel
theorem dX5_written_34 : decode cX5_written 34 = .ok (.putfield 60, 3) := by decide +kernel
theorem dX5_written_37 : decode cX5_written 37 = .ok (.aload_n 0, 1) := by decide +kernel
theorem dX5_written_38 : decode cX5_written 38 = .ok (.iconst 1, 1) := by decide +kernel
theorem dX5_written_39 : decode cX5_written 39 = .ok (.putfield 70, 3) := by decide +kernel
theorem dX5_written_42 : decode cX5_written 42 = .ok (.aload_n 0, 1) := by decide +kernel
theorem dX5_written_43 : decode cX5_written 43 = .ok (.invokevirtual 248, 3) := by decide +kernel
