theorem dX5_init_0 : decode cX5_init 0 = .ok (.aload_n 0, 1) := by decide +kernel
theorem dX5_init_1 : decode cX5_init 1 = .ok (.invokespecial 1, 3) := by decide +kernel
theorem dX5_init_4 : decode cX5_init 4 = .ok (.aload_n 0, 1) := by decide +kernel
theorem dX5_init_5 : decode cX5_init 5 = .ok (.new 7, 3) := by decide +kernel
theorem dX5_init_8 : decode cX5_init 8 = .ok (.dup, 1) := by decide +kernel
theorem dX5_init_9 : decode cX5_init 9 = .ok (.invokespecial 9, 3) := by decide +kernel
theorem dX5_init_12 : decode cX5_init 12 = .ok (.putfield 10, 3) := by decide +kernel
theorem dX5_init_15 : decode cX5_init 15 = .ok (.aload_n 0, 1) := by decide +kernel
theorem dX5_init_16 : decode cX5_init 16 = .ok (.getfield 10, 3) := by decide +kernel
theorem dX5_init_19 : decode cX5_init 19 = .ok (.iconst 1, 1) := by decide +kernel
theorem dX5_init_20 : decode cX5_init 20 = .ok (.iconst 1, 1) := by decide +kernel
theorem dX5_init_21 : decode cX5_init 21 = .ok (.invokestatic 16, 3) := by decide +kernel
theorem dX5_init_24 : decode cX5_init 24 = .ok (.invokevirtual 22, 3) := by decide +kernel
theorem dX5_init_27 : decode cX5_init 27 = .ok (.aload_n 0, 1) := by decide +kernel
theorem dX5_init_28 : decode cX5_init 28 = .ok (.new 7, 3) := by decide +kernel
theorem dX5_init_31 : decode cX5_init 31 = .ok (.dup, 1) := by decide +kernel
theorem dX5_init_32 : decode cX5_init 32 = .ok (.invokespecial 9, 3) := by decide +kernel
theorem dX5_init_35 : decode cX5_init 35 = .ok (.putfield 26, 3) := by decide +kernel
theorem dX5_init_38 : decode cX5_init 38 = .ok (.aload_n 0, 1) := by decide +kernel
theorem dX5_init_39 : decode cX5_init 39 = .ok (.new 29, 3) := by decide +kernel
theorem dX5_init_42 : decode cX5_init 42 = .ok (.dup, 1) := by decide +kernel
theorem dX5_init_43 : decode cX5_init 43 = .ok (.invokespecial 31, 3) := by decide +kernel
theorem dX5_init_46 : decode cX5_init 46 = .ok (.putfield 32, 3) := by decide +kernel
theorem dX5_init_49 : decode cX5_init 49 = .ok (.aload_n 0, 1) := by decide +kernel
theorem dX5_init_50 : decode cX5_init 50 = .ok (.new 36, 3) := by decide +kernel
theorem dX5_init_53 : decode cX5_init 53 = .ok (.dup, 1) := by decide +kernel
theorem dX5_init_54 : decode cX5_init 54 = .ok (.invokespecial 38, 3) := by decide +kernel
theorem dX5_init_57 : decode cX5_init 57 = .ok (.putfield 39, 3) := by decide +kernel
theorem dX5_init_60 : decode cX5_init 60 = .ok (.aload_n 0, 1) := by decide +kernel
theorem dX5_init_61 : decode cX5_init 61 = .ok (.bipush 6, 2) := by decide +kernel
theorem dX5_init_63 : decode cX5_init 63 = .ok (.anewarray 43, 3) := by decide +kernel
theorem dX5_init_66 : decode cX5_init 66 = .ok (.putfield 45, 3) := by decide +kernel
theorem dX5_init_69 : decode cX5_init 69 = .ok (.iconst 0, 1) := by decide +kernel
theorem dX5_init_70 : decode cX5_init 70 = .ok (.istore_n 1, 1) := by decide +kernel
theorem dX5_init_71 : decode cX5_init 71 = .ok (.iload_n 1, 1) := by decide +kernel
theorem dX5_init_72 : decode cX5_init 72 = .ok (.aload_n 0, 1) := by decide +kernel
theorem dX5_init_73 : decode cX5_init 73 = .ok (.getfield 45, 3) := by decide +kernel
theorem dX5_init_76 : decode cX5_init 76 = .ok (.arraylength, 1) := by decide +kernel
theorem dX5_init_77 : decode cX5_init 77 = .ok (.if_icmp .ge 29, 3) := by decide +kernel
theorem dX5_init_80 : decode cX5_init 80 = .ok (.aload_n 0, 1) := by decide +kernel
theorem dX5_init_81 : decode cX5_init 81 = .ok (.getfield 45, 3) := by decide +kernel
theorem dX5_init_84 : decode cX5_init 84 = .ok (.iload_n 1, 1) := by decide +kernel
theorem dX5_init_85 : decode cX5_init 85 = .ok (.new 43, 3) := by decide +kernel
theorem dX5_init_88 : decode cX5_init 88 = .ok (.dup, 1) := by decide +kernel
theorem dX5_init_89 : decode cX5_init 89 = .ok (.new 7, 3) := by decide +kernel
theorem dX5_init_92 : decode cX5_init 92 = .ok (.dup, 1) := by decide +kernel
theorem dX5_init_93 : decode cX5_init 93 = .ok (.invokespecial 9, 3) := by decide +kernel
theorem dX5_init_96 : decode cX5_init 96 = .ok (.invokespecial 49, 3) := by decide +kernel
theorem dX5_init_99 : decode cX5_init 99 = .ok (.aastore, 1) := by decide +kernel
theorem dX5_init_100 : decode cX5_init 100 = .ok (.iinc 1 1, 3) := by decide +kernel
theorem dX5_init_103 : decode cX5_init 103 = .ok (.goto (-32), 3) := by decide +kernel
theorem dX5_init_106 : decode cX5_init 106 = .ok (.aload_n 0, 1) := by decide +kernel
theorem dX5_init_107 : decode cX5_init 107 = .ok (.new 43, 3) := by decide +kernel
theorem dX5_init_110 : decode cX5_init 110 = .ok (.dup, 1) := by decide +kernel
theorem dX5_init_111 : decode cX5_init 111 = .ok (.aload_n 0, 1) := by decide +kernel
theorem dX5_init_112 : decode cX5_init 112 = .ok (.getfield 10, 3) := by decide +kernel
theorem dX5_init_115 : decode cX5_init 115 = .ok (.invokespecial 49, 3) := by decide +kernel
theorem dX5_init_118 : decode cX5_init 118 = .ok (.putfield 52, 3) := by decide +kernel
theorem dX5_init_121 : decode cX5_init 121 = .ok (.aload_n 0, 1) := by decide +kernel
theorem dX5_init_122 : decode cX5_init 122 = .ok (.iconst 1, 1) := by decide +kernel
theorem dX5_init_123 : decode cX5_init 123 = .ok (.putfield 56, 3) := by decide +kernel
theorem dX5_init_126 : decode cX5_init 126 = .ok (.aload_n 0, 1) := by decide +kernel
theorem dX5_init_127 : decode cX5_init 127 = .ok (.iconst 0, 1) := by decide +kernel
theorem dX5_init_128 : decode cX5_init 128 = .ok (.putfield 60, 3) := by decide +kernel
theorem dX5_init_131 : decode cX5_init 131 = .ok (.aload_n 0, 1) := by decide +kernel
theorem dX5_init_132 : decode cX5_init 132 = .ok (.iconst 0, 1) := by decide +kernel
theorem dX5_init_133 : decode cX5_init 133 = .ok (.putfield 63, 3) := by decide +kernel
theorem dX5_init_136 : decode cX5_init 136 = .ok (.aload_n 0, 1) := by decide +kernel
theorem dX5_init_137 : decode cX5_init 137 = .ok (.iconst 0, 1) := by decide +kernel
theorem dX5_init_138 : decode cX5_init 138 = .ok (.putfield 66, 3) := by decide +kernel
theorem dX5_init_141 : decode cX5_init 141 = .ok (.aload_n 0, 1) := by decide +kernel
theorem dX5_init_142 : decode cX5_init 142 = .ok (.iconst 0, 1) := by decide +kernel
theorem dX5_init_143 : decode cX5_init 143 = .ok (.putfield 70, 3) := by decide +kernel
theorem dX5_init_146 : decode cX5_init 146 = .ok (.return_, 1) := by decide +kernel
theorem dX5_begin_0 : decode cX5_begin 0 = .ok (.aload_n 0, 1) := by decide +kernel
theorem dX5_begin_1 : decode cX5_begin 1 = .ok (.getfield 66, 3) := by decide +kernel
theorem dX5_begin_4 : decode cX5_begin 4 = .ok (.ifCond .eq 13, 3) := by decide +kernel
theorem dX5_begin_7 : decode cX5_begin 7 = .ok (.new 73, 3) := by decide +kernel
theorem dX5_begin_10 : decode cX5_begin 10 = .ok (.dup, 1) := by decide +kernel
theorem dX5_begin_11 : decode cX5_begin 11 = .ok (.ldc 75, 2) := by decide +kernel
theorem dX5_begin_13 : decode cX5_begin 13 = .ok (.invokespecial 77, 3) := by decide +kernel
theorem dX5_begin_16 : decode cX5_begin 16 = .ok (.athrow, 1) := by decide +kernel
theorem dX5_begin_17 : decode cX5_begin 17 = .ok (.iconst 0, 1) := by decide +kernel
theorem dX5_begin_18 : decode cX5_begin 18 = .ok (.istore_n 1, 1) := by decide +kernel
theorem dX5_begin_19 : decode cX5_begin 19 = .ok (.iload_n 1, 1) := by decide +kernel
theorem dX5_begin_20 : decode cX5_begin 20 = .ok (.aload_n 0, 1) := by decide +kernel
theorem dX5_begin_21 : decode cX5_begin 21 = .ok (.getfield 45, 3) := by decide +kernel
theorem dX5_begin_24 : decode cX5_begin 24 = .ok (.arraylength, 1) := by decide +kernel
theorem dX5_begin_25 : decode cX5_begin 25 = .ok (.if_icmp .ge 37, 3) := by decide +kernel
theorem dX5_begin_28 : decode cX5_begin 28 = .ok (.aload_n 0, 1) := by decide +kernel
theorem dX5_begin_29 : decode cX5_begin 29 = .ok (.getfield 45, 3) := by decide +kernel
theorem dX5_begin_32 : decode cX5_begin 32 = .ok (.iload_n 1, 1) := by decide +kernel
theorem dX5_begin_33 : decode cX5_begin 33 = .ok (.aaload, 1) := by decide +kernel
theorem dX5_begin_34 : decode cX5_begin 34 = .ok (.astore_n 2, 1) := by decide +kernel
theorem dX5_begin_35 : decode cX5_begin 35 = .ok (.aload_n 2, 1) := by decide +kernel
theorem dX5_begin_36 : decode cX5_begin 36 = .ok (.ifnull 20, 3) := by decide +kernel
theorem dX5_begin_39 : decode cX5_begin 39 = .ok (.aload_n 2, 1) := by decide +kernel
theorem dX5_begin_40 : decode cX5_begin 40 = .ok (.getfield 80, 3) := by decide +kernel
theorem dX5_begin_43 : decode cX5_begin 43 = .ok (.ifCond .ne 13, 3) := by decide +kernel
theorem dX5_begin_46 : decode cX5_begin 46 = .ok (.aload_n 2, 1) := by decide +kernel
theorem dX5_begin_47 : decode cX5_begin 47 = .ok (.aload_n 0, 1) := by decide +kernel
theorem dX5_begin_48 : decode cX5_begin 48 = .ok (.getfield 10, 3) := by decide +kernel
theorem dX5_begin_51 : decode cX5_begin 51 = .ok (.invokevirtual 83, 3) := by decide +kernel
theorem dX5_begin_54 : decode cX5_begin 54 = .ok (.iload_n 1, 1) := by decide +kernel
theorem dX5_begin_55 : decode cX5_begin 55 = .ok (.ireturn, 1) := by decide +kernel
theorem dX5_begin_56 : decode cX5_begin 56 = .ok (.iinc 1 1, 3) := by decide +kernel
theorem dX5_begin_59 : decode cX5_begin 59 = .ok (.goto (-40), 3) := by decide +kernel
theorem dX5_begin_62 : decode cX5_begin 62 = .ok (.new 86, 3) := by decide +kernel
theorem dX5_begin_65 : decode cX5_begin 65 = .ok (.dup, 1) := by decide +kernel
theorem dX5_begin_66 : decode cX5_begin 66 = .ok (.ldc 88, 2) := by decide +kernel
theorem dX5_begin_68 : decode cX5_begin 68 = .ok (.invokespecial 90, 3) := by decide +kernel
theorem dX5_begin_71 : decode cX5_begin 71 = .ok (.athrow, 1) := by decide +kernel
theorem dX5_drop_0 : decode cX5_drop 0 = .ok (.aload_n 0, 1) := by decide +kernel
theorem dX5_drop_1 : decode cX5_drop 1 = .ok (.iload_n 1, 1) := by decide +kernel
theorem dX5_drop_2 : decode cX5_drop 2 = .ok (.invokevirtual 91, 3) := by decide +kernel
theorem dX5_drop_5 : decode cX5_drop 5 = .ok (.astore_n 2, 1) := by decide +kernel
theorem dX5_drop_6 : decode cX5_drop 6 = .ok (.aload_n 2, 1) := by decide +kernel
theorem dX5_drop_7 : decode cX5_drop 7 = .ok (.iconst 0, 1) := by decide +kernel
theorem dX5_drop_8 : decode cX5_drop 8 = .ok (.putfield 80, 3) := by decide +kernel
theorem dX5_drop_11 : decode cX5_drop 11 = .ok (.aload_n 2, 1) := by decide +kernel
theorem dX5_drop_12 : decode cX5_drop 12 = .ok (.invokevirtual 95, 3) := by decide +kernel
theorem dX5_drop_15 : decode cX5_drop 15 = .ok (.ireturn, 1) := by decide +kernel
theorem dX5_commit_0 : decode cX5_commit 0 = .ok (.aload_n 0, 1) := by decide +kernel
theorem dX5_commit_1 : decode cX5_commit 1 = .ok (.iload_n 1, 1) := by decide +kernel
theorem dX5_commit_2 : decode cX5_commit 2 = .ok (.invokevirtual 91, 3) := by decide +kernel
theorem dX5_commit_5 : decode cX5_commit 5 = .ok (.astore_n 2, 1) := by decide +kernel
theorem dX5_commit_6 : decode cX5_commit 6 = .ok (.aload_n 0, 1) := by decide +kernel
theorem dX5_commit_7 : decode cX5_commit 7 = .ok (.aload_n 2, 1) := by decide +kernel
theorem dX5_commit_8 : decode cX5_commit 8 = .ok (.invokevirtual 99, 3) := by decide +kernel
theorem dX5_commit_11 : decode cX5_commit 11 = .ok (.istore_n 3, 1) := by decide +kernel
theorem dX5_commit_12 : decode cX5_commit 12 = .ok (.iload_n 3, 1) := by decide +kernel
theorem dX5_commit_13 : decode cX5_commit 13 = .ok (.bipush (-3), 2) := by decide +kernel
theorem dX5_commit_15 : decode cX5_commit 15 = .ok (.if_icmp .ne 6, 3) := by decide +kernel
theorem dX5_commit_18 : decode cX5_commit 18 = .ok (.bipush (-3), 2) := by decide +kernel
theorem dX5_commit_20 : decode cX5_commit 20 = .ok (.ireturn, 1) := by decide +kernel
theorem dX5_commit_21 : decode cX5_commit 21 = .ok (.aload_n 2, 1) := by decide +kernel
theorem dX5_commit_22 : decode cX5_commit 22 = .ok (.iconst 0, 1) := by decide +kernel
theorem dX5_commit_23 : decode cX5_commit 23 = .ok (.putfield 80, 3) := by decide +kernel
theorem dX5_commit_26 : decode cX5_commit 26 = .ok (.iload_n 3, 1) := by decide +kernel
theorem dX5_commit_27 : decode cX5_commit 27 = .ok (.bipush (-2), 2) := by decide +kernel
theorem dX5_commit_29 : decode cX5_commit 29 = .ok (.if_icmp .ne 6, 3) := by decide +kernel
theorem dX5_commit_32 : decode cX5_commit 32 = .ok (.bipush (-2), 2) := by decide +kernel
theorem dX5_commit_34 : decode cX5_commit 34 = .ok (.ireturn, 1) := by decide +kernel
theorem dX5_commit_35 : decode cX5_commit 35 = .ok (.aload_n 0, 1) := by decide +kernel
theorem dX5_commit_36 : decode cX5_commit 36 = .ok (.getfield 32, 3) := by decide +kernel
theorem dX5_commit_39 : decode cX5_commit 39 = .ok (.getfield 103, 3) := by decide +kernel
theorem dX5_commit_42 : decode cX5_commit 42 = .ok (.ifCond .ne 18, 3) := by decide +kernel
theorem dX5_commit_45 : decode cX5_commit 45 = .ok (.aload_n 0, 1) := by decide +kernel
theorem dX5_commit_46 : decode cX5_commit 46 = .ok (.dup, 1) := by decide +kernel
theorem dX5_commit_47 : decode cX5_commit 47 = .ok (.getfield 60, 3) := by decide +kernel
theorem dX5_commit_50 : decode cX5_commit 50 = .ok (.iconst 1, 1) := by decide +kernel
theorem dX5_commit_51 : decode cX5_commit 51 = .ok (.iadd, 1) := by decide +kernel
theorem dX5_commit_52 : decode cX5_commit 52 = .ok (.putfield 60, 3) := by decide +kernel
theorem dX5_commit_55 : decode cX5_commit 55 = .ok (.aload_n 0, 1) := by decide +kernel
theorem dX5_commit_56 : decode cX5_commit 56 = .ok (.getfield 60, 3) := by decide +kernel
theorem dX5_commit_59 : decode cX5_commit 59 = .ok (.ireturn, 1) := by decide +kernel
theorem dX5_commit_60 : decode cX5_commit 60 = .ok (.aload_n 0, 1) := by decide +kernel
theorem dX5_commit_61 : decode cX5_commit 61 = .ok (.getfield 32, 3) := by decide +kernel
theorem dX5_commit_64 : decode cX5_commit 64 = .ok (.aload_n 2, 1) := by decide +kernel
theorem dX5_commit_65 : decode cX5_commit 65 = .ok (.getfield 106, 3) := by decide +kernel
theorem dX5_commit_68 : decode cX5_commit 68 = .ok (.aload_n 2, 1) := by decide +kernel
theorem dX5_commit_69 : decode cX5_commit 69 = .ok (.getfield 109, 3) := by decide +kernel
theorem dX5_commit_72 : decode cX5_commit 72 = .ok (.aload_n 0, 1) := by decide +kernel
theorem dX5_commit_73 : decode cX5_commit 73 = .ok (.getfield 10, 3) := by decide +kernel
theorem dX5_commit_76 : decode cX5_commit 76 = .ok (.aload_n 0, 1) := by decide +kernel
theorem dX5_commit_77 : decode cX5_commit 77 = .ok (.getfield 26, 3) := by decide +kernel
theorem dX5_commit_80 : decode cX5_commit 80 = .ok (.invokevirtual 112, 3) := by decide +kernel
theorem dX5_commit_83 : decode cX5_commit 83 = .ok (.aload_n 0, 1) := by decide +kernel
theorem dX5_commit_84 : decode cX5_commit 84 = .ok (.aload_n 0, 1) := by decide +kernel
theorem dX5_commit_85 : decode cX5_commit 85 = .ok (.getfield 32, 3) := by decide +kernel
theorem dX5_commit_88 : decode cX5_commit 88 = .ok (.getfield 116, 3) := by decide +kernel
theorem dX5_commit_91 : decode cX5_commit 91 = .ok (.putfield 63, 3) := by decide +kernel
theorem dX5_commit_94 : decode cX5_commit 94 = .ok (.aload_n 0, 1) := by decide +kernel
theorem dX5_commit_95 : decode cX5_commit 95 = .ok (.aload_n 0, 1) := by decide +kernel
theorem dX5_commit_96 : decode cX5_commit 96 = .ok (.getfield 32, 3) := by decide +kernel
theorem dX5_commit_99 : decode cX5_commit 99 = .ok (.getfield 103, 3) := by decide +kernel
theorem dX5_commit_102 : decode cX5_commit 102 = .ok (.invokevirtual 119, 3) := by decide +kernel
theorem dX5_commit_105 : decode cX5_commit 105 = .ok (.ifCond .eq 10, 3) := by decide +kernel
theorem dX5_commit_108 : decode cX5_commit 108 = .ok (.aload_n 0, 1) := by decide +kernel
theorem dX5_commit_109 : decode cX5_commit 109 = .ok (.getfield 60, 3) := by decide +kernel
theorem dX5_commit_112 : decode cX5_commit 112 = .ok (.goto 5, 3) := by decide +kernel
theorem dX5_commit_115 : decode cX5_commit 115 = .ok (.bipush (-4), 2) := by decide +kernel
theorem dX5_commit_117 : decode cX5_commit 117 = .ok (.ireturn, 1) := by decide +kernel
theorem dX5_check_0 : decode cX5_check 0 = .ok (.aload_n 0, 1) := by decide +kernel
theorem dX5_check_1 : decode cX5_check 1 = .ok (.aload_n 0, 1) := by decide +kernel
theorem dX5_check_2 : decode cX5_check 2 = .ok (.iload_n 1, 1) := by decide +kernel
theorem dX5_check_3 : decode cX5_check 3 = .ok (.invokevirtual 91, 3) := by decide +kernel
theorem dX5_check_6 : decode cX5_check 6 = .ok (.invokevirtual 99, 3) := by decide +kernel
theorem dX5_check_9 : decode cX5_check 9 = .ok (.ireturn, 1) := by decide +kernel
theorem dX5_make_0 : decode cX5_make 0 = .ok (.aload_n 0, 1) := by decide +kernel
theorem dX5_make_1 : decode cX5_make 1 = .ok (.iload_n 1, 1) := by decide +kernel
theorem dX5_make_2 : decode cX5_make 2 = .ok (.invokevirtual 91, 3) := by decide +kernel
theorem dX5_make_5 : decode cX5_make 5 = .ok (.astore 4, 2) := by decide +kernel
theorem dX5_make_7 : decode cX5_make 7 = .ok (.iload_n 2, 1) := by decide +kernel
theorem dX5_make_8 : decode cX5_make 8 = .ok (.invokestatic 123, 3) := by decide +kernel
theorem dX5_make_11 : decode cX5_make 11 = .ok (.aload 4, 2) := by decide +kernel
theorem dX5_make_13 : decode cX5_make 13 = .ok (.iload_n 2, 1) := by decide +kernel
theorem dX5_make_14 : decode cX5_make 14 = .ok (.invokestatic 127, 3) := by decide +kernel
theorem dX5_make_17 : decode cX5_make 17 = .ok (.astore 5, 2) := by decide +kernel
theorem dX5_make_19 : decode cX5_make 19 = .ok (.aload 4, 2) := by decide +kernel
theorem dX5_make_21 : decode cX5_make 21 = .ok (.getfield 109, 3) := by decide +kernel
theorem dX5_make_24 : decode cX5_make 24 = .ok (.getfield 131, 3) := by decide +kernel
theorem dX5_make_27 : decode cX5_make 27 = .ok (.bipush 60, 2) := by decide +kernel
theorem dX5_make_29 : decode cX5_make 29 = .ok (.if_icmp .lt 13, 3) := by decide +kernel
theorem dX5_make_32 : decode cX5_make 32 = .ok (.new 86, 3) := by decide +kernel
theorem dX5_make_35 : decode cX5_make 35 = .ok (.dup, 1) := by decide +kernel
theorem dX5_make_36 : decode cX5_make 36 = .ok (.ldc 134, 2) := by decide +kernel
theorem dX5_make_38 : decode cX5_make 38 = .ok (.invokespecial 90, 3) := by decide +kernel
theorem dX5_make_41 : decode cX5_make 41 = .ok (.athrow, 1) := by decide +kernel
theorem dX5_make_42 : decode cX5_make 42 = .ok (.aload_n 0, 1) := by decide +kernel
theorem dX5_make_43 : decode cX5_make 43 = .ok (.dup, 1) := by decide +kernel
theorem dX5_make_44 : decode cX5_make 44 = .ok (.getfield 56, 3) := by decide +kernel
theorem dX5_make_47 : decode cX5_make 47 = .ok (.iconst 1, 1) := by decide +kernel
theorem dX5_make_48 : decode cX5_make 48 = .ok (.iadd, 1) := by decide +kernel
theorem dX5_make_49 : decode cX5_make 49 = .ok (.putfield 56, 3) := by decide +kernel
theorem dX5_make_52 : decode cX5_make 52 = .ok (.aload 4, 2) := by decide +kernel
theorem dX5_make_54 : decode cX5_make 54 = .ok (.getfield 109, 3) := by decide +kernel
theorem dX5_make_57 : decode cX5_make 57 = .ok (.aload_n 0, 1) := by decide +kernel
theorem dX5_make_58 : decode cX5_make 58 = .ok (.getfield 56, 3) := by decide +kernel
theorem dX5_make_61 : decode cX5_make 61 = .ok (.iload_n 3, 1) := by decide +kernel
theorem dX5_make_62 : decode cX5_make 62 = .ok (.invokestatic 16, 3) := by decide +kernel
theorem dX5_make_65 : decode cX5_make 65 = .ok (.invokevirtual 136, 3) := by decide +kernel
theorem dX5_make_68 : decode cX5_make 68 = .ok (.aload 4, 2) := by decide +kernel
theorem dX5_make_70 : decode cX5_make 70 = .ok (.getfield 109, 3) := by decide +kernel
theorem dX5_make_73 : decode cX5_make 73 = .ok (.aload 5, 2) := by decide +kernel
theorem dX5_make_75 : decode cX5_make 75 = .ok (.getfield 139, 3) := by decide +kernel
theorem dX5_make_78 : decode cX5_make 78 = .ok (.iload_n 2, 1) := by decide +kernel
theorem dX5_make_79 : decode cX5_make 79 = .ok (.bipush 15, 2) := by decide +kernel
theorem dX5_make_81 : decode cX5_make 81 = .ok (.iand, 1) := by decide +kernel
theorem dX5_make_82 : decode cX5_make 82 = .ok (.aload_n 0, 1) := by decide +kernel
theorem dX5_make_83 : decode cX5_make 83 = .ok (.getfield 56, 3) := by decide +kernel
theorem dX5_make_86 : decode cX5_make 86 = .ok (.invokevirtual 142, 3) := by decide +kernel
theorem dX5_make_89 : decode cX5_make 89 = .ok (.return_, 1) := by decide +kernel
theorem dX5_remove_0 : decode cX5_remove 0 = .ok (.aload_n 0, 1) := by decide +kernel
theorem dX5_remove_1 : decode cX5_remove 1 = .ok (.iload_n 1, 1) := by decide +kernel
theorem dX5_remove_2 : decode cX5_remove 2 = .ok (.invokevirtual 91, 3) := by decide +kernel
theorem dX5_remove_5 : decode cX5_remove 5 = .ok (.astore_n 3, 1) := by decide +kernel
theorem dX5_remove_6 : decode cX5_remove 6 = .ok (.iload_n 2, 1) := by decide +kernel
theorem dX5_remove_7 : decode cX5_remove 7 = .ok (.invokestatic 123, 3) := by decide +kernel
theorem dX5_remove_10 : decode cX5_remove 10 = .ok (.aload_n 3, 1) := by decide +kernel
theorem dX5_remove_11 : decode cX5_remove 11 = .ok (.iload_n 2, 1) := by decide +kernel
theorem dX5_remove_12 : decode cX5_remove 12 = .ok (.iconst 4, 1) := by decide +kernel
theorem dX5_remove_13 : decode cX5_remove 13 = .ok (.ishr, 1) := by decide +kernel
theorem dX5_remove_14 : decode cX5_remove 14 = .ok (.invokevirtual 146, 3) := by decide +kernel
theorem dX5_remove_17 : decode cX5_remove 17 = .ok (.astore 4, 2) := by decide +kernel
theorem dX5_remove_19 : decode cX5_remove 19 = .ok (.aload_n 3, 1) := by decide +kernel
theorem dX5_remove_20 : decode cX5_remove 20 = .ok (.aload 4, 2) := by decide +kernel
theorem dX5_remove_22 : decode cX5_remove 22 = .ok (.iload_n 2, 1) := by decide +kernel
theorem dX5_remove_23 : decode cX5_remove 23 = .ok (.bipush 15, 2) := by decide +kernel
theorem dX5_remove_25 : decode cX5_remove 25 = .ok (.iand, 1) := by decide +kernel
theorem dX5_remove_26 : decode cX5_remove 26 = .ok (.invokevirtual 150, 3) := by decide +kernel
theorem dX5_remove_29 : decode cX5_remove 29 = .ok (.astore 5, 2) := by decide +kernel
theorem dX5_remove_31 : decode cX5_remove 31 = .ok (.aload 5, 2) := by decide +kernel
theorem dX5_remove_33 : decode cX5_remove 33 = .ok (.ifnull 8, 3) := by decide +kernel
theorem dX5_remove_36 : decode cX5_remove 36 = .ok (.aload 4, 2) := by decide +kernel
theorem dX5_remove_38 : decode cX5_remove 38 = .ok (.ifnonnull 13, 3) := by decide +kernel
theorem dX5_remove_41 : decode cX5_remove 41 = .ok (.new 154, 3) := by decide +kernel
theorem dX5_remove_44 : decode cX5_remove 44 = .ok (.dup, 1) := by decide +kernel
theorem dX5_remove_45 : decode cX5_remove 45 = .ok (.ldc 156, 2) := by decide +kernel
theorem dX5_remove_47 : decode cX5_remove 47 = .ok (.invokespecial 158, 3) := by decide +kernel
theorem dX5_remove_50 : decode cX5_remove 50 = .ok (.athrow, 1) := by decide +kernel
theorem dX5_remove_51 : decode cX5_remove 51 = .ok (.aload 5, 2) := by decide +kernel
theorem dX5_remove_53 : decode cX5_remove 53 = .ok (.getfield 159, 3) := by decide +kernel
theorem dX5_remove_56 : decode cX5_remove 56 = .ok (.ifCond .eq 22, 3) := by decide +kernel
theorem dX5_remove_59 : decode cX5_remove 59 = .ok (.aload_n 3, 1) := by decide +kernel
theorem dX5_remove_60 : decode cX5_remove 60 = .ok (.aload 5, 2) := by decide +kernel
theorem dX5_remove_62 : decode cX5_remove 62 = .ok (.invokevirtual 162, 3) := by decide +kernel
theorem dX5_remove_65 : decode cX5_remove 65 = .ok (.ifCond .eq 13, 3) := by decide +kernel
theorem dX5_remove_68 : decode cX5_remove 68 = .ok (.new 86, 3) := by decide +kernel
theorem dX5_remove_71 : decode cX5_remove 71 = .ok (.dup, 1) := by decide +kernel
theorem dX5_remove_72 : decode cX5_remove 72 = .ok (.ldc 166, 2) := by decide +kernel
theorem dX5_remove_74 : decode cX5_remove 74 = .ok (.invokespecial 90, 3) := by decide +kernel
theorem dX5_remove_77 : decode cX5_remove 77 = .ok (.athrow, 1) := by decide +kernel
theorem dX5_remove_78 : decode cX5_remove 78 = .ok (.aload_n 3, 1) := by decide +kernel
theorem dX5_remove_79 : decode cX5_remove 79 = .ok (.getfield 109, 3) := by decide +kernel
theorem dX5_remove_82 : decode cX5_remove 82 = .ok (.aload 5, 2) := by decide +kernel
theorem dX5_remove_84 : decode cX5_remove 84 = .ok (.getfield 139, 3) := by decide +kernel
theorem dX5_remove_87 : decode cX5_remove 87 = .ok (.invokevirtual 168, 3) := by decide +kernel
theorem dX5_remove_90 : decode cX5_remove 90 = .ok (.aload_n 3, 1) := by decide +kernel
theorem dX5_remove_91 : decode cX5_remove 91 = .ok (.getfield 109, 3) := by decide +kernel
theorem dX5_remove_94 : decode cX5_remove 94 = .ok (.aload 4, 2) := by decide +kernel
theorem dX5_remove_96 : decode cX5_remove 96 = .ok (.getfield 139, 3) := by decide +kernel
theorem dX5_remove_99 : decode cX5_remove 99 = .ok (.iload_n 2, 1) := by decide +kernel
theorem dX5_remove_100 : decode cX5_remove 100 = .ok (.bipush 15, 2) := by decide +kernel
theorem dX5_remove_102 : decode cX5_remove 102 = .ok (.iand, 1) := by decide +kernel
theorem dX5_remove_103 : decode cX5_remove 103 = .ok (.iconst 0, 1) := by decide +kernel
theorem dX5_remove_104 : decode cX5_remove 104 = .ok (.invokevirtual 142, 3) := by decide +kernel
theorem dX5_remove_107 : decode cX5_remove 107 = .ok (.aload 5, 2) := by decide +kernel
theorem dX5_remove_109 : decode cX5_remove 109 = .ok (.getfield 159, 3) := by decide +kernel
theorem dX5_remove_112 : decode cX5_remove 112 = .ok (.ireturn, 1) := by decide +kernel
theorem dX5_move_0 : decode cX5_move 0 = .ok (.aload_n 0, 1) := by decide +kernel
theorem dX5_move_1 : decode cX5_move 1 = .ok (.iload_n 1, 1) := by decide +kernel
theorem dX5_move_2 : decode cX5_move 2 = .ok (.invokevirtual 91, 3) := by decide +kernel
theorem dX5_move_5 : decode cX5_move 5 = .ok (.astore 4, 2) := by decide +kernel
theorem dX5_move_7 : decode cX5_move 7 = .ok (.iload_n 2, 1) := by decide +kernel
theorem dX5_move_8 : decode cX5_move 8 = .ok (.invokestatic 123, 3) := by decide +kernel
theorem dX5_move_11 : decode cX5_move 11 = .ok (.iload_n 3, 1) := by decide +kernel
theorem dX5_move_12 : decode cX5_move 12 = .ok (.invokestatic 123, 3) := by decide +kernel
theorem dX5_move_15 : decode cX5_move 15 = .ok (.iload_n 3, 1) := by decide +kernel
theorem dX5_move_16 : decode cX5_move 16 = .ok (.iload_n 2, 1) := by decide +kernel
theorem dX5_move_17 : decode cX5_move 17 = .ok (.invokestatic 171, 3) := by decide +kernel
theorem dX5_move_20 : decode cX5_move 20 = .ok (.ifCond .eq 13, 3) := by decide +kernel
theorem dX5_move_23 : decode cX5_move 23 = .ok (.new 175, 3) := by decide +kernel
theorem dX5_move_26 : decode cX5_move 26 = .ok (.dup, 1) := by decide +kernel
theorem dX5_move_27 : decode cX5_move 27 = .ok (.ldc 177, 2) := by decide +kernel
theorem dX5_move_29 : decode cX5_move 29 = .ok (.invokespecial 179, 3) := by decide +kernel
theorem dX5_move_32 : decode cX5_move 32 = .ok (.athrow, 1) := by decide +kernel
theorem dX5_move_33 : decode cX5_move 33 = .ok (.aload 4, 2) := by decide +kernel
theorem dX5_move_35 : decode cX5_move 35 = .ok (.iload_n 2, 1) := by decide +kernel
theorem dX5_move_36 : decode cX5_move 36 = .ok (.iconst 4, 1) := by decide +kernel
theorem dX5_move_37 : decode cX5_move 37 = .ok (.ishr, 1) := by decide +kernel
theorem dX5_move_38 : decode cX5_move 38 = .ok (.invokevirtual 146, 3) := by decide +kernel
theorem dX5_move_41 : decode cX5_move 41 = .ok (.astore 5, 2) := by decide +kernel
theorem dX5_move_43 : decode cX5_move 43 = .ok (.aload 4, 2) := by decide +kernel
theorem dX5_move_45 : decode cX5_move 45 = .ok (.aload 5, 2) := by decide +kernel
theorem dX5_move_47 : decode cX5_move 47 = .ok (.iload_n 2, 1) := by decide +kernel
theorem dX5_move_48 : decode cX5_move 48 = .ok (.bipush 15, 2) := by decide +kernel
theorem dX5_move_50 : decode cX5_move 50 = .ok (.iand, 1) := by decide +kernel
theorem dX5_move_51 : decode cX5_move 51 = .ok (.invokevirtual 150, 3) := by decide +kernel
theorem dX5_move_54 : decode cX5_move 54 = .ok (.astore 6, 2) := by decide +kernel
theorem dX5_move_56 : decode cX5_move 56 = .ok (.aload 6, 2) := by decide +kernel
theorem dX5_move_58 : decode cX5_move 58 = .ok (.ifnull 8, 3) := by decide +kernel
theorem dX5_move_61 : decode cX5_move 61 = .ok (.aload 5, 2) := by decide +kernel
theorem dX5_move_63 : decode cX5_move 63 = .ok (.ifnonnull 13, 3) := by decide +kernel
theorem dX5_move_66 : decode cX5_move 66 = .ok (.new 154, 3) := by decide +kernel
theorem dX5_move_69 : decode cX5_move 69 = .ok (.dup, 1) := by decide +kernel
theorem dX5_move_70 : decode cX5_move 70 = .ok (.ldc 180, 2) := by decide +kernel
theorem dX5_move_72 : decode cX5_move 72 = .ok (.invokespecial 158, 3) := by decide +kernel
theorem dX5_move_75 : decode cX5_move 75 = .ok (.athrow, 1) := by decide +kernel
theorem dX5_move_76 : decode cX5_move 76 = .ok (.aload 4, 2) := by decide +kernel
theorem dX5_move_78 : decode cX5_move 78 = .ok (.iload_n 3, 1) := by decide +kernel
theorem dX5_move_79 : decode cX5_move 79 = .ok (.invokestatic 127, 3) := by decide +kernel
theorem dX5_move_82 : decode cX5_move 82 = .ok (.astore 7, 2) := by decide +kernel
theorem dX5_move_84 : decode cX5_move 84 = .ok (.aload 4, 2) := by decide +kernel
theorem dX5_move_86 : decode cX5_move 86 = .ok (.getfield 109, 3) := by decide +kernel
theorem dX5_move_89 : decode cX5_move 89 = .ok (.aload 5, 2) := by decide +kernel
theorem dX5_move_91 : decode cX5_move 91 = .ok (.getfield 139, 3) := by decide +kernel
theorem dX5_move_94 : decode cX5_move 94 = .ok (.iload_n 2, 1) := by decide +kernel
theorem dX5_move_95 : decode cX5_move 95 = .ok (.bipush 15, 2) := by decide +kernel
theorem dX5_move_97 : decode cX5_move 97 = .ok (.iand, 1) := by decide +kernel
theorem dX5_move_98 : decode cX5_move 98 = .ok (.iconst 0, 1) := by decide +kernel
theorem dX5_move_99 : decode cX5_move 99 = .ok (.invokevirtual 142, 3) := by decide +kernel
theorem dX5_move_102 : decode cX5_move 102 = .ok (.aload 4, 2) := by decide +kernel
theorem dX5_move_104 : decode cX5_move 104 = .ok (.getfield 109, 3) := by decide +kernel
theorem dX5_move_107 : decode cX5_move 107 = .ok (.aload 7, 2) := by decide +kernel
theorem dX5_move_109 : decode cX5_move 109 = .ok (.getfield 139, 3) := by decide +kernel
theorem dX5_move_112 : decode cX5_move 112 = .ok (.iload_n 3, 1) := by decide +kernel
theorem dX5_move_113 : decode cX5_move 113 = .ok (.bipush 15, 2) := by decide +kernel
theorem dX5_move_115 : decode cX5_move 115 = .ok (.iand, 1) := by decide +kernel
theorem dX5_move_116 : decode cX5_move 116 = .ok (.aload 6, 2) := by decide +kernel
theorem dX5_move_118 : decode cX5_move 118 = .ok (.getfield 139, 3) := by decide +kernel
theorem dX5_move_121 : decode cX5_move 121 = .ok (.invokevirtual 142, 3) := by decide +kernel
theorem dX5_move_124 : decode cX5_move 124 = .ok (.aload 6, 2) := by decide +kernel
theorem dX5_move_126 : decode cX5_move 126 = .ok (.getfield 159, 3) := by decide +kernel
theorem dX5_move_129 : decode cX5_move 129 = .ok (.ireturn, 1) := by decide +kernel
theorem dX5_write_0 : decode cX5_write 0 = .ok (.aload_n 0, 1) := by decide +kernel
theorem dX5_write_1 : decode cX5_write 1 = .ok (.iload_n 1, 1) := by decide +kernel
theorem dX5_write_2 : decode cX5_write 2 = .ok (.invokevirtual 91, 3) := by decide +kernel
theorem dX5_write_5 : decode cX5_write 5 = .ok (.astore 5, 2) := by decide +kernel
theorem dX5_write_7 : decode cX5_write 7 = .ok (.aload 5, 2) := by decide +kernel
theorem dX5_write_9 : decode cX5_write 9 = .ok (.iload_n 2, 1) := by decide +kernel
theorem dX5_write_10 : decode cX5_write 10 = .ok (.invokestatic 182, 3) := by decide +kernel
theorem dX5_write_13 : decode cX5_write 13 = .ok (.astore 6, 2) := by decide +kernel
theorem dX5_write_15 : decode cX5_write 15 = .ok (.aload 6, 2) := by decide +kernel
theorem dX5_write_17 : decode cX5_write 17 = .ok (.iload_n 3, 1) := by decide +kernel
theorem dX5_write_18 : decode cX5_write 18 = .ok (.invokestatic 185, 3) := by decide +kernel
theorem dX5_write_21 : decode cX5_write 21 = .ok (.aload 5, 2) := by decide +kernel
theorem dX5_write_23 : decode cX5_write 23 = .ok (.getfield 109, 3) := by decide +kernel
theorem dX5_write_26 : decode cX5_write 26 = .ok (.aload 6, 2) := by decide +kernel
theorem dX5_write_28 : decode cX5_write 28 = .ok (.iload_n 3, 1) := by decide +kernel
theorem dX5_write_29 : decode cX5_write 29 = .ok (.iload 4, 2) := by decide +kernel
theorem dX5_write_31 : decode cX5_write 31 = .ok (.aload 6, 2) := by decide +kernel
theorem dX5_write_33 : decode cX5_write 33 = .ok (.getfield 189, 3) := by decide +kernel
theorem dX5_write_36 : decode cX5_write 36 = .ok (.invokevirtual 190, 3) := by decide +kernel
theorem dX5_write_39 : decode cX5_write 39 = .ok (.invokevirtual 136, 3) := by decide +kernel
theorem dX5_write_42 : decode cX5_write 42 = .ok (.aload 6, 2) := by decide +kernel
theorem dX5_write_44 : decode cX5_write 44 = .ok (.getfield 189, 3) := by decide +kernel
theorem dX5_write_47 : decode cX5_write 47 = .ok (.ireturn, 1) := by decide +kernel
theorem dX5_append_0 : decode cX5_append 0 = .ok (.aload_n 0, 1) := by decide +kernel
theorem dX5_append_1 : decode cX5_append 1 = .ok (.iload_n 1, 1) := by decide +kernel
theorem dX5_append_2 : decode cX5_append 2 = .ok (.invokevirtual 91, 3) := by decide +kernel
theorem dX5_append_5 : decode cX5_append 5 = .ok (.astore 4, 2) := by decide +kernel
theorem dX5_append_7 : decode cX5_append 7 = .ok (.aload 4, 2) := by decide +kernel
theorem dX5_append_9 : decode cX5_append 9 = .ok (.iload_n 2, 1) := by decide +kernel
theorem dX5_append_10 : decode cX5_append 10 = .ok (.invokestatic 182, 3) := by decide +kernel
theorem dX5_append_13 : decode cX5_append 13 = .ok (.astore 5, 2) := by decide +kernel
theorem dX5_append_15 : decode cX5_append 15 = .ok (.aload 5, 2) := by decide +kernel
theorem dX5_append_17 : decode cX5_append 17 = .ok (.getfield 189, 3) := by decide +kernel
theorem dX5_append_20 : decode cX5_append 20 = .ok (.bipush 64, 2) := by decide +kernel
theorem dX5_append_22 : decode cX5_append 22 = .ok (.if_icmp .lt 13, 3) := by decide +kernel
theorem dX5_append_25 : decode cX5_append 25 = .ok (.new 86, 3) := by decide +kernel
theorem dX5_append_28 : decode cX5_append 28 = .ok (.dup, 1) := by decide +kernel
theorem dX5_append_29 : decode cX5_append 29 = .ok (.ldc 194, 2) := by decide +kernel
theorem dX5_append_31 : decode cX5_append 31 = .ok (.invokespecial 90, 3) := by decide +kernel
theorem dX5_append_34 : decode cX5_append 34 = .ok (.athrow, 1) := by decide +kernel
theorem dX5_append_35 : decode cX5_append 35 = .ok (.aload 4, 2) := by decide +kernel
theorem dX5_append_37 : decode cX5_append 37 = .ok (.getfield 109, 3) := by decide +kernel
theorem dX5_append_40 : decode cX5_append 40 = .ok (.aload 5, 2) := by decide +kernel
theorem dX5_append_42 : decode cX5_append 42 = .ok (.aload 5, 2) := by decide +kernel
theorem dX5_append_44 : decode cX5_append 44 = .ok (.getfield 189, 3) := by decide +kernel
theorem dX5_append_47 : decode cX5_append 47 = .ok (.iload_n 3, 1) := by decide +kernel
theorem dX5_append_48 : decode cX5_append 48 = .ok (.aload 5, 2) := by decide +kernel
theorem dX5_append_50 : decode cX5_append 50 = .ok (.getfield 189, 3) := by decide +kernel
theorem dX5_append_53 : decode cX5_append 53 = .ok (.iconst 1, 1) := by decide +kernel
theorem dX5_append_54 : decode cX5_append 54 = .ok (.iadd, 1) := by decide +kernel
theorem dX5_append_55 : decode cX5_append 55 = .ok (.invokevirtual 190, 3) := by decide +kernel
theorem dX5_append_58 : decode cX5_append 58 = .ok (.invokevirtual 136, 3) := by decide +kernel
theorem dX5_append_61 : decode cX5_append 61 = .ok (.aload 5, 2) := by decide +kernel
theorem dX5_append_63 : decode cX5_append 63 = .ok (.getfield 189, 3) := by decide +kernel
theorem dX5_append_66 : decode cX5_append 66 = .ok (.iconst 1, 1) := by decide +kernel
theorem dX5_append_67 : decode cX5_append 67 = .ok (.iadd, 1) := by decide +kernel
theorem dX5_append_68 : decode cX5_append 68 = .ok (.ireturn, 1) := by decide +kernel
theorem dX5_cut_0 : decode cX5_cut 0 = .ok (.aload_n 0, 1) := by decide +kernel
theorem dX5_cut_1 : decode cX5_cut 1 = .ok (.iload_n 1, 1) := by decide +kernel
theorem dX5_cut_2 : decode cX5_cut 2 = .ok (.invokevirtual 91, 3) := by decide +kernel
theorem dX5_cut_5 : decode cX5_cut 5 = .ok (.astore 4, 2) := by decide +kernel
theorem dX5_cut_7 : decode cX5_cut 7 = .ok (.iload_n 3, 1) := by decide +kernel
theorem dX5_cut_8 : decode cX5_cut 8 = .ok (.ifCond .lt 9, 3) := by decide +kernel
theorem dX5_cut_11 : decode cX5_cut 11 = .ok (.iload_n 3, 1) := by decide +kernel
theorem dX5_cut_12 : decode cX5_cut 12 = .ok (.bipush 64, 2) := by decide +kernel
theorem dX5_cut_14 : decode cX5_cut 14 = .ok (.if_icmp .le 13, 3) := by decide +kernel
theorem dX5_cut_17 : decode cX5_cut 17 = .ok (.new 175, 3) := by decide +kernel
theorem dX5_cut_20 : decode cX5_cut 20 = .ok (.dup, 1) := by decide +kernel
theorem dX5_cut_21 : decode cX5_cut 21 = .ok (.ldc 196, 2) := by decide +kernel
theorem dX5_cut_23 : decode cX5_cut 23 = .ok (.invokespecial 179, 3) := by decide +kernel
theorem dX5_cut_26 : decode cX5_cut 26 = .ok (.athrow, 1) := by decide +kernel
theorem dX5_cut_27 : decode cX5_cut 27 = .ok (.aload 4, 2) := by decide +kernel
theorem dX5_cut_29 : decode cX5_cut 29 = .ok (.iload_n 2, 1) := by decide +kernel
theorem dX5_cut_30 : decode cX5_cut 30 = .ok (.invokestatic 182, 3) := by decide +kernel
theorem dX5_cut_33 : decode cX5_cut 33 = .ok (.astore 5, 2) := by decide +kernel
theorem dX5_cut_35 : decode cX5_cut 35 = .ok (.aload 5, 2) := by decide +kernel
theorem dX5_cut_37 : decode cX5_cut 37 = .ok (.getfield 189, 3) := by decide +kernel
theorem dX5_cut_40 : decode cX5_cut 40 = .ok (.iload_n 3, 1) := by decide +kernel
theorem dX5_cut_41 : decode cX5_cut 41 = .ok (.if_icmp .ge 13, 3) := by decide +kernel
theorem dX5_cut_44 : decode cX5_cut 44 = .ok (.new 198, 3) := by decide +kernel
theorem dX5_cut_47 : decode cX5_cut 47 = .ok (.dup, 1) := by decide +kernel
theorem dX5_cut_48 : decode cX5_cut 48 = .ok (.ldc 200, 2) := by decide +kernel
theorem dX5_cut_50 : decode cX5_cut 50 = .ok (.invokespecial 202, 3) := by decide +kernel
theorem dX5_cut_53 : decode cX5_cut 53 = .ok (.athrow, 1) := by decide +kernel
theorem dX5_cut_54 : decode cX5_cut 54 = .ok (.aload 4, 2) := by decide +kernel
theorem dX5_cut_56 : decode cX5_cut 56 = .ok (.getfield 109, 3) := by decide +kernel
theorem dX5_cut_59 : decode cX5_cut 59 = .ok (.aload 5, 2) := by decide +kernel
theorem dX5_cut_61 : decode cX5_cut 61 = .ok (.iload_n 3, 1) := by decide +kernel
theorem dX5_cut_62 : decode cX5_cut 62 = .ok (.invokevirtual 203, 3) := by decide +kernel
theorem dX5_cut_65 : decode cX5_cut 65 = .ok (.invokevirtual 136, 3) := by decide +kernel
theorem dX5_cut_68 : decode cX5_cut 68 = .ok (.aload 5, 2) := by decide +kernel
theorem dX5_cut_70 : decode cX5_cut 70 = .ok (.getfield 189, 3) := by decide +kernel
theorem dX5_cut_73 : decode cX5_cut 73 = .ok (.iload_n 3, 1) := by decide +kernel
theorem dX5_cut_74 : decode cX5_cut 74 = .ok (.isub, 1) := by decide +kernel
theorem dX5_cut_75 : decode cX5_cut 75 = .ok (.ireturn, 1) := by decide +kernel
