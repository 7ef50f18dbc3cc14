theorem dX6_init_0 : decode cX6_init 0 = .ok (.aload_n 0, 1) := by decide +kernel
theorem dX6_init_1 : decode cX6_init 1 = .ok (.invokespecial 1, 3) := by decide +kernel
theorem dX6_init_4 : decode cX6_init 4 = .ok (.aload_n 0, 1) := by decide +kernel
theorem dX6_init_5 : decode cX6_init 5 = .ok (.bipush 32, 2) := by decide +kernel
theorem dX6_init_7 : decode cX6_init 7 = .ok (.newarray .int, 2) := by decide +kernel
theorem dX6_init_9 : decode cX6_init 9 = .ok (.putfield 7, 3) := by decide +kernel
theorem dX6_init_12 : decode cX6_init 12 = .ok (.aload_n 0, 1) := by decide +kernel
theorem dX6_init_13 : decode cX6_init 13 = .ok (.sipush 3200, 3) := by decide +kernel
theorem dX6_init_16 : decode cX6_init 16 = .ok (.newarray .int, 2) := by decide +kernel
theorem dX6_init_18 : decode cX6_init 18 = .ok (.putfield 13, 3) := by decide +kernel
theorem dX6_init_21 : decode cX6_init 21 = .ok (.aload_n 0, 1) := by decide +kernel
theorem dX6_init_22 : decode cX6_init 22 = .ok (.sipush 3200, 3) := by decide +kernel
theorem dX6_init_25 : decode cX6_init 25 = .ok (.newarray .boolean, 2) := by decide +kernel
theorem dX6_init_27 : decode cX6_init 27 = .ok (.putfield 16, 3) := by decide +kernel
theorem dX6_init_30 : decode cX6_init 30 = .ok (.aload_n 0, 1) := by decide +kernel
theorem dX6_init_31 : decode cX6_init 31 = .ok (.ldc 20, 2) := by decide +kernel
theorem dX6_init_33 : decode cX6_init 33 = .ok (.newarray .int, 2) := by decide +kernel
theorem dX6_init_35 : decode cX6_init 35 = .ok (.putfield 21, 3) := by decide +kernel
theorem dX6_init_38 : decode cX6_init 38 = .ok (.aload_n 0, 1) := by decide +kernel
theorem dX6_init_39 : decode cX6_init 39 = .ok (.sipush 3200, 3) := by decide +kernel
theorem dX6_init_42 : decode cX6_init 42 = .ok (.newarray .int, 2) := by decide +kernel
theorem dX6_init_44 : decode cX6_init 44 = .ok (.putfield 24, 3) := by decide +kernel
theorem dX6_init_47 : decode cX6_init 47 = .ok (.aload_n 0, 1) := by decide +kernel
theorem dX6_init_48 : decode cX6_init 48 = .ok (.ldc 27, 2) := by decide +kernel
theorem dX6_init_50 : decode cX6_init 50 = .ok (.newarray .int, 2) := by decide +kernel
theorem dX6_init_52 : decode cX6_init 52 = .ok (.putfield 28, 3) := by decide +kernel
theorem dX6_init_55 : decode cX6_init 55 = .ok (.aload_n 0, 1) := by decide +kernel
theorem dX6_init_56 : decode cX6_init 56 = .ok (.iconst 2, 1) := by decide +kernel
theorem dX6_init_57 : decode cX6_init 57 = .ok (.putfield 31, 3) := by decide +kernel
theorem dX6_init_60 : decode cX6_init 60 = .ok (.aload_n 0, 1) := by decide +kernel
theorem dX6_init_61 : decode cX6_init 61 = .ok (.bipush 6, 2) := by decide +kernel
theorem dX6_init_63 : decode cX6_init 63 = .ok (.newarray .boolean, 2) := by decide +kernel
theorem dX6_init_65 : decode cX6_init 65 = .ok (.putfield 35, 3) := by decide +kernel
theorem dX6_init_68 : decode cX6_init 68 = .ok (.aload_n 0, 1) := by decide +kernel
theorem dX6_init_69 : decode cX6_init 69 = .ok (.bipush 6, 2) := by decide +kernel
theorem dX6_init_71 : decode cX6_init 71 = .ok (.newarray .int, 2) := by decide +kernel
theorem dX6_init_73 : decode cX6_init 73 = .ok (.putfield 38, 3) := by decide +kernel
theorem dX6_init_76 : decode cX6_init 76 = .ok (.aload_n 0, 1) := by decide +kernel
theorem dX6_init_77 : decode cX6_init 77 = .ok (.ldc 41, 2) := by decide +kernel
theorem dX6_init_79 : decode cX6_init 79 = .ok (.newarray .boolean, 2) := by decide +kernel
theorem dX6_init_81 : decode cX6_init 81 = .ok (.putfield 42, 3) := by decide +kernel
theorem dX6_init_84 : decode cX6_init 84 = .ok (.aload_n 0, 1) := by decide +kernel
theorem dX6_init_85 : decode cX6_init 85 = .ok (.iconst (-1), 1) := by decide +kernel
theorem dX6_init_86 : decode cX6_init 86 = .ok (.putfield 45, 3) := by decide +kernel
theorem dX6_init_89 : decode cX6_init 89 = .ok (.aload_n 0, 1) := by decide +kernel
theorem dX6_init_90 : decode cX6_init 90 = .ok (.bipush 100, 2) := by decide +kernel
theorem dX6_init_92 : decode cX6_init 92 = .ok (.newarray .boolean, 2) := by decide +kernel
theorem dX6_init_94 : decode cX6_init 94 = .ok (.putfield 48, 3) := by decide +kernel
theorem dX6_init_97 : decode cX6_init 97 = .ok (.aload_n 0, 1) := by decide +kernel
theorem dX6_init_98 : decode cX6_init 98 = .ok (.bipush 100, 2) := by decide +kernel
theorem dX6_init_100 : decode cX6_init 100 = .ok (.newarray .int, 2) := by decide +kernel
theorem dX6_init_102 : decode cX6_init 102 = .ok (.putfield 51, 3) := by decide +kernel
theorem dX6_init_105 : decode cX6_init 105 = .ok (.aload_n 0, 1) := by decide +kernel
theorem dX6_init_106 : decode cX6_init 106 = .ok (.bipush 100, 2) := by decide +kernel
theorem dX6_init_108 : decode cX6_init 108 = .ok (.newarray .boolean, 2) := by decide +kernel
theorem dX6_init_110 : decode cX6_init 110 = .ok (.putfield 54, 3) := by decide +kernel
theorem dX6_init_113 : decode cX6_init 113 = .ok (.aload_n 0, 1) := by decide +kernel
theorem dX6_init_114 : decode cX6_init 114 = .ok (.bipush 100, 2) := by decide +kernel
theorem dX6_init_116 : decode cX6_init 116 = .ok (.newarray .long, 2) := by decide +kernel
theorem dX6_init_118 : decode cX6_init 118 = .ok (.putfield 57, 3) := by decide +kernel
theorem dX6_init_121 : decode cX6_init 121 = .ok (.aload_n 0, 1) := by decide +kernel
theorem dX6_init_122 : decode cX6_init 122 = .ok (.bipush 100, 2) := by decide +kernel
theorem dX6_init_124 : decode cX6_init 124 = .ok (.newarray .int, 2) := by decide +kernel
theorem dX6_init_126 : decode cX6_init 126 = .ok (.putfield 61, 3) := by decide +kernel
theorem dX6_init_129 : decode cX6_init 129 = .ok (.aload_n 0, 1) := by decide +kernel
theorem dX6_init_130 : decode cX6_init 130 = .ok (.bipush 100, 2) := by decide +kernel
theorem dX6_init_132 : decode cX6_init 132 = .ok (.newarray .boolean, 2) := by decide +kernel
theorem dX6_init_134 : decode cX6_init 134 = .ok (.putfield 64, 3) := by decide +kernel
theorem dX6_init_137 : decode cX6_init 137 = .ok (.aload_n 0, 1) := by decide +kernel
theorem dX6_init_138 : decode cX6_init 138 = .ok (.getfield 7, 3) := by decide +kernel
theorem dX6_init_141 : decode cX6_init 141 = .ok (.iconst 0, 1) := by decide +kernel
theorem dX6_init_142 : decode cX6_init 142 = .ok (.iconst 1, 1) := by decide +kernel
theorem dX6_init_143 : decode cX6_init 143 = .ok (.iastore, 1) := by decide +kernel
theorem dX6_init_144 : decode cX6_init 144 = .ok (.aload_n 0, 1) := by decide +kernel
theorem dX6_init_145 : decode cX6_init 145 = .ok (.getfield 13, 3) := by decide +kernel
theorem dX6_init_148 : decode cX6_init 148 = .ok (.iconst 0, 1) := by decide +kernel
theorem dX6_init_149 : decode cX6_init 149 = .ok (.iconst 1, 1) := by decide +kernel
theorem dX6_init_150 : decode cX6_init 150 = .ok (.iastore, 1) := by decide +kernel
theorem dX6_init_151 : decode cX6_init 151 = .ok (.aload_n 0, 1) := by decide +kernel
theorem dX6_init_152 : decode cX6_init 152 = .ok (.getfield 16, 3) := by decide +kernel
theorem dX6_init_155 : decode cX6_init 155 = .ok (.iconst 0, 1) := by decide +kernel
theorem dX6_init_156 : decode cX6_init 156 = .ok (.iconst 1, 1) := by decide +kernel
theorem dX6_init_157 : decode cX6_init 157 = .ok (.bastore, 1) := by decide +kernel
theorem dX6_init_158 : decode cX6_init 158 = .ok (.return_, 1) := by decide +kernel
theorem dX6_thrown_0 : decode cX6_thrown 0 = .ok (.aload_n 0, 1) := by decide +kernel
theorem dX6_thrown_1 : decode cX6_thrown 1 = .ok (.getfield 67, 3) := by decide +kernel
theorem dX6_thrown_4 : decode cX6_thrown 4 = .ok (.ireturn, 1) := by decide +kernel
theorem dX6_fails_0 : decode cX6_fails 0 = .ok (.aload_n 0, 1) := by decide +kernel
theorem dX6_fails_1 : decode cX6_fails 1 = .ok (.iload_n 1, 1) := by decide +kernel
theorem dX6_fails_2 : decode cX6_fails 2 = .ok (.putfield 67, 3) := by decide +kernel
theorem dX6_fails_5 : decode cX6_fails 5 = .ok (.iload_n 1, 1) := by decide +kernel
theorem dX6_fails_6 : decode cX6_fails 6 = .ok (.ifCond .le 7, 3) := by decide +kernel
theorem dX6_fails_9 : decode cX6_fails 9 = .ok (.iconst 1, 1) := by decide +kernel
theorem dX6_fails_10 : decode cX6_fails 10 = .ok (.goto 4, 3) := by decide +kernel
theorem dX6_fails_13 : decode cX6_fails 13 = .ok (.iconst 0, 1) := by decide +kernel
theorem dX6_fails_14 : decode cX6_fails 14 = .ok (.ireturn, 1) := by decide +kernel
theorem dX6_find_0 : decode cX6_find 0 = .ok (.iconst (-1), 1) := by decide +kernel
theorem dX6_find_1 : decode cX6_find 1 = .ok (.istore_n 3, 1) := by decide +kernel
theorem dX6_find_2 : decode cX6_find 2 = .ok (.bipush 100, 2) := by decide +kernel
theorem dX6_find_4 : decode cX6_find 4 = .ok (.iload_n 1, 1) := by decide +kernel
theorem dX6_find_5 : decode cX6_find 5 = .ok (.imul, 1) := by decide +kernel
theorem dX6_find_6 : decode cX6_find 6 = .ok (.istore 4, 2) := by decide +kernel
theorem dX6_find_8 : decode cX6_find 8 = .ok (.iload 4, 2) := by decide +kernel
theorem dX6_find_10 : decode cX6_find 10 = .ok (.bipush 100, 2) := by decide +kernel
theorem dX6_find_12 : decode cX6_find 12 = .ok (.iload_n 1, 1) := by decide +kernel
theorem dX6_find_13 : decode cX6_find 13 = .ok (.imul, 1) := by decide +kernel
theorem dX6_find_14 : decode cX6_find 14 = .ok (.aload_n 0, 1) := by decide +kernel
theorem dX6_find_15 : decode cX6_find 15 = .ok (.getfield 7, 3) := by decide +kernel
theorem dX6_find_18 : decode cX6_find 18 = .ok (.iload_n 1, 1) := by decide +kernel
theorem dX6_find_19 : decode cX6_find 19 = .ok (.iaload, 1) := by decide +kernel
theorem dX6_find_20 : decode cX6_find 20 = .ok (.iadd, 1) := by decide +kernel
theorem dX6_find_21 : decode cX6_find 21 = .ok (.if_icmp .ge 27, 3) := by decide +kernel
theorem dX6_find_24 : decode cX6_find 24 = .ok (.aload_n 0, 1) := by decide +kernel
theorem dX6_find_25 : decode cX6_find 25 = .ok (.getfield 13, 3) := by decide +kernel
theorem dX6_find_28 : decode cX6_find 28 = .ok (.iload 4, 2) := by decide +kernel
theorem dX6_find_30 : decode cX6_find 30 = .ok (.iaload, 1) := by decide +kernel
theorem dX6_find_31 : decode cX6_find 31 = .ok (.iload_n 2, 1) := by decide +kernel
theorem dX6_find_32 : decode cX6_find 32 = .ok (.if_icmp .ne 8, 3) := by decide +kernel
theorem dX6_find_35 : decode cX6_find 35 = .ok (.iload 4, 2) := by decide +kernel
theorem dX6_find_37 : decode cX6_find 37 = .ok (.goto 4, 3) := by decide +kernel
theorem dX6_find_40 : decode cX6_find 40 = .ok (.iload_n 3, 1) := by decide +kernel
theorem dX6_find_41 : decode cX6_find 41 = .ok (.istore_n 3, 1) := by decide +kernel
theorem dX6_find_42 : decode cX6_find 42 = .ok (.iinc 4 1, 3) := by decide +kernel
theorem dX6_find_45 : decode cX6_find 45 = .ok (.goto (-37), 3) := by decide +kernel
theorem dX6_find_48 : decode cX6_find 48 = .ok (.iload_n 3, 1) := by decide +kernel
theorem dX6_find_49 : decode cX6_find 49 = .ok (.ireturn, 1) := by decide +kernel
theorem dX6_copyNode_0 : decode cX6_copyNode 0 = .ok (.aload_n 0, 1) := by decide +kernel
theorem dX6_copyNode_1 : decode cX6_copyNode 1 = .ok (.getfield 13, 3) := by decide +kernel
theorem dX6_copyNode_4 : decode cX6_copyNode 4 = .ok (.iload_n 1, 1) := by decide +kernel
theorem dX6_copyNode_5 : decode cX6_copyNode 5 = .ok (.aload_n 0, 1) := by decide +kernel
theorem dX6_copyNode_6 : decode cX6_copyNode 6 = .ok (.getfield 13, 3) := by decide +kernel
theorem dX6_copyNode_9 : decode cX6_copyNode 9 = .ok (.iload_n 2, 1) := by decide +kernel
theorem dX6_copyNode_10 : decode cX6_copyNode 10 = .ok (.iaload, 1) := by decide +kernel
theorem dX6_copyNode_11 : decode cX6_copyNode 11 = .ok (.iastore, 1) := by decide +kernel
theorem dX6_copyNode_12 : decode cX6_copyNode 12 = .ok (.aload_n 0, 1) := by decide +kernel
theorem dX6_copyNode_13 : decode cX6_copyNode 13 = .ok (.getfield 16, 3) := by decide +kernel
theorem dX6_copyNode_16 : decode cX6_copyNode 16 = .ok (.iload_n 1, 1) := by decide +kernel
theorem dX6_copyNode_17 : decode cX6_copyNode 17 = .ok (.aload_n 0, 1) := by decide +kernel
theorem dX6_copyNode_18 : decode cX6_copyNode 18 = .ok (.getfield 16, 3) := by decide +kernel
theorem dX6_copyNode_21 : decode cX6_copyNode 21 = .ok (.iload_n 2, 1) := by decide +kernel
theorem dX6_copyNode_22 : decode cX6_copyNode 22 = .ok (.baload, 1) := by decide +kernel
theorem dX6_copyNode_23 : decode cX6_copyNode 23 = .ok (.bastore, 1) := by decide +kernel
theorem dX6_copyNode_24 : decode cX6_copyNode 24 = .ok (.aload_n 0, 1) := by decide +kernel
theorem dX6_copyNode_25 : decode cX6_copyNode 25 = .ok (.getfield 24, 3) := by decide +kernel
theorem dX6_copyNode_28 : decode cX6_copyNode 28 = .ok (.iload_n 1, 1) := by decide +kernel
theorem dX6_copyNode_29 : decode cX6_copyNode 29 = .ok (.aload_n 0, 1) := by decide +kernel
theorem dX6_copyNode_30 : decode cX6_copyNode 30 = .ok (.getfield 24, 3) := by decide +kernel
theorem dX6_copyNode_33 : decode cX6_copyNode 33 = .ok (.iload_n 2, 1) := by decide +kernel
theorem dX6_copyNode_34 : decode cX6_copyNode 34 = .ok (.iaload, 1) := by decide +kernel
theorem dX6_copyNode_35 : decode cX6_copyNode 35 = .ok (.iastore, 1) := by decide +kernel
theorem dX6_copyNode_36 : decode cX6_copyNode 36 = .ok (.iconst 0, 1) := by decide +kernel
theorem dX6_copyNode_37 : decode cX6_copyNode 37 = .ok (.istore_n 3, 1) := by decide +kernel
theorem dX6_copyNode_38 : decode cX6_copyNode 38 = .ok (.iload_n 3, 1) := by decide +kernel
theorem dX6_copyNode_39 : decode cX6_copyNode 39 = .ok (.bipush 16, 2) := by decide +kernel
theorem dX6_copyNode_41 : decode cX6_copyNode 41 = .ok (.if_icmp .ge 31, 3) := by decide +kernel
theorem dX6_copyNode_44 : decode cX6_copyNode 44 = .ok (.aload_n 0, 1) := by decide +kernel
theorem dX6_copyNode_45 : decode cX6_copyNode 45 = .ok (.getfield 21, 3) := by decide +kernel
theorem dX6_copyNode_48 : decode cX6_copyNode 48 = .ok (.bipush 16, 2) := by decide +kernel
theorem dX6_copyNode_50 : decode cX6_copyNode 50 = .ok (.iload_n 1, 1) := by decide +kernel
theorem dX6_copyNode_51 : decode cX6_copyNode 51 = .ok (.imul, 1) := by decide +kernel
theorem dX6_copyNode_52 : decode cX6_copyNode 52 = .ok (.iload_n 3, 1) := by decide +kernel
theorem dX6_copyNode_53 : decode cX6_copyNode 53 = .ok (.iadd, 1) := by decide +kernel
theorem dX6_copyNode_54 : decode cX6_copyNode 54 = .ok (.aload_n 0, 1) := by decide +kernel
theorem dX6_copyNode_55 : decode cX6_copyNode 55 = .ok (.getfield 21, 3) := by decide +kernel
theorem dX6_copyNode_58 : decode cX6_copyNode 58 = .ok (.bipush 16, 2) := by decide +kernel
theorem dX6_copyNode_60 : decode cX6_copyNode 60 = .ok (.iload_n 2, 1) := by decide +kernel
theorem dX6_copyNode_61 : decode cX6_copyNode 61 = .ok (.imul, 1) := by decide +kernel
theorem dX6_copyNode_62 : decode cX6_copyNode 62 = .ok (.iload_n 3, 1) := by decide +kernel
theorem dX6_copyNode_63 : decode cX6_copyNode 63 = .ok (.iadd, 1) := by decide +kernel
theorem dX6_copyNode_64 : decode cX6_copyNode 64 = .ok (.iaload, 1) := by decide +kernel
theorem dX6_copyNode_65 : decode cX6_copyNode 65 = .ok (.iastore, 1) := by decide +kernel
theorem dX6_copyNode_66 : decode cX6_copyNode 66 = .ok (.iinc 3 1, 3) := by decide +kernel
theorem dX6_copyNode_69 : decode cX6_copyNode 69 = .ok (.goto (-31), 3) := by decide +kernel
theorem dX6_copyNode_72 : decode cX6_copyNode 72 = .ok (.iconst 0, 1) := by decide +kernel
theorem dX6_copyNode_73 : decode cX6_copyNode 73 = .ok (.istore_n 3, 1) := by decide +kernel
theorem dX6_copyNode_74 : decode cX6_copyNode 74 = .ok (.iload_n 3, 1) := by decide +kernel
theorem dX6_copyNode_75 : decode cX6_copyNode 75 = .ok (.bipush 64, 2) := by decide +kernel
theorem dX6_copyNode_77 : decode cX6_copyNode 77 = .ok (.if_icmp .ge 31, 3) := by decide +kernel
theorem dX6_copyNode_80 : decode cX6_copyNode 80 = .ok (.aload_n 0, 1) := by decide +kernel
theorem dX6_copyNode_81 : decode cX6_copyNode 81 = .ok (.getfield 28, 3) := by decide +kernel
theorem dX6_copyNode_84 : decode cX6_copyNode 84 = .ok (.bipush 64, 2) := by decide +kernel
theorem dX6_copyNode_86 : decode cX6_copyNode 86 = .ok (.iload_n 1, 1) := by decide +kernel
theorem dX6_copyNode_87 : decode cX6_copyNode 87 = .ok (.imul, 1) := by decide +kernel
theorem dX6_copyNode_88 : decode cX6_copyNode 88 = .ok (.iload_n 3, 1) := by decide +kernel
theorem dX6_copyNode_89 : decode cX6_copyNode 89 = .ok (.iadd, 1) := by decide +kernel
theorem dX6_copyNode_90 : decode cX6_copyNode 90 = .ok (.aload_n 0, 1) := by decide +kernel
theorem dX6_copyNode_91 : decode cX6_copyNode 91 = .ok (.getfield 28, 3) := by decide +kernel
theorem dX6_copyNode_94 : decode cX6_copyNode 94 = .ok (.bipush 64, 2) := by decide +kernel
theorem dX6_copyNode_96 : decode cX6_copyNode 96 = .ok (.iload_n 2, 1) := by decide +kernel
theorem dX6_copyNode_97 : decode cX6_copyNode 97 = .ok (.imul, 1) := by decide +kernel
theorem dX6_copyNode_98 : decode cX6_copyNode 98 = .ok (.iload_n 3, 1) := by decide +kernel
theorem dX6_copyNode_99 : decode cX6_copyNode 99 = .ok (.iadd, 1) := by decide +kernel
theorem dX6_copyNode_100 : decode cX6_copyNode 100 = .ok (.iaload, 1) := by decide +kernel
theorem dX6_copyNode_101 : decode cX6_copyNode 101 = .ok (.iastore, 1) := by decide +kernel
theorem dX6_copyNode_102 : decode cX6_copyNode 102 = .ok (.iinc 3 1, 3) := by decide +kernel
theorem dX6_copyNode_105 : decode cX6_copyNode 105 = .ok (.goto (-31), 3) := by decide +kernel
theorem dX6_copyNode_108 : decode cX6_copyNode 108 = .ok (.return_, 1) := by decide +kernel
theorem dX6_copyTree_0 : decode cX6_copyTree 0 = .ok (.aload_n 0, 1) := by decide +kernel
theorem dX6_copyTree_1 : decode cX6_copyTree 1 = .ok (.getfield 7, 3) := by decide +kernel
theorem dX6_copyTree_4 : decode cX6_copyTree 4 = .ok (.iload_n 1, 1) := by decide +kernel
theorem dX6_copyTree_5 : decode cX6_copyTree 5 = .ok (.aload_n 0, 1) := by decide +kernel
theorem dX6_copyTree_6 : decode cX6_copyTree 6 = .ok (.getfield 7, 3) := by decide +kernel
theorem dX6_copyTree_9 : decode cX6_copyTree 9 = .ok (.iload_n 2, 1) := by decide +kernel
theorem dX6_copyTree_10 : decode cX6_copyTree 10 = .ok (.iaload, 1) := by decide +kernel
theorem dX6_copyTree_11 : decode cX6_copyTree 11 = .ok (.iastore, 1) := by decide +kernel
theorem dX6_copyTree_12 : decode cX6_copyTree 12 = .ok (.iconst 0, 1) := by decide +kernel
theorem dX6_copyTree_13 : decode cX6_copyTree 13 = .ok (.istore_n 3, 1) := by decide +kernel
theorem dX6_copyTree_14 : decode cX6_copyTree 14 = .ok (.iload_n 3, 1) := by decide +kernel
theorem dX6_copyTree_15 : decode cX6_copyTree 15 = .ok (.aload_n 0, 1) := by decide +kernel
theorem dX6_copyTree_16 : decode cX6_copyTree 16 = .ok (.getfield 7, 3) := by decide +kernel
theorem dX6_copyTree_19 : decode cX6_copyTree 19 = .ok (.iload_n 2, 1) := by decide +kernel
theorem dX6_copyTree_20 : decode cX6_copyTree 20 = .ok (.iaload, 1) := by decide +kernel
theorem dX6_copyTree_21 : decode cX6_copyTree 21 = .ok (.if_icmp .ge 25, 3) := by decide +kernel
theorem dX6_copyTree_24 : decode cX6_copyTree 24 = .ok (.aload_n 0, 1) := by decide +kernel
theorem dX6_copyTree_25 : decode cX6_copyTree 25 = .ok (.bipush 100, 2) := by decide +kernel
theorem dX6_copyTree_27 : decode cX6_copyTree 27 = .ok (.iload_n 1, 1) := by decide +kernel
theorem dX6_copyTree_28 : decode cX6_copyTree 28 = .ok (.imul, 1) := by decide +kernel
theorem dX6_copyTree_29 : decode cX6_copyTree 29 = .ok (.iload_n 3, 1) := by decide +kernel
theorem dX6_copyTree_30 : decode cX6_copyTree 30 = .ok (.iadd, 1) := by decide +kernel
theorem dX6_copyTree_31 : decode cX6_copyTree 31 = .ok (.bipush 100, 2) := by decide +kernel
theorem dX6_copyTree_33 : decode cX6_copyTree 33 = .ok (.iload_n 2, 1) := by decide +kernel
theorem dX6_copyTree_34 : decode cX6_copyTree 34 = .ok (.imul, 1) := by decide +kernel
theorem dX6_copyTree_35 : decode cX6_copyTree 35 = .ok (.iload_n 3, 1) := by decide +kernel
theorem dX6_copyTree_36 : decode cX6_copyTree 36 = .ok (.iadd, 1) := by decide +kernel
theorem dX6_copyTree_37 : decode cX6_copyTree 37 = .ok (.invokevirtual 70, 3) := by decide +kernel
theorem dX6_copyTree_40 : decode cX6_copyTree 40 = .ok (.iinc 3 1, 3) := by decide +kernel
theorem dX6_copyTree_43 : decode cX6_copyTree 43 = .ok (.goto (-29), 3) := by decide +kernel
theorem dX6_copyTree_46 : decode cX6_copyTree 46 = .ok (.return_, 1) := by decide +kernel
theorem dX6_valueOf_0 : decode cX6_valueOf 0 = .ok (.iload_n 2, 1) := by decide +kernel
theorem dX6_valueOf_1 : decode cX6_valueOf 1 = .ok (.bipush 15, 2) := by decide +kernel
theorem dX6_valueOf_3 : decode cX6_valueOf 3 = .ok (.if_icmp .ge 17, 3) := by decide +kernel
theorem dX6_valueOf_6 : decode cX6_valueOf 6 = .ok (.aload_n 0, 1) := by decide +kernel
theorem dX6_valueOf_7 : decode cX6_valueOf 7 = .ok (.getfield 21, 3) := by decide +kernel
theorem dX6_valueOf_10 : decode cX6_valueOf 10 = .ok (.bipush 16, 2) := by decide +kernel
theorem dX6_valueOf_12 : decode cX6_valueOf 12 = .ok (.iload_n 1, 1) := by decide +kernel
theorem dX6_valueOf_13 : decode cX6_valueOf 13 = .ok (.imul, 1) := by decide +kernel
theorem dX6_valueOf_14 : decode cX6_valueOf 14 = .ok (.iload_n 2, 1) := by decide +kernel
theorem dX6_valueOf_15 : decode cX6_valueOf 15 = .ok (.iadd, 1) := by decide +kernel
theorem dX6_valueOf_16 : decode cX6_valueOf 16 = .ok (.iconst 1, 1) := by decide +kernel
theorem dX6_valueOf_17 : decode cX6_valueOf 17 = .ok (.iadd, 1) := by decide +kernel
theorem dX6_valueOf_18 : decode cX6_valueOf 18 = .ok (.iaload, 1) := by decide +kernel
theorem dX6_valueOf_19 : decode cX6_valueOf 19 = .ok (.ireturn, 1) := by decide +kernel
theorem dX6_valueOf_20 : decode cX6_valueOf 20 = .ok (.iload_n 2, 1) := by decide +kernel
theorem dX6_valueOf_21 : decode cX6_valueOf 21 = .ok (.bipush 30, 2) := by decide +kernel
theorem dX6_valueOf_23 : decode cX6_valueOf 23 = .ok (.if_icmp .ge 26, 3) := by decide +kernel
theorem dX6_valueOf_26 : decode cX6_valueOf 26 = .ok (.aload_n 0, 1) := by decide +kernel
theorem dX6_valueOf_27 : decode cX6_valueOf 27 = .ok (.getfield 21, 3) := by decide +kernel
theorem dX6_valueOf_30 : decode cX6_valueOf 30 = .ok (.bipush 16, 2) := by decide +kernel
theorem dX6_valueOf_32 : decode cX6_valueOf 32 = .ok (.iload_n 1, 1) := by decide +kernel
theorem dX6_valueOf_33 : decode cX6_valueOf 33 = .ok (.imul, 1) := by decide +kernel
theorem dX6_valueOf_34 : decode cX6_valueOf 34 = .ok (.iload_n 2, 1) := by decide +kernel
theorem dX6_valueOf_35 : decode cX6_valueOf 35 = .ok (.iadd, 1) := by decide +kernel
theorem dX6_valueOf_36 : decode cX6_valueOf 36 = .ok (.bipush 14, 2) := by decide +kernel
theorem dX6_valueOf_38 : decode cX6_valueOf 38 = .ok (.isub, 1) := by decide +kernel
theorem dX6_valueOf_39 : decode cX6_valueOf 39 = .ok (.iaload, 1) := by decide +kernel
theorem dX6_valueOf_40 : decode cX6_valueOf 40 = .ok (.ifCond .le 7, 3) := by decide +kernel
theorem dX6_valueOf_43 : decode cX6_valueOf 43 = .ok (.iconst 1, 1) := by decide +kernel
theorem dX6_valueOf_44 : decode cX6_valueOf 44 = .ok (.goto 4, 3) := by decide +kernel
theorem dX6_valueOf_47 : decode cX6_valueOf 47 = .ok (.iconst 0, 1) := by decide +kernel
theorem dX6_valueOf_48 : decode cX6_valueOf 48 = .ok (.ireturn, 1) := by decide +kernel
theorem dX6_valueOf_49 : decode cX6_valueOf 49 = .ok (.iload_n 2, 1) := by decide +kernel
theorem dX6_valueOf_50 : decode cX6_valueOf 50 = .ok (.bipush 30, 2) := by decide +kernel
theorem dX6_valueOf_52 : decode cX6_valueOf 52 = .ok (.if_icmp .ne 12, 3) := by decide +kernel
theorem dX6_valueOf_55 : decode cX6_valueOf 55 = .ok (.aload_n 0, 1) := by decide +kernel
theorem dX6_valueOf_56 : decode cX6_valueOf 56 = .ok (.getfield 24, 3) := by decide +kernel
theorem dX6_valueOf_59 : decode cX6_valueOf 59 = .ok (.iload_n 1, 1) := by decide +kernel
theorem dX6_valueOf_60 : decode cX6_valueOf 60 = .ok (.iaload, 1) := by decide +kernel
theorem dX6_valueOf_61 : decode cX6_valueOf 61 = .ok (.goto 17, 3) := by decide +kernel
theorem dX6_valueOf_64 : decode cX6_valueOf 64 = .ok (.aload_n 0, 1) := by decide +kernel
theorem dX6_valueOf_65 : decode cX6_valueOf 65 = .ok (.getfield 28, 3) := by decide +kernel
theorem dX6_valueOf_68 : decode cX6_valueOf 68 = .ok (.bipush 64, 2) := by decide +kernel
theorem dX6_valueOf_70 : decode cX6_valueOf 70 = .ok (.iload_n 1, 1) := by decide +kernel
theorem dX6_valueOf_71 : decode cX6_valueOf 71 = .ok (.imul, 1) := by decide +kernel
theorem dX6_valueOf_72 : decode cX6_valueOf 72 = .ok (.iload_n 2, 1) := by decide +kernel
theorem dX6_valueOf_73 : decode cX6_valueOf 73 = .ok (.iadd, 1) := by decide +kernel
theorem dX6_valueOf_74 : decode cX6_valueOf 74 = .ok (.bipush 31, 2) := by decide +kernel
theorem dX6_valueOf_76 : decode cX6_valueOf 76 = .ok (.isub, 1) := by decide +kernel
theorem dX6_valueOf_77 : decode cX6_valueOf 77 = .ok (.iaload, 1) := by decide +kernel
theorem dX6_valueOf_78 : decode cX6_valueOf 78 = .ok (.ireturn, 1) := by decide +kernel
theorem dX6_hasCode_0 : decode cX6_hasCode 0 = .ok (.iload_n 0, 1) := by decide +kernel
theorem dX6_hasCode_1 : decode cX6_hasCode 1 = .ok (.iload_n 1, 1) := by decide +kernel
theorem dX6_hasCode_2 : decode cX6_hasCode 2 = .ok (.bipush 30, 2) := by decide +kernel
theorem dX6_hasCode_4 : decode cX6_hasCode 4 = .ok (.if_icmp .ge 7, 3) := by decide +kernel
theorem dX6_hasCode_7 : decode cX6_hasCode 7 = .ok (.iconst 1, 1) := by decide +kernel
theorem dX6_hasCode_8 : decode cX6_hasCode 8 = .ok (.goto 4, 3) := by decide +kernel
theorem dX6_hasCode_11 : decode cX6_hasCode 11 = .ok (.iconst 0, 1) := by decide +kernel
theorem dX6_hasCode_12 : decode cX6_hasCode 12 = .ok (.if_icmp .ne 7, 3) := by decide +kernel
theorem dX6_hasCode_15 : decode cX6_hasCode 15 = .ok (.iconst 1, 1) := by decide +kernel
theorem dX6_hasCode_16 : decode cX6_hasCode 16 = .ok (.goto 4, 3) := by decide +kernel
theorem dX6_hasCode_19 : decode cX6_hasCode 19 = .ok (.iconst 0, 1) := by decide +kernel
theorem dX6_hasCode_20 : decode cX6_hasCode 20 = .ok (.ireturn, 1) := by decide +kernel
theorem dX6_tree_0 : decode cX6_tree 0 = .ok (.iload_n 1, 1) := by decide +kernel
theorem dX6_tree_1 : decode cX6_tree 1 = .ok (.iconst (-1), 1) := by decide +kernel
theorem dX6_tree_2 : decode cX6_tree 2 = .ok (.if_icmp .ne 7, 3) := by decide +kernel
theorem dX6_tree_5 : decode cX6_tree 5 = .ok (.iconst 0, 1) := by decide +kernel
theorem dX6_tree_6 : decode cX6_tree 6 = .ok (.goto 8, 3) := by decide +kernel
theorem dX6_tree_9 : decode cX6_tree 9 = .ok (.iconst 2, 1) := by decide +kernel
theorem dX6_tree_10 : decode cX6_tree 10 = .ok (.iconst 5, 1) := by decide +kernel
theorem dX6_tree_11 : decode cX6_tree 11 = .ok (.iload_n 1, 1) := by decide +kernel
theorem dX6_tree_12 : decode cX6_tree 12 = .ok (.imul, 1) := by decide +kernel
theorem dX6_tree_13 : decode cX6_tree 13 = .ok (.iadd, 1) := by decide +kernel
theorem dX6_tree_14 : decode cX6_tree 14 = .ok (.ireturn, 1) := by decide +kernel
theorem dX6_lookAt_0 : decode cX6_lookAt 0 = .ok (.iload_n 1, 1) := by decide +kernel
theorem dX6_lookAt_1 : decode cX6_lookAt 1 = .ok (.iconst (-1), 1) := by decide +kernel
theorem dX6_lookAt_2 : decode cX6_lookAt 2 = .ok (.if_icmp .ne 4, 3) := by decide +kernel
theorem dX6_lookAt_5 : decode cX6_lookAt 5 = .ok (.return_, 1) := by decide +kernel
theorem dX6_lookAt_6 : decode cX6_lookAt 6 = .ok (.aload_n 0, 1) := by decide +kernel
theorem dX6_lookAt_7 : decode cX6_lookAt 7 = .ok (.iconst 1, 1) := by decide +kernel
theorem dX6_lookAt_8 : decode cX6_lookAt 8 = .ok (.iconst 5, 1) := by decide +kernel
theorem dX6_lookAt_9 : decode cX6_lookAt 9 = .ok (.iload_n 1, 1) := by decide +kernel
theorem dX6_lookAt_10 : decode cX6_lookAt 10 = .ok (.imul, 1) := by decide +kernel
theorem dX6_lookAt_11 : decode cX6_lookAt 11 = .ok (.iadd, 1) := by decide +kernel
theorem dX6_lookAt_12 : decode cX6_lookAt 12 = .ok (.aload_n 0, 1) := by decide +kernel
theorem dX6_lookAt_13 : decode cX6_lookAt 13 = .ok (.getfield 13, 3) := by decide +kernel
theorem dX6_lookAt_16 : decode cX6_lookAt 16 = .ok (.iload_n 2, 1) := by decide +kernel
theorem dX6_lookAt_17 : decode cX6_lookAt 17 = .ok (.iaload, 1) := by decide +kernel
theorem dX6_lookAt_18 : decode cX6_lookAt 18 = .ok (.invokevirtual 74, 3) := by decide +kernel
theorem dX6_lookAt_21 : decode cX6_lookAt 21 = .ok (.istore 4, 2) := by decide +kernel
theorem dX6_lookAt_23 : decode cX6_lookAt 23 = .ok (.iload 4, 2) := by decide +kernel
theorem dX6_lookAt_25 : decode cX6_lookAt 25 = .ok (.ifCond .lt 47, 3) := by decide +kernel
theorem dX6_lookAt_28 : decode cX6_lookAt 28 = .ok (.aload_n 0, 1) := by decide +kernel
theorem dX6_lookAt_29 : decode cX6_lookAt 29 = .ok (.iload 4, 2) := by decide +kernel
theorem dX6_lookAt_31 : decode cX6_lookAt 31 = .ok (.iload_n 3, 1) := by decide +kernel
theorem dX6_lookAt_32 : decode cX6_lookAt 32 = .ok (.invokevirtual 78, 3) := by decide +kernel
theorem dX6_lookAt_35 : decode cX6_lookAt 35 = .ok (.aload_n 0, 1) := by decide +kernel
theorem dX6_lookAt_36 : decode cX6_lookAt 36 = .ok (.iload_n 2, 1) := by decide +kernel
theorem dX6_lookAt_37 : decode cX6_lookAt 37 = .ok (.iload_n 3, 1) := by decide +kernel
theorem dX6_lookAt_38 : decode cX6_lookAt 38 = .ok (.invokevirtual 78, 3) := by decide +kernel
theorem dX6_lookAt_41 : decode cX6_lookAt 41 = .ok (.if_icmp .ne 31, 3) := by decide +kernel
theorem dX6_lookAt_44 : decode cX6_lookAt 44 = .ok (.aload_n 0, 1) := by decide +kernel
theorem dX6_lookAt_45 : decode cX6_lookAt 45 = .ok (.getfield 42, 3) := by decide +kernel
theorem dX6_lookAt_48 : decode cX6_lookAt 48 = .ok (.sipush 9500, 3) := by decide +kernel
theorem dX6_lookAt_51 : decode cX6_lookAt 51 = .ok (.iload_n 1, 1) := by decide +kernel
theorem dX6_lookAt_52 : decode cX6_lookAt 52 = .ok (.imul, 1) := by decide +kernel
theorem dX6_lookAt_53 : decode cX6_lookAt 53 = .ok (.bipush 95, 2) := by decide +kernel
theorem dX6_lookAt_55 : decode cX6_lookAt 55 = .ok (.iload 4, 2) := by decide +kernel
theorem dX6_lookAt_57 : decode cX6_lookAt 57 = .ok (.bipush 100, 2) := by decide +kernel
theorem dX6_lookAt_59 : decode cX6_lookAt 59 = .ok (.iconst 1, 1) := by decide +kernel
theorem dX6_lookAt_60 : decode cX6_lookAt 60 = .ok (.iconst 5, 1) := by decide +kernel
theorem dX6_lookAt_61 : decode cX6_lookAt 61 = .ok (.iload_n 1, 1) := by decide +kernel
theorem dX6_lookAt_62 : decode cX6_lookAt 62 = .ok (.imul, 1) := by decide +kernel
theorem dX6_lookAt_63 : decode cX6_lookAt 63 = .ok (.iadd, 1) := by decide +kernel
theorem dX6_lookAt_64 : decode cX6_lookAt 64 = .ok (.imul, 1) := by decide +kernel
theorem dX6_lookAt_65 : decode cX6_lookAt 65 = .ok (.isub, 1) := by decide +kernel
theorem dX6_lookAt_66 : decode cX6_lookAt 66 = .ok (.imul, 1) := by decide +kernel
theorem dX6_lookAt_67 : decode cX6_lookAt 67 = .ok (.iadd, 1) := by decide +kernel
theorem dX6_lookAt_68 : decode cX6_lookAt 68 = .ok (.iload_n 3, 1) := by decide +kernel
theorem dX6_lookAt_69 : decode cX6_lookAt 69 = .ok (.iadd, 1) := by decide +kernel
theorem dX6_lookAt_70 : decode cX6_lookAt 70 = .ok (.iconst 1, 1) := by decide +kernel
theorem dX6_lookAt_71 : decode cX6_lookAt 71 = .ok (.bastore, 1) := by decide +kernel
theorem dX6_lookAt_72 : decode cX6_lookAt 72 = .ok (.return_, 1) := by decide +kernel
theorem dX6_lookAtAll_0 : decode cX6_lookAtAll 0 = .ok (.bipush 15, 2) := by decide +kernel
theorem dX6_lookAtAll_2 : decode cX6_lookAtAll 2 = .ok (.istore_n 3, 1) := by decide +kernel
theorem dX6_lookAtAll_3 : decode cX6_lookAtAll 3 = .ok (.iload_n 3, 1) := by decide +kernel
theorem dX6_lookAtAll_4 : decode cX6_lookAtAll 4 = .ok (.bipush 30, 2) := by decide +kernel
theorem dX6_lookAtAll_6 : decode cX6_lookAtAll 6 = .ok (.if_icmp .ge 16, 3) := by decide +kernel
theorem dX6_lookAtAll_9 : decode cX6_lookAtAll 9 = .ok (.aload_n 0, 1) := by decide +kernel
theorem dX6_lookAtAll_10 : decode cX6_lookAtAll 10 = .ok (.iload_n 1, 1) := by decide +kernel
theorem dX6_lookAtAll_11 : decode cX6_lookAtAll 11 = .ok (.iload_n 2, 1) := by decide +kernel
theorem dX6_lookAtAll_12 : decode cX6_lookAtAll 12 = .ok (.iload_n 3, 1) := by decide +kernel
theorem dX6_lookAtAll_13 : decode cX6_lookAtAll 13 = .ok (.invokevirtual 81, 3) := by decide +kernel
theorem dX6_lookAtAll_16 : decode cX6_lookAtAll 16 = .ok (.iinc 3 1, 3) := by decide +kernel
theorem dX6_lookAtAll_19 : decode cX6_lookAtAll 19 = .ok (.goto (-16), 3) := by decide +kernel
theorem dX6_lookAtAll_22 : decode cX6_lookAtAll 22 = .ok (.return_, 1) := by decide +kernel
theorem dX6_isPath_0 : decode cX6_isPath 0 = .ok (.iload_n 0, 1) := by decide +kernel
theorem dX6_isPath_1 : decode cX6_isPath 1 = .ok (.ifCond .lt 13, 3) := by decide +kernel
theorem dX6_isPath_4 : decode cX6_isPath 4 = .ok (.iload_n 0, 1) := by decide +kernel
theorem dX6_isPath_5 : decode cX6_isPath 5 = .ok (.ldc 85, 2) := by decide +kernel
theorem dX6_isPath_7 : decode cX6_isPath 7 = .ok (.if_icmp .ge 7, 3) := by decide +kernel
theorem dX6_isPath_10 : decode cX6_isPath 10 = .ok (.iconst 1, 1) := by decide +kernel
theorem dX6_isPath_11 : decode cX6_isPath 11 = .ok (.goto 4, 3) := by decide +kernel
theorem dX6_isPath_14 : decode cX6_isPath 14 = .ok (.iconst 0, 1) := by decide +kernel
theorem dX6_isPath_15 : decode cX6_isPath 15 = .ok (.istore_n 1, 1) := by decide +kernel
theorem dX6_isPath_16 : decode cX6_isPath 16 = .ok (.iconst 0, 1) := by decide +kernel
theorem dX6_isPath_17 : decode cX6_isPath 17 = .ok (.istore_n 2, 1) := by decide +kernel
theorem dX6_isPath_18 : decode cX6_isPath 18 = .ok (.bipush 24, 2) := by decide +kernel
theorem dX6_isPath_20 : decode cX6_isPath 20 = .ok (.istore_n 3, 1) := by decide +kernel
theorem dX6_isPath_21 : decode cX6_isPath 21 = .ok (.iload_n 3, 1) := by decide +kernel
theorem dX6_isPath_22 : decode cX6_isPath 22 = .ok (.ifCond .lt 51, 3) := by decide +kernel
theorem dX6_isPath_25 : decode cX6_isPath 25 = .ok (.iload_n 1, 1) := by decide +kernel
theorem dX6_isPath_26 : decode cX6_isPath 26 = .ok (.ifCond .eq 47, 3) := by decide +kernel
theorem dX6_isPath_29 : decode cX6_isPath 29 = .ok (.iload_n 0, 1) := by decide +kernel
theorem dX6_isPath_30 : decode cX6_isPath 30 = .ok (.iload_n 3, 1) := by decide +kernel
theorem dX6_isPath_31 : decode cX6_isPath 31 = .ok (.ishr, 1) := by decide +kernel
theorem dX6_isPath_32 : decode cX6_isPath 32 = .ok (.bipush 15, 2) := by decide +kernel
theorem dX6_isPath_34 : decode cX6_isPath 34 = .ok (.iand, 1) := by decide +kernel
theorem dX6_isPath_35 : decode cX6_isPath 35 = .ok (.istore 4, 2) := by decide +kernel
theorem dX6_isPath_37 : decode cX6_isPath 37 = .ok (.iload 4, 2) := by decide +kernel
theorem dX6_isPath_39 : decode cX6_isPath 39 = .ok (.ifCond .gt 7, 3) := by decide +kernel
theorem dX6_isPath_42 : decode cX6_isPath 42 = .ok (.iload_n 2, 1) := by decide +kernel
theorem dX6_isPath_43 : decode cX6_isPath 43 = .ok (.ifCond .ne 7, 3) := by decide +kernel
theorem dX6_isPath_46 : decode cX6_isPath 46 = .ok (.iconst 1, 1) := by decide +kernel
theorem dX6_isPath_47 : decode cX6_isPath 47 = .ok (.goto 4, 3) := by decide +kernel
theorem dX6_isPath_50 : decode cX6_isPath 50 = .ok (.iconst 0, 1) := by decide +kernel
theorem dX6_isPath_51 : decode cX6_isPath 51 = .ok (.istore_n 1, 1) := by decide +kernel
theorem dX6_isPath_52 : decode cX6_isPath 52 = .ok (.iload_n 2, 1) := by decide +kernel
theorem dX6_isPath_53 : decode cX6_isPath 53 = .ok (.ifCond .ne 8, 3) := by decide +kernel
theorem dX6_isPath_56 : decode cX6_isPath 56 = .ok (.iload 4, 2) := by decide +kernel
theorem dX6_isPath_58 : decode cX6_isPath 58 = .ok (.ifCond .le 7, 3) := by decide +kernel
theorem dX6_isPath_61 : decode cX6_isPath 61 = .ok (.iconst 1, 1) := by decide +kernel
theorem dX6_isPath_62 : decode cX6_isPath 62 = .ok (.goto 4, 3) := by decide +kernel
theorem dX6_isPath_65 : decode cX6_isPath 65 = .ok (.iconst 0, 1) := by decide +kernel
theorem dX6_isPath_66 : decode cX6_isPath 66 = .ok (.istore_n 2, 1) := by decide +kernel
theorem dX6_isPath_67 : decode cX6_isPath 67 = .ok (.iinc 3 (-4), 3) := by decide +kernel
theorem dX6_isPath_70 : decode cX6_isPath 70 = .ok (.goto (-49), 3) := by decide +kernel
theorem dX6_isPath_73 : decode cX6_isPath 73 = .ok (.iload_n 1, 1) := by decide +kernel
theorem dX6_isPath_74 : decode cX6_isPath 74 = .ok (.ireturn, 1) := by decide +kernel
theorem dX6_lookUp_0 : decode cX6_lookUp 0 = .ok (.bipush 100, 2) := by decide +kernel
theorem dX6_lookUp_2 : decode cX6_lookUp 2 = .ok (.aload_n 0, 1) := by decide +kernel
theorem dX6_lookUp_3 : decode cX6_lookUp 3 = .ok (.iload_n 1, 1) := by decide +kernel
theorem dX6_lookUp_4 : decode cX6_lookUp 4 = .ok (.invokevirtual 86, 3) := by decide +kernel
theorem dX6_lookUp_7 : decode cX6_lookUp 7 = .ok (.imul, 1) := by decide +kernel
theorem dX6_lookUp_8 : decode cX6_lookUp 8 = .ok (.istore_n 3, 1) := by decide +kernel
theorem dX6_lookUp_9 : decode cX6_lookUp 9 = .ok (.bipush 24, 2) := by decide +kernel
theorem dX6_lookUp_11 : decode cX6_lookUp 11 = .ok (.istore 4, 2) := by decide +kernel
theorem dX6_lookUp_13 : decode cX6_lookUp 13 = .ok (.iload 4, 2) := by decide +kernel
theorem dX6_lookUp_15 : decode cX6_lookUp 15 = .ok (.ifCond .lt 49, 3) := by decide +kernel
theorem dX6_lookUp_18 : decode cX6_lookUp 18 = .ok (.iload_n 3, 1) := by decide +kernel
theorem dX6_lookUp_19 : decode cX6_lookUp 19 = .ok (.ifCond .lt 45, 3) := by decide +kernel
theorem dX6_lookUp_22 : decode cX6_lookUp 22 = .ok (.iload_n 2, 1) := by decide +kernel
theorem dX6_lookUp_23 : decode cX6_lookUp 23 = .ok (.iload 4, 2) := by decide +kernel
theorem dX6_lookUp_25 : decode cX6_lookUp 25 = .ok (.ishr, 1) := by decide +kernel
theorem dX6_lookUp_26 : decode cX6_lookUp 26 = .ok (.bipush 15, 2) := by decide +kernel
theorem dX6_lookUp_28 : decode cX6_lookUp 28 = .ok (.iand, 1) := by decide +kernel
theorem dX6_lookUp_29 : decode cX6_lookUp 29 = .ok (.istore 5, 2) := by decide +kernel
theorem dX6_lookUp_31 : decode cX6_lookUp 31 = .ok (.iload 5, 2) := by decide +kernel
theorem dX6_lookUp_33 : decode cX6_lookUp 33 = .ok (.ifCond .le 25, 3) := by decide +kernel
theorem dX6_lookUp_36 : decode cX6_lookUp 36 = .ok (.aload_n 0, 1) := by decide +kernel
theorem dX6_lookUp_37 : decode cX6_lookUp 37 = .ok (.getfield 16, 3) := by decide +kernel
theorem dX6_lookUp_40 : decode cX6_lookUp 40 = .ok (.iload_n 3, 1) := by decide +kernel
theorem dX6_lookUp_41 : decode cX6_lookUp 41 = .ok (.baload, 1) := by decide +kernel
theorem dX6_lookUp_42 : decode cX6_lookUp 42 = .ok (.ifCond .eq 14, 3) := by decide +kernel
theorem dX6_lookUp_45 : decode cX6_lookUp 45 = .ok (.aload_n 0, 1) := by decide +kernel
theorem dX6_lookUp_46 : decode cX6_lookUp 46 = .ok (.iload_n 1, 1) := by decide +kernel
theorem dX6_lookUp_47 : decode cX6_lookUp 47 = .ok (.iload_n 3, 1) := by decide +kernel
theorem dX6_lookUp_48 : decode cX6_lookUp 48 = .ok (.iload 5, 2) := by decide +kernel
theorem dX6_lookUp_50 : decode cX6_lookUp 50 = .ok (.invokevirtual 90, 3) := by decide +kernel
theorem dX6_lookUp_53 : decode cX6_lookUp 53 = .ok (.goto 4, 3) := by decide +kernel
theorem dX6_lookUp_56 : decode cX6_lookUp 56 = .ok (.iconst (-1), 1) := by decide +kernel
theorem dX6_lookUp_57 : decode cX6_lookUp 57 = .ok (.istore_n 3, 1) := by decide +kernel
theorem dX6_lookUp_58 : decode cX6_lookUp 58 = .ok (.iinc 4 (-4), 3) := by decide +kernel
theorem dX6_lookUp_61 : decode cX6_lookUp 61 = .ok (.goto (-48), 3) := by decide +kernel
theorem dX6_lookUp_64 : decode cX6_lookUp 64 = .ok (.iload_n 3, 1) := by decide +kernel
theorem dX6_lookUp_65 : decode cX6_lookUp 65 = .ok (.ireturn, 1) := by decide +kernel
theorem dX6_enter_0 : decode cX6_enter 0 = .ok (.aload_n 0, 1) := by decide +kernel
theorem dX6_enter_1 : decode cX6_enter 1 = .ok (.iload_n 1, 1) := by decide +kernel
theorem dX6_enter_2 : decode cX6_enter 2 = .ok (.iload_n 2, 1) := by decide +kernel
theorem dX6_enter_3 : decode cX6_enter 3 = .ok (.iload_n 3, 1) := by decide +kernel
theorem dX6_enter_4 : decode cX6_enter 4 = .ok (.iconst 1, 1) := by decide +kernel
theorem dX6_enter_5 : decode cX6_enter 5 = .ok (.isub, 1) := by decide +kernel
