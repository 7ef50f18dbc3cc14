theorem dX1_init_0 : decode cX1_init 0 = .ok (.aload_n 0, 1) := by decide +kernel
theorem dX1_init_1 : decode cX1_init 1 = .ok (.invokespecial 3, 3) := by decide +kernel
theorem dX1_init_4 : decode cX1_init 4 = .ok (.aload_n 0, 1) := by decide +kernel
theorem dX1_init_5 : decode cX1_init 5 = .ok (.iconst 0, 1) := by decide +kernel
theorem dX1_init_6 : decode cX1_init 6 = .ok (.putfield 9, 3) := by decide +kernel
theorem dX1_init_9 : decode cX1_init 9 = .ok (.aload_n 0, 1) := by decide +kernel
theorem dX1_init_10 : decode cX1_init 10 = .ok (.iconst 0, 1) := by decide +kernel
theorem dX1_init_11 : decode cX1_init 11 = .ok (.putfield 15, 3) := by decide +kernel
theorem dX1_init_14 : decode cX1_init 14 = .ok (.aload_n 0, 1) := by decide +kernel
theorem dX1_init_15 : decode cX1_init 15 = .ok (.iconst 0, 1) := by decide +kernel
theorem dX1_init_16 : decode cX1_init 16 = .ok (.putfield 18, 3) := by decide +kernel
theorem dX1_init_19 : decode cX1_init 19 = .ok (.aload_n 0, 1) := by decide +kernel
theorem dX1_init_20 : decode cX1_init 20 = .ok (.iconst 0, 1) := by decide +kernel
theorem dX1_init_21 : decode cX1_init 21 = .ok (.putfield 21, 3) := by decide +kernel
theorem dX1_init_24 : decode cX1_init 24 = .ok (.aload_n 0, 1) := by decide +kernel
theorem dX1_init_25 : decode cX1_init 25 = .ok (.iconst 0, 1) := by decide +kernel
theorem dX1_init_26 : decode cX1_init 26 = .ok (.iconst 1, 1) := by decide +kernel
theorem dX1_init_27 : decode cX1_init 27 = .ok (.invokestatic 24, 3) := by decide +kernel
theorem dX1_init_30 : decode cX1_init 30 = .ok (.putfield 30, 3) := by decide +kernel
theorem dX1_init_33 : decode cX1_init 33 = .ok (.aload_n 0, 1) := by decide +kernel
theorem dX1_init_34 : decode cX1_init 34 = .ok (.iconst 0, 1) := by decide +kernel
theorem dX1_init_35 : decode cX1_init 35 = .ok (.iconst 0, 1) := by decide +kernel
theorem dX1_init_36 : decode cX1_init 36 = .ok (.invokestatic 24, 3) := by decide +kernel
theorem dX1_init_39 : decode cX1_init 39 = .ok (.putfield 34, 3) := by decide +kernel
theorem dX1_init_42 : decode cX1_init 42 = .ok (.return_, 1) := by decide +kernel
theorem dX1_isTooMuch_0 : decode cX1_isTooMuch 0 = .ok (.aload_n 0, 1) := by decide +kernel
theorem dX1_isTooMuch_1 : decode cX1_isTooMuch 1 = .ok (.getfield 15, 3) := by decide +kernel
theorem dX1_isTooMuch_4 : decode cX1_isTooMuch 4 = .ok (.bipush 40, 2) := by decide +kernel
theorem dX1_isTooMuch_6 : decode cX1_isTooMuch 6 = .ok (.if_icmp .gt 21, 3) := by decide +kernel
theorem dX1_isTooMuch_9 : decode cX1_isTooMuch 9 = .ok (.aload_n 0, 1) := by decide +kernel
theorem dX1_isTooMuch_10 : decode cX1_isTooMuch 10 = .ok (.getfield 18, 3) := by decide +kernel
theorem dX1_isTooMuch_13 : decode cX1_isTooMuch 13 = .ok (.bipush 90, 2) := by decide +kernel
theorem dX1_isTooMuch_15 : decode cX1_isTooMuch 15 = .ok (.if_icmp .gt 12, 3) := by decide +kernel
theorem dX1_isTooMuch_18 : decode cX1_isTooMuch 18 = .ok (.aload_n 0, 1) := by decide +kernel
theorem dX1_isTooMuch_19 : decode cX1_isTooMuch 19 = .ok (.getfield 9, 3) := by decide +kernel
theorem dX1_isTooMuch_22 : decode cX1_isTooMuch 22 = .ok (.bipush 124, 2) := by decide +kernel
theorem dX1_isTooMuch_24 : decode cX1_isTooMuch 24 = .ok (.if_icmp .le 7, 3) := by decide +kernel
theorem dX1_isTooMuch_27 : decode cX1_isTooMuch 27 = .ok (.iconst 1, 1) := by decide +kernel
theorem dX1_isTooMuch_28 : decode cX1_isTooMuch 28 = .ok (.goto 4, 3) := by decide +kernel
theorem dX1_isTooMuch_31 : decode cX1_isTooMuch 31 = .ok (.iconst 0, 1) := by decide +kernel
theorem dX1_isTooMuch_32 : decode cX1_isTooMuch 32 = .ok (.ireturn, 1) := by decide +kernel
theorem dX1_weigh_0 : decode cX1_weigh 0 = .ok (.aload_n 0, 1) := by decide +kernel
theorem dX1_weigh_1 : decode cX1_weigh 1 = .ok (.iconst 0, 1) := by decide +kernel
theorem dX1_weigh_2 : decode cX1_weigh 2 = .ok (.putfield 9, 3) := by decide +kernel
theorem dX1_weigh_5 : decode cX1_weigh 5 = .ok (.aload_n 0, 1) := by decide +kernel
theorem dX1_weigh_6 : decode cX1_weigh 6 = .ok (.iconst 0, 1) := by decide +kernel
theorem dX1_weigh_7 : decode cX1_weigh 7 = .ok (.putfield 15, 3) := by decide +kernel
theorem dX1_weigh_10 : decode cX1_weigh 10 = .ok (.aload_n 0, 1) := by decide +kernel
theorem dX1_weigh_11 : decode cX1_weigh 11 = .ok (.iconst 0, 1) := by decide +kernel
theorem dX1_weigh_12 : decode cX1_weigh 12 = .ok (.putfield 18, 3) := by decide +kernel
theorem dX1_weigh_15 : decode cX1_weigh 15 = .ok (.aload_n 0, 1) := by decide +kernel
theorem dX1_weigh_16 : decode cX1_weigh 16 = .ok (.iconst 0, 1) := by decide +kernel
theorem dX1_weigh_17 : decode cX1_weigh 17 = .ok (.putfield 21, 3) := by decide +kernel
theorem dX1_weigh_20 : decode cX1_weigh 20 = .ok (.iconst 0, 1) := by decide +kernel
theorem dX1_weigh_21 : decode cX1_weigh 21 = .ok (.istore 4, 2) := by decide +kernel
theorem dX1_weigh_23 : decode cX1_weigh 23 = .ok (.iload 4, 2) := by decide +kernel
theorem dX1_weigh_25 : decode cX1_weigh 25 = .ok (.aload_n 3, 1) := by decide +kernel
theorem dX1_weigh_26 : decode cX1_weigh 26 = .ok (.getfield 37, 3) := by decide +kernel
theorem dX1_weigh_29 : decode cX1_weigh 29 = .ok (.if_icmp .ge 46, 3) := by decide +kernel
theorem dX1_weigh_32 : decode cX1_weigh 32 = .ok (.aload_n 3, 1) := by decide +kernel
theorem dX1_weigh_33 : decode cX1_weigh 33 = .ok (.iload 4, 2) := by decide +kernel
theorem dX1_weigh_35 : decode cX1_weigh 35 = .ok (.invokevirtual 42, 3) := by decide +kernel
theorem dX1_weigh_38 : decode cX1_weigh 38 = .ok (.astore 5, 2) := by decide +kernel
theorem dX1_weigh_40 : decode cX1_weigh 40 = .ok (.aload 5, 2) := by decide +kernel
theorem dX1_weigh_42 : decode cX1_weigh 42 = .ok (.ifnull 27, 3) := by decide +kernel
theorem dX1_weigh_45 : decode cX1_weigh 45 = .ok (.aload_n 0, 1) := by decide +kernel
theorem dX1_weigh_46 : decode cX1_weigh 46 = .ok (.aload_n 1, 1) := by decide +kernel
theorem dX1_weigh_47 : decode cX1_weigh 47 = .ok (.aload 5, 2) := by decide +kernel
theorem dX1_weigh_49 : decode cX1_weigh 49 = .ok (.getfield 46, 3) := by decide +kernel
theorem dX1_weigh_52 : decode cX1_weigh 52 = .ok (.invokevirtual 49, 3) := by decide +kernel
theorem dX1_weigh_55 : decode cX1_weigh 55 = .ok (.aload_n 2, 1) := by decide +kernel
theorem dX1_weigh_56 : decode cX1_weigh 56 = .ok (.aload 5, 2) := by decide +kernel
theorem dX1_weigh_58 : decode cX1_weigh 58 = .ok (.getfield 46, 3) := by decide +kernel
theorem dX1_weigh_61 : decode cX1_weigh 61 = .ok (.invokevirtual 49, 3) := by decide +kernel
theorem dX1_weigh_64 : decode cX1_weigh 64 = .ok (.aload 5, 2) := by decide +kernel
theorem dX1_weigh_66 : decode cX1_weigh 66 = .ok (.invokevirtual 52, 3) := by decide +kernel
theorem dX1_weigh_69 : decode cX1_weigh 69 = .ok (.iinc 4 1, 3) := by decide +kernel
theorem dX1_weigh_72 : decode cX1_weigh 72 = .ok (.goto (-49), 3) := by decide +kernel
theorem dX1_weigh_75 : decode cX1_weigh 75 = .ok (.iconst 0, 1) := by decide +kernel
theorem dX1_weigh_76 : decode cX1_weigh 76 = .ok (.istore 4, 2) := by decide +kernel
theorem dX1_weigh_78 : decode cX1_weigh 78 = .ok (.iload 4, 2) := by decide +kernel
theorem dX1_weigh_80 : decode cX1_weigh 80 = .ok (.aload_n 2, 1) := by decide +kernel
theorem dX1_weigh_81 : decode cX1_weigh 81 = .ok (.getfield 37, 3) := by decide +kernel
theorem dX1_weigh_84 : decode cX1_weigh 84 = .ok (.if_icmp .ge 40, 3) := by decide +kernel
theorem dX1_weigh_87 : decode cX1_weigh 87 = .ok (.aload_n 2, 1) := by decide +kernel
theorem dX1_weigh_88 : decode cX1_weigh 88 = .ok (.iload 4, 2) := by decide +kernel
theorem dX1_weigh_90 : decode cX1_weigh 90 = .ok (.invokevirtual 42, 3) := by decide +kernel
theorem dX1_weigh_93 : decode cX1_weigh 93 = .ok (.astore 5, 2) := by decide +kernel
theorem dX1_weigh_95 : decode cX1_weigh 95 = .ok (.aload 5, 2) := by decide +kernel
theorem dX1_weigh_97 : decode cX1_weigh 97 = .ok (.ifnull 21, 3) := by decide +kernel
theorem dX1_weigh_100 : decode cX1_weigh 100 = .ok (.aload_n 1, 1) := by decide +kernel
theorem dX1_weigh_101 : decode cX1_weigh 101 = .ok (.aload 5, 2) := by decide +kernel
theorem dX1_weigh_103 : decode cX1_weigh 103 = .ok (.getfield 46, 3) := by decide +kernel
theorem dX1_weigh_106 : decode cX1_weigh 106 = .ok (.invokevirtual 49, 3) := by decide +kernel
theorem dX1_weigh_109 : decode cX1_weigh 109 = .ok (.ifnonnull 9, 3) := by decide +kernel
theorem dX1_weigh_112 : decode cX1_weigh 112 = .ok (.aload_n 0, 1) := by decide +kernel
theorem dX1_weigh_113 : decode cX1_weigh 113 = .ok (.aload 5, 2) := by decide +kernel
theorem dX1_weigh_115 : decode cX1_weigh 115 = .ok (.invokevirtual 56, 3) := by decide +kernel
theorem dX1_weigh_118 : decode cX1_weigh 118 = .ok (.iinc 4 1, 3) := by decide +kernel
theorem dX1_weigh_121 : decode cX1_weigh 121 = .ok (.goto (-43), 3) := by decide +kernel
theorem dX1_weigh_124 : decode cX1_weigh 124 = .ok (.return_, 1) := by decide +kernel
theorem dX1_weighKept_0 : decode cX1_weighKept 0 = .ok (.aload_n 1, 1) := by decide +kernel
theorem dX1_weighKept_1 : decode cX1_weighKept 1 = .ok (.ifnonnull 14, 3) := by decide +kernel
theorem dX1_weighKept_4 : decode cX1_weighKept 4 = .ok (.aload_n 0, 1) := by decide +kernel
theorem dX1_weighKept_5 : decode cX1_weighKept 5 = .ok (.aload_n 3, 1) := by decide +kernel
theorem dX1_weighKept_6 : decode cX1_weighKept 6 = .ok (.aload_n 3, 1) := by decide +kernel
theorem dX1_weighKept_7 : decode cX1_weighKept 7 = .ok (.aload_n 3, 1) := by decide +kernel
theorem dX1_weighKept_8 : decode cX1_weighKept 8 = .ok (.iconst 0, 1) := by decide +kernel
theorem dX1_weighKept_9 : decode cX1_weighKept 9 = .ok (.invokevirtual 60, 3) := by decide +kernel
theorem dX1_weighKept_12 : decode cX1_weighKept 12 = .ok (.goto 15, 3) := by decide +kernel
theorem dX1_weighKept_15 : decode cX1_weighKept 15 = .ok (.aload_n 2, 1) := by decide +kernel
theorem dX1_weighKept_16 : decode cX1_weighKept 16 = .ok (.ifnull 11, 3) := by decide +kernel
theorem dX1_weighKept_19 : decode cX1_weighKept 19 = .ok (.aload_n 0, 1) := by decide +kernel
theorem dX1_weighKept_20 : decode cX1_weighKept 20 = .ok (.aload_n 1, 1) := by decide +kernel
theorem dX1_weighKept_21 : decode cX1_weighKept 21 = .ok (.aload_n 2, 1) := by decide +kernel
theorem dX1_weighKept_22 : decode cX1_weighKept 22 = .ok (.aload_n 3, 1) := by decide +kernel
theorem dX1_weighKept_23 : decode cX1_weighKept 23 = .ok (.iconst 0, 1) := by decide +kernel
theorem dX1_weighKept_24 : decode cX1_weighKept 24 = .ok (.invokevirtual 60, 3) := by decide +kernel
theorem dX1_weighKept_27 : decode cX1_weighKept 27 = .ok (.return_, 1) := by decide +kernel
theorem dX1_weighMade_0 : decode cX1_weighMade 0 = .ok (.aload_n 1, 1) := by decide +kernel
theorem dX1_weighMade_1 : decode cX1_weighMade 1 = .ok (.getfield 64, 3) := by decide +kernel
theorem dX1_weighMade_4 : decode cX1_weighMade 4 = .ok (.ifCond .eq 10, 3) := by decide +kernel
theorem dX1_weighMade_7 : decode cX1_weighMade 7 = .ok (.aload_n 0, 1) := by decide +kernel
theorem dX1_weighMade_8 : decode cX1_weighMade 8 = .ok (.getfield 30, 3) := by decide +kernel
theorem dX1_weighMade_11 : decode cX1_weighMade 11 = .ok (.goto 7, 3) := by decide +kernel
theorem dX1_weighMade_14 : decode cX1_weighMade 14 = .ok (.aload_n 0, 1) := by decide +kernel
theorem dX1_weighMade_15 : decode cX1_weighMade 15 = .ok (.getfield 34, 3) := by decide +kernel
theorem dX1_weighMade_18 : decode cX1_weighMade 18 = .ok (.astore_n 2, 1) := by decide +kernel
theorem dX1_weighMade_19 : decode cX1_weighMade 19 = .ok (.aload_n 0, 1) := by decide +kernel
theorem dX1_weighMade_20 : decode cX1_weighMade 20 = .ok (.dup, 1) := by decide +kernel
theorem dX1_weighMade_21 : decode cX1_weighMade 21 = .ok (.getfield 9, 3) := by decide +kernel
theorem dX1_weighMade_24 : decode cX1_weighMade 24 = .ok (.iconst 1, 1) := by decide +kernel
theorem dX1_weighMade_25 : decode cX1_weighMade 25 = .ok (.iadd, 1) := by decide +kernel
theorem dX1_weighMade_26 : decode cX1_weighMade 26 = .ok (.putfield 9, 3) := by decide +kernel
theorem dX1_weighMade_29 : decode cX1_weighMade 29 = .ok (.aload_n 0, 1) := by decide +kernel
theorem dX1_weighMade_30 : decode cX1_weighMade 30 = .ok (.aload_n 2, 1) := by decide +kernel
theorem dX1_weighMade_31 : decode cX1_weighMade 31 = .ok (.aload_n 1, 1) := by decide +kernel
theorem dX1_weighMade_32 : decode cX1_weighMade 32 = .ok (.aload_n 2, 1) := by decide +kernel
theorem dX1_weighMade_33 : decode cX1_weighMade 33 = .ok (.iconst 1, 1) := by decide +kernel
theorem dX1_weighMade_34 : decode cX1_weighMade 34 = .ok (.invokevirtual 60, 3) := by decide +kernel
theorem dX1_weighMade_37 : decode cX1_weighMade 37 = .ok (.return_, 1) := by decide +kernel
theorem dX1_weighNode_0 : decode cX1_weighNode 0 = .ok (.iconst 0, 1) := by decide +kernel
theorem dX1_weighNode_1 : decode cX1_weighNode 1 = .ok (.istore 5, 2) := by decide +kernel
theorem dX1_weighNode_3 : decode cX1_weighNode 3 = .ok (.iconst 0, 1) := by decide +kernel
theorem dX1_weighNode_4 : decode cX1_weighNode 4 = .ok (.istore 6, 2) := by decide +kernel
theorem dX1_weighNode_6 : decode cX1_weighNode 6 = .ok (.iload 6, 2) := by decide +kernel
theorem dX1_weighNode_8 : decode cX1_weighNode 8 = .ok (.aload_n 2, 1) := by decide +kernel
theorem dX1_weighNode_9 : decode cX1_weighNode 9 = .ok (.getfield 68, 3) := by decide +kernel
theorem dX1_weighNode_12 : decode cX1_weighNode 12 = .ok (.arraylength, 1) := by decide +kernel
theorem dX1_weighNode_13 : decode cX1_weighNode 13 = .ok (.if_icmp .ge 36, 3) := by decide +kernel
theorem dX1_weighNode_16 : decode cX1_weighNode 16 = .ok (.aload_n 1, 1) := by decide +kernel
theorem dX1_weighNode_17 : decode cX1_weighNode 17 = .ok (.iload 6, 2) := by decide +kernel
theorem dX1_weighNode_19 : decode cX1_weighNode 19 = .ok (.invokevirtual 72, 3) := by decide +kernel
theorem dX1_weighNode_22 : decode cX1_weighNode 22 = .ok (.aload_n 2, 1) := by decide +kernel
theorem dX1_weighNode_23 : decode cX1_weighNode 23 = .ok (.iload 6, 2) := by decide +kernel
theorem dX1_weighNode_25 : decode cX1_weighNode 25 = .ok (.invokevirtual 72, 3) := by decide +kernel
theorem dX1_weighNode_28 : decode cX1_weighNode 28 = .ok (.aload_n 3, 1) := by decide +kernel
theorem dX1_weighNode_29 : decode cX1_weighNode 29 = .ok (.iload 6, 2) := by decide +kernel
theorem dX1_weighNode_31 : decode cX1_weighNode 31 = .ok (.invokevirtual 72, 3) := by decide +kernel
theorem dX1_weighNode_34 : decode cX1_weighNode 34 = .ok (.invokestatic 76, 3) := by decide +kernel
theorem dX1_weighNode_37 : decode cX1_weighNode 37 = .ok (.ifCond .eq 6, 3) := by decide +kernel
theorem dX1_weighNode_40 : decode cX1_weighNode 40 = .ok (.iinc 5 1, 3) := by decide +kernel
theorem dX1_weighNode_43 : decode cX1_weighNode 43 = .ok (.iinc 6 1, 3) := by decide +kernel
theorem dX1_weighNode_46 : decode cX1_weighNode 46 = .ok (.goto (-40), 3) := by decide +kernel
theorem dX1_weighNode_49 : decode cX1_weighNode 49 = .ok (.aload_n 1, 1) := by decide +kernel
theorem dX1_weighNode_50 : decode cX1_weighNode 50 = .ok (.getfield 80, 3) := by decide +kernel
theorem dX1_weighNode_53 : decode cX1_weighNode 53 = .ok (.aload_n 2, 1) := by decide +kernel
theorem dX1_weighNode_54 : decode cX1_weighNode 54 = .ok (.getfield 80, 3) := by decide +kernel
theorem dX1_weighNode_57 : decode cX1_weighNode 57 = .ok (.aload_n 3, 1) := by decide +kernel
theorem dX1_weighNode_58 : decode cX1_weighNode 58 = .ok (.getfield 80, 3) := by decide +kernel
theorem dX1_weighNode_61 : decode cX1_weighNode 61 = .ok (.invokestatic 76, 3) := by decide +kernel
theorem dX1_weighNode_64 : decode cX1_weighNode 64 = .ok (.istore 6, 2) := by decide +kernel
theorem dX1_weighNode_66 : decode cX1_weighNode 66 = .ok (.aload_n 0, 1) := by decide +kernel
theorem dX1_weighNode_67 : decode cX1_weighNode 67 = .ok (.dup, 1) := by decide +kernel
theorem dX1_weighNode_68 : decode cX1_weighNode 68 = .ok (.getfield 9, 3) := by decide +kernel
theorem dX1_weighNode_71 : decode cX1_weighNode 71 = .ok (.iload 5, 2) := by decide +kernel
theorem dX1_weighNode_73 : decode cX1_weighNode 73 = .ok (.iload 6, 2) := by decide +kernel
theorem dX1_weighNode_75 : decode cX1_weighNode 75 = .ok (.ifCond .eq 7, 3) := by decide +kernel
theorem dX1_weighNode_78 : decode cX1_weighNode 78 = .ok (.iconst 1, 1) := by decide +kernel
theorem dX1_weighNode_79 : decode cX1_weighNode 79 = .ok (.goto 4, 3) := by decide +kernel
theorem dX1_weighNode_82 : decode cX1_weighNode 82 = .ok (.iconst 0, 1) := by decide +kernel
theorem dX1_weighNode_83 : decode cX1_weighNode 83 = .ok (.iadd, 1) := by decide +kernel
theorem dX1_weighNode_84 : decode cX1_weighNode 84 = .ok (.iadd, 1) := by decide +kernel
theorem dX1_weighNode_85 : decode cX1_weighNode 85 = .ok (.putfield 9, 3) := by decide +kernel
theorem dX1_weighNode_88 : decode cX1_weighNode 88 = .ok (.aload_n 0, 1) := by decide +kernel
theorem dX1_weighNode_89 : decode cX1_weighNode 89 = .ok (.dup, 1) := by decide +kernel
theorem dX1_weighNode_90 : decode cX1_weighNode 90 = .ok (.getfield 15, 3) := by decide +kernel
theorem dX1_weighNode_93 : decode cX1_weighNode 93 = .ok (.iconst 1, 1) := by decide +kernel
theorem dX1_weighNode_94 : decode cX1_weighNode 94 = .ok (.iadd, 1) := by decide +kernel
theorem dX1_weighNode_95 : decode cX1_weighNode 95 = .ok (.putfield 15, 3) := by decide +kernel
theorem dX1_weighNode_98 : decode cX1_weighNode 98 = .ok (.aload_n 2, 1) := by decide +kernel
theorem dX1_weighNode_99 : decode cX1_weighNode 99 = .ok (.getfield 64, 3) := by decide +kernel
theorem dX1_weighNode_102 : decode cX1_weighNode 102 = .ok (.ifCond .eq 40, 3) := by decide +kernel
theorem dX1_weighNode_105 : decode cX1_weighNode 105 = .ok (.aload_n 0, 1) := by decide +kernel
theorem dX1_weighNode_106 : decode cX1_weighNode 106 = .ok (.dup, 1) := by decide +kernel
theorem dX1_weighNode_107 : decode cX1_weighNode 107 = .ok (.getfield 18, 3) := by decide +kernel
theorem dX1_weighNode_110 : decode cX1_weighNode 110 = .ok (.iconst 1, 1) := by decide +kernel
theorem dX1_weighNode_111 : decode cX1_weighNode 111 = .ok (.iadd, 1) := by decide +kernel
theorem dX1_weighNode_112 : decode cX1_weighNode 112 = .ok (.putfield 18, 3) := by decide +kernel
theorem dX1_weighNode_115 : decode cX1_weighNode 115 = .ok (.aload_n 0, 1) := by decide +kernel
theorem dX1_weighNode_116 : decode cX1_weighNode 116 = .ok (.dup, 1) := by decide +kernel
theorem dX1_weighNode_117 : decode cX1_weighNode 117 = .ok (.getfield 21, 3) := by decide +kernel
theorem dX1_weighNode_120 : decode cX1_weighNode 120 = .ok (.iload 4, 2) := by decide +kernel
theorem dX1_weighNode_122 : decode cX1_weighNode 122 = .ok (.ifCond .ne 8, 3) := by decide +kernel
theorem dX1_weighNode_125 : decode cX1_weighNode 125 = .ok (.iload 5, 2) := by decide +kernel
theorem dX1_weighNode_127 : decode cX1_weighNode 127 = .ok (.ifCond .le 7, 3) := by decide +kernel
theorem dX1_weighNode_130 : decode cX1_weighNode 130 = .ok (.iconst 1, 1) := by decide +kernel
theorem dX1_weighNode_131 : decode cX1_weighNode 131 = .ok (.goto 4, 3) := by decide +kernel
theorem dX1_weighNode_134 : decode cX1_weighNode 134 = .ok (.iconst 0, 1) := by decide +kernel
theorem dX1_weighNode_135 : decode cX1_weighNode 135 = .ok (.iadd, 1) := by decide +kernel
theorem dX1_weighNode_136 : decode cX1_weighNode 136 = .ok (.putfield 21, 3) := by decide +kernel
theorem dX1_weighNode_139 : decode cX1_weighNode 139 = .ok (.goto 71, 3) := by decide +kernel
theorem dX1_weighNode_142 : decode cX1_weighNode 142 = .ok (.aload_n 0, 1) := by decide +kernel
theorem dX1_weighNode_143 : decode cX1_weighNode 143 = .ok (.dup, 1) := by decide +kernel
theorem dX1_weighNode_144 : decode cX1_weighNode 144 = .ok (.getfield 18, 3) := by decide +kernel
theorem dX1_weighNode_147 : decode cX1_weighNode 147 = .ok (.iconst 1, 1) := by decide +kernel
theorem dX1_weighNode_148 : decode cX1_weighNode 148 = .ok (.aload_n 1, 1) := by decide +kernel
theorem dX1_weighNode_149 : decode cX1_weighNode 149 = .ok (.getfield 80, 3) := by decide +kernel
theorem dX1_weighNode_152 : decode cX1_weighNode 152 = .ok (.aload_n 2, 1) := by decide +kernel
theorem dX1_weighNode_153 : decode cX1_weighNode 153 = .ok (.getfield 80, 3) := by decide +kernel
theorem dX1_weighNode_156 : decode cX1_weighNode 156 = .ok (.aload_n 3, 1) := by decide +kernel
theorem dX1_weighNode_157 : decode cX1_weighNode 157 = .ok (.getfield 80, 3) := by decide +kernel
theorem dX1_weighNode_160 : decode cX1_weighNode 160 = .ok (.invokestatic 81, 3) := by decide +kernel
theorem dX1_weighNode_163 : decode cX1_weighNode 163 = .ok (.invokestatic 85, 3) := by decide +kernel
theorem dX1_weighNode_166 : decode cX1_weighNode 166 = .ok (.iadd, 1) := by decide +kernel
theorem dX1_weighNode_167 : decode cX1_weighNode 167 = .ok (.iadd, 1) := by decide +kernel
theorem dX1_weighNode_168 : decode cX1_weighNode 168 = .ok (.putfield 18, 3) := by decide +kernel
theorem dX1_weighNode_171 : decode cX1_weighNode 171 = .ok (.aload_n 0, 1) := by decide +kernel
theorem dX1_weighNode_172 : decode cX1_weighNode 172 = .ok (.dup, 1) := by decide +kernel
theorem dX1_weighNode_173 : decode cX1_weighNode 173 = .ok (.getfield 21, 3) := by decide +kernel
theorem dX1_weighNode_176 : decode cX1_weighNode 176 = .ok (.iload 4, 2) := by decide +kernel
theorem dX1_weighNode_178 : decode cX1_weighNode 178 = .ok (.ifCond .ne 8, 3) := by decide +kernel
theorem dX1_weighNode_181 : decode cX1_weighNode 181 = .ok (.iload 6, 2) := by decide +kernel
theorem dX1_weighNode_183 : decode cX1_weighNode 183 = .ok (.ifCond .eq 7, 3) := by decide +kernel
theorem dX1_weighNode_186 : decode cX1_weighNode 186 = .ok (.iconst 1, 1) := by decide +kernel
theorem dX1_weighNode_187 : decode cX1_weighNode 187 = .ok (.goto 4, 3) := by decide +kernel
theorem dX1_weighNode_190 : decode cX1_weighNode 190 = .ok (.iconst 0, 1) := by decide +kernel
theorem dX1_weighNode_191 : decode cX1_weighNode 191 = .ok (.iadd, 1) := by decide +kernel
theorem dX1_weighNode_192 : decode cX1_weighNode 192 = .ok (.putfield 21, 3) := by decide +kernel
theorem dX1_weighNode_195 : decode cX1_weighNode 195 = .ok (.aload_n 0, 1) := by decide +kernel
theorem dX1_weighNode_196 : decode cX1_weighNode 196 = .ok (.dup, 1) := by decide +kernel
theorem dX1_weighNode_197 : decode cX1_weighNode 197 = .ok (.getfield 21, 3) := by decide +kernel
theorem dX1_weighNode_200 : decode cX1_weighNode 200 = .ok (.aload_n 1, 1) := by decide +kernel
theorem dX1_weighNode_201 : decode cX1_weighNode 201 = .ok (.aload_n 2, 1) := by decide +kernel
theorem dX1_weighNode_202 : decode cX1_weighNode 202 = .ok (.aload_n 3, 1) := by decide +kernel
theorem dX1_weighNode_203 : decode cX1_weighNode 203 = .ok (.invokestatic 88, 3) := by decide +kernel
theorem dX1_weighNode_206 : decode cX1_weighNode 206 = .ok (.iadd, 1) := by decide +kernel
theorem dX1_weighNode_207 : decode cX1_weighNode 207 = .ok (.putfield 21, 3) := by decide +kernel
theorem dX1_weighNode_210 : decode cX1_weighNode 210 = .ok (.return_, 1) := by decide +kernel
theorem dX1_wordBlocksComing_0 : decode cX1_wordBlocksComing 0 = .ok (.aload_n 0, 1) := by decide +kernel
theorem dX1_wordBlocksComing_1 : decode cX1_wordBlocksComing 1 = .ok (.getfield 80, 3) := by decide +kernel
theorem dX1_wordBlocksComing_4 : decode cX1_wordBlocksComing 4 = .ok (.aload_n 1, 1) := by decide +kernel
theorem dX1_wordBlocksComing_5 : decode cX1_wordBlocksComing 5 = .ok (.getfield 80, 3) := by decide +kernel
theorem dX1_wordBlocksComing_8 : decode cX1_wordBlocksComing 8 = .ok (.aload_n 2, 1) := by decide +kernel
theorem dX1_wordBlocksComing_9 : decode cX1_wordBlocksComing 9 = .ok (.getfield 80, 3) := by decide +kernel
theorem dX1_wordBlocksComing_12 : decode cX1_wordBlocksComing 12 = .ok (.invokestatic 81, 3) := by decide +kernel
theorem dX1_wordBlocksComing_15 : decode cX1_wordBlocksComing 15 = .ok (.istore_n 3, 1) := by decide +kernel
theorem dX1_wordBlocksComing_16 : decode cX1_wordBlocksComing 16 = .ok (.iconst (-1), 1) := by decide +kernel
theorem dX1_wordBlocksComing_17 : decode cX1_wordBlocksComing 17 = .ok (.istore 4, 2) := by decide +kernel
theorem dX1_wordBlocksComing_19 : decode cX1_wordBlocksComing 19 = .ok (.iconst 0, 1) := by decide +kernel
theorem dX1_wordBlocksComing_20 : decode cX1_wordBlocksComing 20 = .ok (.istore 5, 2) := by decide +kernel
theorem dX1_wordBlocksComing_22 : decode cX1_wordBlocksComing 22 = .ok (.iconst 0, 1) := by decide +kernel
theorem dX1_wordBlocksComing_23 : decode cX1_wordBlocksComing 23 = .ok (.istore 6, 2) := by decide +kernel
theorem dX1_wordBlocksComing_25 : decode cX1_wordBlocksComing 25 = .ok (.iload 6, 2) := by decide +kernel
theorem dX1_wordBlocksComing_27 : decode cX1_wordBlocksComing 27 = .ok (.iload_n 3, 1) := by decide +kernel
theorem dX1_wordBlocksComing_28 : decode cX1_wordBlocksComing 28 = .ok (.if_icmp .ge 63, 3) := by decide +kernel
theorem dX1_wordBlocksComing_31 : decode cX1_wordBlocksComing 31 = .ok (.iload 6, 2) := by decide +kernel
theorem dX1_wordBlocksComing_33 : decode cX1_wordBlocksComing 33 = .ok (.bipush 8, 2) := by decide +kernel
theorem dX1_wordBlocksComing_35 : decode cX1_wordBlocksComing 35 = .ok (.idiv, 1) := by decide +kernel
theorem dX1_wordBlocksComing_36 : decode cX1_wordBlocksComing 36 = .ok (.istore 7, 2) := by decide +kernel
theorem dX1_wordBlocksComing_38 : decode cX1_wordBlocksComing 38 = .ok (.iload 7, 2) := by decide +kernel
theorem dX1_wordBlocksComing_40 : decode cX1_wordBlocksComing 40 = .ok (.iload 4, 2) := by decide +kernel
theorem dX1_wordBlocksComing_42 : decode cX1_wordBlocksComing 42 = .ok (.if_icmp .eq 43, 3) := by decide +kernel
theorem dX1_wordBlocksComing_45 : decode cX1_wordBlocksComing 45 = .ok (.iload 6, 2) := by decide +kernel
theorem dX1_wordBlocksComing_47 : decode cX1_wordBlocksComing 47 = .ok (.aload_n 2, 1) := by decide +kernel
theorem dX1_wordBlocksComing_48 : decode cX1_wordBlocksComing 48 = .ok (.getfield 80, 3) := by decide +kernel
theorem dX1_wordBlocksComing_51 : decode cX1_wordBlocksComing 51 = .ok (.if_icmp .ge 27, 3) := by decide +kernel
theorem dX1_wordBlocksComing_54 : decode cX1_wordBlocksComing 54 = .ok (.aload_n 0, 1) := by decide +kernel
theorem dX1_wordBlocksComing_55 : decode cX1_wordBlocksComing 55 = .ok (.iload 6, 2) := by decide +kernel
theorem dX1_wordBlocksComing_57 : decode cX1_wordBlocksComing 57 = .ok (.invokevirtual 72, 3) := by decide +kernel
theorem dX1_wordBlocksComing_60 : decode cX1_wordBlocksComing 60 = .ok (.aload_n 1, 1) := by decide +kernel
theorem dX1_wordBlocksComing_61 : decode cX1_wordBlocksComing 61 = .ok (.iload 6, 2) := by decide +kernel
theorem dX1_wordBlocksComing_63 : decode cX1_wordBlocksComing 63 = .ok (.invokevirtual 72, 3) := by decide +kernel
theorem dX1_wordBlocksComing_66 : decode cX1_wordBlocksComing 66 = .ok (.aload_n 2, 1) := by decide +kernel
theorem dX1_wordBlocksComing_67 : decode cX1_wordBlocksComing 67 = .ok (.iload 6, 2) := by decide +kernel
theorem dX1_wordBlocksComing_69 : decode cX1_wordBlocksComing 69 = .ok (.invokevirtual 72, 3) := by decide +kernel
theorem dX1_wordBlocksComing_72 : decode cX1_wordBlocksComing 72 = .ok (.invokestatic 76, 3) := by decide +kernel
theorem dX1_wordBlocksComing_75 : decode cX1_wordBlocksComing 75 = .ok (.ifCond .eq 10, 3) := by decide +kernel
theorem dX1_wordBlocksComing_78 : decode cX1_wordBlocksComing 78 = .ok (.iload 7, 2) := by decide +kernel
theorem dX1_wordBlocksComing_80 : decode cX1_wordBlocksComing 80 = .ok (.istore 4, 2) := by decide +kernel
theorem dX1_wordBlocksComing_82 : decode cX1_wordBlocksComing 82 = .ok (.iinc 5 1, 3) := by decide +kernel
theorem dX1_wordBlocksComing_85 : decode cX1_wordBlocksComing 85 = .ok (.iinc 6 1, 3) := by decide +kernel
theorem dX1_wordBlocksComing_88 : decode cX1_wordBlocksComing 88 = .ok (.goto (-63), 3) := by decide +kernel
theorem dX1_wordBlocksComing_91 : decode cX1_wordBlocksComing 91 = .ok (.iload 5, 2) := by decide +kernel
theorem dX1_wordBlocksComing_93 : decode cX1_wordBlocksComing 93 = .ok (.ireturn, 1) := by decide +kernel
theorem dX1_build_0 : decode cX1_build 0 = .ok (.aload 4, 2) := by decide +kernel
theorem dX1_build_2 : decode cX1_build 2 = .ok (.iconst 0, 1) := by decide +kernel
theorem dX1_build_3 : decode cX1_build 3 = .ok (.putfield 37, 3) := by decide +kernel
theorem dX1_build_6 : decode cX1_build 6 = .ok (.iconst 0, 1) := by decide +kernel
theorem dX1_build_7 : decode cX1_build 7 = .ok (.istore 5, 2) := by decide +kernel
theorem dX1_build_9 : decode cX1_build 9 = .ok (.iload 5, 2) := by decide +kernel
theorem dX1_build_11 : decode cX1_build 11 = .ok (.aload_n 3, 1) := by decide +kernel
theorem dX1_build_12 : decode cX1_build 12 = .ok (.getfield 37, 3) := by decide +kernel
theorem dX1_build_15 : decode cX1_build 15 = .ok (.if_icmp .ge 47, 3) := by decide +kernel
theorem dX1_build_18 : decode cX1_build 18 = .ok (.aload_n 3, 1) := by decide +kernel
theorem dX1_build_19 : decode cX1_build 19 = .ok (.iload 5, 2) := by decide +kernel
theorem dX1_build_21 : decode cX1_build 21 = .ok (.invokevirtual 42, 3) := by decide +kernel
theorem dX1_build_24 : decode cX1_build 24 = .ok (.astore 6, 2) := by decide +kernel
theorem dX1_build_26 : decode cX1_build 26 = .ok (.aload 6, 2) := by decide +kernel
theorem dX1_build_28 : decode cX1_build 28 = .ok (.ifnull 28, 3) := by decide +kernel
theorem dX1_build_31 : decode cX1_build 31 = .ok (.aload_n 1, 1) := by decide +kernel
theorem dX1_build_32 : decode cX1_build 32 = .ok (.aload 6, 2) := by decide +kernel
theorem dX1_build_34 : decode cX1_build 34 = .ok (.getfield 46, 3) := by decide +kernel
theorem dX1_build_37 : decode cX1_build 37 = .ok (.invokevirtual 49, 3) := by decide +kernel
theorem dX1_build_40 : decode cX1_build 40 = .ok (.aload_n 2, 1) := by decide +kernel
theorem dX1_build_41 : decode cX1_build 41 = .ok (.aload 6, 2) := by decide +kernel
theorem dX1_build_43 : decode cX1_build 43 = .ok (.getfield 46, 3) := by decide +kernel
theorem dX1_build_46 : decode cX1_build 46 = .ok (.invokevirtual 49, 3) := by decide +kernel
theorem dX1_build_49 : decode cX1_build 49 = .ok (.aload 6, 2) := by decide +kernel
theorem dX1_build_51 : decode cX1_build 51 = .ok (.aload 4, 2) := by decide +kernel
theorem dX1_build_53 : decode cX1_build 53 = .ok (.invokestatic 92, 3) := by decide +kernel
theorem dX1_build_56 : decode cX1_build 56 = .ok (.iinc 5 1, 3) := by decide +kernel
theorem dX1_build_59 : decode cX1_build 59 = .ok (.goto (-50), 3) := by decide +kernel
theorem dX1_build_62 : decode cX1_build 62 = .ok (.iconst 0, 1) := by decide +kernel
theorem dX1_build_63 : decode cX1_build 63 = .ok (.istore 5, 2) := by decide +kernel
theorem dX1_build_65 : decode cX1_build 65 = .ok (.iload 5, 2) := by decide +kernel
theorem dX1_build_67 : decode cX1_build 67 = .ok (.aload_n 2, 1) := by decide +kernel
theorem dX1_build_68 : decode cX1_build 68 = .ok (.getfield 37, 3) := by decide +kernel
theorem dX1_build_71 : decode cX1_build 71 = .ok (.if_icmp .ge 41, 3) := by decide +kernel
theorem dX1_build_74 : decode cX1_build 74 = .ok (.aload_n 2, 1) := by decide +kernel
theorem dX1_build_75 : decode cX1_build 75 = .ok (.iload 5, 2) := by decide +kernel
theorem dX1_build_77 : decode cX1_build 77 = .ok (.invokevirtual 42, 3) := by decide +kernel
theorem dX1_build_80 : decode cX1_build 80 = .ok (.astore 6, 2) := by decide +kernel
theorem dX1_build_82 : decode cX1_build 82 = .ok (.aload 6, 2) := by decide +kernel
theorem dX1_build_84 : decode cX1_build 84 = .ok (.ifnull 22, 3) := by decide +kernel
theorem dX1_build_87 : decode cX1_build 87 = .ok (.aload_n 1, 1) := by decide +kernel
theorem dX1_build_88 : decode cX1_build 88 = .ok (.aload 6, 2) := by decide +kernel
theorem dX1_build_90 : decode cX1_build 90 = .ok (.getfield 46, 3) := by decide +kernel
theorem dX1_build_93 : decode cX1_build 93 = .ok (.invokevirtual 49, 3) := by decide +kernel
theorem dX1_build_96 : decode cX1_build 96 = .ok (.ifnonnull 10, 3) := by decide +kernel
theorem dX1_build_99 : decode cX1_build 99 = .ok (.aload 4, 2) := by decide +kernel
theorem dX1_build_101 : decode cX1_build 101 = .ok (.aload 6, 2) := by decide +kernel
theorem dX1_build_103 : decode cX1_build 103 = .ok (.invokevirtual 96, 3) := by decide +kernel
theorem dX1_build_106 : decode cX1_build 106 = .ok (.iinc 5 1, 3) := by decide +kernel
theorem dX1_build_109 : decode cX1_build 109 = .ok (.goto (-44), 3) := by decide +kernel
theorem dX1_build_112 : decode cX1_build 112 = .ok (.return_, 1) := by decide +kernel
theorem dX1_addKept_0 : decode cX1_addKept 0 = .ok (.aload_n 0, 1) := by decide +kernel
theorem dX1_addKept_1 : decode cX1_addKept 1 = .ok (.ifnonnull 11, 3) := by decide +kernel
theorem dX1_addKept_4 : decode cX1_addKept 4 = .ok (.aload_n 3, 1) := by decide +kernel
theorem dX1_addKept_5 : decode cX1_addKept 5 = .ok (.aload_n 2, 1) := by decide +kernel
theorem dX1_addKept_6 : decode cX1_addKept 6 = .ok (.invokevirtual 96, 3) := by decide +kernel
theorem dX1_addKept_9 : decode cX1_addKept 9 = .ok (.goto 17, 3) := by decide +kernel
theorem dX1_addKept_12 : decode cX1_addKept 12 = .ok (.aload_n 1, 1) := by decide +kernel
theorem dX1_addKept_13 : decode cX1_addKept 13 = .ok (.ifnull 13, 3) := by decide +kernel
theorem dX1_addKept_16 : decode cX1_addKept 16 = .ok (.aload_n 3, 1) := by decide +kernel
theorem dX1_addKept_17 : decode cX1_addKept 17 = .ok (.aload_n 0, 1) := by decide +kernel
theorem dX1_addKept_18 : decode cX1_addKept 18 = .ok (.aload_n 1, 1) := by decide +kernel
theorem dX1_addKept_19 : decode cX1_addKept 19 = .ok (.aload_n 2, 1) := by decide +kernel
theorem dX1_addKept_20 : decode cX1_addKept 20 = .ok (.invokestatic 99, 3) := by decide +kernel
theorem dX1_addKept_23 : decode cX1_addKept 23 = .ok (.invokevirtual 96, 3) := by decide +kernel
theorem dX1_addKept_26 : decode cX1_addKept 26 = .ok (.return_, 1) := by decide +kernel
theorem dX1_mergedNode_0 : decode cX1_mergedNode 0 = .ok (.aload_n 1, 1) := by decide +kernel
theorem dX1_mergedNode_1 : decode cX1_mergedNode 1 = .ok (.aload_n 0, 1) := by decide +kernel
theorem dX1_mergedNode_2 : decode cX1_mergedNode 2 = .ok (.if_acmp .ne 5, 3) := by decide +kernel
theorem dX1_mergedNode_5 : decode cX1_mergedNode 5 = .ok (.aload_n 2, 1) := by decide +kernel
theorem dX1_mergedNode_6 : decode cX1_mergedNode 6 = .ok (.areturn, 1) := by decide +kernel
theorem dX1_mergedNode_7 : decode cX1_mergedNode 7 = .ok (.aload_n 0, 1) := by decide +kernel
theorem dX1_mergedNode_8 : decode cX1_mergedNode 8 = .ok (.getfield 80, 3) := by decide +kernel
theorem dX1_mergedNode_11 : decode cX1_mergedNode 11 = .ok (.aload_n 1, 1) := by decide +kernel
theorem dX1_mergedNode_12 : decode cX1_mergedNode 12 = .ok (.getfield 80, 3) := by decide +kernel
theorem dX1_mergedNode_15 : decode cX1_mergedNode 15 = .ok (.aload_n 2, 1) := by decide +kernel
theorem dX1_mergedNode_16 : decode cX1_mergedNode 16 = .ok (.getfield 80, 3) := by decide +kernel
theorem dX1_mergedNode_19 : decode cX1_mergedNode 19 = .ok (.invokestatic 81, 3) := by decide +kernel
theorem dX1_mergedNode_22 : decode cX1_mergedNode 22 = .ok (.istore_n 3, 1) := by decide +kernel
theorem dX1_mergedNode_23 : decode cX1_mergedNode 23 = .ok (.aload_n 2, 1) := by decide +kernel
theorem dX1_mergedNode_24 : decode cX1_mergedNode 24 = .ok (.getfield 68, 3) := by decide +kernel
theorem dX1_mergedNode_27 : decode cX1_mergedNode 27 = .ok (.arraylength, 1) := by decide +kernel
theorem dX1_mergedNode_28 : decode cX1_mergedNode 28 = .ok (.newarray .int, 2) := by decide +kernel
theorem dX1_mergedNode_30 : decode cX1_mergedNode 30 = .ok (.astore 4, 2) := by decide +kernel
theorem dX1_mergedNode_32 : decode cX1_mergedNode 32 = .ok (.iconst 0, 1) := by decide +kernel
theorem dX1_mergedNode_33 : decode cX1_mergedNode 33 = .ok (.istore 5, 2) := by decide +kernel
theorem dX1_mergedNode_35 : decode cX1_mergedNode 35 = .ok (.iload 5, 2) := by decide +kernel
theorem dX1_mergedNode_37 : decode cX1_mergedNode 37 = .ok (.aload 4, 2) := by decide +kernel
theorem dX1_mergedNode_39 : decode cX1_mergedNode 39 = .ok (.arraylength, 1) := by decide +kernel
theorem dX1_mergedNode_40 : decode cX1_mergedNode 40 = .ok (.if_icmp .ge 64, 3) := by decide +kernel
theorem dX1_mergedNode_43 : decode cX1_mergedNode 43 = .ok (.aload_n 2, 1) := by decide +kernel
theorem dX1_mergedNode_44 : decode cX1_mergedNode 44 = .ok (.getfield 64, 3) := by decide +kernel
theorem dX1_mergedNode_47 : decode cX1_mergedNode 47 = .ok (.ifCond .ne 13, 3) := by decide +kernel
theorem dX1_mergedNode_50 : decode cX1_mergedNode 50 = .ok (.iload 5, 2) := by decide +kernel
theorem dX1_mergedNode_52 : decode cX1_mergedNode 52 = .ok (.iload_n 3, 1) := by decide +kernel
theorem dX1_mergedNode_53 : decode cX1_mergedNode 53 = .ok (.if_icmp .lt 7, 3) := by decide +kernel
theorem dX1_mergedNode_56 : decode cX1_mergedNode 56 = .ok (.iconst 1, 1) := by decide +kernel
theorem dX1_mergedNode_57 : decode cX1_mergedNode 57 = .ok (.goto 4, 3) := by decide +kernel
theorem dX1_mergedNode_60 : decode cX1_mergedNode 60 = .ok (.iconst 0, 1) := by decide +kernel
theorem dX1_mergedNode_61 : decode cX1_mergedNode 61 = .ok (.istore 6, 2) := by decide +kernel
theorem dX1_mergedNode_63 : decode cX1_mergedNode 63 = .ok (.aload 4, 2) := by decide +kernel
theorem dX1_mergedNode_65 : decode cX1_mergedNode 65 = .ok (.iload 5, 2) := by decide +kernel
theorem dX1_mergedNode_67 : decode cX1_mergedNode 67 = .ok (.iload 6, 2) := by decide +kernel
theorem dX1_mergedNode_69 : decode cX1_mergedNode 69 = .ok (.ifCond .eq 7, 3) := by decide +kernel
theorem dX1_mergedNode_72 : decode cX1_mergedNode 72 = .ok (.iconst 0, 1) := by decide +kernel
theorem dX1_mergedNode_73 : decode cX1_mergedNode 73 = .ok (.goto 24, 3) := by decide +kernel
theorem dX1_mergedNode_76 : decode cX1_mergedNode 76 = .ok (.aload_n 0, 1) := by decide +kernel
theorem dX1_mergedNode_77 : decode cX1_mergedNode 77 = .ok (.iload 5, 2) := by decide +kernel
theorem dX1_mergedNode_79 : decode cX1_mergedNode 79 = .ok (.invokevirtual 72, 3) := by decide +kernel
theorem dX1_mergedNode_82 : decode cX1_mergedNode 82 = .ok (.aload_n 1, 1) := by decide +kernel
theorem dX1_mergedNode_83 : decode cX1_mergedNode 83 = .ok (.iload 5, 2) := by decide +kernel
theorem dX1_mergedNode_85 : decode cX1_mergedNode 85 = .ok (.invokevirtual 72, 3) := by decide +kernel
theorem dX1_mergedNode_88 : decode cX1_mergedNode 88 = .ok (.aload_n 2, 1) := by decide +kernel
theorem dX1_mergedNode_89 : decode cX1_mergedNode 89 = .ok (.iload 5, 2) := by decide +kernel
theorem dX1_mergedNode_91 : decode cX1_mergedNode 91 = .ok (.invokevirtual 72, 3) := by decide +kernel
theorem dX1_mergedNode_94 : decode cX1_mergedNode 94 = .ok (.invokestatic 81, 3) := by decide +kernel
theorem dX1_mergedNode_97 : decode cX1_mergedNode 97 = .ok (.iastore, 1) := by decide +kernel
theorem dX1_mergedNode_98 : decode cX1_mergedNode 98 = .ok (.iinc 5 1, 3) := by decide +kernel
theorem dX1_mergedNode_101 : decode cX1_mergedNode 101 = .ok (.goto (-66), 3) := by decide +kernel
theorem dX1_mergedNode_104 : decode cX1_mergedNode 104 = .ok (.new 25, 3) := by decide +kernel
theorem dX1_mergedNode_107 : decode cX1_mergedNode 107 = .ok (.dup, 1) := by decide +kernel
theorem dX1_mergedNode_108 : decode cX1_mergedNode 108 = .ok (.aload_n 2, 1) := by decide +kernel
theorem dX1_mergedNode_109 : decode cX1_mergedNode 109 = .ok (.getfield 46, 3) := by decide +kernel
theorem dX1_mergedNode_112 : decode cX1_mergedNode 112 = .ok (.aload_n 2, 1) := by decide +kernel
theorem dX1_mergedNode_113 : decode cX1_mergedNode 113 = .ok (.getfield 64, 3) := by decide +kernel
theorem dX1_mergedNode_116 : decode cX1_mergedNode 116 = .ok (.iload_n 3, 1) := by decide +kernel
theorem dX1_mergedNode_117 : decode cX1_mergedNode 117 = .ok (.aload 4, 2) := by decide +kernel
theorem dX1_mergedNode_119 : decode cX1_mergedNode 119 = .ok (.invokespecial 103, 3) := by decide +kernel
theorem dX1_mergedNode_122 : decode cX1_mergedNode 122 = .ok (.areturn, 1) := by decide +kernel
theorem dX1_comes_0 : decode cX1_comes 0 = .ok (.iload_n 1, 1) := by decide +kernel
theorem dX1_comes_1 : decode cX1_comes 1 = .ok (.iload_n 0, 1) := by decide +kernel
theorem dX1_comes_2 : decode cX1_comes 2 = .ok (.if_icmp .eq 12, 3) := by decide +kernel
theorem dX1_comes_5 : decode cX1_comes 5 = .ok (.iload_n 1, 1) := by decide +kernel
theorem dX1_comes_6 : decode cX1_comes 6 = .ok (.iload_n 2, 1) := by decide +kernel
theorem dX1_comes_7 : decode cX1_comes 7 = .ok (.if_icmp .eq 7, 3) := by decide +kernel
theorem dX1_comes_10 : decode cX1_comes 10 = .ok (.iconst 1, 1) := by decide +kernel
theorem dX1_comes_11 : decode cX1_comes 11 = .ok (.goto 4, 3) := by decide +kernel
theorem dX1_comes_14 : decode cX1_comes 14 = .ok (.iconst 0, 1) := by decide +kernel
theorem dX1_comes_15 : decode cX1_comes 15 = .ok (.ireturn, 1) := by decide +kernel
theorem dX1_merged_0 : decode cX1_merged 0 = .ok (.iload_n 1, 1) := by decide +kernel
theorem dX1_merged_1 : decode cX1_merged 1 = .ok (.iload_n 0, 1) := by decide +kernel
theorem dX1_merged_2 : decode cX1_merged 2 = .ok (.if_icmp .eq 7, 3) := by decide +kernel
theorem dX1_merged_5 : decode cX1_merged 5 = .ok (.iload_n 1, 1) := by decide +kernel
theorem dX1_merged_6 : decode cX1_merged 6 = .ok (.goto 4, 3) := by decide +kernel
theorem dX1_merged_9 : decode cX1_merged 9 = .ok (.iload_n 2, 1) := by decide +kernel
theorem dX1_merged_10 : decode cX1_merged 10 = .ok (.ireturn, 1) := by decide +kernel
