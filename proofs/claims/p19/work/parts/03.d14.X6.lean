theorem dX6_enter_6 : decode cX6_enter 6 = .ok (.invokevirtual 81, 3) := by decide +kernel
theorem dX6_enter_9 : decode cX6_enter 9 = .ok (.aload_n 0, 1) := by decide +kernel
theorem dX6_enter_10 : decode cX6_enter 10 = .ok (.getfield 21, 3) := by decide +kernel
theorem dX6_enter_13 : decode cX6_enter 13 = .ok (.bipush 16, 2) := by decide +kernel
theorem dX6_enter_15 : decode cX6_enter 15 = .ok (.iload_n 2, 1) := by decide +kernel
theorem dX6_enter_16 : decode cX6_enter 16 = .ok (.imul, 1) := by decide +kernel
theorem dX6_enter_17 : decode cX6_enter 17 = .ok (.iload_n 3, 1) := by decide +kernel
theorem dX6_enter_18 : decode cX6_enter 18 = .ok (.iadd, 1) := by decide +kernel
theorem dX6_enter_19 : decode cX6_enter 19 = .ok (.iaload, 1) := by decide +kernel
theorem dX6_enter_20 : decode cX6_enter 20 = .ok (.istore 4, 2) := by decide +kernel
theorem dX6_enter_22 : decode cX6_enter 22 = .ok (.iload 4, 2) := by decide +kernel
theorem dX6_enter_24 : decode cX6_enter 24 = .ok (.ifCond .ne 7, 3) := by decide +kernel
theorem dX6_enter_27 : decode cX6_enter 27 = .ok (.iconst (-1), 1) := by decide +kernel
theorem dX6_enter_28 : decode cX6_enter 28 = .ok (.goto 14, 3) := by decide +kernel
theorem dX6_enter_31 : decode cX6_enter 31 = .ok (.aload_n 0, 1) := by decide +kernel
theorem dX6_enter_32 : decode cX6_enter 32 = .ok (.aload_n 0, 1) := by decide +kernel
theorem dX6_enter_33 : decode cX6_enter 33 = .ok (.iload_n 1, 1) := by decide +kernel
theorem dX6_enter_34 : decode cX6_enter 34 = .ok (.invokevirtual 86, 3) := by decide +kernel
theorem dX6_enter_37 : decode cX6_enter 37 = .ok (.iload 4, 2) := by decide +kernel
theorem dX6_enter_39 : decode cX6_enter 39 = .ok (.invokevirtual 74, 3) := by decide +kernel
theorem dX6_enter_42 : decode cX6_enter 42 = .ok (.ireturn, 1) := by decide +kernel
theorem dX6_isOpen_0 : decode cX6_isOpen 0 = .ok (.aload_n 0, 1) := by decide +kernel
theorem dX6_isOpen_1 : decode cX6_isOpen 1 = .ok (.getfield 94, 3) := by decide +kernel
theorem dX6_isOpen_4 : decode cX6_isOpen 4 = .ok (.ifCond .ne 26, 3) := by decide +kernel
theorem dX6_isOpen_7 : decode cX6_isOpen 7 = .ok (.iload_n 1, 1) := by decide +kernel
theorem dX6_isOpen_8 : decode cX6_isOpen 8 = .ok (.ifCond .lt 22, 3) := by decide +kernel
theorem dX6_isOpen_11 : decode cX6_isOpen 11 = .ok (.iload_n 1, 1) := by decide +kernel
theorem dX6_isOpen_12 : decode cX6_isOpen 12 = .ok (.bipush 6, 2) := by decide +kernel
theorem dX6_isOpen_14 : decode cX6_isOpen 14 = .ok (.if_icmp .ge 16, 3) := by decide +kernel
theorem dX6_isOpen_17 : decode cX6_isOpen 17 = .ok (.aload_n 0, 1) := by decide +kernel
theorem dX6_isOpen_18 : decode cX6_isOpen 18 = .ok (.getfield 35, 3) := by decide +kernel
theorem dX6_isOpen_21 : decode cX6_isOpen 21 = .ok (.iload_n 1, 1) := by decide +kernel
theorem dX6_isOpen_22 : decode cX6_isOpen 22 = .ok (.baload, 1) := by decide +kernel
theorem dX6_isOpen_23 : decode cX6_isOpen 23 = .ok (.ifCond .eq 7, 3) := by decide +kernel
theorem dX6_isOpen_26 : decode cX6_isOpen 26 = .ok (.iconst 1, 1) := by decide +kernel
theorem dX6_isOpen_27 : decode cX6_isOpen 27 = .ok (.goto 4, 3) := by decide +kernel
theorem dX6_isOpen_30 : decode cX6_isOpen 30 = .ok (.iconst 0, 1) := by decide +kernel
theorem dX6_isOpen_31 : decode cX6_isOpen 31 = .ok (.ireturn, 1) := by decide +kernel
theorem dX6_mayLook_0 : decode cX6_mayLook 0 = .ok (.aload_n 0, 1) := by decide +kernel
theorem dX6_mayLook_1 : decode cX6_mayLook 1 = .ok (.iload_n 1, 1) := by decide +kernel
theorem dX6_mayLook_2 : decode cX6_mayLook 2 = .ok (.invokevirtual 98, 3) := by decide +kernel
theorem dX6_mayLook_5 : decode cX6_mayLook 5 = .ok (.ifCond .ne 15, 3) := by decide +kernel
theorem dX6_mayLook_8 : decode cX6_mayLook 8 = .ok (.aload_n 0, 1) := by decide +kernel
theorem dX6_mayLook_9 : decode cX6_mayLook 9 = .ok (.getfield 94, 3) := by decide +kernel
theorem dX6_mayLook_12 : decode cX6_mayLook 12 = .ok (.ifCond .ne 12, 3) := by decide +kernel
theorem dX6_mayLook_15 : decode cX6_mayLook 15 = .ok (.iload_n 1, 1) := by decide +kernel
theorem dX6_mayLook_16 : decode cX6_mayLook 16 = .ok (.iconst (-1), 1) := by decide +kernel
theorem dX6_mayLook_17 : decode cX6_mayLook 17 = .ok (.if_icmp .ne 7, 3) := by decide +kernel
theorem dX6_mayLook_20 : decode cX6_mayLook 20 = .ok (.iconst 1, 1) := by decide +kernel
theorem dX6_mayLook_21 : decode cX6_mayLook 21 = .ok (.goto 4, 3) := by decide +kernel
theorem dX6_mayLook_24 : decode cX6_mayLook 24 = .ok (.iconst 0, 1) := by decide +kernel
theorem dX6_mayLook_25 : decode cX6_mayLook 25 = .ok (.ireturn, 1) := by decide +kernel
theorem dX6_begin_0 : decode cX6_begin 0 = .ok (.iconst 0, 1) := by decide +kernel
theorem dX6_begin_1 : decode cX6_begin 1 = .ok (.istore_n 1, 1) := by decide +kernel
theorem dX6_begin_2 : decode cX6_begin 2 = .ok (.iload_n 1, 1) := by decide +kernel
theorem dX6_begin_3 : decode cX6_begin 3 = .ok (.bipush 6, 2) := by decide +kernel
theorem dX6_begin_5 : decode cX6_begin 5 = .ok (.if_icmp .ge 18, 3) := by decide +kernel
theorem dX6_begin_8 : decode cX6_begin 8 = .ok (.aload_n 0, 1) := by decide +kernel
theorem dX6_begin_9 : decode cX6_begin 9 = .ok (.getfield 35, 3) := by decide +kernel
theorem dX6_begin_12 : decode cX6_begin 12 = .ok (.iload_n 1, 1) := by decide +kernel
theorem dX6_begin_13 : decode cX6_begin 13 = .ok (.baload, 1) := by decide +kernel
theorem dX6_begin_14 : decode cX6_begin 14 = .ok (.ifCond .eq 9, 3) := by decide +kernel
theorem dX6_begin_17 : decode cX6_begin 17 = .ok (.iinc 1 1, 3) := by decide +kernel
theorem dX6_begin_20 : decode cX6_begin 20 = .ok (.goto (-18), 3) := by decide +kernel
theorem dX6_begin_23 : decode cX6_begin 23 = .ok (.aload_n 0, 1) := by decide +kernel
theorem dX6_begin_24 : decode cX6_begin 24 = .ok (.aload_n 0, 1) := by decide +kernel
theorem dX6_begin_25 : decode cX6_begin 25 = .ok (.getfield 94, 3) := by decide +kernel
theorem dX6_begin_28 : decode cX6_begin 28 = .ok (.ifCond .eq 7, 3) := by decide +kernel
theorem dX6_begin_31 : decode cX6_begin 31 = .ok (.iconst 1, 1) := by decide +kernel
theorem dX6_begin_32 : decode cX6_begin 32 = .ok (.goto 14, 3) := by decide +kernel
theorem dX6_begin_35 : decode cX6_begin 35 = .ok (.iload_n 1, 1) := by decide +kernel
theorem dX6_begin_36 : decode cX6_begin 36 = .ok (.bipush 6, 2) := by decide +kernel
theorem dX6_begin_38 : decode cX6_begin 38 = .ok (.if_icmp .ne 7, 3) := by decide +kernel
theorem dX6_begin_41 : decode cX6_begin 41 = .ok (.iconst 2, 1) := by decide +kernel
theorem dX6_begin_42 : decode cX6_begin 42 = .ok (.goto 4, 3) := by decide +kernel
theorem dX6_begin_45 : decode cX6_begin 45 = .ok (.iconst 0, 1) := by decide +kernel
theorem dX6_begin_46 : decode cX6_begin 46 = .ok (.invokevirtual 102, 3) := by decide +kernel
theorem dX6_begin_49 : decode cX6_begin 49 = .ok (.ifCond .eq 5, 3) := by decide +kernel
theorem dX6_begin_52 : decode cX6_begin 52 = .ok (.iconst 0, 1) := by decide +kernel
theorem dX6_begin_53 : decode cX6_begin 53 = .ok (.ireturn, 1) := by decide +kernel
theorem dX6_begin_54 : decode cX6_begin 54 = .ok (.aload_n 0, 1) := by decide +kernel
theorem dX6_begin_55 : decode cX6_begin 55 = .ok (.getfield 35, 3) := by decide +kernel
theorem dX6_begin_58 : decode cX6_begin 58 = .ok (.iload_n 1, 1) := by decide +kernel
theorem dX6_begin_59 : decode cX6_begin 59 = .ok (.iconst 1, 1) := by decide +kernel
theorem dX6_begin_60 : decode cX6_begin 60 = .ok (.bastore, 1) := by decide +kernel
theorem dX6_begin_61 : decode cX6_begin 61 = .ok (.aload_n 0, 1) := by decide +kernel
theorem dX6_begin_62 : decode cX6_begin 62 = .ok (.getfield 38, 3) := by decide +kernel
theorem dX6_begin_65 : decode cX6_begin 65 = .ok (.iload_n 1, 1) := by decide +kernel
theorem dX6_begin_66 : decode cX6_begin 66 = .ok (.iconst 0, 1) := by decide +kernel
theorem dX6_begin_67 : decode cX6_begin 67 = .ok (.iastore, 1) := by decide +kernel
theorem dX6_begin_68 : decode cX6_begin 68 = .ok (.aload_n 0, 1) := by decide +kernel
theorem dX6_begin_69 : decode cX6_begin 69 = .ok (.iconst 1, 1) := by decide +kernel
theorem dX6_begin_70 : decode cX6_begin 70 = .ok (.iconst 5, 1) := by decide +kernel
theorem dX6_begin_71 : decode cX6_begin 71 = .ok (.iload_n 1, 1) := by decide +kernel
theorem dX6_begin_72 : decode cX6_begin 72 = .ok (.imul, 1) := by decide +kernel
theorem dX6_begin_73 : decode cX6_begin 73 = .ok (.iadd, 1) := by decide +kernel
theorem dX6_begin_74 : decode cX6_begin 74 = .ok (.iconst 0, 1) := by decide +kernel
theorem dX6_begin_75 : decode cX6_begin 75 = .ok (.invokevirtual 105, 3) := by decide +kernel
theorem dX6_begin_78 : decode cX6_begin 78 = .ok (.aload_n 0, 1) := by decide +kernel
theorem dX6_begin_79 : decode cX6_begin 79 = .ok (.iconst 2, 1) := by decide +kernel
theorem dX6_begin_80 : decode cX6_begin 80 = .ok (.iconst 5, 1) := by decide +kernel
theorem dX6_begin_81 : decode cX6_begin 81 = .ok (.iload_n 1, 1) := by decide +kernel
theorem dX6_begin_82 : decode cX6_begin 82 = .ok (.imul, 1) := by decide +kernel
theorem dX6_begin_83 : decode cX6_begin 83 = .ok (.iadd, 1) := by decide +kernel
theorem dX6_begin_84 : decode cX6_begin 84 = .ok (.iconst 0, 1) := by decide +kernel
theorem dX6_begin_85 : decode cX6_begin 85 = .ok (.invokevirtual 105, 3) := by decide +kernel
theorem dX6_begin_88 : decode cX6_begin 88 = .ok (.iconst 0, 1) := by decide +kernel
theorem dX6_begin_89 : decode cX6_begin 89 = .ok (.istore_n 2, 1) := by decide +kernel
theorem dX6_begin_90 : decode cX6_begin 90 = .ok (.iload_n 2, 1) := by decide +kernel
theorem dX6_begin_91 : decode cX6_begin 91 = .ok (.sipush 9500, 3) := by decide +kernel
theorem dX6_begin_94 : decode cX6_begin 94 = .ok (.if_icmp .ge 22, 3) := by decide +kernel
theorem dX6_begin_97 : decode cX6_begin 97 = .ok (.aload_n 0, 1) := by decide +kernel
theorem dX6_begin_98 : decode cX6_begin 98 = .ok (.getfield 42, 3) := by decide +kernel
theorem dX6_begin_101 : decode cX6_begin 101 = .ok (.sipush 9500, 3) := by decide +kernel
theorem dX6_begin_104 : decode cX6_begin 104 = .ok (.iload_n 1, 1) := by decide +kernel
theorem dX6_begin_105 : decode cX6_begin 105 = .ok (.imul, 1) := by decide +kernel
theorem dX6_begin_106 : decode cX6_begin 106 = .ok (.iload_n 2, 1) := by decide +kernel
theorem dX6_begin_107 : decode cX6_begin 107 = .ok (.iadd, 1) := by decide +kernel
theorem dX6_begin_108 : decode cX6_begin 108 = .ok (.iconst 0, 1) := by decide +kernel
theorem dX6_begin_109 : decode cX6_begin 109 = .ok (.bastore, 1) := by decide +kernel
theorem dX6_begin_110 : decode cX6_begin 110 = .ok (.iinc 2 1, 3) := by decide +kernel
theorem dX6_begin_113 : decode cX6_begin 113 = .ok (.goto (-23), 3) := by decide +kernel
theorem dX6_begin_116 : decode cX6_begin 116 = .ok (.iload_n 1, 1) := by decide +kernel
theorem dX6_begin_117 : decode cX6_begin 117 = .ok (.ireturn, 1) := by decide +kernel
theorem dX6_reads_0 : decode cX6_reads 0 = .ok (.iconst 0, 1) := by decide +kernel
theorem dX6_reads_1 : decode cX6_reads 1 = .ok (.istore_n 2, 1) := by decide +kernel
theorem dX6_reads_2 : decode cX6_reads 2 = .ok (.sipush 9500, 3) := by decide +kernel
theorem dX6_reads_5 : decode cX6_reads 5 = .ok (.iload_n 1, 1) := by decide +kernel
theorem dX6_reads_6 : decode cX6_reads 6 = .ok (.imul, 1) := by decide +kernel
theorem dX6_reads_7 : decode cX6_reads 7 = .ok (.istore_n 3, 1) := by decide +kernel
theorem dX6_reads_8 : decode cX6_reads 8 = .ok (.iload_n 3, 1) := by decide +kernel
theorem dX6_reads_9 : decode cX6_reads 9 = .ok (.sipush 9500, 3) := by decide +kernel
theorem dX6_reads_12 : decode cX6_reads 12 = .ok (.iload_n 1, 1) := by decide +kernel
theorem dX6_reads_13 : decode cX6_reads 13 = .ok (.imul, 1) := by decide +kernel
theorem dX6_reads_14 : decode cX6_reads 14 = .ok (.sipush 9500, 3) := by decide +kernel
theorem dX6_reads_17 : decode cX6_reads 17 = .ok (.iadd, 1) := by decide +kernel
theorem dX6_reads_18 : decode cX6_reads 18 = .ok (.if_icmp .ge 26, 3) := by decide +kernel
theorem dX6_reads_21 : decode cX6_reads 21 = .ok (.iload_n 2, 1) := by decide +kernel
theorem dX6_reads_22 : decode cX6_reads 22 = .ok (.aload_n 0, 1) := by decide +kernel
theorem dX6_reads_23 : decode cX6_reads 23 = .ok (.getfield 42, 3) := by decide +kernel
theorem dX6_reads_26 : decode cX6_reads 26 = .ok (.iload_n 3, 1) := by decide +kernel
theorem dX6_reads_27 : decode cX6_reads 27 = .ok (.baload, 1) := by decide +kernel
theorem dX6_reads_28 : decode cX6_reads 28 = .ok (.ifCond .eq 7, 3) := by decide +kernel
theorem dX6_reads_31 : decode cX6_reads 31 = .ok (.iconst 1, 1) := by decide +kernel
theorem dX6_reads_32 : decode cX6_reads 32 = .ok (.goto 4, 3) := by decide +kernel
theorem dX6_reads_35 : decode cX6_reads 35 = .ok (.iconst 0, 1) := by decide +kernel
theorem dX6_reads_36 : decode cX6_reads 36 = .ok (.iadd, 1) := by decide +kernel
theorem dX6_reads_37 : decode cX6_reads 37 = .ok (.istore_n 2, 1) := by decide +kernel
theorem dX6_reads_38 : decode cX6_reads 38 = .ok (.iinc 3 1, 3) := by decide +kernel
theorem dX6_reads_41 : decode cX6_reads 41 = .ok (.goto (-33), 3) := by decide +kernel
theorem dX6_reads_44 : decode cX6_reads 44 = .ok (.iload_n 2, 1) := by decide +kernel
theorem dX6_reads_45 : decode cX6_reads 45 = .ok (.ireturn, 1) := by decide +kernel
theorem dX6_drop_0 : decode cX6_drop 0 = .ok (.aload_n 0, 1) := by decide +kernel
theorem dX6_drop_1 : decode cX6_drop 1 = .ok (.aload_n 0, 1) := by decide +kernel
theorem dX6_drop_2 : decode cX6_drop 2 = .ok (.iload_n 1, 1) := by decide +kernel
theorem dX6_drop_3 : decode cX6_drop 3 = .ok (.invokevirtual 98, 3) := by decide +kernel
theorem dX6_drop_6 : decode cX6_drop 6 = .ok (.ifCond .eq 7, 3) := by decide +kernel
theorem dX6_drop_9 : decode cX6_drop 9 = .ok (.iconst 0, 1) := by decide +kernel
theorem dX6_drop_10 : decode cX6_drop 10 = .ok (.goto 4, 3) := by decide +kernel
theorem dX6_drop_13 : decode cX6_drop 13 = .ok (.iconst 1, 1) := by decide +kernel
theorem dX6_drop_14 : decode cX6_drop 14 = .ok (.invokevirtual 102, 3) := by decide +kernel
theorem dX6_drop_17 : decode cX6_drop 17 = .ok (.ifCond .eq 5, 3) := by decide +kernel
theorem dX6_drop_20 : decode cX6_drop 20 = .ok (.iconst 0, 1) := by decide +kernel
theorem dX6_drop_21 : decode cX6_drop 21 = .ok (.ireturn, 1) := by decide +kernel
theorem dX6_drop_22 : decode cX6_drop 22 = .ok (.aload_n 0, 1) := by decide +kernel
theorem dX6_drop_23 : decode cX6_drop 23 = .ok (.getfield 35, 3) := by decide +kernel
theorem dX6_drop_26 : decode cX6_drop 26 = .ok (.iload_n 1, 1) := by decide +kernel
theorem dX6_drop_27 : decode cX6_drop 27 = .ok (.iconst 0, 1) := by decide +kernel
theorem dX6_drop_28 : decode cX6_drop 28 = .ok (.bastore, 1) := by decide +kernel
theorem dX6_drop_29 : decode cX6_drop 29 = .ok (.aload_n 0, 1) := by decide +kernel
theorem dX6_drop_30 : decode cX6_drop 30 = .ok (.iload_n 1, 1) := by decide +kernel
theorem dX6_drop_31 : decode cX6_drop 31 = .ok (.invokevirtual 108, 3) := by decide +kernel
theorem dX6_drop_34 : decode cX6_drop 34 = .ok (.ireturn, 1) := by decide +kernel
theorem dX6_mark_0 : decode cX6_mark 0 = .ok (.aload_n 0, 1) := by decide +kernel
theorem dX6_mark_1 : decode cX6_mark 1 = .ok (.aload_n 0, 1) := by decide +kernel
theorem dX6_mark_2 : decode cX6_mark 2 = .ok (.iload_n 1, 1) := by decide +kernel
theorem dX6_mark_3 : decode cX6_mark 3 = .ok (.invokevirtual 98, 3) := by decide +kernel
theorem dX6_mark_6 : decode cX6_mark 6 = .ok (.ifCond .ne 7, 3) := by decide +kernel
theorem dX6_mark_9 : decode cX6_mark 9 = .ok (.iconst 1, 1) := by decide +kernel
theorem dX6_mark_10 : decode cX6_mark 10 = .ok (.goto 18, 3) := by decide +kernel
theorem dX6_mark_13 : decode cX6_mark 13 = .ok (.aload_n 0, 1) := by decide +kernel
theorem dX6_mark_14 : decode cX6_mark 14 = .ok (.getfield 38, 3) := by decide +kernel
theorem dX6_mark_17 : decode cX6_mark 17 = .ok (.iload_n 1, 1) := by decide +kernel
theorem dX6_mark_18 : decode cX6_mark 18 = .ok (.iaload, 1) := by decide +kernel
theorem dX6_mark_19 : decode cX6_mark 19 = .ok (.iconst 3, 1) := by decide +kernel
theorem dX6_mark_20 : decode cX6_mark 20 = .ok (.if_icmp .ne 7, 3) := by decide +kernel
theorem dX6_mark_23 : decode cX6_mark 23 = .ok (.iconst 2, 1) := by decide +kernel
theorem dX6_mark_24 : decode cX6_mark 24 = .ok (.goto 4, 3) := by decide +kernel
theorem dX6_mark_27 : decode cX6_mark 27 = .ok (.iconst 0, 1) := by decide +kernel
theorem dX6_mark_28 : decode cX6_mark 28 = .ok (.invokevirtual 102, 3) := by decide +kernel
theorem dX6_mark_31 : decode cX6_mark 31 = .ok (.ifCond .eq 5, 3) := by decide +kernel
theorem dX6_mark_34 : decode cX6_mark 34 = .ok (.iconst 0, 1) := by decide +kernel
theorem dX6_mark_35 : decode cX6_mark 35 = .ok (.ireturn, 1) := by decide +kernel
theorem dX6_mark_36 : decode cX6_mark 36 = .ok (.aload_n 0, 1) := by decide +kernel
theorem dX6_mark_37 : decode cX6_mark 37 = .ok (.iconst 3, 1) := by decide +kernel
theorem dX6_mark_38 : decode cX6_mark 38 = .ok (.iconst 5, 1) := by decide +kernel
theorem dX6_mark_39 : decode cX6_mark 39 = .ok (.iload_n 1, 1) := by decide +kernel
theorem dX6_mark_40 : decode cX6_mark 40 = .ok (.imul, 1) := by decide +kernel
theorem dX6_mark_41 : decode cX6_mark 41 = .ok (.iadd, 1) := by decide +kernel
theorem dX6_mark_42 : decode cX6_mark 42 = .ok (.aload_n 0, 1) := by decide +kernel
theorem dX6_mark_43 : decode cX6_mark 43 = .ok (.getfield 38, 3) := by decide +kernel
theorem dX6_mark_46 : decode cX6_mark 46 = .ok (.iload_n 1, 1) := by decide +kernel
theorem dX6_mark_47 : decode cX6_mark 47 = .ok (.iaload, 1) := by decide +kernel
theorem dX6_mark_48 : decode cX6_mark 48 = .ok (.iadd, 1) := by decide +kernel
theorem dX6_mark_49 : decode cX6_mark 49 = .ok (.iconst 2, 1) := by decide +kernel
theorem dX6_mark_50 : decode cX6_mark 50 = .ok (.iconst 5, 1) := by decide +kernel
theorem dX6_mark_51 : decode cX6_mark 51 = .ok (.iload_n 1, 1) := by decide +kernel
theorem dX6_mark_52 : decode cX6_mark 52 = .ok (.imul, 1) := by decide +kernel
theorem dX6_mark_53 : decode cX6_mark 53 = .ok (.iadd, 1) := by decide +kernel
theorem dX6_mark_54 : decode cX6_mark 54 = .ok (.invokevirtual 105, 3) := by decide +kernel
theorem dX6_mark_57 : decode cX6_mark 57 = .ok (.aload_n 0, 1) := by decide +kernel
theorem dX6_mark_58 : decode cX6_mark 58 = .ok (.getfield 38, 3) := by decide +kernel
theorem dX6_mark_61 : decode cX6_mark 61 = .ok (.iload_n 1, 1) := by decide +kernel
theorem dX6_mark_62 : decode cX6_mark 62 = .ok (.dup2, 1) := by decide +kernel
theorem dX6_mark_63 : decode cX6_mark 63 = .ok (.iaload, 1) := by decide +kernel
theorem dX6_mark_64 : decode cX6_mark 64 = .ok (.iconst 1, 1) := by decide +kernel
theorem dX6_mark_65 : decode cX6_mark 65 = .ok (.iadd, 1) := by decide +kernel
theorem dX6_mark_66 : decode cX6_mark 66 = .ok (.iastore, 1) := by decide +kernel
theorem dX6_mark_67 : decode cX6_mark 67 = .ok (.aload_n 0, 1) := by decide +kernel
theorem dX6_mark_68 : decode cX6_mark 68 = .ok (.getfield 38, 3) := by decide +kernel
theorem dX6_mark_71 : decode cX6_mark 71 = .ok (.iload_n 1, 1) := by decide +kernel
theorem dX6_mark_72 : decode cX6_mark 72 = .ok (.iaload, 1) := by decide +kernel
theorem dX6_mark_73 : decode cX6_mark 73 = .ok (.ireturn, 1) := by decide +kernel
theorem dX6_back_0 : decode cX6_back 0 = .ok (.aload_n 0, 1) := by decide +kernel
theorem dX6_back_1 : decode cX6_back 1 = .ok (.aload_n 0, 1) := by decide +kernel
theorem dX6_back_2 : decode cX6_back 2 = .ok (.iload_n 1, 1) := by decide +kernel
theorem dX6_back_3 : decode cX6_back 3 = .ok (.invokevirtual 98, 3) := by decide +kernel
theorem dX6_back_6 : decode cX6_back 6 = .ok (.ifCond .ne 7, 3) := by decide +kernel
theorem dX6_back_9 : decode cX6_back 9 = .ok (.iconst 1, 1) := by decide +kernel
theorem dX6_back_10 : decode cX6_back 10 = .ok (.goto 17, 3) := by decide +kernel
theorem dX6_back_13 : decode cX6_back 13 = .ok (.aload_n 0, 1) := by decide +kernel
theorem dX6_back_14 : decode cX6_back 14 = .ok (.getfield 38, 3) := by decide +kernel
theorem dX6_back_17 : decode cX6_back 17 = .ok (.iload_n 1, 1) := by decide +kernel
theorem dX6_back_18 : decode cX6_back 18 = .ok (.iaload, 1) := by decide +kernel
theorem dX6_back_19 : decode cX6_back 19 = .ok (.ifCond .ne 7, 3) := by decide +kernel
theorem dX6_back_22 : decode cX6_back 22 = .ok (.iconst 2, 1) := by decide +kernel
theorem dX6_back_23 : decode cX6_back 23 = .ok (.goto 4, 3) := by decide +kernel
theorem dX6_back_26 : decode cX6_back 26 = .ok (.iconst 0, 1) := by decide +kernel
theorem dX6_back_27 : decode cX6_back 27 = .ok (.invokevirtual 102, 3) := by decide +kernel
theorem dX6_back_30 : decode cX6_back 30 = .ok (.ifCond .eq 5, 3) := by decide +kernel
theorem dX6_back_33 : decode cX6_back 33 = .ok (.iconst 0, 1) := by decide +kernel
theorem dX6_back_34 : decode cX6_back 34 = .ok (.ireturn, 1) := by decide +kernel
theorem dX6_back_35 : decode cX6_back 35 = .ok (.aload_n 0, 1) := by decide +kernel
theorem dX6_back_36 : decode cX6_back 36 = .ok (.getfield 38, 3) := by decide +kernel
theorem dX6_back_39 : decode cX6_back 39 = .ok (.iload_n 1, 1) := by decide +kernel
theorem dX6_back_40 : decode cX6_back 40 = .ok (.dup2, 1) := by decide +kernel
theorem dX6_back_41 : decode cX6_back 41 = .ok (.iaload, 1) := by decide +kernel
theorem dX6_back_42 : decode cX6_back 42 = .ok (.iconst 1, 1) := by decide +kernel
theorem dX6_back_43 : decode cX6_back 43 = .ok (.isub, 1) := by decide +kernel
theorem dX6_back_44 : decode cX6_back 44 = .ok (.iastore, 1) := by decide +kernel
theorem dX6_back_45 : decode cX6_back 45 = .ok (.aload_n 0, 1) := by decide +kernel
theorem dX6_back_46 : decode cX6_back 46 = .ok (.iconst 2, 1) := by decide +kernel
theorem dX6_back_47 : decode cX6_back 47 = .ok (.iconst 5, 1) := by decide +kernel
theorem dX6_back_48 : decode cX6_back 48 = .ok (.iload_n 1, 1) := by decide +kernel
theorem dX6_back_49 : decode cX6_back 49 = .ok (.imul, 1) := by decide +kernel
theorem dX6_back_50 : decode cX6_back 50 = .ok (.iadd, 1) := by decide +kernel
theorem dX6_back_51 : decode cX6_back 51 = .ok (.iconst 3, 1) := by decide +kernel
theorem dX6_back_52 : decode cX6_back 52 = .ok (.iconst 5, 1) := by decide +kernel
theorem dX6_back_53 : decode cX6_back 53 = .ok (.iload_n 1, 1) := by decide +kernel
theorem dX6_back_54 : decode cX6_back 54 = .ok (.imul, 1) := by decide +kernel
theorem dX6_back_55 : decode cX6_back 55 = .ok (.iadd, 1) := by decide +kernel
theorem dX6_back_56 : decode cX6_back 56 = .ok (.aload_n 0, 1) := by decide +kernel
theorem dX6_back_57 : decode cX6_back 57 = .ok (.getfield 38, 3) := by decide +kernel
theorem dX6_back_60 : decode cX6_back 60 = .ok (.iload_n 1, 1) := by decide +kernel
theorem dX6_back_61 : decode cX6_back 61 = .ok (.iaload, 1) := by decide +kernel
theorem dX6_back_62 : decode cX6_back 62 = .ok (.iadd, 1) := by decide +kernel
theorem dX6_back_63 : decode cX6_back 63 = .ok (.invokevirtual 105, 3) := by decide +kernel
theorem dX6_back_66 : decode cX6_back 66 = .ok (.aload_n 0, 1) := by decide +kernel
theorem dX6_back_67 : decode cX6_back 67 = .ok (.getfield 38, 3) := by decide +kernel
theorem dX6_back_70 : decode cX6_back 70 = .ok (.iload_n 1, 1) := by decide +kernel
theorem dX6_back_71 : decode cX6_back 71 = .ok (.iaload, 1) := by decide +kernel
theorem dX6_back_72 : decode cX6_back 72 = .ok (.ireturn, 1) := by decide +kernel
theorem dX6_about_0 : decode cX6_about 0 = .ok (.aload_n 0, 1) := by decide +kernel
theorem dX6_about_1 : decode cX6_about 1 = .ok (.aload_n 0, 1) := by decide +kernel
theorem dX6_about_2 : decode cX6_about 2 = .ok (.iload_n 1, 1) := by decide +kernel
theorem dX6_about_3 : decode cX6_about 3 = .ok (.invokevirtual 98, 3) := by decide +kernel
theorem dX6_about_6 : decode cX6_about 6 = .ok (.ifCond .ne 7, 3) := by decide +kernel
theorem dX6_about_9 : decode cX6_about 9 = .ok (.iconst 1, 1) := by decide +kernel
theorem dX6_about_10 : decode cX6_about 10 = .ok (.goto 17, 3) := by decide +kernel
theorem dX6_about_13 : decode cX6_about 13 = .ok (.iload_n 2, 1) := by decide +kernel
theorem dX6_about_14 : decode cX6_about 14 = .ok (.ifCond .lt 8, 3) := by decide +kernel
theorem dX6_about_17 : decode cX6_about 17 = .ok (.iload_n 2, 1) := by decide +kernel
theorem dX6_about_18 : decode cX6_about 18 = .ok (.iconst 3, 1) := by decide +kernel
theorem dX6_about_19 : decode cX6_about 19 = .ok (.if_icmp .le 7, 3) := by decide +kernel
theorem dX6_about_22 : decode cX6_about 22 = .ok (.iconst 2, 1) := by decide +kernel
theorem dX6_about_23 : decode cX6_about 23 = .ok (.goto 4, 3) := by decide +kernel
theorem dX6_about_26 : decode cX6_about 26 = .ok (.iconst 0, 1) := by decide +kernel
theorem dX6_about_27 : decode cX6_about 27 = .ok (.invokevirtual 102, 3) := by decide +kernel
theorem dX6_about_30 : decode cX6_about 30 = .ok (.ifCond .eq 5, 3) := by decide +kernel
theorem dX6_about_33 : decode cX6_about 33 = .ok (.iconst 0, 1) := by decide +kernel
theorem dX6_about_34 : decode cX6_about 34 = .ok (.ireturn, 1) := by decide +kernel
theorem dX6_about_35 : decode cX6_about 35 = .ok (.iload_n 2, 1) := by decide +kernel
theorem dX6_about_36 : decode cX6_about 36 = .ok (.ifCond .ne 11, 3) := by decide +kernel
theorem dX6_about_39 : decode cX6_about 39 = .ok (.aload_n 0, 1) := by decide +kernel
theorem dX6_about_40 : decode cX6_about 40 = .ok (.iload_n 1, 1) := by decide +kernel
theorem dX6_about_41 : decode cX6_about 41 = .ok (.invokevirtual 108, 3) := by decide +kernel
theorem dX6_about_44 : decode cX6_about 44 = .ok (.goto 40, 3) := by decide +kernel
theorem dX6_about_47 : decode cX6_about 47 = .ok (.iload_n 2, 1) := by decide +kernel
theorem dX6_about_48 : decode cX6_about 48 = .ok (.iconst 1, 1) := by decide +kernel
theorem dX6_about_49 : decode cX6_about 49 = .ok (.if_icmp .ne 11, 3) := by decide +kernel
theorem dX6_about_52 : decode cX6_about 52 = .ok (.aload_n 0, 1) := by decide +kernel
theorem dX6_about_53 : decode cX6_about 53 = .ok (.iload_n 1, 1) := by decide +kernel
theorem dX6_about_54 : decode cX6_about 54 = .ok (.invokevirtual 111, 3) := by decide +kernel
theorem dX6_about_57 : decode cX6_about 57 = .ok (.goto 27, 3) := by decide +kernel
theorem dX6_about_60 : decode cX6_about 60 = .ok (.iload_n 2, 1) := by decide +kernel
theorem dX6_about_61 : decode cX6_about 61 = .ok (.iconst 2, 1) := by decide +kernel
theorem dX6_about_62 : decode cX6_about 62 = .ok (.if_icmp .ne 16, 3) := by decide +kernel
theorem dX6_about_65 : decode cX6_about 65 = .ok (.aload_n 0, 1) := by decide +kernel
theorem dX6_about_66 : decode cX6_about 66 = .ok (.getfield 7, 3) := by decide +kernel
theorem dX6_about_69 : decode cX6_about 69 = .ok (.iconst 2, 1) := by decide +kernel
theorem dX6_about_70 : decode cX6_about 70 = .ok (.iconst 5, 1) := by decide +kernel
theorem dX6_about_71 : decode cX6_about 71 = .ok (.iload_n 1, 1) := by decide +kernel
theorem dX6_about_72 : decode cX6_about 72 = .ok (.imul, 1) := by decide +kernel
theorem dX6_about_73 : decode cX6_about 73 = .ok (.iadd, 1) := by decide +kernel
theorem dX6_about_74 : decode cX6_about 74 = .ok (.iaload, 1) := by decide +kernel
theorem dX6_about_75 : decode cX6_about 75 = .ok (.goto 9, 3) := by decide +kernel
theorem dX6_about_78 : decode cX6_about 78 = .ok (.aload_n 0, 1) := by decide +kernel
theorem dX6_about_79 : decode cX6_about 79 = .ok (.getfield 38, 3) := by decide +kernel
theorem dX6_about_82 : decode cX6_about 82 = .ok (.iload_n 1, 1) := by decide +kernel
theorem dX6_about_83 : decode cX6_about 83 = .ok (.iaload, 1) := by decide +kernel
theorem dX6_about_84 : decode cX6_about 84 = .ok (.ireturn, 1) := by decide +kernel
theorem dX6_changed_0 : decode cX6_changed 0 = .ok (.iconst 0, 1) := by decide +kernel
theorem dX6_changed_1 : decode cX6_changed 1 = .ok (.istore_n 2, 1) := by decide +kernel
theorem dX6_changed_2 : decode cX6_changed 2 = .ok (.iconst 2, 1) := by decide +kernel
theorem dX6_changed_3 : decode cX6_changed 3 = .ok (.iconst 5, 1) := by decide +kernel
theorem dX6_changed_4 : decode cX6_changed 4 = .ok (.iload_n 1, 1) := by decide +kernel
theorem dX6_changed_5 : decode cX6_changed 5 = .ok (.imul, 1) := by decide +kernel
theorem dX6_changed_6 : decode cX6_changed 6 = .ok (.iadd, 1) := by decide +kernel
theorem dX6_changed_7 : decode cX6_changed 7 = .ok (.istore_n 3, 1) := by decide +kernel
theorem dX6_changed_8 : decode cX6_changed 8 = .ok (.bipush 100, 2) := by decide +kernel
theorem dX6_changed_10 : decode cX6_changed 10 = .ok (.iload_n 3, 1) := by decide +kernel
theorem dX6_changed_11 : decode cX6_changed 11 = .ok (.imul, 1) := by decide +kernel
theorem dX6_changed_12 : decode cX6_changed 12 = .ok (.istore 4, 2) := by decide +kernel
theorem dX6_changed_14 : decode cX6_changed 14 = .ok (.iload 4, 2) := by decide +kernel
theorem dX6_changed_16 : decode cX6_changed 16 = .ok (.bipush 100, 2) := by decide +kernel
theorem dX6_changed_18 : decode cX6_changed 18 = .ok (.iload_n 3, 1) := by decide +kernel
theorem dX6_changed_19 : decode cX6_changed 19 = .ok (.imul, 1) := by decide +kernel
theorem dX6_changed_20 : decode cX6_changed 20 = .ok (.aload_n 0, 1) := by decide +kernel
theorem dX6_changed_21 : decode cX6_changed 21 = .ok (.getfield 7, 3) := by decide +kernel
theorem dX6_changed_24 : decode cX6_changed 24 = .ok (.iload_n 3, 1) := by decide +kernel
theorem dX6_changed_25 : decode cX6_changed 25 = .ok (.iaload, 1) := by decide +kernel
theorem dX6_changed_26 : decode cX6_changed 26 = .ok (.iadd, 1) := by decide +kernel
theorem dX6_changed_27 : decode cX6_changed 27 = .ok (.if_icmp .ge 133, 3) := by decide +kernel
theorem dX6_changed_30 : decode cX6_changed 30 = .ok (.aload_n 0, 1) := by decide +kernel
theorem dX6_changed_31 : decode cX6_changed 31 = .ok (.iconst 1, 1) := by decide +kernel
theorem dX6_changed_32 : decode cX6_changed 32 = .ok (.iconst 5, 1) := by decide +kernel
theorem dX6_changed_33 : decode cX6_changed 33 = .ok (.iload_n 1, 1) := by decide +kernel
theorem dX6_changed_34 : decode cX6_changed 34 = .ok (.imul, 1) := by decide +kernel
theorem dX6_changed_35 : decode cX6_changed 35 = .ok (.iadd, 1) := by decide +kernel
theorem dX6_changed_36 : decode cX6_changed 36 = .ok (.aload_n 0, 1) := by decide +kernel
theorem dX6_changed_37 : decode cX6_changed 37 = .ok (.getfield 13, 3) := by decide +kernel
theorem dX6_changed_40 : decode cX6_changed 40 = .ok (.iload 4, 2) := by decide +kernel
theorem dX6_changed_42 : decode cX6_changed 42 = .ok (.iaload, 1) := by decide +kernel
theorem dX6_changed_43 : decode cX6_changed 43 = .ok (.invokevirtual 74, 3) := by decide +kernel
theorem dX6_changed_46 : decode cX6_changed 46 = .ok (.istore 5, 2) := by decide +kernel
theorem dX6_changed_48 : decode cX6_changed 48 = .ok (.iload_n 2, 1) := by decide +kernel
theorem dX6_changed_49 : decode cX6_changed 49 = .ok (.iload 5, 2) := by decide +kernel
theorem dX6_changed_51 : decode cX6_changed 51 = .ok (.ifCond .ge 7, 3) := by decide +kernel
theorem dX6_changed_54 : decode cX6_changed 54 = .ok (.iconst 1, 1) := by decide +kernel
theorem dX6_changed_55 : decode cX6_changed 55 = .ok (.goto 4, 3) := by decide +kernel
theorem dX6_changed_58 : decode cX6_changed 58 = .ok (.iconst 0, 1) := by decide +kernel
theorem dX6_changed_59 : decode cX6_changed 59 = .ok (.iadd, 1) := by decide +kernel
theorem dX6_changed_60 : decode cX6_changed 60 = .ok (.istore_n 2, 1) := by decide +kernel
theorem dX6_changed_61 : decode cX6_changed 61 = .ok (.iconst 0, 1) := by decide +kernel
theorem dX6_changed_62 : decode cX6_changed 62 = .ok (.istore 6, 2) := by decide +kernel
theorem dX6_changed_64 : decode cX6_changed 64 = .ok (.iload 6, 2) := by decide +kernel
theorem dX6_changed_66 : decode cX6_changed 66 = .ok (.bipush 95, 2) := by decide +kernel
theorem dX6_changed_68 : decode cX6_changed 68 = .ok (.if_icmp .ge 86, 3) := by decide +kernel
theorem dX6_changed_71 : decode cX6_changed 71 = .ok (.aload_n 0, 1) := by decide +kernel
theorem dX6_changed_72 : decode cX6_changed 72 = .ok (.getfield 16, 3) := by decide +kernel
theorem dX6_changed_75 : decode cX6_changed 75 = .ok (.iload 4, 2) := by decide +kernel
theorem dX6_changed_77 : decode cX6_changed 77 = .ok (.baload, 1) := by decide +kernel
theorem dX6_changed_78 : decode cX6_changed 78 = .ok (.iload 6, 2) := by decide +kernel
theorem dX6_changed_80 : decode cX6_changed 80 = .ok (.invokestatic 114, 3) := by decide +kernel
theorem dX6_changed_83 : decode cX6_changed 83 = .ok (.ifCond .eq 21, 3) := by decide +kernel
theorem dX6_changed_86 : decode cX6_changed 86 = .ok (.iload 6, 2) := by decide +kernel
theorem dX6_changed_88 : decode cX6_changed 88 = .ok (.bipush 15, 2) := by decide +kernel
theorem dX6_changed_90 : decode cX6_changed 90 = .ok (.if_icmp .lt 10, 3) := by decide +kernel
theorem dX6_changed_93 : decode cX6_changed 93 = .ok (.iload 6, 2) := by decide +kernel
theorem dX6_changed_95 : decode cX6_changed 95 = .ok (.bipush 29, 2) := by decide +kernel
theorem dX6_changed_97 : decode cX6_changed 97 = .ok (.if_icmp .le 7, 3) := by decide +kernel
theorem dX6_changed_100 : decode cX6_changed 100 = .ok (.iconst 1, 1) := by decide +kernel
theorem dX6_changed_101 : decode cX6_changed 101 = .ok (.goto 4, 3) := by decide +kernel
theorem dX6_changed_104 : decode cX6_changed 104 = .ok (.iconst 0, 1) := by decide +kernel
theorem dX6_changed_105 : decode cX6_changed 105 = .ok (.istore 7, 2) := by decide +kernel
theorem dX6_changed_107 : decode cX6_changed 107 = .ok (.iload_n 2, 1) := by decide +kernel
theorem dX6_changed_108 : decode cX6_changed 108 = .ok (.iload 7, 2) := by decide +kernel
theorem dX6_changed_110 : decode cX6_changed 110 = .ok (.ifCond .eq 35, 3) := by decide +kernel
theorem dX6_changed_113 : decode cX6_changed 113 = .ok (.aload_n 0, 1) := by decide +kernel
theorem dX6_changed_114 : decode cX6_changed 114 = .ok (.iload 4, 2) := by decide +kernel
theorem dX6_changed_116 : decode cX6_changed 116 = .ok (.iload 6, 2) := by decide +kernel
theorem dX6_changed_118 : decode cX6_changed 118 = .ok (.invokevirtual 78, 3) := by decide +kernel
theorem dX6_changed_121 : decode cX6_changed 121 = .ok (.iload 5, 2) := by decide +kernel
theorem dX6_changed_123 : decode cX6_changed 123 = .ok (.ifCond .ge 7, 3) := by decide +kernel
theorem dX6_changed_126 : decode cX6_changed 126 = .ok (.iconst 0, 1) := by decide +kernel
theorem dX6_changed_127 : decode cX6_changed 127 = .ok (.goto 11, 3) := by decide +kernel
theorem dX6_changed_130 : decode cX6_changed 130 = .ok (.aload_n 0, 1) := by decide +kernel
theorem dX6_changed_131 : decode cX6_changed 131 = .ok (.iload 5, 2) := by decide +kernel
theorem dX6_changed_133 : decode cX6_changed 133 = .ok (.iload 6, 2) := by decide +kernel
theorem dX6_changed_135 : decode cX6_changed 135 = .ok (.invokevirtual 78, 3) := by decide +kernel
theorem dX6_changed_138 : decode cX6_changed 138 = .ok (.if_icmp .eq 7, 3) := by decide +kernel
theorem dX6_changed_141 : decode cX6_changed 141 = .ok (.iconst 1, 1) := by decide +kernel
theorem dX6_changed_142 : decode cX6_changed 142 = .ok (.goto 4, 3) := by decide +kernel
theorem dX6_changed_145 : decode cX6_changed 145 = .ok (.iconst 0, 1) := by decide +kernel
theorem dX6_changed_146 : decode cX6_changed 146 = .ok (.iadd, 1) := by decide +kernel
theorem dX6_changed_147 : decode cX6_changed 147 = .ok (.istore_n 2, 1) := by decide +kernel
theorem dX6_changed_148 : decode cX6_changed 148 = .ok (.iinc 6 1, 3) := by decide +kernel
theorem dX6_changed_151 : decode cX6_changed 151 = .ok (.goto (-87), 3) := by decide +kernel
theorem dX6_changed_154 : decode cX6_changed 154 = .ok (.iinc 4 1, 3) := by decide +kernel
theorem dX6_changed_157 : decode cX6_changed 157 = .ok (.goto (-143), 3) := by decide +kernel
theorem dX6_changed_160 : decode cX6_changed 160 = .ok (.iload_n 2, 1) := by decide +kernel
theorem dX6_changed_161 : decode cX6_changed 161 = .ok (.ireturn, 1) := by decide +kernel
theorem dX6_isRefused_0 : decode cX6_isRefused 0 = .ok (.iconst 1, 1) := by decide +kernel
theorem dX6_isRefused_1 : decode cX6_isRefused 1 = .ok (.iconst 5, 1) := by decide +kernel
theorem dX6_isRefused_2 : decode cX6_isRefused 2 = .ok (.iload_n 1, 1) := by decide +kernel
theorem dX6_isRefused_3 : decode cX6_isRefused 3 = .ok (.imul, 1) := by decide +kernel
theorem dX6_isRefused_4 : decode cX6_isRefused 4 = .ok (.iadd, 1) := by decide +kernel
theorem dX6_isRefused_5 : decode cX6_isRefused 5 = .ok (.istore_n 2, 1) := by decide +kernel
theorem dX6_isRefused_6 : decode cX6_isRefused 6 = .ok (.iconst 0, 1) := by decide +kernel
theorem dX6_isRefused_7 : decode cX6_isRefused 7 = .ok (.istore_n 3, 1) := by decide +kernel
theorem dX6_isRefused_8 : decode cX6_isRefused 8 = .ok (.iconst 0, 1) := by decide +kernel
theorem dX6_isRefused_9 : decode cX6_isRefused 9 = .ok (.istore 4, 2) := by decide +kernel
theorem dX6_isRefused_11 : decode cX6_isRefused 11 = .ok (.iload 4, 2) := by decide +kernel
theorem dX6_isRefused_13 : decode cX6_isRefused 13 = .ok (.aload_n 0, 1) := by decide +kernel
theorem dX6_isRefused_14 : decode cX6_isRefused 14 = .ok (.getfield 7, 3) := by decide +kernel
theorem dX6_isRefused_17 : decode cX6_isRefused 17 = .ok (.iload_n 2, 1) := by decide +kernel
theorem dX6_isRefused_18 : decode cX6_isRefused 18 = .ok (.iaload, 1) := by decide +kernel
theorem dX6_isRefused_19 : decode cX6_isRefused 19 = .ok (.if_icmp .ge 105, 3) := by decide +kernel
theorem dX6_isRefused_22 : decode cX6_isRefused 22 = .ok (.aload_n 0, 1) := by decide +kernel
theorem dX6_isRefused_23 : decode cX6_isRefused 23 = .ok (.iconst 0, 1) := by decide +kernel
theorem dX6_isRefused_24 : decode cX6_isRefused 24 = .ok (.aload_n 0, 1) := by decide +kernel
theorem dX6_isRefused_25 : decode cX6_isRefused 25 = .ok (.getfield 13, 3) := by decide +kernel
theorem dX6_isRefused_28 : decode cX6_isRefused 28 = .ok (.bipush 100, 2) := by decide +kernel
theorem dX6_isRefused_30 : decode cX6_isRefused 30 = .ok (.iload_n 2, 1) := by decide +kernel
theorem dX6_isRefused_31 : decode cX6_isRefused 31 = .ok (.imul, 1) := by decide +kernel
theorem dX6_isRefused_32 : decode cX6_isRefused 32 = .ok (.iload 4, 2) := by decide +kernel
theorem dX6_isRefused_34 : decode cX6_isRefused 34 = .ok (.iadd, 1) := by decide +kernel
theorem dX6_isRefused_35 : decode cX6_isRefused 35 = .ok (.iaload, 1) := by decide +kernel
theorem dX6_isRefused_36 : decode cX6_isRefused 36 = .ok (.invokevirtual 74, 3) := by decide +kernel
theorem dX6_isRefused_39 : decode cX6_isRefused 39 = .ok (.istore 5, 2) := by decide +kernel
theorem dX6_isRefused_41 : decode cX6_isRefused 41 = .ok (.iconst 0, 1) := by decide +kernel
theorem dX6_isRefused_42 : decode cX6_isRefused 42 = .ok (.istore 6, 2) := by decide +kernel
theorem dX6_isRefused_44 : decode cX6_isRefused 44 = .ok (.iload 6, 2) := by decide +kernel
theorem dX6_isRefused_46 : decode cX6_isRefused 46 = .ok (.bipush 95, 2) := by decide +kernel
theorem dX6_isRefused_48 : decode cX6_isRefused 48 = .ok (.if_icmp .ge 70, 3) := by decide +kernel
theorem dX6_isRefused_51 : decode cX6_isRefused 51 = .ok (.aload_n 0, 1) := by decide +kernel
theorem dX6_isRefused_52 : decode cX6_isRefused 52 = .ok (.getfield 42, 3) := by decide +kernel
theorem dX6_isRefused_55 : decode cX6_isRefused 55 = .ok (.sipush 9500, 3) := by decide +kernel
theorem dX6_isRefused_58 : decode cX6_isRefused 58 = .ok (.iload_n 1, 1) := by decide +kernel
theorem dX6_isRefused_59 : decode cX6_isRefused 59 = .ok (.imul, 1) := by decide +kernel
