theorem dX5_written_46 : decode cX5_written 46 = .ok (.ifCond .ne 9, 3) := by decide +kernel
theorem dX5_written_49 : decode cX5_written 49 = .ok (.aload_n 0, 1) := by decide +kernel
theorem dX5_written_50 : decode cX5_written 50 = .ok (.invokevirtual 291, 3) := by decide +kernel
theorem dX5_written_53 : decode cX5_written 53 = .ok (.iconst 0, 1) := by decide +kernel
theorem dX5_written_54 : decode cX5_written 54 = .ok (.ireturn, 1) := by decide +kernel
theorem dX5_written_55 : decode cX5_written 55 = .ok (.iconst 1, 1) := by decide +kernel
theorem dX5_written_56 : decode cX5_written 56 = .ok (.ireturn, 1) := by decide +kernel
theorem dX5_broughtHome_0 : decode cX5_broughtHome 0 = .ok (.aload_n 0, 1) := by decide +kernel
theorem dX5_broughtHome_1 : decode cX5_broughtHome 1 = .ok (.getfield 39, 3) := by decide +kernel
theorem dX5_broughtHome_4 : decode cX5_broughtHome 4 = .ok (.aload_n 0, 1) := by decide +kernel
theorem dX5_broughtHome_5 : decode cX5_broughtHome 5 = .ok (.getfield 63, 3) := by decide +kernel
theorem dX5_broughtHome_8 : decode cX5_broughtHome 8 = .ok (.iconst 1, 1) := by decide +kernel
theorem dX5_broughtHome_9 : decode cX5_broughtHome 9 = .ok (.iadd, 1) := by decide +kernel
theorem dX5_broughtHome_10 : decode cX5_broughtHome 10 = .ok (.invokevirtual 289, 3) := by decide +kernel
theorem dX5_broughtHome_13 : decode cX5_broughtHome 13 = .ok (.ifCond .ne 5, 3) := by decide +kernel
theorem dX5_broughtHome_16 : decode cX5_broughtHome 16 = .ok (.iconst 0, 1) := by decide +kernel
theorem dX5_broughtHome_17 : decode cX5_broughtHome 17 = .ok (.ireturn, 1) := by decide +kernel
theorem dX5_broughtHome_18 : decode cX5_broughtHome 18 = .ok (.aload_n 0, 1) := by decide +kernel
theorem dX5_broughtHome_19 : decode cX5_broughtHome 19 = .ok (.getfield 10, 3) := by decide +kernel
theorem dX5_broughtHome_22 : decode cX5_broughtHome 22 = .ok (.aload_n 0, 1) := by decide +kernel
theorem dX5_broughtHome_23 : decode cX5_broughtHome 23 = .ok (.getfield 26, 3) := by decide +kernel
theorem dX5_broughtHome_26 : decode cX5_broughtHome 26 = .ok (.invokevirtual 294, 3) := by decide +kernel
theorem dX5_broughtHome_29 : decode cX5_broughtHome 29 = .ok (.aload_n 0, 1) := by decide +kernel
theorem dX5_broughtHome_30 : decode cX5_broughtHome 30 = .ok (.iconst 0, 1) := by decide +kernel
theorem dX5_broughtHome_31 : decode cX5_broughtHome 31 = .ok (.putfield 70, 3) := by decide +kernel
theorem dX5_broughtHome_34 : decode cX5_broughtHome 34 = .ok (.iconst 1, 1) := by decide +kernel
theorem dX5_broughtHome_35 : decode cX5_broughtHome 35 = .ok (.ireturn, 1) := by decide +kernel
theorem dX5_goDown_0 : decode cX5_goDown 0 = .ok (.aload_n 0, 1) := by decide +kernel
theorem dX5_goDown_1 : decode cX5_goDown 1 = .ok (.iconst 1, 1) := by decide +kernel
theorem dX5_goDown_2 : decode cX5_goDown 2 = .ok (.putfield 66, 3) := by decide +kernel
theorem dX5_goDown_5 : decode cX5_goDown 5 = .ok (.iconst 0, 1) := by decide +kernel
theorem dX5_goDown_6 : decode cX5_goDown 6 = .ok (.istore_n 1, 1) := by decide +kernel
theorem dX5_goDown_7 : decode cX5_goDown 7 = .ok (.iload_n 1, 1) := by decide +kernel
theorem dX5_goDown_8 : decode cX5_goDown 8 = .ok (.aload_n 0, 1) := by decide +kernel
theorem dX5_goDown_9 : decode cX5_goDown 9 = .ok (.getfield 45, 3) := by decide +kernel
theorem dX5_goDown_12 : decode cX5_goDown 12 = .ok (.arraylength, 1) := by decide +kernel
theorem dX5_goDown_13 : decode cX5_goDown 13 = .ok (.if_icmp .ge 25, 3) := by decide +kernel
theorem dX5_goDown_16 : decode cX5_goDown 16 = .ok (.aload_n 0, 1) := by decide +kernel
theorem dX5_goDown_17 : decode cX5_goDown 17 = .ok (.getfield 45, 3) := by decide +kernel
theorem dX5_goDown_20 : decode cX5_goDown 20 = .ok (.iload_n 1, 1) := by decide +kernel
theorem dX5_goDown_21 : decode cX5_goDown 21 = .ok (.aaload, 1) := by decide +kernel
theorem dX5_goDown_22 : decode cX5_goDown 22 = .ok (.astore_n 2, 1) := by decide +kernel
theorem dX5_goDown_23 : decode cX5_goDown 23 = .ok (.aload_n 2, 1) := by decide +kernel
theorem dX5_goDown_24 : decode cX5_goDown 24 = .ok (.ifnull 8, 3) := by decide +kernel
theorem dX5_goDown_27 : decode cX5_goDown 27 = .ok (.aload_n 2, 1) := by decide +kernel
theorem dX5_goDown_28 : decode cX5_goDown 28 = .ok (.iconst 0, 1) := by decide +kernel
theorem dX5_goDown_29 : decode cX5_goDown 29 = .ok (.putfield 80, 3) := by decide +kernel
theorem dX5_goDown_32 : decode cX5_goDown 32 = .ok (.iinc 1 1, 3) := by decide +kernel
theorem dX5_goDown_35 : decode cX5_goDown 35 = .ok (.goto (-28), 3) := by decide +kernel
theorem dX5_goDown_38 : decode cX5_goDown 38 = .ok (.return_, 1) := by decide +kernel
theorem dX5_openTransactions_0 : decode cX5_openTransactions 0 = .ok (.iconst 0, 1) := by decide +kernel
theorem dX5_openTransactions_1 : decode cX5_openTransactions 1 = .ok (.istore_n 1, 1) := by decide +kernel
theorem dX5_openTransactions_2 : decode cX5_openTransactions 2 = .ok (.iconst 0, 1) := by decide +kernel
theorem dX5_openTransactions_3 : decode cX5_openTransactions 3 = .ok (.istore_n 2, 1) := by decide +kernel
theorem dX5_openTransactions_4 : decode cX5_openTransactions 4 = .ok (.iload_n 2, 1) := by decide +kernel
theorem dX5_openTransactions_5 : decode cX5_openTransactions 5 = .ok (.aload_n 0, 1) := by decide +kernel
theorem dX5_openTransactions_6 : decode cX5_openTransactions 6 = .ok (.getfield 45, 3) := by decide +kernel
theorem dX5_openTransactions_9 : decode cX5_openTransactions 9 = .ok (.arraylength, 1) := by decide +kernel
theorem dX5_openTransactions_10 : decode cX5_openTransactions 10 = .ok (.if_icmp .ge 30, 3) := by decide +kernel
theorem dX5_openTransactions_13 : decode cX5_openTransactions 13 = .ok (.aload_n 0, 1) := by decide +kernel
theorem dX5_openTransactions_14 : decode cX5_openTransactions 14 = .ok (.getfield 45, 3) := by decide +kernel
theorem dX5_openTransactions_17 : decode cX5_openTransactions 17 = .ok (.iload_n 2, 1) := by decide +kernel
theorem dX5_openTransactions_18 : decode cX5_openTransactions 18 = .ok (.aaload, 1) := by decide +kernel
theorem dX5_openTransactions_19 : decode cX5_openTransactions 19 = .ok (.astore_n 3, 1) := by decide +kernel
theorem dX5_openTransactions_20 : decode cX5_openTransactions 20 = .ok (.aload_n 3, 1) := by decide +kernel
theorem dX5_openTransactions_21 : decode cX5_openTransactions 21 = .ok (.ifnull 13, 3) := by decide +kernel
theorem dX5_openTransactions_24 : decode cX5_openTransactions 24 = .ok (.aload_n 3, 1) := by decide +kernel
theorem dX5_openTransactions_25 : decode cX5_openTransactions 25 = .ok (.getfield 80, 3) := by decide +kernel
theorem dX5_openTransactions_28 : decode cX5_openTransactions 28 = .ok (.ifCond .eq 6, 3) := by decide +kernel
theorem dX5_openTransactions_31 : decode cX5_openTransactions 31 = .ok (.iinc 1 1, 3) := by decide +kernel
theorem dX5_openTransactions_34 : decode cX5_openTransactions 34 = .ok (.iinc 2 1, 3) := by decide +kernel
theorem dX5_openTransactions_37 : decode cX5_openTransactions 37 = .ok (.goto (-33), 3) := by decide +kernel
theorem dX5_openTransactions_40 : decode cX5_openTransactions 40 = .ok (.iload_n 1, 1) := by decide +kernel
theorem dX5_openTransactions_41 : decode cX5_openTransactions 41 = .ok (.ireturn, 1) := by decide +kernel
