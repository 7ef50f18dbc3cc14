theorem dX3_markAt_14 : decode cX3_markAt 14 = .ok (.getfield 18, 3) := by decide +kernel
theorem dX3_markAt_17 : decode cX3_markAt 17 = .ok (.iload_n 1, 1) := by decide +kernel
theorem dX3_markAt_18 : decode cX3_markAt 18 = .ok (.aaload, 1) := by decide +kernel
theorem dX3_markAt_19 : decode cX3_markAt 19 = .ok (.goto 4, 3) := by decide +kernel
theorem dX3_markAt_22 : decode cX3_markAt 22 = .ok (.aconst_null, 1) := by decide +kernel
theorem dX3_markAt_23 : decode cX3_markAt 23 = .ok (.areturn, 1) := by decide +kernel
