theorem dM_till_8 : decode zc_M_till 8 = .ok (.iconst 0, 1) := by decide +kernel
theorem dM_till_9 : decode zc_M_till 9 = .ok (.goto 4, 3) := by decide +kernel
theorem dM_till_12 : decode zc_M_till 12 = .ok (.iconst 1, 1) := by decide +kernel
theorem dM_till_13 : decode zc_M_till 13 = .ok (.invokevirtual 95, 3) := by decide +kernel
theorem dM_till_16 : decode zc_M_till 16 = .ok (.ifCond .eq 7, 3) := by decide +kernel
theorem dM_till_19 : decode zc_M_till 19 = .ok (.lconst 0, 1) := by decide +kernel
theorem dM_till_20 : decode zc_M_till 20 = .ok (.goto 9, 3) := by decide +kernel
theorem dM_till_23 : decode zc_M_till 23 = .ok (.aload_n 0, 1) := by decide +kernel
theorem dM_till_24 : decode zc_M_till 24 = .ok (.getfield 45, 3) := by decide +kernel
theorem dM_till_27 : decode zc_M_till 27 = .ok (.iload_n 1, 1) := by decide +kernel
theorem dM_till_28 : decode zc_M_till 28 = .ok (.laload, 1) := by decide +kernel
theorem dM_till_29 : decode zc_M_till 29 = .ok (.lreturn, 1) := by decide +kernel
