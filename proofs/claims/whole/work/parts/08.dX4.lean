theorem dX_takeNext_26 : decode zc_X_takeNext 26 = .ok (.aload_n 1, 1) := by decide +kernel
theorem dX_takeNext_27 : decode zc_X_takeNext 27 = .ok (.getfield 255, 3) := by decide +kernel
theorem dX_takeNext_30 : decode zc_X_takeNext 30 = .ok (.iload_n 3, 1) := by decide +kernel
theorem dX_takeNext_31 : decode zc_X_takeNext 31 = .ok (.iaload, 1) := by decide +kernel
theorem dX_takeNext_32 : decode zc_X_takeNext 32 = .ok (.istore 5, 2) := by decide +kernel
theorem dX_takeNext_34 : decode zc_X_takeNext 34 = .ok (.aload_n 0, 1) := by decide +kernel
theorem dX_takeNext_35 : decode zc_X_takeNext 35 = .ok (.getfield 20, 3) := by decide +kernel
theorem dX_takeNext_38 : decode zc_X_takeNext 38 = .ok (.iload 4, 2) := by decide +kernel
theorem dX_takeNext_40 : decode zc_X_takeNext 40 = .ok (.dup2, 1) := by decide +kernel
theorem dX_takeNext_41 : decode zc_X_takeNext 41 = .ok (.iaload, 1) := by decide +kernel
theorem dX_takeNext_42 : decode zc_X_takeNext 42 = .ok (.iload 5, 2) := by decide +kernel
theorem dX_takeNext_44 : decode zc_X_takeNext 44 = .ok (.isub, 1) := by decide +kernel
theorem dX_takeNext_45 : decode zc_X_takeNext 45 = .ok (.iastore, 1) := by decide +kernel
theorem dX_takeNext_46 : decode zc_X_takeNext 46 = .ok (.aload_n 0, 1) := by decide +kernel
theorem dX_takeNext_47 : decode zc_X_takeNext 47 = .ok (.getfield 25, 3) := by decide +kernel
theorem dX_takeNext_50 : decode zc_X_takeNext 50 = .ok (.iload_n 2, 1) := by decide +kernel
theorem dX_takeNext_51 : decode zc_X_takeNext 51 = .ok (.aaload, 1) := by decide +kernel
theorem dX_takeNext_52 : decode zc_X_takeNext 52 = .ok (.getfield 68, 3) := by decide +kernel
theorem dX_takeNext_55 : decode zc_X_takeNext 55 = .ok (.iload 4, 2) := by decide +kernel
theorem dX_takeNext_57 : decode zc_X_takeNext 57 = .ok (.dup2, 1) := by decide +kernel
theorem dX_takeNext_58 : decode zc_X_takeNext 58 = .ok (.iaload, 1) := by decide +kernel
theorem dX_takeNext_59 : decode zc_X_takeNext 59 = .ok (.iload 5, 2) := by decide +kernel
theorem dX_takeNext_61 : decode zc_X_takeNext 61 = .ok (.iadd, 1) := by decide +kernel
theorem dX_takeNext_62 : decode zc_X_takeNext 62 = .ok (.iastore, 1) := by decide +kernel
theorem dX_takeNext_63 : decode zc_X_takeNext 63 = .ok (.aload_n 0, 1) := by decide +kernel
theorem dX_takeNext_64 : decode zc_X_takeNext 64 = .ok (.iload_n 2, 1) := by decide +kernel
theorem dX_takeNext_65 : decode zc_X_takeNext 65 = .ok (.invokevirtual 129, 3) := by decide +kernel
theorem dX_takeNext_68 : decode zc_X_takeNext 68 = .ok (.ireturn, 1) := by decide +kernel
theorem dX_receipt_0 : decode zc_X_receipt 0 = .ok (.iload_n 1, 1) := by decide +kernel
theorem dX_receipt_1 : decode zc_X_receipt 1 = .ok (.iload_n 2, 1) := by decide +kernel
theorem dX_receipt_2 : decode zc_X_receipt 2 = .ok (.invokestatic 182, 3) := by decide +kernel
theorem dX_receipt_5 : decode zc_X_receipt 5 = .ok (.aload_n 0, 1) := by decide +kernel
theorem dX_receipt_6 : decode zc_X_receipt 6 = .ok (.iload_n 1, 1) := by decide +kernel
theorem dX_receipt_7 : decode zc_X_receipt 7 = .ok (.iload_n 2, 1) := by decide +kernel
theorem dX_receipt_8 : decode zc_X_receipt 8 = .ok (.invokevirtual 168, 3) := by decide +kernel
theorem dX_receipt_11 : decode zc_X_receipt 11 = .ok (.astore_n 3, 1) := by decide +kernel
theorem dX_receipt_12 : decode zc_X_receipt 12 = .ok (.aload_n 3, 1) := by decide +kernel
theorem dX_receipt_13 : decode zc_X_receipt 13 = .ok (.getfield 199, 3) := by decide +kernel
theorem dX_receipt_16 : decode zc_X_receipt 16 = .ok (.ifCond .ne 5, 3) := by decide +kernel
theorem dX_receipt_19 : decode zc_X_receipt 19 = .ok (.iconst (-1), 1) := by decide +kernel
theorem dX_receipt_20 : decode zc_X_receipt 20 = .ok (.ireturn, 1) := by decide +kernel
theorem dX_receipt_21 : decode zc_X_receipt 21 = .ok (.aload_n 3, 1) := by decide +kernel
theorem dX_receipt_22 : decode zc_X_receipt 22 = .ok (.getfield 199, 3) := by decide +kernel
theorem dX_receipt_25 : decode zc_X_receipt 25 = .ok (.istore 4, 2) := by decide +kernel
theorem dX_receipt_27 : decode zc_X_receipt 27 = .ok (.aload_n 3, 1) := by decide +kernel
theorem dX_receipt_28 : decode zc_X_receipt 28 = .ok (.iconst 0, 1) := by decide +kernel
theorem dX_receipt_29 : decode zc_X_receipt 29 = .ok (.putfield 199, 3) := by decide +kernel
theorem dX_receipt_32 : decode zc_X_receipt 32 = .ok (.aload_n 3, 1) := by decide +kernel
theorem dX_receipt_33 : decode zc_X_receipt 33 = .ok (.iload 4, 2) := by decide +kernel
theorem dX_receipt_35 : decode zc_X_receipt 35 = .ok (.invokevirtual 202, 3) := by decide +kernel
theorem dX_receipt_38 : decode zc_X_receipt 38 = .ok (.ireturn, 1) := by decide +kernel
theorem dN_removeUpTo_0 : decode zc_N_removeUpTo 0 = .ok (.iload_n 1, 1) := by decide +kernel
theorem dN_removeUpTo_1 : decode zc_N_removeUpTo 1 = .ok (.aload_n 0, 1) := by decide +kernel
theorem dN_removeUpTo_2 : decode zc_N_removeUpTo 2 = .ok (.getfield 18, 3) := by decide +kernel
theorem dN_removeUpTo_5 : decode zc_N_removeUpTo 5 = .ok (.isub, 1) := by decide +kernel
theorem dN_removeUpTo_6 : decode zc_N_removeUpTo 6 = .ok (.istore_n 2, 1) := by decide +kernel
theorem dN_removeUpTo_7 : decode zc_N_removeUpTo 7 = .ok (.aload_n 0, 1) := by decide +kernel
theorem dN_removeUpTo_8 : decode zc_N_removeUpTo 8 = .ok (.dup, 1) := by decide +kernel
theorem dN_removeUpTo_9 : decode zc_N_removeUpTo 9 = .ok (.getfield 22, 3) := by decide +kernel
theorem dN_removeUpTo_12 : decode zc_N_removeUpTo 12 = .ok (.iload_n 2, 1) := by decide +kernel
theorem dN_removeUpTo_13 : decode zc_N_removeUpTo 13 = .ok (.isub, 1) := by decide +kernel
theorem dN_removeUpTo_14 : decode zc_N_removeUpTo 14 = .ok (.putfield 22, 3) := by decide +kernel
theorem dN_removeUpTo_17 : decode zc_N_removeUpTo 17 = .ok (.aload_n 0, 1) := by decide +kernel
theorem dN_removeUpTo_18 : decode zc_N_removeUpTo 18 = .ok (.iload_n 1, 1) := by decide +kernel
theorem dN_removeUpTo_19 : decode zc_N_removeUpTo 19 = .ok (.putfield 18, 3) := by decide +kernel
theorem dN_removeUpTo_22 : decode zc_N_removeUpTo 22 = .ok (.iload_n 2, 1) := by decide +kernel
theorem dN_removeUpTo_23 : decode zc_N_removeUpTo 23 = .ok (.ireturn, 1) := by decide +kernel
theorem dX_lose_0 : decode zc_X_lose 0 = .ok (.iload_n 1, 1) := by decide +kernel
theorem dX_lose_1 : decode zc_X_lose 1 = .ok (.iload_n 2, 1) := by decide +kernel
theorem dX_lose_2 : decode zc_X_lose 2 = .ok (.invokestatic 182, 3) := by decide +kernel
theorem dX_lose_5 : decode zc_X_lose 5 = .ok (.aload_n 0, 1) := by decide +kernel
theorem dX_lose_6 : decode zc_X_lose 6 = .ok (.iload_n 1, 1) := by decide +kernel
theorem dX_lose_7 : decode zc_X_lose 7 = .ok (.iload_n 2, 1) := by decide +kernel
theorem dX_lose_8 : decode zc_X_lose 8 = .ok (.invokevirtual 168, 3) := by decide +kernel
theorem dX_lose_11 : decode zc_X_lose 11 = .ok (.invokevirtual 205, 3) := by decide +kernel
theorem dX_lose_14 : decode zc_X_lose 14 = .ok (.ireturn, 1) := by decide +kernel
theorem dN_loseAll_0 : decode zc_N_loseAll 0 = .ok (.aload_n 0, 1) := by decide +kernel
theorem dN_loseAll_1 : decode zc_N_loseAll 1 = .ok (.getfield 28, 3) := by decide +kernel
theorem dN_loseAll_4 : decode zc_N_loseAll 4 = .ok (.ifCond .ne 7, 3) := by decide +kernel
theorem dN_loseAll_7 : decode zc_N_loseAll 7 = .ok (.iconst 0, 1) := by decide +kernel
theorem dN_loseAll_8 : decode zc_N_loseAll 8 = .ok (.goto 4, 3) := by decide +kernel
theorem dN_loseAll_11 : decode zc_N_loseAll 11 = .ok (.iconst 1, 1) := by decide +kernel
theorem dN_loseAll_12 : decode zc_N_loseAll 12 = .ok (.aload_n 0, 1) := by decide +kernel
theorem dN_loseAll_13 : decode zc_N_loseAll 13 = .ok (.getfield 31, 3) := by decide +kernel
theorem dN_loseAll_16 : decode zc_N_loseAll 16 = .ok (.ifCond .ne 7, 3) := by decide +kernel
theorem dN_loseAll_19 : decode zc_N_loseAll 19 = .ok (.iconst 0, 1) := by decide +kernel
theorem dN_loseAll_20 : decode zc_N_loseAll 20 = .ok (.goto 4, 3) := by decide +kernel
theorem dN_loseAll_23 : decode zc_N_loseAll 23 = .ok (.iconst 1, 1) := by decide +kernel
theorem dN_loseAll_24 : decode zc_N_loseAll 24 = .ok (.iadd, 1) := by decide +kernel
theorem dN_loseAll_25 : decode zc_N_loseAll 25 = .ok (.istore_n 1, 1) := by decide +kernel
theorem dN_loseAll_26 : decode zc_N_loseAll 26 = .ok (.aload_n 0, 1) := by decide +kernel
theorem dN_loseAll_27 : decode zc_N_loseAll 27 = .ok (.iconst 0, 1) := by decide +kernel
theorem dN_loseAll_28 : decode zc_N_loseAll 28 = .ok (.putfield 28, 3) := by decide +kernel
theorem dN_loseAll_31 : decode zc_N_loseAll 31 = .ok (.aload_n 0, 1) := by decide +kernel
theorem dN_loseAll_32 : decode zc_N_loseAll 32 = .ok (.iconst 0, 1) := by decide +kernel
theorem dN_loseAll_33 : decode zc_N_loseAll 33 = .ok (.putfield 31, 3) := by decide +kernel
theorem dN_loseAll_36 : decode zc_N_loseAll 36 = .ok (.iload_n 1, 1) := by decide +kernel
theorem dN_loseAll_37 : decode zc_N_loseAll 37 = .ok (.ireturn, 1) := by decide +kernel
theorem dX_crash_0 : decode zc_X_crash 0 = .ok (.iload_n 1, 1) := by decide +kernel
theorem dX_crash_1 : decode zc_X_crash 1 = .ok (.invokestatic 100, 3) := by decide +kernel
theorem dX_crash_4 : decode zc_X_crash 4 = .ok (.iconst 0, 1) := by decide +kernel
theorem dX_crash_5 : decode zc_X_crash 5 = .ok (.istore_n 2, 1) := by decide +kernel
theorem dX_crash_6 : decode zc_X_crash 6 = .ok (.iconst 0, 1) := by decide +kernel
theorem dX_crash_7 : decode zc_X_crash 7 = .ok (.istore_n 3, 1) := by decide +kernel
theorem dX_crash_8 : decode zc_X_crash 8 = .ok (.iload_n 3, 1) := by decide +kernel
theorem dX_crash_9 : decode zc_X_crash 9 = .ok (.iconst 4, 1) := by decide +kernel
theorem dX_crash_10 : decode zc_X_crash 10 = .ok (.if_icmp .ge 36, 3) := by decide +kernel
theorem dX_crash_13 : decode zc_X_crash 13 = .ok (.iload_n 3, 1) := by decide +kernel
theorem dX_crash_14 : decode zc_X_crash 14 = .ok (.iload_n 1, 1) := by decide +kernel
theorem dX_crash_15 : decode zc_X_crash 15 = .ok (.if_icmp .eq 25, 3) := by decide +kernel
theorem dX_crash_18 : decode zc_X_crash 18 = .ok (.iload_n 2, 1) := by decide +kernel
theorem dX_crash_19 : decode zc_X_crash 19 = .ok (.aload_n 0, 1) := by decide +kernel
theorem dX_crash_20 : decode zc_X_crash 20 = .ok (.iload_n 1, 1) := by decide +kernel
theorem dX_crash_21 : decode zc_X_crash 21 = .ok (.iload_n 3, 1) := by decide +kernel
theorem dX_crash_22 : decode zc_X_crash 22 = .ok (.invokevirtual 168, 3) := by decide +kernel
theorem dX_crash_25 : decode zc_X_crash 25 = .ok (.invokevirtual 205, 3) := by decide +kernel
theorem dX_crash_28 : decode zc_X_crash 28 = .ok (.aload_n 0, 1) := by decide +kernel
theorem dX_crash_29 : decode zc_X_crash 29 = .ok (.iload_n 3, 1) := by decide +kernel
theorem dX_crash_30 : decode zc_X_crash 30 = .ok (.iload_n 1, 1) := by decide +kernel
theorem dX_crash_31 : decode zc_X_crash 31 = .ok (.invokevirtual 168, 3) := by decide +kernel
theorem dX_crash_34 : decode zc_X_crash 34 = .ok (.invokevirtual 205, 3) := by decide +kernel
theorem dX_crash_37 : decode zc_X_crash 37 = .ok (.iadd, 1) := by decide +kernel
theorem dX_crash_38 : decode zc_X_crash 38 = .ok (.iadd, 1) := by decide +kernel
theorem dX_crash_39 : decode zc_X_crash 39 = .ok (.istore_n 2, 1) := by decide +kernel
theorem dX_crash_40 : decode zc_X_crash 40 = .ok (.iinc 3 1, 3) := by decide +kernel
theorem dX_crash_43 : decode zc_X_crash 43 = .ok (.goto (-35), 3) := by decide +kernel
theorem dX_crash_46 : decode zc_X_crash 46 = .ok (.iload_n 2, 1) := by decide +kernel
theorem dX_crash_47 : decode zc_X_crash 47 = .ok (.ireturn, 1) := by decide +kernel
theorem dX_rights_0 : decode zc_X_rights 0 = .ok (.iload_n 1, 1) := by decide +kernel
theorem dX_rights_1 : decode zc_X_rights 1 = .ok (.invokestatic 100, 3) := by decide +kernel
theorem dX_rights_4 : decode zc_X_rights 4 = .ok (.iload_n 2, 1) := by decide +kernel
theorem dX_rights_5 : decode zc_X_rights 5 = .ok (.invokestatic 54, 3) := by decide +kernel
theorem dX_rights_8 : decode zc_X_rights 8 = .ok (.iload_n 3, 1) := by decide +kernel
theorem dX_rights_9 : decode zc_X_rights 9 = .ok (.invokestatic 75, 3) := by decide +kernel
theorem dX_rights_12 : decode zc_X_rights 12 = .ok (.aload_n 0, 1) := by decide +kernel
theorem dX_rights_13 : decode zc_X_rights 13 = .ok (.getfield 25, 3) := by decide +kernel
theorem dX_rights_16 : decode zc_X_rights 16 = .ok (.iload_n 1, 1) := by decide +kernel
theorem dX_rights_17 : decode zc_X_rights 17 = .ok (.aaload, 1) := by decide +kernel
theorem dX_rights_18 : decode zc_X_rights 18 = .ok (.getfield 68, 3) := by decide +kernel
theorem dX_rights_21 : decode zc_X_rights 21 = .ok (.iload_n 2, 1) := by decide +kernel
theorem dX_rights_22 : decode zc_X_rights 22 = .ok (.iload_n 3, 1) := by decide +kernel
theorem dX_rights_23 : decode zc_X_rights 23 = .ok (.invokestatic 71, 3) := by decide +kernel
theorem dX_rights_26 : decode zc_X_rights 26 = .ok (.iaload, 1) := by decide +kernel
theorem dX_rights_27 : decode zc_X_rights 27 = .ok (.ireturn, 1) := by decide +kernel
theorem dX_air_0 : decode zc_X_air 0 = .ok (.iload_n 1, 1) := by decide +kernel
theorem dX_air_1 : decode zc_X_air 1 = .ok (.invokestatic 54, 3) := by decide +kernel
theorem dX_air_4 : decode zc_X_air 4 = .ok (.iload_n 2, 1) := by decide +kernel
theorem dX_air_5 : decode zc_X_air 5 = .ok (.invokestatic 75, 3) := by decide +kernel
theorem dX_air_8 : decode zc_X_air 8 = .ok (.aload_n 0, 1) := by decide +kernel
theorem dX_air_9 : decode zc_X_air 9 = .ok (.getfield 20, 3) := by decide +kernel
theorem dX_air_12 : decode zc_X_air 12 = .ok (.iload_n 1, 1) := by decide +kernel
theorem dX_air_13 : decode zc_X_air 13 = .ok (.iload_n 2, 1) := by decide +kernel
theorem dX_air_14 : decode zc_X_air 14 = .ok (.invokestatic 71, 3) := by decide +kernel
theorem dX_air_17 : decode zc_X_air 17 = .ok (.iaload, 1) := by decide +kernel
theorem dX_air_18 : decode zc_X_air 18 = .ok (.ireturn, 1) := by decide +kernel
theorem dX_sold_0 : decode zc_X_sold 0 = .ok (.iload_n 1, 1) := by decide +kernel
theorem dX_sold_1 : decode zc_X_sold 1 = .ok (.invokestatic 54, 3) := by decide +kernel
theorem dX_sold_4 : decode zc_X_sold 4 = .ok (.iload_n 2, 1) := by decide +kernel
theorem dX_sold_5 : decode zc_X_sold 5 = .ok (.invokestatic 75, 3) := by decide +kernel
theorem dX_sold_8 : decode zc_X_sold 8 = .ok (.aload_n 0, 1) := by decide +kernel
theorem dX_sold_9 : decode zc_X_sold 9 = .ok (.getfield 17, 3) := by decide +kernel
theorem dX_sold_12 : decode zc_X_sold 12 = .ok (.iload_n 1, 1) := by decide +kernel
theorem dX_sold_13 : decode zc_X_sold 13 = .ok (.iload_n 2, 1) := by decide +kernel
theorem dX_sold_14 : decode zc_X_sold 14 = .ok (.invokestatic 71, 3) := by decide +kernel
theorem dX_sold_17 : decode zc_X_sold 17 = .ok (.iaload, 1) := by decide +kernel
theorem dX_sold_18 : decode zc_X_sold 18 = .ok (.ireturn, 1) := by decide +kernel
theorem dX_wishes_0 : decode zc_X_wishes 0 = .ok (.iload_n 1, 1) := by decide +kernel
theorem dX_wishes_1 : decode zc_X_wishes 1 = .ok (.invokestatic 100, 3) := by decide +kernel
theorem dX_wishes_4 : decode zc_X_wishes 4 = .ok (.aload_n 0, 1) := by decide +kernel
theorem dX_wishes_5 : decode zc_X_wishes 5 = .ok (.getfield 25, 3) := by decide +kernel
theorem dX_wishes_8 : decode zc_X_wishes 8 = .ok (.iload_n 1, 1) := by decide +kernel
theorem dX_wishes_9 : decode zc_X_wishes 9 = .ok (.aaload, 1) := by decide +kernel
theorem dX_wishes_10 : decode zc_X_wishes 10 = .ok (.getfield 120, 3) := by decide +kernel
theorem dX_wishes_13 : decode zc_X_wishes 13 = .ok (.ireturn, 1) := by decide +kernel
theorem dX_till_0 : decode zc_X_till 0 = .ok (.iload_n 1, 1) := by decide +kernel
theorem dX_till_1 : decode zc_X_till 1 = .ok (.invokestatic 100, 3) := by decide +kernel
theorem dX_till_4 : decode zc_X_till 4 = .ok (.aload_n 0, 1) := by decide +kernel
theorem dX_till_5 : decode zc_X_till 5 = .ok (.getfield 25, 3) := by decide +kernel
theorem dX_till_8 : decode zc_X_till 8 = .ok (.iload_n 1, 1) := by decide +kernel
theorem dX_till_9 : decode zc_X_till 9 = .ok (.aaload, 1) := by decide +kernel
theorem dX_till_10 : decode zc_X_till 10 = .ok (.getfield 155, 3) := by decide +kernel
theorem dX_till_13 : decode zc_X_till 13 = .ok (.lreturn, 1) := by decide +kernel
