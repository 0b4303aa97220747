theorem dX_buy_60 : decode zc_X_buy 60 = .ok (.iconst (-1), 1) := by decide +kernel
theorem dX_buy_61 : decode zc_X_buy 61 = .ok (.ireturn, 1) := by decide +kernel
theorem dX_checkPort_0 : decode zc_X_checkPort 0 = .ok (.iload_n 0, 1) := by decide +kernel
theorem dX_checkPort_1 : decode zc_X_checkPort 1 = .ok (.ifCond .lt 8, 3) := by decide +kernel
theorem dX_checkPort_4 : decode zc_X_checkPort 4 = .ok (.iload_n 0, 1) := by decide +kernel
theorem dX_checkPort_5 : decode zc_X_checkPort 5 = .ok (.iconst 4, 1) := by decide +kernel
theorem dX_checkPort_6 : decode zc_X_checkPort 6 = .ok (.if_icmp .lt 13, 3) := by decide +kernel
theorem dX_checkPort_9 : decode zc_X_checkPort 9 = .ok (.new 209, 3) := by decide +kernel
theorem dX_checkPort_12 : decode zc_X_checkPort 12 = .ok (.dup, 1) := by decide +kernel
theorem dX_checkPort_13 : decode zc_X_checkPort 13 = .ok (.ldc 211, 2) := by decide +kernel
theorem dX_checkPort_15 : decode zc_X_checkPort 15 = .ok (.invokespecial 213, 3) := by decide +kernel
theorem dX_checkPort_18 : decode zc_X_checkPort 18 = .ok (.athrow, 1) := by decide +kernel
theorem dX_checkPort_19 : decode zc_X_checkPort 19 = .ok (.return_, 1) := by decide +kernel
theorem dX_checkDraft_0 : decode zc_X_checkDraft 0 = .ok (.aload_n 0, 1) := by decide +kernel
theorem dX_checkDraft_1 : decode zc_X_checkDraft 1 = .ok (.getfield 48, 3) := by decide +kernel
theorem dX_checkDraft_4 : decode zc_X_checkDraft 4 = .ok (.getfield 91, 3) := by decide +kernel
theorem dX_checkDraft_7 : decode zc_X_checkDraft 7 = .ok (.ifCond .ne 13, 3) := by decide +kernel
theorem dX_checkDraft_10 : decode zc_X_checkDraft 10 = .ok (.new 61, 3) := by decide +kernel
theorem dX_checkDraft_13 : decode zc_X_checkDraft 13 = .ok (.dup, 1) := by decide +kernel
theorem dX_checkDraft_14 : decode zc_X_checkDraft 14 = .ok (.ldc 226, 2) := by decide +kernel
theorem dX_checkDraft_16 : decode zc_X_checkDraft 16 = .ok (.invokespecial 65, 3) := by decide +kernel
theorem dX_checkDraft_19 : decode zc_X_checkDraft 19 = .ok (.athrow, 1) := by decide +kernel
theorem dX_checkDraft_20 : decode zc_X_checkDraft 20 = .ok (.return_, 1) := by decide +kernel
theorem dX_takeDraft_0 : decode zc_X_takeDraft 0 = .ok (.aload_n 0, 1) := by decide +kernel
theorem dX_takeDraft_1 : decode zc_X_takeDraft 1 = .ok (.getfield 48, 3) := by decide +kernel
theorem dX_takeDraft_4 : decode zc_X_takeDraft 4 = .ok (.astore_n 1, 1) := by decide +kernel
theorem dX_takeDraft_5 : decode zc_X_takeDraft 5 = .ok (.aload_n 0, 1) := by decide +kernel
theorem dX_takeDraft_6 : decode zc_X_takeDraft 6 = .ok (.new 45, 3) := by decide +kernel
theorem dX_takeDraft_9 : decode zc_X_takeDraft 9 = .ok (.dup, 1) := by decide +kernel
theorem dX_takeDraft_10 : decode zc_X_takeDraft 10 = .ok (.invokespecial 47, 3) := by decide +kernel
theorem dX_takeDraft_13 : decode zc_X_takeDraft 13 = .ok (.putfield 48, 3) := by decide +kernel
theorem dX_takeDraft_16 : decode zc_X_takeDraft 16 = .ok (.aload_n 1, 1) := by decide +kernel
theorem dX_takeDraft_17 : decode zc_X_takeDraft 17 = .ok (.areturn, 1) := by decide +kernel
theorem dP_fits_0 : decode zc_P_fits 0 = .ok (.iconst 0, 1) := by decide +kernel
theorem dP_fits_1 : decode zc_P_fits 1 = .ok (.istore_n 3, 1) := by decide +kernel
theorem dP_fits_2 : decode zc_P_fits 2 = .ok (.iload_n 3, 1) := by decide +kernel
theorem dP_fits_3 : decode zc_P_fits 3 = .ok (.bipush 16, 2) := by decide +kernel
theorem dP_fits_5 : decode zc_P_fits 5 = .ok (.if_icmp .ge 28, 3) := by decide +kernel
theorem dP_fits_8 : decode zc_P_fits 8 = .ok (.aload_n 0, 1) := by decide +kernel
theorem dP_fits_9 : decode zc_P_fits 9 = .ok (.getfield 9, 3) := by decide +kernel
theorem dP_fits_12 : decode zc_P_fits 12 = .ok (.iload_n 3, 1) := by decide +kernel
theorem dP_fits_13 : decode zc_P_fits 13 = .ok (.iaload, 1) := by decide +kernel
theorem dP_fits_14 : decode zc_P_fits 14 = .ok (.iload_n 2, 1) := by decide +kernel
theorem dP_fits_15 : decode zc_P_fits 15 = .ok (.aload_n 1, 1) := by decide +kernel
theorem dP_fits_16 : decode zc_P_fits 16 = .ok (.getfield 29, 3) := by decide +kernel
theorem dP_fits_19 : decode zc_P_fits 19 = .ok (.iload_n 3, 1) := by decide +kernel
theorem dP_fits_20 : decode zc_P_fits 20 = .ok (.iaload, 1) := by decide +kernel
theorem dP_fits_21 : decode zc_P_fits 21 = .ok (.imul, 1) := by decide +kernel
theorem dP_fits_22 : decode zc_P_fits 22 = .ok (.if_icmp .ge 5, 3) := by decide +kernel
theorem dP_fits_25 : decode zc_P_fits 25 = .ok (.iconst 0, 1) := by decide +kernel
theorem dP_fits_26 : decode zc_P_fits 26 = .ok (.ireturn, 1) := by decide +kernel
theorem dP_fits_27 : decode zc_P_fits 27 = .ok (.iinc 3 1, 3) := by decide +kernel
theorem dP_fits_30 : decode zc_P_fits 30 = .ok (.goto (-28), 3) := by decide +kernel
theorem dP_fits_33 : decode zc_P_fits 33 = .ok (.iconst 1, 1) := by decide +kernel
theorem dP_fits_34 : decode zc_P_fits 34 = .ok (.ireturn, 1) := by decide +kernel
theorem dX_sell_0 : decode zc_X_sell 0 = .ok (.aload_n 0, 1) := by decide +kernel
theorem dX_sell_1 : decode zc_X_sell 1 = .ok (.aload_n 2, 1) := by decide +kernel
theorem dX_sell_2 : decode zc_X_sell 2 = .ok (.iload_n 3, 1) := by decide +kernel
theorem dX_sell_3 : decode zc_X_sell 3 = .ok (.invokevirtual 228, 3) := by decide +kernel
theorem dX_sell_6 : decode zc_X_sell 6 = .ok (.lstore 4, 2) := by decide +kernel
theorem dX_sell_8 : decode zc_X_sell 8 = .ok (.aload_n 0, 1) := by decide +kernel
theorem dX_sell_9 : decode zc_X_sell 9 = .ok (.iload_n 1, 1) := by decide +kernel
theorem dX_sell_10 : decode zc_X_sell 10 = .ok (.aload_n 2, 1) := by decide +kernel
theorem dX_sell_11 : decode zc_X_sell 11 = .ok (.iload_n 3, 1) := by decide +kernel
theorem dX_sell_12 : decode zc_X_sell 12 = .ok (.invokevirtual 151, 3) := by decide +kernel
theorem dX_sell_15 : decode zc_X_sell 15 = .ok (.aload_n 0, 1) := by decide +kernel
theorem dX_sell_16 : decode zc_X_sell 16 = .ok (.getfield 25, 3) := by decide +kernel
theorem dX_sell_19 : decode zc_X_sell 19 = .ok (.iload_n 1, 1) := by decide +kernel
theorem dX_sell_20 : decode zc_X_sell 20 = .ok (.aaload, 1) := by decide +kernel
theorem dX_sell_21 : decode zc_X_sell 21 = .ok (.dup, 1) := by decide +kernel
theorem dX_sell_22 : decode zc_X_sell 22 = .ok (.getfield 155, 3) := by decide +kernel
theorem dX_sell_25 : decode zc_X_sell 25 = .ok (.lload 4, 2) := by decide +kernel
theorem dX_sell_27 : decode zc_X_sell 27 = .ok (.ladd, 1) := by decide +kernel
theorem dX_sell_28 : decode zc_X_sell 28 = .ok (.putfield 155, 3) := by decide +kernel
theorem dX_sell_31 : decode zc_X_sell 31 = .ok (.aload_n 0, 1) := by decide +kernel
theorem dX_sell_32 : decode zc_X_sell 32 = .ok (.getfield 41, 3) := by decide +kernel
theorem dX_sell_35 : decode zc_X_sell 35 = .ok (.istore 6, 2) := by decide +kernel
theorem dX_sell_37 : decode zc_X_sell 37 = .ok (.aload_n 0, 1) := by decide +kernel
theorem dX_sell_38 : decode zc_X_sell 38 = .ok (.getfield 37, 3) := by decide +kernel
theorem dX_sell_41 : decode zc_X_sell 41 = .ok (.iload 6, 2) := by decide +kernel
theorem dX_sell_43 : decode zc_X_sell 43 = .ok (.new 35, 3) := by decide +kernel
theorem dX_sell_46 : decode zc_X_sell 46 = .ok (.dup, 1) := by decide +kernel
theorem dX_sell_47 : decode zc_X_sell 47 = .ok (.iload_n 1, 1) := by decide +kernel
theorem dX_sell_48 : decode zc_X_sell 48 = .ok (.iload_n 3, 1) := by decide +kernel
theorem dX_sell_49 : decode zc_X_sell 49 = .ok (.aload_n 2, 1) := by decide +kernel
theorem dX_sell_50 : decode zc_X_sell 50 = .ok (.lload 4, 2) := by decide +kernel
theorem dX_sell_52 : decode zc_X_sell 52 = .ok (.invokespecial 232, 3) := by decide +kernel
theorem dX_sell_55 : decode zc_X_sell 55 = .ok (.aastore, 1) := by decide +kernel
theorem dX_sell_56 : decode zc_X_sell 56 = .ok (.aload_n 0, 1) := by decide +kernel
theorem dX_sell_57 : decode zc_X_sell 57 = .ok (.dup, 1) := by decide +kernel
theorem dX_sell_58 : decode zc_X_sell 58 = .ok (.getfield 41, 3) := by decide +kernel
theorem dX_sell_61 : decode zc_X_sell 61 = .ok (.iconst 1, 1) := by decide +kernel
theorem dX_sell_62 : decode zc_X_sell 62 = .ok (.iadd, 1) := by decide +kernel
theorem dX_sell_63 : decode zc_X_sell 63 = .ok (.putfield 41, 3) := by decide +kernel
theorem dX_sell_66 : decode zc_X_sell 66 = .ok (.iload 6, 2) := by decide +kernel
theorem dX_sell_68 : decode zc_X_sell 68 = .ok (.ireturn, 1) := by decide +kernel
theorem dX_costOf_0 : decode zc_X_costOf 0 = .ok (.lconst 0, 1) := by decide +kernel
theorem dX_costOf_1 : decode zc_X_costOf 1 = .ok (.lstore_n 3, 1) := by decide +kernel
theorem dX_costOf_2 : decode zc_X_costOf 2 = .ok (.iconst 0, 1) := by decide +kernel
theorem dX_costOf_3 : decode zc_X_costOf 3 = .ok (.istore 5, 2) := by decide +kernel
theorem dX_costOf_5 : decode zc_X_costOf 5 = .ok (.iload 5, 2) := by decide +kernel
theorem dX_costOf_7 : decode zc_X_costOf 7 = .ok (.bipush 16, 2) := by decide +kernel
theorem dX_costOf_9 : decode zc_X_costOf 9 = .ok (.if_icmp .ge 29, 3) := by decide +kernel
theorem dX_costOf_12 : decode zc_X_costOf 12 = .ok (.lload_n 3, 1) := by decide +kernel
theorem dX_costOf_13 : decode zc_X_costOf 13 = .ok (.aload_n 1, 1) := by decide +kernel
theorem dX_costOf_14 : decode zc_X_costOf 14 = .ok (.getfield 235, 3) := by decide +kernel
theorem dX_costOf_17 : decode zc_X_costOf 17 = .ok (.iload 5, 2) := by decide +kernel
theorem dX_costOf_19 : decode zc_X_costOf 19 = .ok (.iaload, 1) := by decide +kernel
theorem dX_costOf_20 : decode zc_X_costOf 20 = .ok (.i2l, 1) := by decide +kernel
theorem dX_costOf_21 : decode zc_X_costOf 21 = .ok (.aload_n 0, 1) := by decide +kernel
theorem dX_costOf_22 : decode zc_X_costOf 22 = .ok (.getfield 13, 3) := by decide +kernel
theorem dX_costOf_25 : decode zc_X_costOf 25 = .ok (.iload 5, 2) := by decide +kernel
theorem dX_costOf_27 : decode zc_X_costOf 27 = .ok (.iaload, 1) := by decide +kernel
theorem dX_costOf_28 : decode zc_X_costOf 28 = .ok (.i2l, 1) := by decide +kernel
theorem dX_costOf_29 : decode zc_X_costOf 29 = .ok (.lmul, 1) := by decide +kernel
theorem dX_costOf_30 : decode zc_X_costOf 30 = .ok (.ladd, 1) := by decide +kernel
theorem dX_costOf_31 : decode zc_X_costOf 31 = .ok (.lstore_n 3, 1) := by decide +kernel
theorem dX_costOf_32 : decode zc_X_costOf 32 = .ok (.iinc 5 1, 3) := by decide +kernel
theorem dX_costOf_35 : decode zc_X_costOf 35 = .ok (.goto (-30), 3) := by decide +kernel
theorem dX_costOf_38 : decode zc_X_costOf 38 = .ok (.lload_n 3, 1) := by decide +kernel
theorem dX_costOf_39 : decode zc_X_costOf 39 = .ok (.iload_n 2, 1) := by decide +kernel
theorem dX_costOf_40 : decode zc_X_costOf 40 = .ok (.i2l, 1) := by decide +kernel
theorem dX_costOf_41 : decode zc_X_costOf 41 = .ok (.lmul, 1) := by decide +kernel
theorem dX_costOf_42 : decode zc_X_costOf 42 = .ok (.lreturn, 1) := by decide +kernel
theorem dX_moveToSold_0 : decode zc_X_moveToSold 0 = .ok (.aload_n 0, 1) := by decide +kernel
theorem dX_moveToSold_1 : decode zc_X_moveToSold 1 = .ok (.getfield 25, 3) := by decide +kernel
theorem dX_moveToSold_4 : decode zc_X_moveToSold 4 = .ok (.iload_n 1, 1) := by decide +kernel
theorem dX_moveToSold_5 : decode zc_X_moveToSold 5 = .ok (.aaload, 1) := by decide +kernel
theorem dX_moveToSold_6 : decode zc_X_moveToSold 6 = .ok (.getfield 68, 3) := by decide +kernel
theorem dX_moveToSold_9 : decode zc_X_moveToSold 9 = .ok (.astore 4, 2) := by decide +kernel
theorem dX_moveToSold_11 : decode zc_X_moveToSold 11 = .ok (.iconst 0, 1) := by decide +kernel
theorem dX_moveToSold_12 : decode zc_X_moveToSold 12 = .ok (.istore 5, 2) := by decide +kernel
theorem dX_moveToSold_14 : decode zc_X_moveToSold 14 = .ok (.iload 5, 2) := by decide +kernel
theorem dX_moveToSold_16 : decode zc_X_moveToSold 16 = .ok (.bipush 16, 2) := by decide +kernel
theorem dX_moveToSold_18 : decode zc_X_moveToSold 18 = .ok (.if_icmp .ge 42, 3) := by decide +kernel
theorem dX_moveToSold_21 : decode zc_X_moveToSold 21 = .ok (.iload_n 3, 1) := by decide +kernel
theorem dX_moveToSold_22 : decode zc_X_moveToSold 22 = .ok (.aload_n 2, 1) := by decide +kernel
theorem dX_moveToSold_23 : decode zc_X_moveToSold 23 = .ok (.getfield 235, 3) := by decide +kernel
theorem dX_moveToSold_26 : decode zc_X_moveToSold 26 = .ok (.iload 5, 2) := by decide +kernel
theorem dX_moveToSold_28 : decode zc_X_moveToSold 28 = .ok (.iaload, 1) := by decide +kernel
theorem dX_moveToSold_29 : decode zc_X_moveToSold 29 = .ok (.imul, 1) := by decide +kernel
theorem dX_moveToSold_30 : decode zc_X_moveToSold 30 = .ok (.istore 6, 2) := by decide +kernel
theorem dX_moveToSold_32 : decode zc_X_moveToSold 32 = .ok (.aload 4, 2) := by decide +kernel
theorem dX_moveToSold_34 : decode zc_X_moveToSold 34 = .ok (.iload 5, 2) := by decide +kernel
theorem dX_moveToSold_36 : decode zc_X_moveToSold 36 = .ok (.dup2, 1) := by decide +kernel
theorem dX_moveToSold_37 : decode zc_X_moveToSold 37 = .ok (.iaload, 1) := by decide +kernel
theorem dX_moveToSold_38 : decode zc_X_moveToSold 38 = .ok (.iload 6, 2) := by decide +kernel
theorem dX_moveToSold_40 : decode zc_X_moveToSold 40 = .ok (.isub, 1) := by decide +kernel
theorem dX_moveToSold_41 : decode zc_X_moveToSold 41 = .ok (.iastore, 1) := by decide +kernel
theorem dX_moveToSold_42 : decode zc_X_moveToSold 42 = .ok (.aload_n 0, 1) := by decide +kernel
theorem dX_moveToSold_43 : decode zc_X_moveToSold 43 = .ok (.getfield 17, 3) := by decide +kernel
theorem dX_moveToSold_46 : decode zc_X_moveToSold 46 = .ok (.iload 5, 2) := by decide +kernel
theorem dX_moveToSold_48 : decode zc_X_moveToSold 48 = .ok (.dup2, 1) := by decide +kernel
theorem dX_moveToSold_49 : decode zc_X_moveToSold 49 = .ok (.iaload, 1) := by decide +kernel
theorem dX_moveToSold_50 : decode zc_X_moveToSold 50 = .ok (.iload 6, 2) := by decide +kernel
theorem dX_moveToSold_52 : decode zc_X_moveToSold 52 = .ok (.iadd, 1) := by decide +kernel
theorem dX_moveToSold_53 : decode zc_X_moveToSold 53 = .ok (.iastore, 1) := by decide +kernel
theorem dX_moveToSold_54 : decode zc_X_moveToSold 54 = .ok (.iinc 5 1, 3) := by decide +kernel
theorem dX_moveToSold_57 : decode zc_X_moveToSold 57 = .ok (.goto (-43), 3) := by decide +kernel
theorem dX_moveToSold_60 : decode zc_X_moveToSold 60 = .ok (.return_, 1) := by decide +kernel
theorem dT_init_0 : decode zc_T_init 0 = .ok (.aload_n 0, 1) := by decide +kernel
theorem dT_init_1 : decode zc_T_init 1 = .ok (.invokespecial 1, 3) := by decide +kernel
theorem dT_init_4 : decode zc_T_init 4 = .ok (.aload_n 0, 1) := by decide +kernel
theorem dT_init_5 : decode zc_T_init 5 = .ok (.iconst 0, 1) := by decide +kernel
theorem dT_init_6 : decode zc_T_init 6 = .ok (.putfield 7, 3) := by decide +kernel
theorem dT_init_9 : decode zc_T_init 9 = .ok (.aload_n 0, 1) := by decide +kernel
theorem dT_init_10 : decode zc_T_init 10 = .ok (.iload_n 1, 1) := by decide +kernel
theorem dT_init_11 : decode zc_T_init 11 = .ok (.putfield 13, 3) := by decide +kernel
theorem dT_init_14 : decode zc_T_init 14 = .ok (.aload_n 0, 1) := by decide +kernel
theorem dT_init_15 : decode zc_T_init 15 = .ok (.iload_n 2, 1) := by decide +kernel
theorem dT_init_16 : decode zc_T_init 16 = .ok (.putfield 17, 3) := by decide +kernel
theorem dT_init_19 : decode zc_T_init 19 = .ok (.aload_n 0, 1) := by decide +kernel
theorem dT_init_20 : decode zc_T_init 20 = .ok (.aload_n 3, 1) := by decide +kernel
theorem dT_init_21 : decode zc_T_init 21 = .ok (.putfield 20, 3) := by decide +kernel
theorem dT_init_24 : decode zc_T_init 24 = .ok (.aload_n 0, 1) := by decide +kernel
theorem dT_init_25 : decode zc_T_init 25 = .ok (.lload 4, 2) := by decide +kernel
theorem dT_init_27 : decode zc_T_init 27 = .ok (.putfield 24, 3) := by decide +kernel
theorem dT_init_30 : decode zc_T_init 30 = .ok (.return_, 1) := by decide +kernel
theorem dX_wish_0 : decode zc_X_wish 0 = .ok (.iload_n 1, 1) := by decide +kernel
theorem dX_wish_1 : decode zc_X_wish 1 = .ok (.invokestatic 100, 3) := by decide +kernel
theorem dX_wish_4 : decode zc_X_wish 4 = .ok (.iload_n 2, 1) := by decide +kernel
theorem dX_wish_5 : decode zc_X_wish 5 = .ok (.invokestatic 58, 3) := by decide +kernel
theorem dX_wish_8 : decode zc_X_wish 8 = .ok (.aload_n 0, 1) := by decide +kernel
theorem dX_wish_9 : decode zc_X_wish 9 = .ok (.invokevirtual 103, 3) := by decide +kernel
theorem dX_wish_12 : decode zc_X_wish 12 = .ok (.aload_n 0, 1) := by decide +kernel
theorem dX_wish_13 : decode zc_X_wish 13 = .ok (.getfield 25, 3) := by decide +kernel
theorem dX_wish_16 : decode zc_X_wish 16 = .ok (.iload_n 1, 1) := by decide +kernel
theorem dX_wish_17 : decode zc_X_wish 17 = .ok (.aaload, 1) := by decide +kernel
theorem dX_wish_18 : decode zc_X_wish 18 = .ok (.getfield 120, 3) := by decide +kernel
theorem dX_wish_21 : decode zc_X_wish 21 = .ok (.bipush 6, 2) := by decide +kernel
theorem dX_wish_23 : decode zc_X_wish 23 = .ok (.if_icmp .ne 13, 3) := by decide +kernel
theorem dX_wish_26 : decode zc_X_wish 26 = .ok (.new 61, 3) := by decide +kernel
theorem dX_wish_29 : decode zc_X_wish 29 = .ok (.dup, 1) := by decide +kernel
theorem dX_wish_30 : decode zc_X_wish 30 = .ok (.ldc 123, 2) := by decide +kernel
theorem dX_wish_32 : decode zc_X_wish 32 = .ok (.invokespecial 65, 3) := by decide +kernel
theorem dX_wish_35 : decode zc_X_wish 35 = .ok (.athrow, 1) := by decide +kernel
theorem dX_wish_36 : decode zc_X_wish 36 = .ok (.aload_n 0, 1) := by decide +kernel
theorem dX_wish_37 : decode zc_X_wish 37 = .ok (.getfield 25, 3) := by decide +kernel
theorem dX_wish_40 : decode zc_X_wish 40 = .ok (.iload_n 1, 1) := by decide +kernel
theorem dX_wish_41 : decode zc_X_wish 41 = .ok (.aaload, 1) := by decide +kernel
theorem dX_wish_42 : decode zc_X_wish 42 = .ok (.aload_n 0, 1) := by decide +kernel
theorem dX_wish_43 : decode zc_X_wish 43 = .ok (.invokevirtual 108, 3) := by decide +kernel
theorem dX_wish_46 : decode zc_X_wish 46 = .ok (.iload_n 2, 1) := by decide +kernel
theorem dX_wish_47 : decode zc_X_wish 47 = .ok (.invokevirtual 125, 3) := by decide +kernel
theorem dX_wish_50 : decode zc_X_wish 50 = .ok (.aload_n 0, 1) := by decide +kernel
theorem dX_wish_51 : decode zc_X_wish 51 = .ok (.iload_n 1, 1) := by decide +kernel
theorem dX_wish_52 : decode zc_X_wish 52 = .ok (.invokevirtual 129, 3) := by decide +kernel
theorem dX_wish_55 : decode zc_X_wish 55 = .ok (.ireturn, 1) := by decide +kernel
theorem dP_addWish_0 : decode zc_P_addWish 0 = .ok (.aload_n 0, 1) := by decide +kernel
theorem dP_addWish_1 : decode zc_P_addWish 1 = .ok (.getfield 17, 3) := by decide +kernel
theorem dP_addWish_4 : decode zc_P_addWish 4 = .ok (.aload_n 0, 1) := by decide +kernel
theorem dP_addWish_5 : decode zc_P_addWish 5 = .ok (.getfield 21, 3) := by decide +kernel
theorem dP_addWish_8 : decode zc_P_addWish 8 = .ok (.new 15, 3) := by decide +kernel
theorem dP_addWish_11 : decode zc_P_addWish 11 = .ok (.dup, 1) := by decide +kernel
theorem dP_addWish_12 : decode zc_P_addWish 12 = .ok (.aload_n 1, 1) := by decide +kernel
theorem dP_addWish_13 : decode zc_P_addWish 13 = .ok (.iload_n 2, 1) := by decide +kernel
theorem dP_addWish_14 : decode zc_P_addWish 14 = .ok (.invokespecial 34, 3) := by decide +kernel
theorem dP_addWish_17 : decode zc_P_addWish 17 = .ok (.aastore, 1) := by decide +kernel
theorem dP_addWish_18 : decode zc_P_addWish 18 = .ok (.aload_n 0, 1) := by decide +kernel
theorem dP_addWish_19 : decode zc_P_addWish 19 = .ok (.dup, 1) := by decide +kernel
theorem dP_addWish_20 : decode zc_P_addWish 20 = .ok (.getfield 21, 3) := by decide +kernel
theorem dP_addWish_23 : decode zc_P_addWish 23 = .ok (.iconst 1, 1) := by decide +kernel
theorem dP_addWish_24 : decode zc_P_addWish 24 = .ok (.iadd, 1) := by decide +kernel
theorem dP_addWish_25 : decode zc_P_addWish 25 = .ok (.putfield 21, 3) := by decide +kernel
theorem dP_addWish_28 : decode zc_P_addWish 28 = .ok (.return_, 1) := by decide +kernel
theorem dH_init_0 : decode zc_H_init 0 = .ok (.aload_n 0, 1) := by decide +kernel
theorem dH_init_1 : decode zc_H_init 1 = .ok (.invokespecial 1, 3) := by decide +kernel
theorem dH_init_4 : decode zc_H_init 4 = .ok (.aload_n 0, 1) := by decide +kernel
theorem dH_init_5 : decode zc_H_init 5 = .ok (.aload_n 1, 1) := by decide +kernel
theorem dH_init_6 : decode zc_H_init 6 = .ok (.putfield 7, 3) := by decide +kernel
theorem dH_init_9 : decode zc_H_init 9 = .ok (.aload_n 0, 1) := by decide +kernel
theorem dH_init_10 : decode zc_H_init 10 = .ok (.iload_n 2, 1) := by decide +kernel
theorem dH_init_11 : decode zc_H_init 11 = .ok (.putfield 13, 3) := by decide +kernel
theorem dH_init_14 : decode zc_H_init 14 = .ok (.return_, 1) := by decide +kernel
theorem dX_serve_0 : decode zc_X_serve 0 = .ok (.aload_n 0, 1) := by decide +kernel
theorem dX_serve_1 : decode zc_X_serve 1 = .ok (.getfield 25, 3) := by decide +kernel
theorem dX_serve_4 : decode zc_X_serve 4 = .ok (.iload_n 1, 1) := by decide +kernel
theorem dX_serve_5 : decode zc_X_serve 5 = .ok (.aaload, 1) := by decide +kernel
theorem dX_serve_6 : decode zc_X_serve 6 = .ok (.astore_n 2, 1) := by decide +kernel
theorem dX_serve_7 : decode zc_X_serve 7 = .ok (.aload_n 2, 1) := by decide +kernel
theorem dX_serve_8 : decode zc_X_serve 8 = .ok (.getfield 120, 3) := by decide +kernel
theorem dX_serve_11 : decode zc_X_serve 11 = .ok (.istore_n 3, 1) := by decide +kernel
theorem dX_serve_12 : decode zc_X_serve 12 = .ok (.iconst 0, 1) := by decide +kernel
theorem dX_serve_13 : decode zc_X_serve 13 = .ok (.istore 4, 2) := by decide +kernel
theorem dX_serve_15 : decode zc_X_serve 15 = .ok (.iconst 0, 1) := by decide +kernel
theorem dX_serve_16 : decode zc_X_serve 16 = .ok (.istore 5, 2) := by decide +kernel
theorem dX_serve_18 : decode zc_X_serve 18 = .ok (.iload 5, 2) := by decide +kernel
theorem dX_serve_20 : decode zc_X_serve 20 = .ok (.iload_n 3, 1) := by decide +kernel
theorem dX_serve_21 : decode zc_X_serve 21 = .ok (.if_icmp .ge 75, 3) := by decide +kernel
theorem dX_serve_24 : decode zc_X_serve 24 = .ok (.aload_n 2, 1) := by decide +kernel
theorem dX_serve_25 : decode zc_X_serve 25 = .ok (.getfield 238, 3) := by decide +kernel
theorem dX_serve_28 : decode zc_X_serve 28 = .ok (.iload 5, 2) := by decide +kernel
theorem dX_serve_30 : decode zc_X_serve 30 = .ok (.aaload, 1) := by decide +kernel
theorem dX_serve_31 : decode zc_X_serve 31 = .ok (.astore 6, 2) := by decide +kernel
theorem dX_serve_33 : decode zc_X_serve 33 = .ok (.aload_n 0, 1) := by decide +kernel
theorem dX_serve_34 : decode zc_X_serve 34 = .ok (.getfield 41, 3) := by decide +kernel
theorem dX_serve_37 : decode zc_X_serve 37 = .ok (.bipush 80, 2) := by decide +kernel
theorem dX_serve_39 : decode zc_X_serve 39 = .ok (.if_icmp .ge 39, 3) := by decide +kernel
theorem dX_serve_42 : decode zc_X_serve 42 = .ok (.aload_n 2, 1) := by decide +kernel
theorem dX_serve_43 : decode zc_X_serve 43 = .ok (.aload 6, 2) := by decide +kernel
theorem dX_serve_45 : decode zc_X_serve 45 = .ok (.getfield 242, 3) := by decide +kernel
theorem dX_serve_48 : decode zc_X_serve 48 = .ok (.aload 6, 2) := by decide +kernel
theorem dX_serve_50 : decode zc_X_serve 50 = .ok (.getfield 245, 3) := by decide +kernel
theorem dX_serve_53 : decode zc_X_serve 53 = .ok (.invokevirtual 112, 3) := by decide +kernel
theorem dX_serve_56 : decode zc_X_serve 56 = .ok (.ifCond .eq 22, 3) := by decide +kernel
theorem dX_serve_59 : decode zc_X_serve 59 = .ok (.aload_n 0, 1) := by decide +kernel
theorem dX_serve_60 : decode zc_X_serve 60 = .ok (.iload_n 1, 1) := by decide +kernel
theorem dX_serve_61 : decode zc_X_serve 61 = .ok (.aload 6, 2) := by decide +kernel
theorem dX_serve_63 : decode zc_X_serve 63 = .ok (.getfield 242, 3) := by decide +kernel
theorem dX_serve_66 : decode zc_X_serve 66 = .ok (.aload 6, 2) := by decide +kernel
theorem dX_serve_68 : decode zc_X_serve 68 = .ok (.getfield 245, 3) := by decide +kernel
theorem dX_serve_71 : decode zc_X_serve 71 = .ok (.invokevirtual 116, 3) := by decide +kernel
theorem dX_serve_74 : decode zc_X_serve 74 = .ok (.pop, 1) := by decide +kernel
theorem dX_serve_75 : decode zc_X_serve 75 = .ok (.goto 15, 3) := by decide +kernel
theorem dX_serve_78 : decode zc_X_serve 78 = .ok (.aload_n 2, 1) := by decide +kernel
theorem dX_serve_79 : decode zc_X_serve 79 = .ok (.getfield 238, 3) := by decide +kernel
theorem dX_serve_82 : decode zc_X_serve 82 = .ok (.iload 4, 2) := by decide +kernel
theorem dX_serve_84 : decode zc_X_serve 84 = .ok (.aload 6, 2) := by decide +kernel
theorem dX_serve_86 : decode zc_X_serve 86 = .ok (.aastore, 1) := by decide +kernel
theorem dX_serve_87 : decode zc_X_serve 87 = .ok (.iinc 4 1, 3) := by decide +kernel
theorem dX_serve_90 : decode zc_X_serve 90 = .ok (.iinc 5 1, 3) := by decide +kernel
theorem dX_serve_93 : decode zc_X_serve 93 = .ok (.goto (-75), 3) := by decide +kernel
theorem dX_serve_96 : decode zc_X_serve 96 = .ok (.aload_n 2, 1) := by decide +kernel
theorem dX_serve_97 : decode zc_X_serve 97 = .ok (.iload 4, 2) := by decide +kernel
theorem dX_serve_99 : decode zc_X_serve 99 = .ok (.putfield 120, 3) := by decide +kernel
theorem dX_serve_102 : decode zc_X_serve 102 = .ok (.iload_n 3, 1) := by decide +kernel
theorem dX_serve_103 : decode zc_X_serve 103 = .ok (.iload 4, 2) := by decide +kernel
theorem dX_serve_105 : decode zc_X_serve 105 = .ok (.isub, 1) := by decide +kernel
theorem dX_serve_106 : decode zc_X_serve 106 = .ok (.ireturn, 1) := by decide +kernel
theorem dX_cancel_0 : decode zc_X_cancel 0 = .ok (.aload_n 0, 1) := by decide +kernel
theorem dX_cancel_1 : decode zc_X_cancel 1 = .ok (.iload_n 1, 1) := by decide +kernel
theorem dX_cancel_2 : decode zc_X_cancel 2 = .ok (.invokevirtual 133, 3) := by decide +kernel
theorem dX_cancel_5 : decode zc_X_cancel 5 = .ok (.aload_n 0, 1) := by decide +kernel
theorem dX_cancel_6 : decode zc_X_cancel 6 = .ok (.getfield 37, 3) := by decide +kernel
theorem dX_cancel_9 : decode zc_X_cancel 9 = .ok (.iload_n 1, 1) := by decide +kernel
theorem dX_cancel_10 : decode zc_X_cancel 10 = .ok (.aaload, 1) := by decide +kernel
theorem dX_cancel_11 : decode zc_X_cancel 11 = .ok (.astore_n 2, 1) := by decide +kernel
theorem dX_cancel_12 : decode zc_X_cancel 12 = .ok (.aload_n 2, 1) := by decide +kernel
theorem dX_cancel_13 : decode zc_X_cancel 13 = .ok (.getfield 136, 3) := by decide +kernel
theorem dX_cancel_16 : decode zc_X_cancel 16 = .ok (.ifCond .eq 13, 3) := by decide +kernel
theorem dX_cancel_19 : decode zc_X_cancel 19 = .ok (.new 61, 3) := by decide +kernel
theorem dX_cancel_22 : decode zc_X_cancel 22 = .ok (.dup, 1) := by decide +kernel
theorem dX_cancel_23 : decode zc_X_cancel 23 = .ok (.ldc 140, 2) := by decide +kernel
theorem dX_cancel_25 : decode zc_X_cancel 25 = .ok (.invokespecial 65, 3) := by decide +kernel
theorem dX_cancel_28 : decode zc_X_cancel 28 = .ok (.athrow, 1) := by decide +kernel
theorem dX_cancel_29 : decode zc_X_cancel 29 = .ok (.aload_n 2, 1) := by decide +kernel
theorem dX_cancel_30 : decode zc_X_cancel 30 = .ok (.iconst 1, 1) := by decide +kernel
theorem dX_cancel_31 : decode zc_X_cancel 31 = .ok (.putfield 136, 3) := by decide +kernel
theorem dX_cancel_34 : decode zc_X_cancel 34 = .ok (.aload_n 0, 1) := by decide +kernel
theorem dX_cancel_35 : decode zc_X_cancel 35 = .ok (.aload_n 2, 1) := by decide +kernel
theorem dX_cancel_36 : decode zc_X_cancel 36 = .ok (.getfield 142, 3) := by decide +kernel
theorem dX_cancel_39 : decode zc_X_cancel 39 = .ok (.aload_n 2, 1) := by decide +kernel
theorem dX_cancel_40 : decode zc_X_cancel 40 = .ok (.getfield 145, 3) := by decide +kernel
theorem dX_cancel_43 : decode zc_X_cancel 43 = .ok (.aload_n 2, 1) := by decide +kernel
theorem dX_cancel_44 : decode zc_X_cancel 44 = .ok (.getfield 148, 3) := by decide +kernel
theorem dX_cancel_47 : decode zc_X_cancel 47 = .ok (.ineg, 1) := by decide +kernel
theorem dX_cancel_48 : decode zc_X_cancel 48 = .ok (.invokevirtual 151, 3) := by decide +kernel
theorem dX_cancel_51 : decode zc_X_cancel 51 = .ok (.aload_n 0, 1) := by decide +kernel
theorem dX_cancel_52 : decode zc_X_cancel 52 = .ok (.getfield 25, 3) := by decide +kernel
theorem dX_cancel_55 : decode zc_X_cancel 55 = .ok (.aload_n 2, 1) := by decide +kernel
theorem dX_cancel_56 : decode zc_X_cancel 56 = .ok (.getfield 142, 3) := by decide +kernel
theorem dX_cancel_59 : decode zc_X_cancel 59 = .ok (.aaload, 1) := by decide +kernel
theorem dX_cancel_60 : decode zc_X_cancel 60 = .ok (.dup, 1) := by decide +kernel
theorem dX_cancel_61 : decode zc_X_cancel 61 = .ok (.getfield 155, 3) := by decide +kernel
theorem dX_cancel_64 : decode zc_X_cancel 64 = .ok (.aload_n 2, 1) := by decide +kernel
theorem dX_cancel_65 : decode zc_X_cancel 65 = .ok (.getfield 159, 3) := by decide +kernel
theorem dX_cancel_68 : decode zc_X_cancel 68 = .ok (.lsub, 1) := by decide +kernel
theorem dX_cancel_69 : decode zc_X_cancel 69 = .ok (.putfield 155, 3) := by decide +kernel
theorem dX_cancel_72 : decode zc_X_cancel 72 = .ok (.aload_n 0, 1) := by decide +kernel
theorem dX_cancel_73 : decode zc_X_cancel 73 = .ok (.aload_n 2, 1) := by decide +kernel
