theorem dX_init_0 : decode zc_X_init 0 = .ok (.aload_n 0, 1) := by decide +kernel
theorem dX_init_1 : decode zc_X_init 1 = .ok (.invokespecial 3, 3) := by decide +kernel
theorem dX_init_4 : decode zc_X_init 4 = .ok (.aload_n 0, 1) := by decide +kernel
theorem dX_init_5 : decode zc_X_init 5 = .ok (.iconst 4, 1) := by decide +kernel
theorem dX_init_6 : decode zc_X_init 6 = .ok (.newarray .boolean, 2) := by decide +kernel
theorem dX_init_8 : decode zc_X_init 8 = .ok (.putfield 9, 3) := by decide +kernel
theorem dX_init_11 : decode zc_X_init 11 = .ok (.aload_n 0, 1) := by decide +kernel
theorem dX_init_12 : decode zc_X_init 12 = .ok (.bipush 16, 2) := by decide +kernel
theorem dX_init_14 : decode zc_X_init 14 = .ok (.newarray .int, 2) := by decide +kernel
theorem dX_init_16 : decode zc_X_init 16 = .ok (.putfield 13, 3) := by decide +kernel
theorem dX_init_19 : decode zc_X_init 19 = .ok (.aload_n 0, 1) := by decide +kernel
theorem dX_init_20 : decode zc_X_init 20 = .ok (.bipush 16, 2) := by decide +kernel
theorem dX_init_22 : decode zc_X_init 22 = .ok (.newarray .int, 2) := by decide +kernel
theorem dX_init_24 : decode zc_X_init 24 = .ok (.putfield 17, 3) := by decide +kernel
theorem dX_init_27 : decode zc_X_init 27 = .ok (.aload_n 0, 1) := by decide +kernel
theorem dX_init_28 : decode zc_X_init 28 = .ok (.bipush 16, 2) := by decide +kernel
theorem dX_init_30 : decode zc_X_init 30 = .ok (.newarray .int, 2) := by decide +kernel
theorem dX_init_32 : decode zc_X_init 32 = .ok (.putfield 20, 3) := by decide +kernel
theorem dX_init_35 : decode zc_X_init 35 = .ok (.aload_n 0, 1) := by decide +kernel
theorem dX_init_36 : decode zc_X_init 36 = .ok (.iconst 4, 1) := by decide +kernel
theorem dX_init_37 : decode zc_X_init 37 = .ok (.anewarray 23, 3) := by decide +kernel
theorem dX_init_40 : decode zc_X_init 40 = .ok (.putfield 25, 3) := by decide +kernel
theorem dX_init_43 : decode zc_X_init 43 = .ok (.aload_n 0, 1) := by decide +kernel
theorem dX_init_44 : decode zc_X_init 44 = .ok (.bipush 16, 2) := by decide +kernel
theorem dX_init_46 : decode zc_X_init 46 = .ok (.anewarray 29, 3) := by decide +kernel
theorem dX_init_49 : decode zc_X_init 49 = .ok (.putfield 31, 3) := by decide +kernel
theorem dX_init_52 : decode zc_X_init 52 = .ok (.aload_n 0, 1) := by decide +kernel
theorem dX_init_53 : decode zc_X_init 53 = .ok (.bipush 80, 2) := by decide +kernel
theorem dX_init_55 : decode zc_X_init 55 = .ok (.anewarray 35, 3) := by decide +kernel
theorem dX_init_58 : decode zc_X_init 58 = .ok (.putfield 37, 3) := by decide +kernel
theorem dX_init_61 : decode zc_X_init 61 = .ok (.aload_n 0, 1) := by decide +kernel
theorem dX_init_62 : decode zc_X_init 62 = .ok (.iconst 0, 1) := by decide +kernel
theorem dX_init_63 : decode zc_X_init 63 = .ok (.putfield 41, 3) := by decide +kernel
theorem dX_init_66 : decode zc_X_init 66 = .ok (.aload_n 0, 1) := by decide +kernel
theorem dX_init_67 : decode zc_X_init 67 = .ok (.new 45, 3) := by decide +kernel
theorem dX_init_70 : decode zc_X_init 70 = .ok (.dup, 1) := by decide +kernel
theorem dX_init_71 : decode zc_X_init 71 = .ok (.invokespecial 47, 3) := by decide +kernel
theorem dX_init_74 : decode zc_X_init 74 = .ok (.putfield 48, 3) := by decide +kernel
theorem dX_init_77 : decode zc_X_init 77 = .ok (.iconst 0, 1) := by decide +kernel
theorem dX_init_78 : decode zc_X_init 78 = .ok (.istore_n 1, 1) := by decide +kernel
theorem dX_init_79 : decode zc_X_init 79 = .ok (.iload_n 1, 1) := by decide +kernel
theorem dX_init_80 : decode zc_X_init 80 = .ok (.iconst 4, 1) := by decide +kernel
theorem dX_init_81 : decode zc_X_init 81 = .ok (.if_icmp .ge 22, 3) := by decide +kernel
theorem dX_init_84 : decode zc_X_init 84 = .ok (.aload_n 0, 1) := by decide +kernel
theorem dX_init_85 : decode zc_X_init 85 = .ok (.getfield 25, 3) := by decide +kernel
theorem dX_init_88 : decode zc_X_init 88 = .ok (.iload_n 1, 1) := by decide +kernel
theorem dX_init_89 : decode zc_X_init 89 = .ok (.new 23, 3) := by decide +kernel
theorem dX_init_92 : decode zc_X_init 92 = .ok (.dup, 1) := by decide +kernel
theorem dX_init_93 : decode zc_X_init 93 = .ok (.invokespecial 52, 3) := by decide +kernel
theorem dX_init_96 : decode zc_X_init 96 = .ok (.aastore, 1) := by decide +kernel
theorem dX_init_97 : decode zc_X_init 97 = .ok (.iinc 1 1, 3) := by decide +kernel
theorem dX_init_100 : decode zc_X_init 100 = .ok (.goto (-21), 3) := by decide +kernel
theorem dX_init_103 : decode zc_X_init 103 = .ok (.iconst 0, 1) := by decide +kernel
theorem dX_init_104 : decode zc_X_init 104 = .ok (.istore_n 1, 1) := by decide +kernel
theorem dX_init_105 : decode zc_X_init 105 = .ok (.iload_n 1, 1) := by decide +kernel
theorem dX_init_106 : decode zc_X_init 106 = .ok (.bipush 16, 2) := by decide +kernel
theorem dX_init_108 : decode zc_X_init 108 = .ok (.if_icmp .ge 22, 3) := by decide +kernel
theorem dX_init_111 : decode zc_X_init 111 = .ok (.aload_n 0, 1) := by decide +kernel
theorem dX_init_112 : decode zc_X_init 112 = .ok (.getfield 31, 3) := by decide +kernel
theorem dX_init_115 : decode zc_X_init 115 = .ok (.iload_n 1, 1) := by decide +kernel
theorem dX_init_116 : decode zc_X_init 116 = .ok (.new 29, 3) := by decide +kernel
theorem dX_init_119 : decode zc_X_init 119 = .ok (.dup, 1) := by decide +kernel
theorem dX_init_120 : decode zc_X_init 120 = .ok (.invokespecial 53, 3) := by decide +kernel
theorem dX_init_123 : decode zc_X_init 123 = .ok (.aastore, 1) := by decide +kernel
theorem dX_init_124 : decode zc_X_init 124 = .ok (.iinc 1 1, 3) := by decide +kernel
theorem dX_init_127 : decode zc_X_init 127 = .ok (.goto (-22), 3) := by decide +kernel
theorem dX_init_130 : decode zc_X_init 130 = .ok (.return_, 1) := by decide +kernel
theorem dJ_init_0 : decode zc_J_init 0 = .ok (.aload_n 0, 1) := by decide +kernel
theorem dJ_init_1 : decode zc_J_init 1 = .ok (.invokespecial 3, 3) := by decide +kernel
theorem dJ_init_4 : decode zc_J_init 4 = .ok (.aload_n 0, 1) := by decide +kernel
theorem dJ_init_5 : decode zc_J_init 5 = .ok (.bipush 16, 2) := by decide +kernel
theorem dJ_init_7 : decode zc_J_init 7 = .ok (.newarray .int, 2) := by decide +kernel
theorem dJ_init_9 : decode zc_J_init 9 = .ok (.putfield 9, 3) := by decide +kernel
theorem dJ_init_12 : decode zc_J_init 12 = .ok (.aload_n 0, 1) := by decide +kernel
theorem dJ_init_13 : decode zc_J_init 13 = .ok (.iconst 0, 1) := by decide +kernel
theorem dJ_init_14 : decode zc_J_init 14 = .ok (.putfield 15, 3) := by decide +kernel
theorem dJ_init_17 : decode zc_J_init 17 = .ok (.return_, 1) := by decide +kernel
theorem dP_init_0 : decode zc_P_init 0 = .ok (.aload_n 0, 1) := by decide +kernel
theorem dP_init_1 : decode zc_P_init 1 = .ok (.invokespecial 3, 3) := by decide +kernel
theorem dP_init_4 : decode zc_P_init 4 = .ok (.aload_n 0, 1) := by decide +kernel
theorem dP_init_5 : decode zc_P_init 5 = .ok (.bipush 16, 2) := by decide +kernel
theorem dP_init_7 : decode zc_P_init 7 = .ok (.newarray .int, 2) := by decide +kernel
theorem dP_init_9 : decode zc_P_init 9 = .ok (.putfield 9, 3) := by decide +kernel
theorem dP_init_12 : decode zc_P_init 12 = .ok (.aload_n 0, 1) := by decide +kernel
theorem dP_init_13 : decode zc_P_init 13 = .ok (.bipush 6, 2) := by decide +kernel
theorem dP_init_15 : decode zc_P_init 15 = .ok (.anewarray 15, 3) := by decide +kernel
theorem dP_init_18 : decode zc_P_init 18 = .ok (.putfield 17, 3) := by decide +kernel
theorem dP_init_21 : decode zc_P_init 21 = .ok (.aload_n 0, 1) := by decide +kernel
theorem dP_init_22 : decode zc_P_init 22 = .ok (.iconst 0, 1) := by decide +kernel
theorem dP_init_23 : decode zc_P_init 23 = .ok (.putfield 21, 3) := by decide +kernel
theorem dP_init_26 : decode zc_P_init 26 = .ok (.aload_n 0, 1) := by decide +kernel
theorem dP_init_27 : decode zc_P_init 27 = .ok (.lconst 0, 1) := by decide +kernel
theorem dP_init_28 : decode zc_P_init 28 = .ok (.putfield 25, 3) := by decide +kernel
theorem dP_init_31 : decode zc_P_init 31 = .ok (.return_, 1) := by decide +kernel
theorem dN_init_0 : decode zc_N_init 0 = .ok (.aload_n 0, 1) := by decide +kernel
theorem dN_init_1 : decode zc_N_init 1 = .ok (.invokespecial 3, 3) := by decide +kernel
theorem dN_init_4 : decode zc_N_init 4 = .ok (.aload_n 0, 1) := by decide +kernel
theorem dN_init_5 : decode zc_N_init 5 = .ok (.bipush 8, 2) := by decide +kernel
theorem dN_init_7 : decode zc_N_init 7 = .ok (.newarray .int, 2) := by decide +kernel
theorem dN_init_9 : decode zc_N_init 9 = .ok (.putfield 9, 3) := by decide +kernel
theorem dN_init_12 : decode zc_N_init 12 = .ok (.aload_n 0, 1) := by decide +kernel
theorem dN_init_13 : decode zc_N_init 13 = .ok (.bipush 8, 2) := by decide +kernel
theorem dN_init_15 : decode zc_N_init 15 = .ok (.newarray .int, 2) := by decide +kernel
theorem dN_init_17 : decode zc_N_init 17 = .ok (.putfield 15, 3) := by decide +kernel
theorem dN_init_20 : decode zc_N_init 20 = .ok (.aload_n 0, 1) := by decide +kernel
theorem dN_init_21 : decode zc_N_init 21 = .ok (.iconst 0, 1) := by decide +kernel
theorem dN_init_22 : decode zc_N_init 22 = .ok (.putfield 18, 3) := by decide +kernel
theorem dN_init_25 : decode zc_N_init 25 = .ok (.aload_n 0, 1) := by decide +kernel
theorem dN_init_26 : decode zc_N_init 26 = .ok (.iconst 0, 1) := by decide +kernel
theorem dN_init_27 : decode zc_N_init 27 = .ok (.putfield 22, 3) := by decide +kernel
theorem dN_init_30 : decode zc_N_init 30 = .ok (.aload_n 0, 1) := by decide +kernel
theorem dN_init_31 : decode zc_N_init 31 = .ok (.iconst 0, 1) := by decide +kernel
theorem dN_init_32 : decode zc_N_init 32 = .ok (.putfield 25, 3) := by decide +kernel
theorem dN_init_35 : decode zc_N_init 35 = .ok (.aload_n 0, 1) := by decide +kernel
theorem dN_init_36 : decode zc_N_init 36 = .ok (.iconst 0, 1) := by decide +kernel
theorem dN_init_37 : decode zc_N_init 37 = .ok (.putfield 28, 3) := by decide +kernel
theorem dN_init_40 : decode zc_N_init 40 = .ok (.aload_n 0, 1) := by decide +kernel
theorem dN_init_41 : decode zc_N_init 41 = .ok (.iconst 0, 1) := by decide +kernel
theorem dN_init_42 : decode zc_N_init 42 = .ok (.putfield 31, 3) := by decide +kernel
theorem dN_init_45 : decode zc_N_init 45 = .ok (.return_, 1) := by decide +kernel
theorem dX_open_0 : decode zc_X_open 0 = .ok (.iload_n 1, 1) := by decide +kernel
theorem dX_open_1 : decode zc_X_open 1 = .ok (.invokestatic 54, 3) := by decide +kernel
theorem dX_open_4 : decode zc_X_open 4 = .ok (.iload_n 2, 1) := by decide +kernel
theorem dX_open_5 : decode zc_X_open 5 = .ok (.invokestatic 58, 3) := by decide +kernel
theorem dX_open_8 : decode zc_X_open 8 = .ok (.aload_n 0, 1) := by decide +kernel
theorem dX_open_9 : decode zc_X_open 9 = .ok (.getfield 9, 3) := by decide +kernel
theorem dX_open_12 : decode zc_X_open 12 = .ok (.iload_n 1, 1) := by decide +kernel
theorem dX_open_13 : decode zc_X_open 13 = .ok (.baload, 1) := by decide +kernel
theorem dX_open_14 : decode zc_X_open 14 = .ok (.ifCond .eq 13, 3) := by decide +kernel
theorem dX_open_17 : decode zc_X_open 17 = .ok (.new 61, 3) := by decide +kernel
theorem dX_open_20 : decode zc_X_open 20 = .ok (.dup, 1) := by decide +kernel
theorem dX_open_21 : decode zc_X_open 21 = .ok (.ldc 63, 2) := by decide +kernel
theorem dX_open_23 : decode zc_X_open 23 = .ok (.invokespecial 65, 3) := by decide +kernel
theorem dX_open_26 : decode zc_X_open 26 = .ok (.athrow, 1) := by decide +kernel
theorem dX_open_27 : decode zc_X_open 27 = .ok (.aload_n 0, 1) := by decide +kernel
theorem dX_open_28 : decode zc_X_open 28 = .ok (.getfield 9, 3) := by decide +kernel
theorem dX_open_31 : decode zc_X_open 31 = .ok (.iload_n 1, 1) := by decide +kernel
theorem dX_open_32 : decode zc_X_open 32 = .ok (.iconst 1, 1) := by decide +kernel
theorem dX_open_33 : decode zc_X_open 33 = .ok (.bastore, 1) := by decide +kernel
theorem dX_open_34 : decode zc_X_open 34 = .ok (.iconst 0, 1) := by decide +kernel
theorem dX_open_35 : decode zc_X_open 35 = .ok (.istore_n 3, 1) := by decide +kernel
theorem dX_open_36 : decode zc_X_open 36 = .ok (.iload_n 3, 1) := by decide +kernel
theorem dX_open_37 : decode zc_X_open 37 = .ok (.iconst 4, 1) := by decide +kernel
theorem dX_open_38 : decode zc_X_open 38 = .ok (.if_icmp .ge 25, 3) := by decide +kernel
theorem dX_open_41 : decode zc_X_open 41 = .ok (.aload_n 0, 1) := by decide +kernel
theorem dX_open_42 : decode zc_X_open 42 = .ok (.getfield 25, 3) := by decide +kernel
theorem dX_open_45 : decode zc_X_open 45 = .ok (.iconst 0, 1) := by decide +kernel
theorem dX_open_46 : decode zc_X_open 46 = .ok (.aaload, 1) := by decide +kernel
theorem dX_open_47 : decode zc_X_open 47 = .ok (.getfield 68, 3) := by decide +kernel
theorem dX_open_50 : decode zc_X_open 50 = .ok (.iload_n 1, 1) := by decide +kernel
theorem dX_open_51 : decode zc_X_open 51 = .ok (.iload_n 3, 1) := by decide +kernel
theorem dX_open_52 : decode zc_X_open 52 = .ok (.invokestatic 71, 3) := by decide +kernel
theorem dX_open_55 : decode zc_X_open 55 = .ok (.iload_n 2, 1) := by decide +kernel
theorem dX_open_56 : decode zc_X_open 56 = .ok (.iastore, 1) := by decide +kernel
theorem dX_open_57 : decode zc_X_open 57 = .ok (.iinc 3 1, 3) := by decide +kernel
theorem dX_open_60 : decode zc_X_open 60 = .ok (.goto (-24), 3) := by decide +kernel
theorem dX_open_63 : decode zc_X_open 63 = .ok (.return_, 1) := by decide +kernel
theorem dX_checkSailing_0 : decode zc_X_checkSailing 0 = .ok (.iload_n 0, 1) := by decide +kernel
theorem dX_checkSailing_1 : decode zc_X_checkSailing 1 = .ok (.ifCond .lt 8, 3) := by decide +kernel
theorem dX_checkSailing_4 : decode zc_X_checkSailing 4 = .ok (.iload_n 0, 1) := by decide +kernel
theorem dX_checkSailing_5 : decode zc_X_checkSailing 5 = .ok (.iconst 4, 1) := by decide +kernel
theorem dX_checkSailing_6 : decode zc_X_checkSailing 6 = .ok (.if_icmp .lt 13, 3) := by decide +kernel
theorem dX_checkSailing_9 : decode zc_X_checkSailing 9 = .ok (.new 209, 3) := by decide +kernel
theorem dX_checkSailing_12 : decode zc_X_checkSailing 12 = .ok (.dup, 1) := by decide +kernel
theorem dX_checkSailing_13 : decode zc_X_checkSailing 13 = .ok (.ldc 214, 2) := by decide +kernel
theorem dX_checkSailing_15 : decode zc_X_checkSailing 15 = .ok (.invokespecial 213, 3) := by decide +kernel
theorem dX_checkSailing_18 : decode zc_X_checkSailing 18 = .ok (.athrow, 1) := by decide +kernel
theorem dX_checkSailing_19 : decode zc_X_checkSailing 19 = .ok (.return_, 1) := by decide +kernel
theorem dX_checkSeats_0 : decode zc_X_checkSeats 0 = .ok (.iload_n 0, 1) := by decide +kernel
theorem dX_checkSeats_1 : decode zc_X_checkSeats 1 = .ok (.iconst 1, 1) := by decide +kernel
theorem dX_checkSeats_2 : decode zc_X_checkSeats 2 = .ok (.if_icmp .lt 9, 3) := by decide +kernel
theorem dX_checkSeats_5 : decode zc_X_checkSeats 5 = .ok (.iload_n 0, 1) := by decide +kernel
theorem dX_checkSeats_6 : decode zc_X_checkSeats 6 = .ok (.bipush 100, 2) := by decide +kernel
theorem dX_checkSeats_8 : decode zc_X_checkSeats 8 = .ok (.if_icmp .le 13, 3) := by decide +kernel
theorem dX_checkSeats_11 : decode zc_X_checkSeats 11 = .ok (.new 79, 3) := by decide +kernel
theorem dX_checkSeats_14 : decode zc_X_checkSeats 14 = .ok (.dup, 1) := by decide +kernel
theorem dX_checkSeats_15 : decode zc_X_checkSeats 15 = .ok (.ldc 224, 2) := by decide +kernel
theorem dX_checkSeats_17 : decode zc_X_checkSeats 17 = .ok (.invokespecial 83, 3) := by decide +kernel
theorem dX_checkSeats_20 : decode zc_X_checkSeats 20 = .ok (.athrow, 1) := by decide +kernel
theorem dX_checkSeats_21 : decode zc_X_checkSeats 21 = .ok (.return_, 1) := by decide +kernel
theorem dX_placeOf_0 : decode zc_X_placeOf 0 = .ok (.iload_n 0, 1) := by decide +kernel
theorem dX_placeOf_1 : decode zc_X_placeOf 1 = .ok (.iconst 4, 1) := by decide +kernel
theorem dX_placeOf_2 : decode zc_X_placeOf 2 = .ok (.imul, 1) := by decide +kernel
theorem dX_placeOf_3 : decode zc_X_placeOf 3 = .ok (.iload_n 1, 1) := by decide +kernel
theorem dX_placeOf_4 : decode zc_X_placeOf 4 = .ok (.iadd, 1) := by decide +kernel
theorem dX_placeOf_5 : decode zc_X_placeOf 5 = .ok (.ireturn, 1) := by decide +kernel
theorem dX_fare_0 : decode zc_X_fare 0 = .ok (.iload_n 1, 1) := by decide +kernel
theorem dX_fare_1 : decode zc_X_fare 1 = .ok (.invokestatic 54, 3) := by decide +kernel
theorem dX_fare_4 : decode zc_X_fare 4 = .ok (.iload_n 2, 1) := by decide +kernel
theorem dX_fare_5 : decode zc_X_fare 5 = .ok (.invokestatic 75, 3) := by decide +kernel
theorem dX_fare_8 : decode zc_X_fare 8 = .ok (.iload_n 3, 1) := by decide +kernel
theorem dX_fare_9 : decode zc_X_fare 9 = .ok (.ifCond .lt 9, 3) := by decide +kernel
theorem dX_fare_12 : decode zc_X_fare 12 = .ok (.iload_n 3, 1) := by decide +kernel
theorem dX_fare_13 : decode zc_X_fare 13 = .ok (.ldc 78, 2) := by decide +kernel
theorem dX_fare_15 : decode zc_X_fare 15 = .ok (.if_icmp .le 13, 3) := by decide +kernel
theorem dX_fare_18 : decode zc_X_fare 18 = .ok (.new 79, 3) := by decide +kernel
theorem dX_fare_21 : decode zc_X_fare 21 = .ok (.dup, 1) := by decide +kernel
theorem dX_fare_22 : decode zc_X_fare 22 = .ok (.ldc 81, 2) := by decide +kernel
theorem dX_fare_24 : decode zc_X_fare 24 = .ok (.invokespecial 83, 3) := by decide +kernel
theorem dX_fare_27 : decode zc_X_fare 27 = .ok (.athrow, 1) := by decide +kernel
theorem dX_fare_28 : decode zc_X_fare 28 = .ok (.aload_n 0, 1) := by decide +kernel
theorem dX_fare_29 : decode zc_X_fare 29 = .ok (.getfield 13, 3) := by decide +kernel
theorem dX_fare_32 : decode zc_X_fare 32 = .ok (.iload_n 1, 1) := by decide +kernel
theorem dX_fare_33 : decode zc_X_fare 33 = .ok (.iload_n 2, 1) := by decide +kernel
theorem dX_fare_34 : decode zc_X_fare 34 = .ok (.invokestatic 71, 3) := by decide +kernel
theorem dX_fare_37 : decode zc_X_fare 37 = .ok (.iload_n 3, 1) := by decide +kernel
theorem dX_fare_38 : decode zc_X_fare 38 = .ok (.iastore, 1) := by decide +kernel
theorem dX_fare_39 : decode zc_X_fare 39 = .ok (.return_, 1) := by decide +kernel
theorem dX_checkLeg_0 : decode zc_X_checkLeg 0 = .ok (.iload_n 0, 1) := by decide +kernel
theorem dX_checkLeg_1 : decode zc_X_checkLeg 1 = .ok (.ifCond .lt 8, 3) := by decide +kernel
theorem dX_checkLeg_4 : decode zc_X_checkLeg 4 = .ok (.iload_n 0, 1) := by decide +kernel
theorem dX_checkLeg_5 : decode zc_X_checkLeg 5 = .ok (.iconst 4, 1) := by decide +kernel
theorem dX_checkLeg_6 : decode zc_X_checkLeg 6 = .ok (.if_icmp .lt 13, 3) := by decide +kernel
theorem dX_checkLeg_9 : decode zc_X_checkLeg 9 = .ok (.new 209, 3) := by decide +kernel
theorem dX_checkLeg_12 : decode zc_X_checkLeg 12 = .ok (.dup, 1) := by decide +kernel
theorem dX_checkLeg_13 : decode zc_X_checkLeg 13 = .ok (.ldc 216, 2) := by decide +kernel
theorem dX_checkLeg_15 : decode zc_X_checkLeg 15 = .ok (.invokespecial 213, 3) := by decide +kernel
theorem dX_checkLeg_18 : decode zc_X_checkLeg 18 = .ok (.athrow, 1) := by decide +kernel
theorem dX_checkLeg_19 : decode zc_X_checkLeg 19 = .ok (.return_, 1) := by decide +kernel
theorem dX_part_0 : decode zc_X_part 0 = .ok (.iload_n 1, 1) := by decide +kernel
theorem dX_part_1 : decode zc_X_part 1 = .ok (.invokestatic 54, 3) := by decide +kernel
theorem dX_part_4 : decode zc_X_part 4 = .ok (.iload_n 2, 1) := by decide +kernel
theorem dX_part_5 : decode zc_X_part 5 = .ok (.invokestatic 84, 3) := by decide +kernel
theorem dX_part_8 : decode zc_X_part 8 = .ok (.iload_n 3, 1) := by decide +kernel
theorem dX_part_9 : decode zc_X_part 9 = .ok (.invokestatic 84, 3) := by decide +kernel
theorem dX_part_12 : decode zc_X_part 12 = .ok (.iload_n 2, 1) := by decide +kernel
theorem dX_part_13 : decode zc_X_part 13 = .ok (.iload_n 3, 1) := by decide +kernel
theorem dX_part_14 : decode zc_X_part 14 = .ok (.if_icmp .lt 13, 3) := by decide +kernel
theorem dX_part_17 : decode zc_X_part 17 = .ok (.new 79, 3) := by decide +kernel
theorem dX_part_20 : decode zc_X_part 20 = .ok (.dup, 1) := by decide +kernel
theorem dX_part_21 : decode zc_X_part 21 = .ok (.ldc 87, 2) := by decide +kernel
theorem dX_part_23 : decode zc_X_part 23 = .ok (.invokespecial 83, 3) := by decide +kernel
theorem dX_part_26 : decode zc_X_part 26 = .ok (.athrow, 1) := by decide +kernel
theorem dX_part_27 : decode zc_X_part 27 = .ok (.aload_n 0, 1) := by decide +kernel
theorem dX_part_28 : decode zc_X_part 28 = .ok (.getfield 9, 3) := by decide +kernel
theorem dX_part_31 : decode zc_X_part 31 = .ok (.iload_n 1, 1) := by decide +kernel
theorem dX_part_32 : decode zc_X_part 32 = .ok (.baload, 1) := by decide +kernel
theorem dX_part_33 : decode zc_X_part 33 = .ok (.ifCond .ne 13, 3) := by decide +kernel
theorem dX_part_36 : decode zc_X_part 36 = .ok (.new 61, 3) := by decide +kernel
theorem dX_part_39 : decode zc_X_part 39 = .ok (.dup, 1) := by decide +kernel
theorem dX_part_40 : decode zc_X_part 40 = .ok (.ldc 89, 2) := by decide +kernel
theorem dX_part_42 : decode zc_X_part 42 = .ok (.invokespecial 65, 3) := by decide +kernel
theorem dX_part_45 : decode zc_X_part 45 = .ok (.athrow, 1) := by decide +kernel
theorem dX_part_46 : decode zc_X_part 46 = .ok (.aload_n 0, 1) := by decide +kernel
theorem dX_part_47 : decode zc_X_part 47 = .ok (.getfield 48, 3) := by decide +kernel
theorem dX_part_50 : decode zc_X_part 50 = .ok (.getfield 91, 3) := by decide +kernel
theorem dX_part_53 : decode zc_X_part 53 = .ok (.iconst 4, 1) := by decide +kernel
theorem dX_part_54 : decode zc_X_part 54 = .ok (.if_icmp .ne 13, 3) := by decide +kernel
theorem dX_part_57 : decode zc_X_part 57 = .ok (.new 61, 3) := by decide +kernel
theorem dX_part_60 : decode zc_X_part 60 = .ok (.dup, 1) := by decide +kernel
theorem dX_part_61 : decode zc_X_part 61 = .ok (.ldc 94, 2) := by decide +kernel
theorem dX_part_63 : decode zc_X_part 63 = .ok (.invokespecial 65, 3) := by decide +kernel
theorem dX_part_66 : decode zc_X_part 66 = .ok (.athrow, 1) := by decide +kernel
theorem dX_part_67 : decode zc_X_part 67 = .ok (.aload_n 0, 1) := by decide +kernel
theorem dX_part_68 : decode zc_X_part 68 = .ok (.getfield 48, 3) := by decide +kernel
theorem dX_part_71 : decode zc_X_part 71 = .ok (.iload_n 1, 1) := by decide +kernel
theorem dX_part_72 : decode zc_X_part 72 = .ok (.iload_n 2, 1) := by decide +kernel
theorem dX_part_73 : decode zc_X_part 73 = .ok (.iload_n 3, 1) := by decide +kernel
theorem dX_part_74 : decode zc_X_part 74 = .ok (.invokevirtual 96, 3) := by decide +kernel
theorem dX_part_77 : decode zc_X_part 77 = .ok (.aload_n 0, 1) := by decide +kernel
theorem dX_part_78 : decode zc_X_part 78 = .ok (.getfield 48, 3) := by decide +kernel
theorem dX_part_81 : decode zc_X_part 81 = .ok (.getfield 91, 3) := by decide +kernel
theorem dX_part_84 : decode zc_X_part 84 = .ok (.ireturn, 1) := by decide +kernel
theorem dX_checkStop_0 : decode zc_X_checkStop 0 = .ok (.iload_n 0, 1) := by decide +kernel
theorem dX_checkStop_1 : decode zc_X_checkStop 1 = .ok (.ifCond .lt 8, 3) := by decide +kernel
theorem dX_checkStop_4 : decode zc_X_checkStop 4 = .ok (.iload_n 0, 1) := by decide +kernel
theorem dX_checkStop_5 : decode zc_X_checkStop 5 = .ok (.iconst 5, 1) := by decide +kernel
theorem dX_checkStop_6 : decode zc_X_checkStop 6 = .ok (.if_icmp .lt 13, 3) := by decide +kernel
theorem dX_checkStop_9 : decode zc_X_checkStop 9 = .ok (.new 209, 3) := by decide +kernel
theorem dX_checkStop_12 : decode zc_X_checkStop 12 = .ok (.dup, 1) := by decide +kernel
theorem dX_checkStop_13 : decode zc_X_checkStop 13 = .ok (.ldc 218, 2) := by decide +kernel
theorem dX_checkStop_15 : decode zc_X_checkStop 15 = .ok (.invokespecial 213, 3) := by decide +kernel
theorem dX_checkStop_18 : decode zc_X_checkStop 18 = .ok (.athrow, 1) := by decide +kernel
theorem dX_checkStop_19 : decode zc_X_checkStop 19 = .ok (.return_, 1) := by decide +kernel
theorem dJ_addPart_0 : decode zc_J_addPart 0 = .ok (.iload_n 2, 1) := by decide +kernel
theorem dJ_addPart_1 : decode zc_J_addPart 1 = .ok (.istore 4, 2) := by decide +kernel
theorem dJ_addPart_3 : decode zc_J_addPart 3 = .ok (.iload 4, 2) := by decide +kernel
theorem dJ_addPart_5 : decode zc_J_addPart 5 = .ok (.iload_n 3, 1) := by decide +kernel
theorem dJ_addPart_6 : decode zc_J_addPart 6 = .ok (.if_icmp .ge 24, 3) := by decide +kernel
theorem dJ_addPart_9 : decode zc_J_addPart 9 = .ok (.aload_n 0, 1) := by decide +kernel
theorem dJ_addPart_10 : decode zc_J_addPart 10 = .ok (.getfield 9, 3) := by decide +kernel
theorem dJ_addPart_13 : decode zc_J_addPart 13 = .ok (.iload_n 1, 1) := by decide +kernel
theorem dJ_addPart_14 : decode zc_J_addPart 14 = .ok (.iload 4, 2) := by decide +kernel
theorem dJ_addPart_16 : decode zc_J_addPart 16 = .ok (.invokestatic 19, 3) := by decide +kernel
theorem dJ_addPart_19 : decode zc_J_addPart 19 = .ok (.dup2, 1) := by decide +kernel
theorem dJ_addPart_20 : decode zc_J_addPart 20 = .ok (.iaload, 1) := by decide +kernel
theorem dJ_addPart_21 : decode zc_J_addPart 21 = .ok (.iconst 1, 1) := by decide +kernel
theorem dJ_addPart_22 : decode zc_J_addPart 22 = .ok (.iadd, 1) := by decide +kernel
theorem dJ_addPart_23 : decode zc_J_addPart 23 = .ok (.iastore, 1) := by decide +kernel
theorem dJ_addPart_24 : decode zc_J_addPart 24 = .ok (.iinc 4 1, 3) := by decide +kernel
theorem dJ_addPart_27 : decode zc_J_addPart 27 = .ok (.goto (-24), 3) := by decide +kernel
theorem dJ_addPart_30 : decode zc_J_addPart 30 = .ok (.aload_n 0, 1) := by decide +kernel
theorem dJ_addPart_31 : decode zc_J_addPart 31 = .ok (.dup, 1) := by decide +kernel
theorem dJ_addPart_32 : decode zc_J_addPart 32 = .ok (.getfield 15, 3) := by decide +kernel
theorem dJ_addPart_35 : decode zc_J_addPart 35 = .ok (.iconst 1, 1) := by decide +kernel
theorem dJ_addPart_36 : decode zc_J_addPart 36 = .ok (.iadd, 1) := by decide +kernel
theorem dJ_addPart_37 : decode zc_J_addPart 37 = .ok (.putfield 15, 3) := by decide +kernel
theorem dJ_addPart_40 : decode zc_J_addPart 40 = .ok (.return_, 1) := by decide +kernel
theorem dX_buy_0 : decode zc_X_buy 0 = .ok (.iload_n 1, 1) := by decide +kernel
theorem dX_buy_1 : decode zc_X_buy 1 = .ok (.invokestatic 100, 3) := by decide +kernel
theorem dX_buy_4 : decode zc_X_buy 4 = .ok (.iload_n 2, 1) := by decide +kernel
theorem dX_buy_5 : decode zc_X_buy 5 = .ok (.invokestatic 58, 3) := by decide +kernel
theorem dX_buy_8 : decode zc_X_buy 8 = .ok (.aload_n 0, 1) := by decide +kernel
theorem dX_buy_9 : decode zc_X_buy 9 = .ok (.invokevirtual 103, 3) := by decide +kernel
theorem dX_buy_12 : decode zc_X_buy 12 = .ok (.aload_n 0, 1) := by decide +kernel
theorem dX_buy_13 : decode zc_X_buy 13 = .ok (.getfield 41, 3) := by decide +kernel
theorem dX_buy_16 : decode zc_X_buy 16 = .ok (.bipush 80, 2) := by decide +kernel
theorem dX_buy_18 : decode zc_X_buy 18 = .ok (.if_icmp .ne 13, 3) := by decide +kernel
theorem dX_buy_21 : decode zc_X_buy 21 = .ok (.new 61, 3) := by decide +kernel
theorem dX_buy_24 : decode zc_X_buy 24 = .ok (.dup, 1) := by decide +kernel
theorem dX_buy_25 : decode zc_X_buy 25 = .ok (.ldc 106, 2) := by decide +kernel
theorem dX_buy_27 : decode zc_X_buy 27 = .ok (.invokespecial 65, 3) := by decide +kernel
theorem dX_buy_30 : decode zc_X_buy 30 = .ok (.athrow, 1) := by decide +kernel
theorem dX_buy_31 : decode zc_X_buy 31 = .ok (.aload_n 0, 1) := by decide +kernel
theorem dX_buy_32 : decode zc_X_buy 32 = .ok (.invokevirtual 108, 3) := by decide +kernel
theorem dX_buy_35 : decode zc_X_buy 35 = .ok (.astore_n 3, 1) := by decide +kernel
theorem dX_buy_36 : decode zc_X_buy 36 = .ok (.aload_n 0, 1) := by decide +kernel
theorem dX_buy_37 : decode zc_X_buy 37 = .ok (.getfield 25, 3) := by decide +kernel
theorem dX_buy_40 : decode zc_X_buy 40 = .ok (.iload_n 1, 1) := by decide +kernel
theorem dX_buy_41 : decode zc_X_buy 41 = .ok (.aaload, 1) := by decide +kernel
theorem dX_buy_42 : decode zc_X_buy 42 = .ok (.aload_n 3, 1) := by decide +kernel
theorem dX_buy_43 : decode zc_X_buy 43 = .ok (.iload_n 2, 1) := by decide +kernel
theorem dX_buy_44 : decode zc_X_buy 44 = .ok (.invokevirtual 112, 3) := by decide +kernel
theorem dX_buy_47 : decode zc_X_buy 47 = .ok (.ifCond .eq 13, 3) := by decide +kernel
theorem dX_buy_50 : decode zc_X_buy 50 = .ok (.aload_n 0, 1) := by decide +kernel
theorem dX_buy_51 : decode zc_X_buy 51 = .ok (.iload_n 1, 1) := by decide +kernel
theorem dX_buy_52 : decode zc_X_buy 52 = .ok (.aload_n 3, 1) := by decide +kernel
theorem dX_buy_53 : decode zc_X_buy 53 = .ok (.iload_n 2, 1) := by decide +kernel
theorem dX_buy_54 : decode zc_X_buy 54 = .ok (.invokevirtual 116, 3) := by decide +kernel
theorem dX_buy_57 : decode zc_X_buy 57 = .ok (.goto 4, 3) := by decide +kernel
