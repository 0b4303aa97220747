theorem dX_cancel_74 : decode zc_X_cancel 74 = .ok (.getfield 142, 3) := by decide +kernel
theorem dX_cancel_77 : decode zc_X_cancel 77 = .ok (.invokevirtual 129, 3) := by decide +kernel
theorem dX_cancel_80 : decode zc_X_cancel 80 = .ok (.ireturn, 1) := by decide +kernel
theorem dX_checkTicket_0 : decode zc_X_checkTicket 0 = .ok (.iload_n 1, 1) := by decide +kernel
theorem dX_checkTicket_1 : decode zc_X_checkTicket 1 = .ok (.ifCond .lt 11, 3) := by decide +kernel
theorem dX_checkTicket_4 : decode zc_X_checkTicket 4 = .ok (.iload_n 1, 1) := by decide +kernel
theorem dX_checkTicket_5 : decode zc_X_checkTicket 5 = .ok (.aload_n 0, 1) := by decide +kernel
theorem dX_checkTicket_6 : decode zc_X_checkTicket 6 = .ok (.getfield 41, 3) := by decide +kernel
theorem dX_checkTicket_9 : decode zc_X_checkTicket 9 = .ok (.if_icmp .lt 13, 3) := by decide +kernel
theorem dX_checkTicket_12 : decode zc_X_checkTicket 12 = .ok (.new 209, 3) := by decide +kernel
theorem dX_checkTicket_15 : decode zc_X_checkTicket 15 = .ok (.dup, 1) := by decide +kernel
theorem dX_checkTicket_16 : decode zc_X_checkTicket 16 = .ok (.ldc 220, 2) := by decide +kernel
theorem dX_checkTicket_18 : decode zc_X_checkTicket 18 = .ok (.invokespecial 213, 3) := by decide +kernel
theorem dX_checkTicket_21 : decode zc_X_checkTicket 21 = .ok (.athrow, 1) := by decide +kernel
theorem dX_checkTicket_22 : decode zc_X_checkTicket 22 = .ok (.return_, 1) := by decide +kernel
theorem dX_ticket_0 : decode zc_X_ticket 0 = .ok (.aload_n 0, 1) := by decide +kernel
theorem dX_ticket_1 : decode zc_X_ticket 1 = .ok (.iload_n 1, 1) := by decide +kernel
theorem dX_ticket_2 : decode zc_X_ticket 2 = .ok (.invokevirtual 133, 3) := by decide +kernel
theorem dX_ticket_5 : decode zc_X_ticket 5 = .ok (.aload_n 0, 1) := by decide +kernel
theorem dX_ticket_6 : decode zc_X_ticket 6 = .ok (.getfield 37, 3) := by decide +kernel
theorem dX_ticket_9 : decode zc_X_ticket 9 = .ok (.iload_n 1, 1) := by decide +kernel
theorem dX_ticket_10 : decode zc_X_ticket 10 = .ok (.aaload, 1) := by decide +kernel
theorem dX_ticket_11 : decode zc_X_ticket 11 = .ok (.astore_n 3, 1) := by decide +kernel
theorem dX_ticket_12 : decode zc_X_ticket 12 = .ok (.iload_n 2, 1) := by decide +kernel
theorem dX_ticket_13 : decode zc_X_ticket 13 = .ok (.tableswitch 62 0 3 #[31, 36, 41, 49], 31) := by decide +kernel
theorem dX_ticket_44 : decode zc_X_ticket 44 = .ok (.aload_n 3, 1) := by decide +kernel
theorem dX_ticket_45 : decode zc_X_ticket 45 = .ok (.getfield 142, 3) := by decide +kernel
theorem dX_ticket_48 : decode zc_X_ticket 48 = .ok (.ireturn, 1) := by decide +kernel
theorem dX_ticket_49 : decode zc_X_ticket 49 = .ok (.aload_n 3, 1) := by decide +kernel
theorem dX_ticket_50 : decode zc_X_ticket 50 = .ok (.getfield 148, 3) := by decide +kernel
theorem dX_ticket_53 : decode zc_X_ticket 53 = .ok (.ireturn, 1) := by decide +kernel
theorem dX_ticket_54 : decode zc_X_ticket 54 = .ok (.aload_n 3, 1) := by decide +kernel
theorem dX_ticket_55 : decode zc_X_ticket 55 = .ok (.getfield 145, 3) := by decide +kernel
theorem dX_ticket_58 : decode zc_X_ticket 58 = .ok (.getfield 91, 3) := by decide +kernel
theorem dX_ticket_61 : decode zc_X_ticket 61 = .ok (.ireturn, 1) := by decide +kernel
theorem dX_ticket_62 : decode zc_X_ticket 62 = .ok (.aload_n 3, 1) := by decide +kernel
theorem dX_ticket_63 : decode zc_X_ticket 63 = .ok (.getfield 136, 3) := by decide +kernel
theorem dX_ticket_66 : decode zc_X_ticket 66 = .ok (.ifCond .eq 7, 3) := by decide +kernel
theorem dX_ticket_69 : decode zc_X_ticket 69 = .ok (.iconst 0, 1) := by decide +kernel
theorem dX_ticket_70 : decode zc_X_ticket 70 = .ok (.goto 4, 3) := by decide +kernel
theorem dX_ticket_73 : decode zc_X_ticket 73 = .ok (.iconst 1, 1) := by decide +kernel
theorem dX_ticket_74 : decode zc_X_ticket 74 = .ok (.ireturn, 1) := by decide +kernel
theorem dX_ticket_75 : decode zc_X_ticket 75 = .ok (.new 79, 3) := by decide +kernel
theorem dX_ticket_78 : decode zc_X_ticket 78 = .ok (.dup, 1) := by decide +kernel
theorem dX_ticket_79 : decode zc_X_ticket 79 = .ok (.ldc 162, 2) := by decide +kernel
theorem dX_ticket_81 : decode zc_X_ticket 81 = .ok (.invokespecial 83, 3) := by decide +kernel
theorem dX_ticket_84 : decode zc_X_ticket 84 = .ok (.athrow, 1) := by decide +kernel
theorem dX_price_0 : decode zc_X_price 0 = .ok (.aload_n 0, 1) := by decide +kernel
theorem dX_price_1 : decode zc_X_price 1 = .ok (.iload_n 1, 1) := by decide +kernel
theorem dX_price_2 : decode zc_X_price 2 = .ok (.invokevirtual 133, 3) := by decide +kernel
theorem dX_price_5 : decode zc_X_price 5 = .ok (.aload_n 0, 1) := by decide +kernel
theorem dX_price_6 : decode zc_X_price 6 = .ok (.getfield 37, 3) := by decide +kernel
theorem dX_price_9 : decode zc_X_price 9 = .ok (.iload_n 1, 1) := by decide +kernel
theorem dX_price_10 : decode zc_X_price 10 = .ok (.aaload, 1) := by decide +kernel
theorem dX_price_11 : decode zc_X_price 11 = .ok (.getfield 159, 3) := by decide +kernel
theorem dX_price_14 : decode zc_X_price 14 = .ok (.lreturn, 1) := by decide +kernel
theorem dX_hand_0 : decode zc_X_hand 0 = .ok (.iload_n 1, 1) := by decide +kernel
theorem dX_hand_1 : decode zc_X_hand 1 = .ok (.invokestatic 100, 3) := by decide +kernel
theorem dX_hand_4 : decode zc_X_hand 4 = .ok (.iload_n 2, 1) := by decide +kernel
theorem dX_hand_5 : decode zc_X_hand 5 = .ok (.invokestatic 100, 3) := by decide +kernel
theorem dX_hand_8 : decode zc_X_hand 8 = .ok (.iload_n 3, 1) := by decide +kernel
theorem dX_hand_9 : decode zc_X_hand 9 = .ok (.invokestatic 54, 3) := by decide +kernel
theorem dX_hand_12 : decode zc_X_hand 12 = .ok (.iload 4, 2) := by decide +kernel
theorem dX_hand_14 : decode zc_X_hand 14 = .ok (.invokestatic 75, 3) := by decide +kernel
theorem dX_hand_17 : decode zc_X_hand 17 = .ok (.iload_n 1, 1) := by decide +kernel
theorem dX_hand_18 : decode zc_X_hand 18 = .ok (.iload_n 2, 1) := by decide +kernel
theorem dX_hand_19 : decode zc_X_hand 19 = .ok (.invokestatic 164, 3) := by decide +kernel
theorem dX_hand_22 : decode zc_X_hand 22 = .ok (.iload 5, 2) := by decide +kernel
theorem dX_hand_24 : decode zc_X_hand 24 = .ok (.invokestatic 58, 3) := by decide +kernel
theorem dX_hand_27 : decode zc_X_hand 27 = .ok (.aload_n 0, 1) := by decide +kernel
theorem dX_hand_28 : decode zc_X_hand 28 = .ok (.iload_n 1, 1) := by decide +kernel
theorem dX_hand_29 : decode zc_X_hand 29 = .ok (.iload_n 2, 1) := by decide +kernel
theorem dX_hand_30 : decode zc_X_hand 30 = .ok (.invokevirtual 168, 3) := by decide +kernel
theorem dX_hand_33 : decode zc_X_hand 33 = .ok (.invokevirtual 172, 3) := by decide +kernel
theorem dX_hand_36 : decode zc_X_hand 36 = .ok (.ifCond .eq 13, 3) := by decide +kernel
theorem dX_hand_39 : decode zc_X_hand 39 = .ok (.new 61, 3) := by decide +kernel
theorem dX_hand_42 : decode zc_X_hand 42 = .ok (.dup, 1) := by decide +kernel
theorem dX_hand_43 : decode zc_X_hand 43 = .ok (.ldc 176, 2) := by decide +kernel
theorem dX_hand_45 : decode zc_X_hand 45 = .ok (.invokespecial 65, 3) := by decide +kernel
theorem dX_hand_48 : decode zc_X_hand 48 = .ok (.athrow, 1) := by decide +kernel
theorem dX_hand_49 : decode zc_X_hand 49 = .ok (.iload_n 3, 1) := by decide +kernel
theorem dX_hand_50 : decode zc_X_hand 50 = .ok (.iload 4, 2) := by decide +kernel
theorem dX_hand_52 : decode zc_X_hand 52 = .ok (.invokestatic 71, 3) := by decide +kernel
theorem dX_hand_55 : decode zc_X_hand 55 = .ok (.istore 6, 2) := by decide +kernel
theorem dX_hand_57 : decode zc_X_hand 57 = .ok (.aload_n 0, 1) := by decide +kernel
theorem dX_hand_58 : decode zc_X_hand 58 = .ok (.getfield 25, 3) := by decide +kernel
theorem dX_hand_61 : decode zc_X_hand 61 = .ok (.iload_n 1, 1) := by decide +kernel
theorem dX_hand_62 : decode zc_X_hand 62 = .ok (.aaload, 1) := by decide +kernel
theorem dX_hand_63 : decode zc_X_hand 63 = .ok (.getfield 68, 3) := by decide +kernel
theorem dX_hand_66 : decode zc_X_hand 66 = .ok (.iload 6, 2) := by decide +kernel
theorem dX_hand_68 : decode zc_X_hand 68 = .ok (.iaload, 1) := by decide +kernel
theorem dX_hand_69 : decode zc_X_hand 69 = .ok (.iload 5, 2) := by decide +kernel
theorem dX_hand_71 : decode zc_X_hand 71 = .ok (.if_icmp .ge 7, 3) := by decide +kernel
theorem dX_hand_74 : decode zc_X_hand 74 = .ok (.iconst (-1), 1) := by decide +kernel
theorem dX_hand_75 : decode zc_X_hand 75 = .ok (.goto 13, 3) := by decide +kernel
theorem dX_hand_78 : decode zc_X_hand 78 = .ok (.aload_n 0, 1) := by decide +kernel
theorem dX_hand_79 : decode zc_X_hand 79 = .ok (.iload_n 1, 1) := by decide +kernel
theorem dX_hand_80 : decode zc_X_hand 80 = .ok (.iload_n 2, 1) := by decide +kernel
theorem dX_hand_81 : decode zc_X_hand 81 = .ok (.iload 6, 2) := by decide +kernel
theorem dX_hand_83 : decode zc_X_hand 83 = .ok (.iload 5, 2) := by decide +kernel
theorem dX_hand_85 : decode zc_X_hand 85 = .ok (.invokevirtual 178, 3) := by decide +kernel
theorem dX_hand_88 : decode zc_X_hand 88 = .ok (.ireturn, 1) := by decide +kernel
theorem dX_checkDifferent_0 : decode zc_X_checkDifferent 0 = .ok (.iload_n 0, 1) := by decide +kernel
theorem dX_checkDifferent_1 : decode zc_X_checkDifferent 1 = .ok (.iload_n 1, 1) := by decide +kernel
theorem dX_checkDifferent_2 : decode zc_X_checkDifferent 2 = .ok (.if_icmp .ne 13, 3) := by decide +kernel
theorem dX_checkDifferent_5 : decode zc_X_checkDifferent 5 = .ok (.new 79, 3) := by decide +kernel
theorem dX_checkDifferent_8 : decode zc_X_checkDifferent 8 = .ok (.dup, 1) := by decide +kernel
theorem dX_checkDifferent_9 : decode zc_X_checkDifferent 9 = .ok (.ldc 222, 2) := by decide +kernel
theorem dX_checkDifferent_11 : decode zc_X_checkDifferent 11 = .ok (.invokespecial 83, 3) := by decide +kernel
theorem dX_checkDifferent_14 : decode zc_X_checkDifferent 14 = .ok (.athrow, 1) := by decide +kernel
theorem dX_checkDifferent_15 : decode zc_X_checkDifferent 15 = .ok (.return_, 1) := by decide +kernel
theorem dX_laneOf_0 : decode zc_X_laneOf 0 = .ok (.aload_n 0, 1) := by decide +kernel
theorem dX_laneOf_1 : decode zc_X_laneOf 1 = .ok (.getfield 31, 3) := by decide +kernel
theorem dX_laneOf_4 : decode zc_X_laneOf 4 = .ok (.iload_n 1, 1) := by decide +kernel
theorem dX_laneOf_5 : decode zc_X_laneOf 5 = .ok (.iconst 4, 1) := by decide +kernel
theorem dX_laneOf_6 : decode zc_X_laneOf 6 = .ok (.imul, 1) := by decide +kernel
theorem dX_laneOf_7 : decode zc_X_laneOf 7 = .ok (.iload_n 2, 1) := by decide +kernel
theorem dX_laneOf_8 : decode zc_X_laneOf 8 = .ok (.iadd, 1) := by decide +kernel
theorem dX_laneOf_9 : decode zc_X_laneOf 9 = .ok (.aaload, 1) := by decide +kernel
theorem dX_laneOf_10 : decode zc_X_laneOf 10 = .ok (.areturn, 1) := by decide +kernel
theorem dN_isFull_0 : decode zc_N_isFull 0 = .ok (.aload_n 0, 1) := by decide +kernel
theorem dN_isFull_1 : decode zc_N_isFull 1 = .ok (.getfield 22, 3) := by decide +kernel
theorem dN_isFull_4 : decode zc_N_isFull 4 = .ok (.bipush 8, 2) := by decide +kernel
theorem dN_isFull_6 : decode zc_N_isFull 6 = .ok (.if_icmp .ne 7, 3) := by decide +kernel
theorem dN_isFull_9 : decode zc_N_isFull 9 = .ok (.iconst 1, 1) := by decide +kernel
theorem dN_isFull_10 : decode zc_N_isFull 10 = .ok (.goto 4, 3) := by decide +kernel
theorem dN_isFull_13 : decode zc_N_isFull 13 = .ok (.iconst 0, 1) := by decide +kernel
theorem dN_isFull_14 : decode zc_N_isFull 14 = .ok (.ireturn, 1) := by decide +kernel
theorem dX_putInOutbox_0 : decode zc_X_putInOutbox 0 = .ok (.aload_n 0, 1) := by decide +kernel
theorem dX_putInOutbox_1 : decode zc_X_putInOutbox 1 = .ok (.getfield 25, 3) := by decide +kernel
theorem dX_putInOutbox_4 : decode zc_X_putInOutbox 4 = .ok (.iload_n 1, 1) := by decide +kernel
theorem dX_putInOutbox_5 : decode zc_X_putInOutbox 5 = .ok (.aaload, 1) := by decide +kernel
theorem dX_putInOutbox_6 : decode zc_X_putInOutbox 6 = .ok (.getfield 68, 3) := by decide +kernel
theorem dX_putInOutbox_9 : decode zc_X_putInOutbox 9 = .ok (.iload_n 3, 1) := by decide +kernel
theorem dX_putInOutbox_10 : decode zc_X_putInOutbox 10 = .ok (.dup2, 1) := by decide +kernel
theorem dX_putInOutbox_11 : decode zc_X_putInOutbox 11 = .ok (.iaload, 1) := by decide +kernel
theorem dX_putInOutbox_12 : decode zc_X_putInOutbox 12 = .ok (.iload 4, 2) := by decide +kernel
theorem dX_putInOutbox_14 : decode zc_X_putInOutbox 14 = .ok (.isub, 1) := by decide +kernel
theorem dX_putInOutbox_15 : decode zc_X_putInOutbox 15 = .ok (.iastore, 1) := by decide +kernel
theorem dX_putInOutbox_16 : decode zc_X_putInOutbox 16 = .ok (.aload_n 0, 1) := by decide +kernel
theorem dX_putInOutbox_17 : decode zc_X_putInOutbox 17 = .ok (.getfield 20, 3) := by decide +kernel
theorem dX_putInOutbox_20 : decode zc_X_putInOutbox 20 = .ok (.iload_n 3, 1) := by decide +kernel
theorem dX_putInOutbox_21 : decode zc_X_putInOutbox 21 = .ok (.dup2, 1) := by decide +kernel
theorem dX_putInOutbox_22 : decode zc_X_putInOutbox 22 = .ok (.iaload, 1) := by decide +kernel
theorem dX_putInOutbox_23 : decode zc_X_putInOutbox 23 = .ok (.iload 4, 2) := by decide +kernel
theorem dX_putInOutbox_25 : decode zc_X_putInOutbox 25 = .ok (.iadd, 1) := by decide +kernel
theorem dX_putInOutbox_26 : decode zc_X_putInOutbox 26 = .ok (.iastore, 1) := by decide +kernel
theorem dX_putInOutbox_27 : decode zc_X_putInOutbox 27 = .ok (.aload_n 0, 1) := by decide +kernel
theorem dX_putInOutbox_28 : decode zc_X_putInOutbox 28 = .ok (.iload_n 1, 1) := by decide +kernel
theorem dX_putInOutbox_29 : decode zc_X_putInOutbox 29 = .ok (.iload_n 2, 1) := by decide +kernel
theorem dX_putInOutbox_30 : decode zc_X_putInOutbox 30 = .ok (.invokevirtual 168, 3) := by decide +kernel
theorem dX_putInOutbox_33 : decode zc_X_putInOutbox 33 = .ok (.iload_n 3, 1) := by decide +kernel
theorem dX_putInOutbox_34 : decode zc_X_putInOutbox 34 = .ok (.iload 4, 2) := by decide +kernel
theorem dX_putInOutbox_36 : decode zc_X_putInOutbox 36 = .ok (.invokevirtual 246, 3) := by decide +kernel
theorem dX_putInOutbox_39 : decode zc_X_putInOutbox 39 = .ok (.ireturn, 1) := by decide +kernel
theorem dN_add_0 : decode zc_N_add 0 = .ok (.aload_n 0, 1) := by decide +kernel
theorem dN_add_1 : decode zc_N_add 1 = .ok (.dup, 1) := by decide +kernel
theorem dN_add_2 : decode zc_N_add 2 = .ok (.getfield 22, 3) := by decide +kernel
theorem dN_add_5 : decode zc_N_add 5 = .ok (.iconst 1, 1) := by decide +kernel
theorem dN_add_6 : decode zc_N_add 6 = .ok (.iadd, 1) := by decide +kernel
theorem dN_add_7 : decode zc_N_add 7 = .ok (.putfield 22, 3) := by decide +kernel
theorem dN_add_10 : decode zc_N_add 10 = .ok (.aload_n 0, 1) := by decide +kernel
theorem dN_add_11 : decode zc_N_add 11 = .ok (.getfield 18, 3) := by decide +kernel
theorem dN_add_14 : decode zc_N_add 14 = .ok (.aload_n 0, 1) := by decide +kernel
theorem dN_add_15 : decode zc_N_add 15 = .ok (.getfield 22, 3) := by decide +kernel
theorem dN_add_18 : decode zc_N_add 18 = .ok (.iadd, 1) := by decide +kernel
theorem dN_add_19 : decode zc_N_add 19 = .ok (.istore_n 3, 1) := by decide +kernel
theorem dN_add_20 : decode zc_N_add 20 = .ok (.aload_n 0, 1) := by decide +kernel
theorem dN_add_21 : decode zc_N_add 21 = .ok (.getfield 9, 3) := by decide +kernel
theorem dN_add_24 : decode zc_N_add 24 = .ok (.iload_n 3, 1) := by decide +kernel
theorem dN_add_25 : decode zc_N_add 25 = .ok (.invokestatic 40, 3) := by decide +kernel
theorem dN_add_28 : decode zc_N_add 28 = .ok (.iload_n 1, 1) := by decide +kernel
theorem dN_add_29 : decode zc_N_add 29 = .ok (.iastore, 1) := by decide +kernel
theorem dN_add_30 : decode zc_N_add 30 = .ok (.aload_n 0, 1) := by decide +kernel
theorem dN_add_31 : decode zc_N_add 31 = .ok (.getfield 15, 3) := by decide +kernel
theorem dN_add_34 : decode zc_N_add 34 = .ok (.iload_n 3, 1) := by decide +kernel
theorem dN_add_35 : decode zc_N_add 35 = .ok (.invokestatic 40, 3) := by decide +kernel
theorem dN_add_38 : decode zc_N_add 38 = .ok (.iload_n 2, 1) := by decide +kernel
theorem dN_add_39 : decode zc_N_add 39 = .ok (.iastore, 1) := by decide +kernel
theorem dN_add_40 : decode zc_N_add 40 = .ok (.iload_n 3, 1) := by decide +kernel
theorem dN_add_41 : decode zc_N_add 41 = .ok (.ireturn, 1) := by decide +kernel
theorem dN_cellOf_0 : decode zc_N_cellOf 0 = .ok (.iload_n 0, 1) := by decide +kernel
theorem dN_cellOf_1 : decode zc_N_cellOf 1 = .ok (.bipush 8, 2) := by decide +kernel
theorem dN_cellOf_3 : decode zc_N_cellOf 3 = .ok (.invokestatic 34, 3) := by decide +kernel
theorem dN_cellOf_6 : decode zc_N_cellOf 6 = .ok (.ireturn, 1) := by decide +kernel
theorem dX_share_0 : decode zc_X_share 0 = .ok (.iload_n 1, 1) := by decide +kernel
theorem dX_share_1 : decode zc_X_share 1 = .ok (.invokestatic 100, 3) := by decide +kernel
theorem dX_share_4 : decode zc_X_share 4 = .ok (.iload_n 2, 1) := by decide +kernel
theorem dX_share_5 : decode zc_X_share 5 = .ok (.invokestatic 100, 3) := by decide +kernel
theorem dX_share_8 : decode zc_X_share 8 = .ok (.iload_n 3, 1) := by decide +kernel
theorem dX_share_9 : decode zc_X_share 9 = .ok (.invokestatic 54, 3) := by decide +kernel
theorem dX_share_12 : decode zc_X_share 12 = .ok (.iload_n 1, 1) := by decide +kernel
theorem dX_share_13 : decode zc_X_share 13 = .ok (.iload_n 2, 1) := by decide +kernel
theorem dX_share_14 : decode zc_X_share 14 = .ok (.invokestatic 164, 3) := by decide +kernel
theorem dX_share_17 : decode zc_X_share 17 = .ok (.iconst 0, 1) := by decide +kernel
theorem dX_share_18 : decode zc_X_share 18 = .ok (.istore 4, 2) := by decide +kernel
theorem dX_share_20 : decode zc_X_share 20 = .ok (.iconst 0, 1) := by decide +kernel
theorem dX_share_21 : decode zc_X_share 21 = .ok (.istore 5, 2) := by decide +kernel
theorem dX_share_23 : decode zc_X_share 23 = .ok (.iload 5, 2) := by decide +kernel
theorem dX_share_25 : decode zc_X_share 25 = .ok (.iconst 4, 1) := by decide +kernel
theorem dX_share_26 : decode zc_X_share 26 = .ok (.if_icmp .ge 77, 3) := by decide +kernel
theorem dX_share_29 : decode zc_X_share 29 = .ok (.iload_n 3, 1) := by decide +kernel
theorem dX_share_30 : decode zc_X_share 30 = .ok (.iload 5, 2) := by decide +kernel
theorem dX_share_32 : decode zc_X_share 32 = .ok (.invokestatic 71, 3) := by decide +kernel
theorem dX_share_35 : decode zc_X_share 35 = .ok (.istore 6, 2) := by decide +kernel
theorem dX_share_37 : decode zc_X_share 37 = .ok (.aload_n 0, 1) := by decide +kernel
theorem dX_share_38 : decode zc_X_share 38 = .ok (.getfield 25, 3) := by decide +kernel
theorem dX_share_41 : decode zc_X_share 41 = .ok (.iload_n 1, 1) := by decide +kernel
theorem dX_share_42 : decode zc_X_share 42 = .ok (.aaload, 1) := by decide +kernel
theorem dX_share_43 : decode zc_X_share 43 = .ok (.getfield 68, 3) := by decide +kernel
theorem dX_share_46 : decode zc_X_share 46 = .ok (.iload 6, 2) := by decide +kernel
theorem dX_share_48 : decode zc_X_share 48 = .ok (.iaload, 1) := by decide +kernel
theorem dX_share_49 : decode zc_X_share 49 = .ok (.aload_n 0, 1) := by decide +kernel
theorem dX_share_50 : decode zc_X_share 50 = .ok (.getfield 25, 3) := by decide +kernel
theorem dX_share_53 : decode zc_X_share 53 = .ok (.iload_n 2, 1) := by decide +kernel
theorem dX_share_54 : decode zc_X_share 54 = .ok (.aaload, 1) := by decide +kernel
theorem dX_share_55 : decode zc_X_share 55 = .ok (.getfield 68, 3) := by decide +kernel
theorem dX_share_58 : decode zc_X_share 58 = .ok (.iload 6, 2) := by decide +kernel
theorem dX_share_60 : decode zc_X_share 60 = .ok (.iaload, 1) := by decide +kernel
theorem dX_share_61 : decode zc_X_share 61 = .ok (.isub, 1) := by decide +kernel
theorem dX_share_62 : decode zc_X_share 62 = .ok (.iconst 2, 1) := by decide +kernel
theorem dX_share_63 : decode zc_X_share 63 = .ok (.idiv, 1) := by decide +kernel
theorem dX_share_64 : decode zc_X_share 64 = .ok (.istore 7, 2) := by decide +kernel
theorem dX_share_66 : decode zc_X_share 66 = .ok (.iload 7, 2) := by decide +kernel
theorem dX_share_68 : decode zc_X_share 68 = .ok (.ifCond .le 29, 3) := by decide +kernel
theorem dX_share_71 : decode zc_X_share 71 = .ok (.aload_n 0, 1) := by decide +kernel
theorem dX_share_72 : decode zc_X_share 72 = .ok (.iload_n 1, 1) := by decide +kernel
theorem dX_share_73 : decode zc_X_share 73 = .ok (.iload_n 2, 1) := by decide +kernel
theorem dX_share_74 : decode zc_X_share 74 = .ok (.invokevirtual 168, 3) := by decide +kernel
theorem dX_share_77 : decode zc_X_share 77 = .ok (.invokevirtual 172, 3) := by decide +kernel
theorem dX_share_80 : decode zc_X_share 80 = .ok (.ifCond .ne 17, 3) := by decide +kernel
theorem dX_share_83 : decode zc_X_share 83 = .ok (.aload_n 0, 1) := by decide +kernel
theorem dX_share_84 : decode zc_X_share 84 = .ok (.iload_n 1, 1) := by decide +kernel
theorem dX_share_85 : decode zc_X_share 85 = .ok (.iload_n 2, 1) := by decide +kernel
theorem dX_share_86 : decode zc_X_share 86 = .ok (.iload 6, 2) := by decide +kernel
theorem dX_share_88 : decode zc_X_share 88 = .ok (.iload 7, 2) := by decide +kernel
theorem dX_share_90 : decode zc_X_share 90 = .ok (.invokevirtual 178, 3) := by decide +kernel
theorem dX_share_93 : decode zc_X_share 93 = .ok (.pop, 1) := by decide +kernel
theorem dX_share_94 : decode zc_X_share 94 = .ok (.iinc 4 1, 3) := by decide +kernel
theorem dX_share_97 : decode zc_X_share 97 = .ok (.iinc 5 1, 3) := by decide +kernel
theorem dX_share_100 : decode zc_X_share 100 = .ok (.goto (-77), 3) := by decide +kernel
theorem dX_share_103 : decode zc_X_share 103 = .ok (.iload 4, 2) := by decide +kernel
theorem dX_share_105 : decode zc_X_share 105 = .ok (.ireturn, 1) := by decide +kernel
theorem dX_send_0 : decode zc_X_send 0 = .ok (.iload_n 1, 1) := by decide +kernel
theorem dX_send_1 : decode zc_X_send 1 = .ok (.iload_n 2, 1) := by decide +kernel
theorem dX_send_2 : decode zc_X_send 2 = .ok (.invokestatic 182, 3) := by decide +kernel
theorem dX_send_5 : decode zc_X_send 5 = .ok (.aload_n 0, 1) := by decide +kernel
theorem dX_send_6 : decode zc_X_send 6 = .ok (.iload_n 1, 1) := by decide +kernel
theorem dX_send_7 : decode zc_X_send 7 = .ok (.iload_n 2, 1) := by decide +kernel
theorem dX_send_8 : decode zc_X_send 8 = .ok (.invokevirtual 168, 3) := by decide +kernel
theorem dX_send_11 : decode zc_X_send 11 = .ok (.astore_n 3, 1) := by decide +kernel
theorem dX_send_12 : decode zc_X_send 12 = .ok (.aload_n 3, 1) := by decide +kernel
theorem dX_send_13 : decode zc_X_send 13 = .ok (.getfield 185, 3) := by decide +kernel
theorem dX_send_16 : decode zc_X_send 16 = .ok (.ifCond .ne 5, 3) := by decide +kernel
theorem dX_send_19 : decode zc_X_send 19 = .ok (.iconst 0, 1) := by decide +kernel
theorem dX_send_20 : decode zc_X_send 20 = .ok (.ireturn, 1) := by decide +kernel
theorem dX_send_21 : decode zc_X_send 21 = .ok (.aload_n 3, 1) := by decide +kernel
theorem dX_send_22 : decode zc_X_send 22 = .ok (.aload_n 3, 1) := by decide +kernel
theorem dX_send_23 : decode zc_X_send 23 = .ok (.getfield 186, 3) := by decide +kernel
theorem dX_send_26 : decode zc_X_send 26 = .ok (.iconst 1, 1) := by decide +kernel
theorem dX_send_27 : decode zc_X_send 27 = .ok (.iadd, 1) := by decide +kernel
theorem dX_send_28 : decode zc_X_send 28 = .ok (.putfield 189, 3) := by decide +kernel
theorem dX_send_31 : decode zc_X_send 31 = .ok (.aload_n 3, 1) := by decide +kernel
theorem dX_send_32 : decode zc_X_send 32 = .ok (.getfield 189, 3) := by decide +kernel
theorem dX_send_35 : decode zc_X_send 35 = .ok (.ireturn, 1) := by decide +kernel
theorem dX_checkTwoPorts_0 : decode zc_X_checkTwoPorts 0 = .ok (.iload_n 0, 1) := by decide +kernel
theorem dX_checkTwoPorts_1 : decode zc_X_checkTwoPorts 1 = .ok (.invokestatic 100, 3) := by decide +kernel
theorem dX_checkTwoPorts_4 : decode zc_X_checkTwoPorts 4 = .ok (.iload_n 1, 1) := by decide +kernel
theorem dX_checkTwoPorts_5 : decode zc_X_checkTwoPorts 5 = .ok (.invokestatic 100, 3) := by decide +kernel
theorem dX_checkTwoPorts_8 : decode zc_X_checkTwoPorts 8 = .ok (.iload_n 0, 1) := by decide +kernel
theorem dX_checkTwoPorts_9 : decode zc_X_checkTwoPorts 9 = .ok (.iload_n 1, 1) := by decide +kernel
theorem dX_checkTwoPorts_10 : decode zc_X_checkTwoPorts 10 = .ok (.invokestatic 164, 3) := by decide +kernel
theorem dX_checkTwoPorts_13 : decode zc_X_checkTwoPorts 13 = .ok (.return_, 1) := by decide +kernel
theorem dX_arrive_0 : decode zc_X_arrive 0 = .ok (.iload_n 1, 1) := by decide +kernel
theorem dX_arrive_1 : decode zc_X_arrive 1 = .ok (.iload_n 2, 1) := by decide +kernel
theorem dX_arrive_2 : decode zc_X_arrive 2 = .ok (.invokestatic 182, 3) := by decide +kernel
theorem dX_arrive_5 : decode zc_X_arrive 5 = .ok (.aload_n 0, 1) := by decide +kernel
theorem dX_arrive_6 : decode zc_X_arrive 6 = .ok (.iload_n 1, 1) := by decide +kernel
theorem dX_arrive_7 : decode zc_X_arrive 7 = .ok (.iload_n 2, 1) := by decide +kernel
theorem dX_arrive_8 : decode zc_X_arrive 8 = .ok (.invokevirtual 168, 3) := by decide +kernel
theorem dX_arrive_11 : decode zc_X_arrive 11 = .ok (.astore_n 3, 1) := by decide +kernel
theorem dX_arrive_12 : decode zc_X_arrive 12 = .ok (.aload_n 3, 1) := by decide +kernel
theorem dX_arrive_13 : decode zc_X_arrive 13 = .ok (.getfield 189, 3) := by decide +kernel
theorem dX_arrive_16 : decode zc_X_arrive 16 = .ok (.ifCond .ne 5, 3) := by decide +kernel
theorem dX_arrive_19 : decode zc_X_arrive 19 = .ok (.iconst (-1), 1) := by decide +kernel
theorem dX_arrive_20 : decode zc_X_arrive 20 = .ok (.ireturn, 1) := by decide +kernel
theorem dX_arrive_21 : decode zc_X_arrive 21 = .ok (.aload_n 3, 1) := by decide +kernel
theorem dX_arrive_22 : decode zc_X_arrive 22 = .ok (.getfield 189, 3) := by decide +kernel
theorem dX_arrive_25 : decode zc_X_arrive 25 = .ok (.aload_n 3, 1) := by decide +kernel
theorem dX_arrive_26 : decode zc_X_arrive 26 = .ok (.getfield 192, 3) := by decide +kernel
theorem dX_arrive_29 : decode zc_X_arrive 29 = .ok (.iconst 1, 1) := by decide +kernel
theorem dX_arrive_30 : decode zc_X_arrive 30 = .ok (.iadd, 1) := by decide +kernel
theorem dX_arrive_31 : decode zc_X_arrive 31 = .ok (.if_icmp .ne 7, 3) := by decide +kernel
theorem dX_arrive_34 : decode zc_X_arrive 34 = .ok (.iconst 1, 1) := by decide +kernel
theorem dX_arrive_35 : decode zc_X_arrive 35 = .ok (.goto 4, 3) := by decide +kernel
theorem dX_arrive_38 : decode zc_X_arrive 38 = .ok (.iconst 0, 1) := by decide +kernel
theorem dX_arrive_39 : decode zc_X_arrive 39 = .ok (.istore 4, 2) := by decide +kernel
theorem dX_arrive_41 : decode zc_X_arrive 41 = .ok (.aload_n 3, 1) := by decide +kernel
theorem dX_arrive_42 : decode zc_X_arrive 42 = .ok (.iconst 0, 1) := by decide +kernel
theorem dX_arrive_43 : decode zc_X_arrive 43 = .ok (.putfield 189, 3) := by decide +kernel
theorem dX_arrive_46 : decode zc_X_arrive 46 = .ok (.iload 4, 2) := by decide +kernel
theorem dX_arrive_48 : decode zc_X_arrive 48 = .ok (.ifCond .eq 12, 3) := by decide +kernel
theorem dX_arrive_51 : decode zc_X_arrive 51 = .ok (.aload_n 0, 1) := by decide +kernel
theorem dX_arrive_52 : decode zc_X_arrive 52 = .ok (.aload_n 3, 1) := by decide +kernel
theorem dX_arrive_53 : decode zc_X_arrive 53 = .ok (.iload_n 2, 1) := by decide +kernel
theorem dX_arrive_54 : decode zc_X_arrive 54 = .ok (.invokevirtual 195, 3) := by decide +kernel
theorem dX_arrive_57 : decode zc_X_arrive 57 = .ok (.goto 4, 3) := by decide +kernel
theorem dX_arrive_60 : decode zc_X_arrive 60 = .ok (.iconst 0, 1) := by decide +kernel
theorem dX_arrive_61 : decode zc_X_arrive 61 = .ok (.istore 5, 2) := by decide +kernel
theorem dX_arrive_63 : decode zc_X_arrive 63 = .ok (.aload_n 3, 1) := by decide +kernel
theorem dX_arrive_64 : decode zc_X_arrive 64 = .ok (.aload_n 3, 1) := by decide +kernel
theorem dX_arrive_65 : decode zc_X_arrive 65 = .ok (.getfield 192, 3) := by decide +kernel
theorem dX_arrive_68 : decode zc_X_arrive 68 = .ok (.putfield 199, 3) := by decide +kernel
theorem dX_arrive_71 : decode zc_X_arrive 71 = .ok (.iload 5, 2) := by decide +kernel
theorem dX_arrive_73 : decode zc_X_arrive 73 = .ok (.ireturn, 1) := by decide +kernel
theorem dX_takeNext_0 : decode zc_X_takeNext 0 = .ok (.aload_n 1, 1) := by decide +kernel
theorem dX_takeNext_1 : decode zc_X_takeNext 1 = .ok (.dup, 1) := by decide +kernel
theorem dX_takeNext_2 : decode zc_X_takeNext 2 = .ok (.getfield 192, 3) := by decide +kernel
theorem dX_takeNext_5 : decode zc_X_takeNext 5 = .ok (.iconst 1, 1) := by decide +kernel
theorem dX_takeNext_6 : decode zc_X_takeNext 6 = .ok (.iadd, 1) := by decide +kernel
theorem dX_takeNext_7 : decode zc_X_takeNext 7 = .ok (.putfield 192, 3) := by decide +kernel
theorem dX_takeNext_10 : decode zc_X_takeNext 10 = .ok (.aload_n 1, 1) := by decide +kernel
theorem dX_takeNext_11 : decode zc_X_takeNext 11 = .ok (.getfield 192, 3) := by decide +kernel
theorem dX_takeNext_14 : decode zc_X_takeNext 14 = .ok (.invokestatic 249, 3) := by decide +kernel
theorem dX_takeNext_17 : decode zc_X_takeNext 17 = .ok (.istore_n 3, 1) := by decide +kernel
theorem dX_takeNext_18 : decode zc_X_takeNext 18 = .ok (.aload_n 1, 1) := by decide +kernel
theorem dX_takeNext_19 : decode zc_X_takeNext 19 = .ok (.getfield 252, 3) := by decide +kernel
theorem dX_takeNext_22 : decode zc_X_takeNext 22 = .ok (.iload_n 3, 1) := by decide +kernel
theorem dX_takeNext_23 : decode zc_X_takeNext 23 = .ok (.iaload, 1) := by decide +kernel
theorem dX_takeNext_24 : decode zc_X_takeNext 24 = .ok (.istore 4, 2) := by decide +kernel
