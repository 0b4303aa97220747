theorem dL_open_0 : decode zc_L_open 0 = .ok (.aload_n 0, 1) := by decide +kernel
theorem dL_open_1 : decode zc_L_open 1 = .ok (.iload_n 1, 1) := by decide +kernel
theorem dL_open_2 : decode zc_L_open 2 = .ok (.iload_n 2, 1) := by decide +kernel
theorem dL_open_3 : decode zc_L_open 3 = .ok (.invokevirtual 7, 3) := by decide +kernel
theorem dL_open_6 : decode zc_L_open 6 = .ok (.goto 12, 3) := by decide +kernel
theorem dL_open_9 : decode zc_L_open 9 = .ok (.astore_n 3, 1) := by decide +kernel
theorem dL_open_10 : decode zc_L_open 10 = .ok (.iconst 1, 1) := by decide +kernel
theorem dL_open_11 : decode zc_L_open 11 = .ok (.ireturn, 1) := by decide +kernel
theorem dL_open_12 : decode zc_L_open 12 = .ok (.astore_n 3, 1) := by decide +kernel
theorem dL_open_13 : decode zc_L_open 13 = .ok (.iconst 2, 1) := by decide +kernel
theorem dL_open_14 : decode zc_L_open 14 = .ok (.ireturn, 1) := by decide +kernel
theorem dL_open_15 : decode zc_L_open 15 = .ok (.astore_n 3, 1) := by decide +kernel
theorem dL_open_16 : decode zc_L_open 16 = .ok (.iconst 3, 1) := by decide +kernel
theorem dL_open_17 : decode zc_L_open 17 = .ok (.ireturn, 1) := by decide +kernel
theorem dL_open_18 : decode zc_L_open 18 = .ok (.iconst 0, 1) := by decide +kernel
theorem dL_open_19 : decode zc_L_open 19 = .ok (.ireturn, 1) := by decide +kernel
theorem dL_fare_0 : decode zc_L_fare 0 = .ok (.aload_n 0, 1) := by decide +kernel
theorem dL_fare_1 : decode zc_L_fare 1 = .ok (.iload_n 1, 1) := by decide +kernel
theorem dL_fare_2 : decode zc_L_fare 2 = .ok (.iload_n 2, 1) := by decide +kernel
theorem dL_fare_3 : decode zc_L_fare 3 = .ok (.iload_n 3, 1) := by decide +kernel
theorem dL_fare_4 : decode zc_L_fare 4 = .ok (.invokevirtual 19, 3) := by decide +kernel
theorem dL_fare_7 : decode zc_L_fare 7 = .ok (.goto 11, 3) := by decide +kernel
theorem dL_fare_10 : decode zc_L_fare 10 = .ok (.astore 4, 2) := by decide +kernel
theorem dL_fare_12 : decode zc_L_fare 12 = .ok (.iconst 1, 1) := by decide +kernel
theorem dL_fare_13 : decode zc_L_fare 13 = .ok (.ireturn, 1) := by decide +kernel
theorem dL_fare_14 : decode zc_L_fare 14 = .ok (.astore 4, 2) := by decide +kernel
theorem dL_fare_16 : decode zc_L_fare 16 = .ok (.iconst 2, 1) := by decide +kernel
theorem dL_fare_17 : decode zc_L_fare 17 = .ok (.ireturn, 1) := by decide +kernel
theorem dL_fare_18 : decode zc_L_fare 18 = .ok (.iconst 0, 1) := by decide +kernel
theorem dL_fare_19 : decode zc_L_fare 19 = .ok (.ireturn, 1) := by decide +kernel
theorem dL_part_0 : decode zc_L_part 0 = .ok (.aload 4, 2) := by decide +kernel
theorem dL_part_2 : decode zc_L_part 2 = .ok (.iconst 0, 1) := by decide +kernel
theorem dL_part_3 : decode zc_L_part 3 = .ok (.aload_n 0, 1) := by decide +kernel
theorem dL_part_4 : decode zc_L_part 4 = .ok (.iload_n 1, 1) := by decide +kernel
theorem dL_part_5 : decode zc_L_part 5 = .ok (.iload_n 2, 1) := by decide +kernel
theorem dL_part_6 : decode zc_L_part 6 = .ok (.iload_n 3, 1) := by decide +kernel
theorem dL_part_7 : decode zc_L_part 7 = .ok (.invokevirtual 23, 3) := by decide +kernel
theorem dL_part_10 : decode zc_L_part 10 = .ok (.i2l, 1) := by decide +kernel
theorem dL_part_11 : decode zc_L_part 11 = .ok (.lastore, 1) := by decide +kernel
theorem dL_part_12 : decode zc_L_part 12 = .ok (.goto 15, 3) := by decide +kernel
theorem dL_part_15 : decode zc_L_part 15 = .ok (.astore 5, 2) := by decide +kernel
theorem dL_part_17 : decode zc_L_part 17 = .ok (.iconst 1, 1) := by decide +kernel
theorem dL_part_18 : decode zc_L_part 18 = .ok (.ireturn, 1) := by decide +kernel
theorem dL_part_19 : decode zc_L_part 19 = .ok (.astore 5, 2) := by decide +kernel
theorem dL_part_21 : decode zc_L_part 21 = .ok (.iconst 2, 1) := by decide +kernel
theorem dL_part_22 : decode zc_L_part 22 = .ok (.ireturn, 1) := by decide +kernel
theorem dL_part_23 : decode zc_L_part 23 = .ok (.astore 5, 2) := by decide +kernel
theorem dL_part_25 : decode zc_L_part 25 = .ok (.iconst 3, 1) := by decide +kernel
theorem dL_part_26 : decode zc_L_part 26 = .ok (.ireturn, 1) := by decide +kernel
theorem dL_part_27 : decode zc_L_part 27 = .ok (.iconst 0, 1) := by decide +kernel
theorem dL_part_28 : decode zc_L_part 28 = .ok (.ireturn, 1) := by decide +kernel
theorem dL_buy_0 : decode zc_L_buy 0 = .ok (.aload_n 3, 1) := by decide +kernel
theorem dL_buy_1 : decode zc_L_buy 1 = .ok (.iconst 0, 1) := by decide +kernel
theorem dL_buy_2 : decode zc_L_buy 2 = .ok (.aload_n 0, 1) := by decide +kernel
theorem dL_buy_3 : decode zc_L_buy 3 = .ok (.iload_n 1, 1) := by decide +kernel
theorem dL_buy_4 : decode zc_L_buy 4 = .ok (.iload_n 2, 1) := by decide +kernel
theorem dL_buy_5 : decode zc_L_buy 5 = .ok (.invokevirtual 27, 3) := by decide +kernel
theorem dL_buy_8 : decode zc_L_buy 8 = .ok (.i2l, 1) := by decide +kernel
theorem dL_buy_9 : decode zc_L_buy 9 = .ok (.lastore, 1) := by decide +kernel
theorem dL_buy_10 : decode zc_L_buy 10 = .ok (.goto 15, 3) := by decide +kernel
theorem dL_buy_13 : decode zc_L_buy 13 = .ok (.astore 4, 2) := by decide +kernel
theorem dL_buy_15 : decode zc_L_buy 15 = .ok (.iconst 1, 1) := by decide +kernel
theorem dL_buy_16 : decode zc_L_buy 16 = .ok (.ireturn, 1) := by decide +kernel
theorem dL_buy_17 : decode zc_L_buy 17 = .ok (.astore 4, 2) := by decide +kernel
theorem dL_buy_19 : decode zc_L_buy 19 = .ok (.iconst 2, 1) := by decide +kernel
theorem dL_buy_20 : decode zc_L_buy 20 = .ok (.ireturn, 1) := by decide +kernel
theorem dL_buy_21 : decode zc_L_buy 21 = .ok (.astore 4, 2) := by decide +kernel
theorem dL_buy_23 : decode zc_L_buy 23 = .ok (.iconst 3, 1) := by decide +kernel
theorem dL_buy_24 : decode zc_L_buy 24 = .ok (.ireturn, 1) := by decide +kernel
theorem dL_buy_25 : decode zc_L_buy 25 = .ok (.iconst 0, 1) := by decide +kernel
theorem dL_buy_26 : decode zc_L_buy 26 = .ok (.ireturn, 1) := by decide +kernel
theorem dL_wish_0 : decode zc_L_wish 0 = .ok (.aload_n 3, 1) := by decide +kernel
theorem dL_wish_1 : decode zc_L_wish 1 = .ok (.iconst 0, 1) := by decide +kernel
theorem dL_wish_2 : decode zc_L_wish 2 = .ok (.aload_n 0, 1) := by decide +kernel
theorem dL_wish_3 : decode zc_L_wish 3 = .ok (.iload_n 1, 1) := by decide +kernel
theorem dL_wish_4 : decode zc_L_wish 4 = .ok (.iload_n 2, 1) := by decide +kernel
theorem dL_wish_5 : decode zc_L_wish 5 = .ok (.invokevirtual 31, 3) := by decide +kernel
theorem dL_wish_8 : decode zc_L_wish 8 = .ok (.i2l, 1) := by decide +kernel
theorem dL_wish_9 : decode zc_L_wish 9 = .ok (.lastore, 1) := by decide +kernel
theorem dL_wish_10 : decode zc_L_wish 10 = .ok (.goto 15, 3) := by decide +kernel
theorem dL_wish_13 : decode zc_L_wish 13 = .ok (.astore 4, 2) := by decide +kernel
theorem dL_wish_15 : decode zc_L_wish 15 = .ok (.iconst 1, 1) := by decide +kernel
theorem dL_wish_16 : decode zc_L_wish 16 = .ok (.ireturn, 1) := by decide +kernel
theorem dL_wish_17 : decode zc_L_wish 17 = .ok (.astore 4, 2) := by decide +kernel
theorem dL_wish_19 : decode zc_L_wish 19 = .ok (.iconst 2, 1) := by decide +kernel
theorem dL_wish_20 : decode zc_L_wish 20 = .ok (.ireturn, 1) := by decide +kernel
theorem dL_wish_21 : decode zc_L_wish 21 = .ok (.astore 4, 2) := by decide +kernel
theorem dL_wish_23 : decode zc_L_wish 23 = .ok (.iconst 3, 1) := by decide +kernel
theorem dL_wish_24 : decode zc_L_wish 24 = .ok (.ireturn, 1) := by decide +kernel
theorem dL_wish_25 : decode zc_L_wish 25 = .ok (.iconst 0, 1) := by decide +kernel
theorem dL_wish_26 : decode zc_L_wish 26 = .ok (.ireturn, 1) := by decide +kernel
theorem dL_cancel_0 : decode zc_L_cancel 0 = .ok (.aload_n 2, 1) := by decide +kernel
theorem dL_cancel_1 : decode zc_L_cancel 1 = .ok (.iconst 0, 1) := by decide +kernel
theorem dL_cancel_2 : decode zc_L_cancel 2 = .ok (.aload_n 0, 1) := by decide +kernel
theorem dL_cancel_3 : decode zc_L_cancel 3 = .ok (.iload_n 1, 1) := by decide +kernel
theorem dL_cancel_4 : decode zc_L_cancel 4 = .ok (.invokevirtual 34, 3) := by decide +kernel
theorem dL_cancel_7 : decode zc_L_cancel 7 = .ok (.i2l, 1) := by decide +kernel
theorem dL_cancel_8 : decode zc_L_cancel 8 = .ok (.lastore, 1) := by decide +kernel
theorem dL_cancel_9 : decode zc_L_cancel 9 = .ok (.goto 9, 3) := by decide +kernel
theorem dL_cancel_12 : decode zc_L_cancel 12 = .ok (.astore_n 3, 1) := by decide +kernel
theorem dL_cancel_13 : decode zc_L_cancel 13 = .ok (.iconst 1, 1) := by decide +kernel
theorem dL_cancel_14 : decode zc_L_cancel 14 = .ok (.ireturn, 1) := by decide +kernel
theorem dL_cancel_15 : decode zc_L_cancel 15 = .ok (.astore_n 3, 1) := by decide +kernel
theorem dL_cancel_16 : decode zc_L_cancel 16 = .ok (.iconst 2, 1) := by decide +kernel
theorem dL_cancel_17 : decode zc_L_cancel 17 = .ok (.ireturn, 1) := by decide +kernel
theorem dL_cancel_18 : decode zc_L_cancel 18 = .ok (.iconst 0, 1) := by decide +kernel
theorem dL_cancel_19 : decode zc_L_cancel 19 = .ok (.ireturn, 1) := by decide +kernel
theorem dL_ticket_0 : decode zc_L_ticket 0 = .ok (.aload_n 3, 1) := by decide +kernel
theorem dL_ticket_1 : decode zc_L_ticket 1 = .ok (.iconst 0, 1) := by decide +kernel
theorem dL_ticket_2 : decode zc_L_ticket 2 = .ok (.aload_n 0, 1) := by decide +kernel
theorem dL_ticket_3 : decode zc_L_ticket 3 = .ok (.iload_n 1, 1) := by decide +kernel
theorem dL_ticket_4 : decode zc_L_ticket 4 = .ok (.iload_n 2, 1) := by decide +kernel
theorem dL_ticket_5 : decode zc_L_ticket 5 = .ok (.invokevirtual 38, 3) := by decide +kernel
theorem dL_ticket_8 : decode zc_L_ticket 8 = .ok (.i2l, 1) := by decide +kernel
theorem dL_ticket_9 : decode zc_L_ticket 9 = .ok (.lastore, 1) := by decide +kernel
theorem dL_ticket_10 : decode zc_L_ticket 10 = .ok (.goto 11, 3) := by decide +kernel
theorem dL_ticket_13 : decode zc_L_ticket 13 = .ok (.astore 4, 2) := by decide +kernel
theorem dL_ticket_15 : decode zc_L_ticket 15 = .ok (.iconst 1, 1) := by decide +kernel
theorem dL_ticket_16 : decode zc_L_ticket 16 = .ok (.ireturn, 1) := by decide +kernel
theorem dL_ticket_17 : decode zc_L_ticket 17 = .ok (.astore 4, 2) := by decide +kernel
theorem dL_ticket_19 : decode zc_L_ticket 19 = .ok (.iconst 2, 1) := by decide +kernel
theorem dL_ticket_20 : decode zc_L_ticket 20 = .ok (.ireturn, 1) := by decide +kernel
theorem dL_ticket_21 : decode zc_L_ticket 21 = .ok (.iconst 0, 1) := by decide +kernel
theorem dL_ticket_22 : decode zc_L_ticket 22 = .ok (.ireturn, 1) := by decide +kernel
theorem dL_price_0 : decode zc_L_price 0 = .ok (.aload_n 2, 1) := by decide +kernel
theorem dL_price_1 : decode zc_L_price 1 = .ok (.iconst 0, 1) := by decide +kernel
theorem dL_price_2 : decode zc_L_price 2 = .ok (.aload_n 0, 1) := by decide +kernel
theorem dL_price_3 : decode zc_L_price 3 = .ok (.iload_n 1, 1) := by decide +kernel
theorem dL_price_4 : decode zc_L_price 4 = .ok (.invokevirtual 41, 3) := by decide +kernel
theorem dL_price_7 : decode zc_L_price 7 = .ok (.lastore, 1) := by decide +kernel
theorem dL_price_8 : decode zc_L_price 8 = .ok (.goto 6, 3) := by decide +kernel
theorem dL_price_11 : decode zc_L_price 11 = .ok (.astore_n 3, 1) := by decide +kernel
theorem dL_price_12 : decode zc_L_price 12 = .ok (.iconst 1, 1) := by decide +kernel
theorem dL_price_13 : decode zc_L_price 13 = .ok (.ireturn, 1) := by decide +kernel
theorem dL_price_14 : decode zc_L_price 14 = .ok (.iconst 0, 1) := by decide +kernel
theorem dL_price_15 : decode zc_L_price 15 = .ok (.ireturn, 1) := by decide +kernel
theorem dL_hand_0 : decode zc_L_hand 0 = .ok (.aload 6, 2) := by decide +kernel
theorem dL_hand_2 : decode zc_L_hand 2 = .ok (.iconst 0, 1) := by decide +kernel
theorem dL_hand_3 : decode zc_L_hand 3 = .ok (.aload_n 0, 1) := by decide +kernel
theorem dL_hand_4 : decode zc_L_hand 4 = .ok (.iload_n 1, 1) := by decide +kernel
theorem dL_hand_5 : decode zc_L_hand 5 = .ok (.iload_n 2, 1) := by decide +kernel
theorem dL_hand_6 : decode zc_L_hand 6 = .ok (.iload_n 3, 1) := by decide +kernel
theorem dL_hand_7 : decode zc_L_hand 7 = .ok (.iload 4, 2) := by decide +kernel
theorem dL_hand_9 : decode zc_L_hand 9 = .ok (.iload 5, 2) := by decide +kernel
theorem dL_hand_11 : decode zc_L_hand 11 = .ok (.invokevirtual 45, 3) := by decide +kernel
theorem dL_hand_14 : decode zc_L_hand 14 = .ok (.i2l, 1) := by decide +kernel
theorem dL_hand_15 : decode zc_L_hand 15 = .ok (.lastore, 1) := by decide +kernel
theorem dL_hand_16 : decode zc_L_hand 16 = .ok (.goto 15, 3) := by decide +kernel
theorem dL_hand_19 : decode zc_L_hand 19 = .ok (.astore 7, 2) := by decide +kernel
theorem dL_hand_21 : decode zc_L_hand 21 = .ok (.iconst 1, 1) := by decide +kernel
theorem dL_hand_22 : decode zc_L_hand 22 = .ok (.ireturn, 1) := by decide +kernel
theorem dL_hand_23 : decode zc_L_hand 23 = .ok (.astore 7, 2) := by decide +kernel
theorem dL_hand_25 : decode zc_L_hand 25 = .ok (.iconst 2, 1) := by decide +kernel
theorem dL_hand_26 : decode zc_L_hand 26 = .ok (.ireturn, 1) := by decide +kernel
theorem dL_hand_27 : decode zc_L_hand 27 = .ok (.astore 7, 2) := by decide +kernel
theorem dL_hand_29 : decode zc_L_hand 29 = .ok (.iconst 3, 1) := by decide +kernel
theorem dL_hand_30 : decode zc_L_hand 30 = .ok (.ireturn, 1) := by decide +kernel
theorem dL_hand_31 : decode zc_L_hand 31 = .ok (.iconst 0, 1) := by decide +kernel
theorem dL_hand_32 : decode zc_L_hand 32 = .ok (.ireturn, 1) := by decide +kernel
theorem dL_share_0 : decode zc_L_share 0 = .ok (.aload 4, 2) := by decide +kernel
theorem dL_share_2 : decode zc_L_share 2 = .ok (.iconst 0, 1) := by decide +kernel
theorem dL_share_3 : decode zc_L_share 3 = .ok (.aload_n 0, 1) := by decide +kernel
theorem dL_share_4 : decode zc_L_share 4 = .ok (.iload_n 1, 1) := by decide +kernel
theorem dL_share_5 : decode zc_L_share 5 = .ok (.iload_n 2, 1) := by decide +kernel
theorem dL_share_6 : decode zc_L_share 6 = .ok (.iload_n 3, 1) := by decide +kernel
theorem dL_share_7 : decode zc_L_share 7 = .ok (.invokevirtual 49, 3) := by decide +kernel
theorem dL_share_10 : decode zc_L_share 10 = .ok (.i2l, 1) := by decide +kernel
theorem dL_share_11 : decode zc_L_share 11 = .ok (.lastore, 1) := by decide +kernel
theorem dL_share_12 : decode zc_L_share 12 = .ok (.goto 11, 3) := by decide +kernel
theorem dL_share_15 : decode zc_L_share 15 = .ok (.astore 5, 2) := by decide +kernel
theorem dL_share_17 : decode zc_L_share 17 = .ok (.iconst 1, 1) := by decide +kernel
theorem dL_share_18 : decode zc_L_share 18 = .ok (.ireturn, 1) := by decide +kernel
theorem dL_share_19 : decode zc_L_share 19 = .ok (.astore 5, 2) := by decide +kernel
theorem dL_share_21 : decode zc_L_share 21 = .ok (.iconst 2, 1) := by decide +kernel
theorem dL_share_22 : decode zc_L_share 22 = .ok (.ireturn, 1) := by decide +kernel
theorem dL_share_23 : decode zc_L_share 23 = .ok (.iconst 0, 1) := by decide +kernel
theorem dL_share_24 : decode zc_L_share 24 = .ok (.ireturn, 1) := by decide +kernel
theorem dL_send_0 : decode zc_L_send 0 = .ok (.aload_n 3, 1) := by decide +kernel
theorem dL_send_1 : decode zc_L_send 1 = .ok (.iconst 0, 1) := by decide +kernel
theorem dL_send_2 : decode zc_L_send 2 = .ok (.aload_n 0, 1) := by decide +kernel
theorem dL_send_3 : decode zc_L_send 3 = .ok (.iload_n 1, 1) := by decide +kernel
theorem dL_send_4 : decode zc_L_send 4 = .ok (.iload_n 2, 1) := by decide +kernel
theorem dL_send_5 : decode zc_L_send 5 = .ok (.invokevirtual 52, 3) := by decide +kernel
theorem dL_send_8 : decode zc_L_send 8 = .ok (.i2l, 1) := by decide +kernel
theorem dL_send_9 : decode zc_L_send 9 = .ok (.lastore, 1) := by decide +kernel
theorem dL_send_10 : decode zc_L_send 10 = .ok (.goto 11, 3) := by decide +kernel
theorem dL_send_13 : decode zc_L_send 13 = .ok (.astore 4, 2) := by decide +kernel
theorem dL_send_15 : decode zc_L_send 15 = .ok (.iconst 1, 1) := by decide +kernel
theorem dL_send_16 : decode zc_L_send 16 = .ok (.ireturn, 1) := by decide +kernel
theorem dL_send_17 : decode zc_L_send 17 = .ok (.astore 4, 2) := by decide +kernel
theorem dL_send_19 : decode zc_L_send 19 = .ok (.iconst 2, 1) := by decide +kernel
theorem dL_send_20 : decode zc_L_send 20 = .ok (.ireturn, 1) := by decide +kernel
theorem dL_send_21 : decode zc_L_send 21 = .ok (.iconst 0, 1) := by decide +kernel
theorem dL_send_22 : decode zc_L_send 22 = .ok (.ireturn, 1) := by decide +kernel
theorem dL_arrive_0 : decode zc_L_arrive 0 = .ok (.aload_n 3, 1) := by decide +kernel
theorem dL_arrive_1 : decode zc_L_arrive 1 = .ok (.iconst 0, 1) := by decide +kernel
theorem dL_arrive_2 : decode zc_L_arrive 2 = .ok (.aload_n 0, 1) := by decide +kernel
theorem dL_arrive_3 : decode zc_L_arrive 3 = .ok (.iload_n 1, 1) := by decide +kernel
theorem dL_arrive_4 : decode zc_L_arrive 4 = .ok (.iload_n 2, 1) := by decide +kernel
theorem dL_arrive_5 : decode zc_L_arrive 5 = .ok (.invokevirtual 55, 3) := by decide +kernel
theorem dL_arrive_8 : decode zc_L_arrive 8 = .ok (.i2l, 1) := by decide +kernel
theorem dL_arrive_9 : decode zc_L_arrive 9 = .ok (.lastore, 1) := by decide +kernel
theorem dL_arrive_10 : decode zc_L_arrive 10 = .ok (.goto 11, 3) := by decide +kernel
theorem dL_arrive_13 : decode zc_L_arrive 13 = .ok (.astore 4, 2) := by decide +kernel
theorem dL_arrive_15 : decode zc_L_arrive 15 = .ok (.iconst 1, 1) := by decide +kernel
theorem dL_arrive_16 : decode zc_L_arrive 16 = .ok (.ireturn, 1) := by decide +kernel
theorem dL_arrive_17 : decode zc_L_arrive 17 = .ok (.astore 4, 2) := by decide +kernel
theorem dL_arrive_19 : decode zc_L_arrive 19 = .ok (.iconst 2, 1) := by decide +kernel
theorem dL_arrive_20 : decode zc_L_arrive 20 = .ok (.ireturn, 1) := by decide +kernel
theorem dL_arrive_21 : decode zc_L_arrive 21 = .ok (.iconst 0, 1) := by decide +kernel
theorem dL_arrive_22 : decode zc_L_arrive 22 = .ok (.ireturn, 1) := by decide +kernel
theorem dL_receipt_0 : decode zc_L_receipt 0 = .ok (.aload_n 3, 1) := by decide +kernel
theorem dL_receipt_1 : decode zc_L_receipt 1 = .ok (.iconst 0, 1) := by decide +kernel
theorem dL_receipt_2 : decode zc_L_receipt 2 = .ok (.aload_n 0, 1) := by decide +kernel
theorem dL_receipt_3 : decode zc_L_receipt 3 = .ok (.iload_n 1, 1) := by decide +kernel
theorem dL_receipt_4 : decode zc_L_receipt 4 = .ok (.iload_n 2, 1) := by decide +kernel
theorem dL_receipt_5 : decode zc_L_receipt 5 = .ok (.invokevirtual 58, 3) := by decide +kernel
theorem dL_receipt_8 : decode zc_L_receipt 8 = .ok (.i2l, 1) := by decide +kernel
theorem dL_receipt_9 : decode zc_L_receipt 9 = .ok (.lastore, 1) := by decide +kernel
theorem dL_receipt_10 : decode zc_L_receipt 10 = .ok (.goto 11, 3) := by decide +kernel
theorem dL_receipt_13 : decode zc_L_receipt 13 = .ok (.astore 4, 2) := by decide +kernel
theorem dL_receipt_15 : decode zc_L_receipt 15 = .ok (.iconst 1, 1) := by decide +kernel
theorem dL_receipt_16 : decode zc_L_receipt 16 = .ok (.ireturn, 1) := by decide +kernel
theorem dL_receipt_17 : decode zc_L_receipt 17 = .ok (.astore 4, 2) := by decide +kernel
theorem dL_receipt_19 : decode zc_L_receipt 19 = .ok (.iconst 2, 1) := by decide +kernel
theorem dL_receipt_20 : decode zc_L_receipt 20 = .ok (.ireturn, 1) := by decide +kernel
theorem dL_receipt_21 : decode zc_L_receipt 21 = .ok (.iconst 0, 1) := by decide +kernel
theorem dL_receipt_22 : decode zc_L_receipt 22 = .ok (.ireturn, 1) := by decide +kernel
theorem dL_lose_0 : decode zc_L_lose 0 = .ok (.aload_n 3, 1) := by decide +kernel
theorem dL_lose_1 : decode zc_L_lose 1 = .ok (.iconst 0, 1) := by decide +kernel
theorem dL_lose_2 : decode zc_L_lose 2 = .ok (.aload_n 0, 1) := by decide +kernel
theorem dL_lose_3 : decode zc_L_lose 3 = .ok (.iload_n 1, 1) := by decide +kernel
theorem dL_lose_4 : decode zc_L_lose 4 = .ok (.iload_n 2, 1) := by decide +kernel
theorem dL_lose_5 : decode zc_L_lose 5 = .ok (.invokevirtual 61, 3) := by decide +kernel
theorem dL_lose_8 : decode zc_L_lose 8 = .ok (.i2l, 1) := by decide +kernel
theorem dL_lose_9 : decode zc_L_lose 9 = .ok (.lastore, 1) := by decide +kernel
theorem dL_lose_10 : decode zc_L_lose 10 = .ok (.goto 11, 3) := by decide +kernel
theorem dL_lose_13 : decode zc_L_lose 13 = .ok (.astore 4, 2) := by decide +kernel
theorem dL_lose_15 : decode zc_L_lose 15 = .ok (.iconst 1, 1) := by decide +kernel
theorem dL_lose_16 : decode zc_L_lose 16 = .ok (.ireturn, 1) := by decide +kernel
theorem dL_lose_17 : decode zc_L_lose 17 = .ok (.astore 4, 2) := by decide +kernel
theorem dL_lose_19 : decode zc_L_lose 19 = .ok (.iconst 2, 1) := by decide +kernel
theorem dL_lose_20 : decode zc_L_lose 20 = .ok (.ireturn, 1) := by decide +kernel
theorem dL_lose_21 : decode zc_L_lose 21 = .ok (.iconst 0, 1) := by decide +kernel
theorem dL_lose_22 : decode zc_L_lose 22 = .ok (.ireturn, 1) := by decide +kernel
theorem dL_crash_0 : decode zc_L_crash 0 = .ok (.aload_n 2, 1) := by decide +kernel
theorem dL_crash_1 : decode zc_L_crash 1 = .ok (.iconst 0, 1) := by decide +kernel
theorem dL_crash_2 : decode zc_L_crash 2 = .ok (.aload_n 0, 1) := by decide +kernel
theorem dL_crash_3 : decode zc_L_crash 3 = .ok (.iload_n 1, 1) := by decide +kernel
theorem dL_crash_4 : decode zc_L_crash 4 = .ok (.invokevirtual 64, 3) := by decide +kernel
theorem dL_crash_7 : decode zc_L_crash 7 = .ok (.i2l, 1) := by decide +kernel
theorem dL_crash_8 : decode zc_L_crash 8 = .ok (.lastore, 1) := by decide +kernel
theorem dL_crash_9 : decode zc_L_crash 9 = .ok (.goto 6, 3) := by decide +kernel
theorem dL_crash_12 : decode zc_L_crash 12 = .ok (.astore_n 3, 1) := by decide +kernel
theorem dL_crash_13 : decode zc_L_crash 13 = .ok (.iconst 1, 1) := by decide +kernel
theorem dL_crash_14 : decode zc_L_crash 14 = .ok (.ireturn, 1) := by decide +kernel
theorem dL_crash_15 : decode zc_L_crash 15 = .ok (.iconst 0, 1) := by decide +kernel
theorem dL_crash_16 : decode zc_L_crash 16 = .ok (.ireturn, 1) := by decide +kernel
theorem dL_rights_0 : decode zc_L_rights 0 = .ok (.aload 4, 2) := by decide +kernel
theorem dL_rights_2 : decode zc_L_rights 2 = .ok (.iconst 0, 1) := by decide +kernel
theorem dL_rights_3 : decode zc_L_rights 3 = .ok (.aload_n 0, 1) := by decide +kernel
theorem dL_rights_4 : decode zc_L_rights 4 = .ok (.iload_n 1, 1) := by decide +kernel
theorem dL_rights_5 : decode zc_L_rights 5 = .ok (.iload_n 2, 1) := by decide +kernel
theorem dL_rights_6 : decode zc_L_rights 6 = .ok (.iload_n 3, 1) := by decide +kernel
theorem dL_rights_7 : decode zc_L_rights 7 = .ok (.invokevirtual 67, 3) := by decide +kernel
theorem dL_rights_10 : decode zc_L_rights 10 = .ok (.i2l, 1) := by decide +kernel
theorem dL_rights_11 : decode zc_L_rights 11 = .ok (.lastore, 1) := by decide +kernel
theorem dL_rights_12 : decode zc_L_rights 12 = .ok (.goto 7, 3) := by decide +kernel
theorem dL_rights_15 : decode zc_L_rights 15 = .ok (.astore 5, 2) := by decide +kernel
theorem dL_rights_17 : decode zc_L_rights 17 = .ok (.iconst 1, 1) := by decide +kernel
theorem dL_rights_18 : decode zc_L_rights 18 = .ok (.ireturn, 1) := by decide +kernel
theorem dL_rights_19 : decode zc_L_rights 19 = .ok (.iconst 0, 1) := by decide +kernel
theorem dL_rights_20 : decode zc_L_rights 20 = .ok (.ireturn, 1) := by decide +kernel
theorem dL_air_0 : decode zc_L_air 0 = .ok (.aload_n 3, 1) := by decide +kernel
theorem dL_air_1 : decode zc_L_air 1 = .ok (.iconst 0, 1) := by decide +kernel
theorem dL_air_2 : decode zc_L_air 2 = .ok (.aload_n 0, 1) := by decide +kernel
theorem dL_air_3 : decode zc_L_air 3 = .ok (.iload_n 1, 1) := by decide +kernel
theorem dL_air_4 : decode zc_L_air 4 = .ok (.iload_n 2, 1) := by decide +kernel
theorem dL_air_5 : decode zc_L_air 5 = .ok (.invokevirtual 70, 3) := by decide +kernel
theorem dL_air_8 : decode zc_L_air 8 = .ok (.i2l, 1) := by decide +kernel
theorem dL_air_9 : decode zc_L_air 9 = .ok (.lastore, 1) := by decide +kernel
theorem dL_air_10 : decode zc_L_air 10 = .ok (.goto 7, 3) := by decide +kernel
theorem dL_air_13 : decode zc_L_air 13 = .ok (.astore 4, 2) := by decide +kernel
theorem dL_air_15 : decode zc_L_air 15 = .ok (.iconst 1, 1) := by decide +kernel
theorem dL_air_16 : decode zc_L_air 16 = .ok (.ireturn, 1) := by decide +kernel
theorem dL_air_17 : decode zc_L_air 17 = .ok (.iconst 0, 1) := by decide +kernel
theorem dL_air_18 : decode zc_L_air 18 = .ok (.ireturn, 1) := by decide +kernel
theorem dL_sold_0 : decode zc_L_sold 0 = .ok (.aload_n 3, 1) := by decide +kernel
theorem dL_sold_1 : decode zc_L_sold 1 = .ok (.iconst 0, 1) := by decide +kernel
theorem dL_sold_2 : decode zc_L_sold 2 = .ok (.aload_n 0, 1) := by decide +kernel
theorem dL_sold_3 : decode zc_L_sold 3 = .ok (.iload_n 1, 1) := by decide +kernel
theorem dL_sold_4 : decode zc_L_sold 4 = .ok (.iload_n 2, 1) := by decide +kernel
theorem dL_sold_5 : decode zc_L_sold 5 = .ok (.invokevirtual 73, 3) := by decide +kernel
theorem dL_sold_8 : decode zc_L_sold 8 = .ok (.i2l, 1) := by decide +kernel
theorem dL_sold_9 : decode zc_L_sold 9 = .ok (.lastore, 1) := by decide +kernel
theorem dL_sold_10 : decode zc_L_sold 10 = .ok (.goto 7, 3) := by decide +kernel
theorem dL_sold_13 : decode zc_L_sold 13 = .ok (.astore 4, 2) := by decide +kernel
theorem dL_sold_15 : decode zc_L_sold 15 = .ok (.iconst 1, 1) := by decide +kernel
theorem dL_sold_16 : decode zc_L_sold 16 = .ok (.ireturn, 1) := by decide +kernel
theorem dL_sold_17 : decode zc_L_sold 17 = .ok (.iconst 0, 1) := by decide +kernel
theorem dL_sold_18 : decode zc_L_sold 18 = .ok (.ireturn, 1) := by decide +kernel
theorem dL_wishes_0 : decode zc_L_wishes 0 = .ok (.aload_n 2, 1) := by decide +kernel
theorem dL_wishes_1 : decode zc_L_wishes 1 = .ok (.iconst 0, 1) := by decide +kernel
theorem dL_wishes_2 : decode zc_L_wishes 2 = .ok (.aload_n 0, 1) := by decide +kernel
theorem dL_wishes_3 : decode zc_L_wishes 3 = .ok (.iload_n 1, 1) := by decide +kernel
theorem dL_wishes_4 : decode zc_L_wishes 4 = .ok (.invokevirtual 76, 3) := by decide +kernel
theorem dL_wishes_7 : decode zc_L_wishes 7 = .ok (.i2l, 1) := by decide +kernel
theorem dL_wishes_8 : decode zc_L_wishes 8 = .ok (.lastore, 1) := by decide +kernel
theorem dL_wishes_9 : decode zc_L_wishes 9 = .ok (.goto 6, 3) := by decide +kernel
theorem dL_wishes_12 : decode zc_L_wishes 12 = .ok (.astore_n 3, 1) := by decide +kernel
theorem dL_wishes_13 : decode zc_L_wishes 13 = .ok (.iconst 1, 1) := by decide +kernel
theorem dL_wishes_14 : decode zc_L_wishes 14 = .ok (.ireturn, 1) := by decide +kernel
theorem dL_wishes_15 : decode zc_L_wishes 15 = .ok (.iconst 0, 1) := by decide +kernel
theorem dL_wishes_16 : decode zc_L_wishes 16 = .ok (.ireturn, 1) := by decide +kernel
theorem dL_till_0 : decode zc_L_till 0 = .ok (.aload_n 2, 1) := by decide +kernel
theorem dL_till_1 : decode zc_L_till 1 = .ok (.iconst 0, 1) := by decide +kernel
theorem dL_till_2 : decode zc_L_till 2 = .ok (.aload_n 0, 1) := by decide +kernel
theorem dL_till_3 : decode zc_L_till 3 = .ok (.iload_n 1, 1) := by decide +kernel
theorem dL_till_4 : decode zc_L_till 4 = .ok (.invokevirtual 79, 3) := by decide +kernel
theorem dL_till_7 : decode zc_L_till 7 = .ok (.lastore, 1) := by decide +kernel
theorem dL_till_8 : decode zc_L_till 8 = .ok (.goto 6, 3) := by decide +kernel
theorem dL_till_11 : decode zc_L_till 11 = .ok (.astore_n 3, 1) := by decide +kernel
theorem dL_till_12 : decode zc_L_till 12 = .ok (.iconst 1, 1) := by decide +kernel
theorem dL_till_13 : decode zc_L_till 13 = .ok (.ireturn, 1) := by decide +kernel
theorem dL_till_14 : decode zc_L_till 14 = .ok (.iconst 0, 1) := by decide +kernel
theorem dL_till_15 : decode zc_L_till 15 = .ok (.ireturn, 1) := by decide +kernel
theorem dL_law_0 : decode zc_L_law 0 = .ok (.new 8, 3) := by decide +kernel
theorem dL_law_3 : decode zc_L_law 3 = .ok (.dup, 1) := by decide +kernel
theorem dL_law_4 : decode zc_L_law 4 = .ok (.invokespecial 82, 3) := by decide +kernel
theorem dL_law_7 : decode zc_L_law 7 = .ok (.astore_n 1, 1) := by decide +kernel
