theorem dM_enclose_11 : decode zc_M_enclose 11 = .ok (.iload 5, 2) := by decide +kernel
theorem dM_enclose_13 : decode zc_M_enclose 13 = .ok (.dup2, 1) := by decide +kernel
theorem dM_enclose_14 : decode zc_M_enclose 14 = .ok (.iaload, 1) := by decide +kernel
theorem dM_enclose_15 : decode zc_M_enclose 15 = .ok (.iconst 1, 1) := by decide +kernel
theorem dM_enclose_16 : decode zc_M_enclose 16 = .ok (.iadd, 1) := by decide +kernel
theorem dM_enclose_17 : decode zc_M_enclose 17 = .ok (.iastore, 1) := by decide +kernel
theorem dM_enclose_18 : decode zc_M_enclose 18 = .ok (.bipush 8, 2) := by decide +kernel
theorem dM_enclose_20 : decode zc_M_enclose 20 = .ok (.iload 5, 2) := by decide +kernel
theorem dM_enclose_22 : decode zc_M_enclose 22 = .ok (.imul, 1) := by decide +kernel
theorem dM_enclose_23 : decode zc_M_enclose 23 = .ok (.aload_n 0, 1) := by decide +kernel
theorem dM_enclose_24 : decode zc_M_enclose 24 = .ok (.getfield 60, 3) := by decide +kernel
theorem dM_enclose_27 : decode zc_M_enclose 27 = .ok (.iload 5, 2) := by decide +kernel
theorem dM_enclose_29 : decode zc_M_enclose 29 = .ok (.iaload, 1) := by decide +kernel
theorem dM_enclose_30 : decode zc_M_enclose 30 = .ok (.iadd, 1) := by decide +kernel
theorem dM_enclose_31 : decode zc_M_enclose 31 = .ok (.istore 6, 2) := by decide +kernel
theorem dM_enclose_33 : decode zc_M_enclose 33 = .ok (.aload_n 0, 1) := by decide +kernel
theorem dM_enclose_34 : decode zc_M_enclose 34 = .ok (.getfield 72, 3) := by decide +kernel
theorem dM_enclose_37 : decode zc_M_enclose 37 = .ok (.iload 6, 2) := by decide +kernel
theorem dM_enclose_39 : decode zc_M_enclose 39 = .ok (.aload_n 0, 1) := by decide +kernel
theorem dM_enclose_40 : decode zc_M_enclose 40 = .ok (.getfield 57, 3) := by decide +kernel
theorem dM_enclose_43 : decode zc_M_enclose 43 = .ok (.iload 5, 2) := by decide +kernel
theorem dM_enclose_45 : decode zc_M_enclose 45 = .ok (.iaload, 1) := by decide +kernel
theorem dM_enclose_46 : decode zc_M_enclose 46 = .ok (.iastore, 1) := by decide +kernel
theorem dM_enclose_47 : decode zc_M_enclose 47 = .ok (.aload_n 0, 1) := by decide +kernel
theorem dM_enclose_48 : decode zc_M_enclose 48 = .ok (.getfield 75, 3) := by decide +kernel
theorem dM_enclose_51 : decode zc_M_enclose 51 = .ok (.iload 6, 2) := by decide +kernel
theorem dM_enclose_53 : decode zc_M_enclose 53 = .ok (.iload_n 3, 1) := by decide +kernel
theorem dM_enclose_54 : decode zc_M_enclose 54 = .ok (.iastore, 1) := by decide +kernel
theorem dM_enclose_55 : decode zc_M_enclose 55 = .ok (.aload_n 0, 1) := by decide +kernel
theorem dM_enclose_56 : decode zc_M_enclose 56 = .ok (.getfield 78, 3) := by decide +kernel
theorem dM_enclose_59 : decode zc_M_enclose 59 = .ok (.iload 6, 2) := by decide +kernel
theorem dM_enclose_61 : decode zc_M_enclose 61 = .ok (.iload 4, 2) := by decide +kernel
theorem dM_enclose_63 : decode zc_M_enclose 63 = .ok (.iastore, 1) := by decide +kernel
theorem dM_enclose_64 : decode zc_M_enclose 64 = .ok (.aload_n 0, 1) := by decide +kernel
theorem dM_enclose_65 : decode zc_M_enclose 65 = .ok (.getfield 60, 3) := by decide +kernel
theorem dM_enclose_68 : decode zc_M_enclose 68 = .ok (.iload 5, 2) := by decide +kernel
theorem dM_enclose_70 : decode zc_M_enclose 70 = .ok (.dup2, 1) := by decide +kernel
theorem dM_enclose_71 : decode zc_M_enclose 71 = .ok (.iaload, 1) := by decide +kernel
theorem dM_enclose_72 : decode zc_M_enclose 72 = .ok (.iconst 1, 1) := by decide +kernel
theorem dM_enclose_73 : decode zc_M_enclose 73 = .ok (.iadd, 1) := by decide +kernel
theorem dM_enclose_74 : decode zc_M_enclose 74 = .ok (.iastore, 1) := by decide +kernel
theorem dM_enclose_75 : decode zc_M_enclose 75 = .ok (.aload_n 0, 1) := by decide +kernel
theorem dM_enclose_76 : decode zc_M_enclose 76 = .ok (.getfield 17, 3) := by decide +kernel
theorem dM_enclose_79 : decode zc_M_enclose 79 = .ok (.bipush 16, 2) := by decide +kernel
theorem dM_enclose_81 : decode zc_M_enclose 81 = .ok (.iload_n 1, 1) := by decide +kernel
theorem dM_enclose_82 : decode zc_M_enclose 82 = .ok (.imul, 1) := by decide +kernel
theorem dM_enclose_83 : decode zc_M_enclose 83 = .ok (.iload_n 3, 1) := by decide +kernel
theorem dM_enclose_84 : decode zc_M_enclose 84 = .ok (.iadd, 1) := by decide +kernel
theorem dM_enclose_85 : decode zc_M_enclose 85 = .ok (.aload_n 0, 1) := by decide +kernel
theorem dM_enclose_86 : decode zc_M_enclose 86 = .ok (.getfield 17, 3) := by decide +kernel
theorem dM_enclose_89 : decode zc_M_enclose 89 = .ok (.bipush 16, 2) := by decide +kernel
theorem dM_enclose_91 : decode zc_M_enclose 91 = .ok (.iload_n 1, 1) := by decide +kernel
theorem dM_enclose_92 : decode zc_M_enclose 92 = .ok (.imul, 1) := by decide +kernel
theorem dM_enclose_93 : decode zc_M_enclose 93 = .ok (.iload_n 3, 1) := by decide +kernel
theorem dM_enclose_94 : decode zc_M_enclose 94 = .ok (.iadd, 1) := by decide +kernel
theorem dM_enclose_95 : decode zc_M_enclose 95 = .ok (.iaload, 1) := by decide +kernel
theorem dM_enclose_96 : decode zc_M_enclose 96 = .ok (.iload 4, 2) := by decide +kernel
theorem dM_enclose_98 : decode zc_M_enclose 98 = .ok (.isub, 1) := by decide +kernel
theorem dM_enclose_99 : decode zc_M_enclose 99 = .ok (.iastore, 1) := by decide +kernel
theorem dM_enclose_100 : decode zc_M_enclose 100 = .ok (.aload_n 0, 1) := by decide +kernel
theorem dM_enclose_101 : decode zc_M_enclose 101 = .ok (.getfield 57, 3) := by decide +kernel
theorem dM_enclose_104 : decode zc_M_enclose 104 = .ok (.iload 5, 2) := by decide +kernel
theorem dM_enclose_106 : decode zc_M_enclose 106 = .ok (.iaload, 1) := by decide +kernel
theorem dM_enclose_107 : decode zc_M_enclose 107 = .ok (.ireturn, 1) := by decide +kernel
theorem dM_share_0 : decode zc_M_share 0 = .ok (.aload_n 0, 1) := by decide +kernel
theorem dM_share_1 : decode zc_M_share 1 = .ok (.iload_n 3, 1) := by decide +kernel
theorem dM_share_2 : decode zc_M_share 2 = .ok (.invokestatic 91, 3) := by decide +kernel
theorem dM_share_5 : decode zc_M_share 5 = .ok (.ifCond .ne 7, 3) := by decide +kernel
theorem dM_share_8 : decode zc_M_share 8 = .ok (.iconst 1, 1) := by decide +kernel
theorem dM_share_9 : decode zc_M_share 9 = .ok (.goto 8, 3) := by decide +kernel
theorem dM_share_12 : decode zc_M_share 12 = .ok (.iload_n 1, 1) := by decide +kernel
theorem dM_share_13 : decode zc_M_share 13 = .ok (.iload_n 2, 1) := by decide +kernel
theorem dM_share_14 : decode zc_M_share 14 = .ok (.invokestatic 135, 3) := by decide +kernel
theorem dM_share_17 : decode zc_M_share 17 = .ok (.invokevirtual 95, 3) := by decide +kernel
theorem dM_share_20 : decode zc_M_share 20 = .ok (.ifCond .eq 5, 3) := by decide +kernel
theorem dM_share_23 : decode zc_M_share 23 = .ok (.iconst 0, 1) := by decide +kernel
theorem dM_share_24 : decode zc_M_share 24 = .ok (.ireturn, 1) := by decide +kernel
theorem dM_share_25 : decode zc_M_share 25 = .ok (.iconst 0, 1) := by decide +kernel
theorem dM_share_26 : decode zc_M_share 26 = .ok (.istore 4, 2) := by decide +kernel
theorem dM_share_28 : decode zc_M_share 28 = .ok (.iconst 4, 1) := by decide +kernel
theorem dM_share_29 : decode zc_M_share 29 = .ok (.iload_n 3, 1) := by decide +kernel
theorem dM_share_30 : decode zc_M_share 30 = .ok (.imul, 1) := by decide +kernel
theorem dM_share_31 : decode zc_M_share 31 = .ok (.istore 5, 2) := by decide +kernel
theorem dM_share_33 : decode zc_M_share 33 = .ok (.iload 5, 2) := by decide +kernel
theorem dM_share_35 : decode zc_M_share 35 = .ok (.iconst 4, 1) := by decide +kernel
theorem dM_share_36 : decode zc_M_share 36 = .ok (.iload_n 3, 1) := by decide +kernel
theorem dM_share_37 : decode zc_M_share 37 = .ok (.imul, 1) := by decide +kernel
theorem dM_share_38 : decode zc_M_share 38 = .ok (.iconst 4, 1) := by decide +kernel
theorem dM_share_39 : decode zc_M_share 39 = .ok (.iadd, 1) := by decide +kernel
theorem dM_share_40 : decode zc_M_share 40 = .ok (.if_icmp .ge 72, 3) := by decide +kernel
theorem dM_share_43 : decode zc_M_share 43 = .ok (.aload_n 0, 1) := by decide +kernel
theorem dM_share_44 : decode zc_M_share 44 = .ok (.getfield 17, 3) := by decide +kernel
theorem dM_share_47 : decode zc_M_share 47 = .ok (.bipush 16, 2) := by decide +kernel
theorem dM_share_49 : decode zc_M_share 49 = .ok (.iload_n 1, 1) := by decide +kernel
theorem dM_share_50 : decode zc_M_share 50 = .ok (.imul, 1) := by decide +kernel
theorem dM_share_51 : decode zc_M_share 51 = .ok (.iload 5, 2) := by decide +kernel
theorem dM_share_53 : decode zc_M_share 53 = .ok (.iadd, 1) := by decide +kernel
theorem dM_share_54 : decode zc_M_share 54 = .ok (.iaload, 1) := by decide +kernel
theorem dM_share_55 : decode zc_M_share 55 = .ok (.aload_n 0, 1) := by decide +kernel
theorem dM_share_56 : decode zc_M_share 56 = .ok (.getfield 17, 3) := by decide +kernel
theorem dM_share_59 : decode zc_M_share 59 = .ok (.bipush 16, 2) := by decide +kernel
theorem dM_share_61 : decode zc_M_share 61 = .ok (.iload_n 2, 1) := by decide +kernel
theorem dM_share_62 : decode zc_M_share 62 = .ok (.imul, 1) := by decide +kernel
theorem dM_share_63 : decode zc_M_share 63 = .ok (.iload 5, 2) := by decide +kernel
theorem dM_share_65 : decode zc_M_share 65 = .ok (.iadd, 1) := by decide +kernel
theorem dM_share_66 : decode zc_M_share 66 = .ok (.iaload, 1) := by decide +kernel
theorem dM_share_67 : decode zc_M_share 67 = .ok (.isub, 1) := by decide +kernel
theorem dM_share_68 : decode zc_M_share 68 = .ok (.iconst 2, 1) := by decide +kernel
theorem dM_share_69 : decode zc_M_share 69 = .ok (.idiv, 1) := by decide +kernel
theorem dM_share_70 : decode zc_M_share 70 = .ok (.istore 6, 2) := by decide +kernel
theorem dM_share_72 : decode zc_M_share 72 = .ok (.iload 6, 2) := by decide +kernel
theorem dM_share_74 : decode zc_M_share 74 = .ok (.ifCond .le 32, 3) := by decide +kernel
theorem dM_share_77 : decode zc_M_share 77 = .ok (.aload_n 0, 1) := by decide +kernel
theorem dM_share_78 : decode zc_M_share 78 = .ok (.getfield 60, 3) := by decide +kernel
theorem dM_share_81 : decode zc_M_share 81 = .ok (.iconst 4, 1) := by decide +kernel
theorem dM_share_82 : decode zc_M_share 82 = .ok (.iload_n 1, 1) := by decide +kernel
theorem dM_share_83 : decode zc_M_share 83 = .ok (.imul, 1) := by decide +kernel
theorem dM_share_84 : decode zc_M_share 84 = .ok (.iload_n 2, 1) := by decide +kernel
theorem dM_share_85 : decode zc_M_share 85 = .ok (.iadd, 1) := by decide +kernel
theorem dM_share_86 : decode zc_M_share 86 = .ok (.iaload, 1) := by decide +kernel
theorem dM_share_87 : decode zc_M_share 87 = .ok (.bipush 8, 2) := by decide +kernel
theorem dM_share_89 : decode zc_M_share 89 = .ok (.if_icmp .ge 17, 3) := by decide +kernel
theorem dM_share_92 : decode zc_M_share 92 = .ok (.aload_n 0, 1) := by decide +kernel
theorem dM_share_93 : decode zc_M_share 93 = .ok (.iload_n 1, 1) := by decide +kernel
theorem dM_share_94 : decode zc_M_share 94 = .ok (.iload_n 2, 1) := by decide +kernel
theorem dM_share_95 : decode zc_M_share 95 = .ok (.iload 5, 2) := by decide +kernel
theorem dM_share_97 : decode zc_M_share 97 = .ok (.iload 6, 2) := by decide +kernel
theorem dM_share_99 : decode zc_M_share 99 = .ok (.invokevirtual 132, 3) := by decide +kernel
theorem dM_share_102 : decode zc_M_share 102 = .ok (.pop, 1) := by decide +kernel
theorem dM_share_103 : decode zc_M_share 103 = .ok (.iinc 4 1, 3) := by decide +kernel
theorem dM_share_106 : decode zc_M_share 106 = .ok (.iinc 5 1, 3) := by decide +kernel
theorem dM_share_109 : decode zc_M_share 109 = .ok (.goto (-76), 3) := by decide +kernel
theorem dM_share_112 : decode zc_M_share 112 = .ok (.iload 4, 2) := by decide +kernel
theorem dM_share_114 : decode zc_M_share 114 = .ok (.ireturn, 1) := by decide +kernel
theorem dM_wrong_0 : decode zc_M_wrong 0 = .ok (.iload_n 0, 1) := by decide +kernel
theorem dM_wrong_1 : decode zc_M_wrong 1 = .ok (.invokestatic 91, 3) := by decide +kernel
theorem dM_wrong_4 : decode zc_M_wrong 4 = .ok (.ifCond .eq 10, 3) := by decide +kernel
theorem dM_wrong_7 : decode zc_M_wrong 7 = .ok (.iload_n 1, 1) := by decide +kernel
theorem dM_wrong_8 : decode zc_M_wrong 8 = .ok (.invokestatic 91, 3) := by decide +kernel
theorem dM_wrong_11 : decode zc_M_wrong 11 = .ok (.ifCond .ne 7, 3) := by decide +kernel
theorem dM_wrong_14 : decode zc_M_wrong 14 = .ok (.iconst 1, 1) := by decide +kernel
theorem dM_wrong_15 : decode zc_M_wrong 15 = .ok (.goto 13, 3) := by decide +kernel
theorem dM_wrong_18 : decode zc_M_wrong 18 = .ok (.iload_n 0, 1) := by decide +kernel
theorem dM_wrong_19 : decode zc_M_wrong 19 = .ok (.iload_n 1, 1) := by decide +kernel
theorem dM_wrong_20 : decode zc_M_wrong 20 = .ok (.if_icmp .ne 7, 3) := by decide +kernel
theorem dM_wrong_23 : decode zc_M_wrong 23 = .ok (.iconst 2, 1) := by decide +kernel
theorem dM_wrong_24 : decode zc_M_wrong 24 = .ok (.goto 4, 3) := by decide +kernel
theorem dM_wrong_27 : decode zc_M_wrong 27 = .ok (.iconst 0, 1) := by decide +kernel
theorem dM_wrong_28 : decode zc_M_wrong 28 = .ok (.ireturn, 1) := by decide +kernel
theorem dM_send_0 : decode zc_M_send 0 = .ok (.aload_n 0, 1) := by decide +kernel
theorem dM_send_1 : decode zc_M_send 1 = .ok (.iload_n 1, 1) := by decide +kernel
theorem dM_send_2 : decode zc_M_send 2 = .ok (.iload_n 2, 1) := by decide +kernel
theorem dM_send_3 : decode zc_M_send 3 = .ok (.invokestatic 135, 3) := by decide +kernel
theorem dM_send_6 : decode zc_M_send 6 = .ok (.invokevirtual 95, 3) := by decide +kernel
theorem dM_send_9 : decode zc_M_send 9 = .ok (.ifCond .eq 5, 3) := by decide +kernel
theorem dM_send_12 : decode zc_M_send 12 = .ok (.iconst 0, 1) := by decide +kernel
theorem dM_send_13 : decode zc_M_send 13 = .ok (.ireturn, 1) := by decide +kernel
theorem dM_send_14 : decode zc_M_send 14 = .ok (.iconst 4, 1) := by decide +kernel
theorem dM_send_15 : decode zc_M_send 15 = .ok (.iload_n 1, 1) := by decide +kernel
theorem dM_send_16 : decode zc_M_send 16 = .ok (.imul, 1) := by decide +kernel
theorem dM_send_17 : decode zc_M_send 17 = .ok (.iload_n 2, 1) := by decide +kernel
theorem dM_send_18 : decode zc_M_send 18 = .ok (.iadd, 1) := by decide +kernel
theorem dM_send_19 : decode zc_M_send 19 = .ok (.istore_n 3, 1) := by decide +kernel
theorem dM_send_20 : decode zc_M_send 20 = .ok (.aload_n 0, 1) := by decide +kernel
theorem dM_send_21 : decode zc_M_send 21 = .ok (.getfield 60, 3) := by decide +kernel
theorem dM_send_24 : decode zc_M_send 24 = .ok (.iload_n 3, 1) := by decide +kernel
theorem dM_send_25 : decode zc_M_send 25 = .ok (.iaload, 1) := by decide +kernel
theorem dM_send_26 : decode zc_M_send 26 = .ok (.ifCond .ne 5, 3) := by decide +kernel
theorem dM_send_29 : decode zc_M_send 29 = .ok (.iconst 0, 1) := by decide +kernel
theorem dM_send_30 : decode zc_M_send 30 = .ok (.ireturn, 1) := by decide +kernel
theorem dM_send_31 : decode zc_M_send 31 = .ok (.aload_n 0, 1) := by decide +kernel
theorem dM_send_32 : decode zc_M_send 32 = .ok (.getfield 63, 3) := by decide +kernel
theorem dM_send_35 : decode zc_M_send 35 = .ok (.iload_n 3, 1) := by decide +kernel
theorem dM_send_36 : decode zc_M_send 36 = .ok (.aload_n 0, 1) := by decide +kernel
theorem dM_send_37 : decode zc_M_send 37 = .ok (.getfield 72, 3) := by decide +kernel
theorem dM_send_40 : decode zc_M_send 40 = .ok (.bipush 8, 2) := by decide +kernel
theorem dM_send_42 : decode zc_M_send 42 = .ok (.iload_n 3, 1) := by decide +kernel
theorem dM_send_43 : decode zc_M_send 43 = .ok (.imul, 1) := by decide +kernel
theorem dM_send_44 : decode zc_M_send 44 = .ok (.iaload, 1) := by decide +kernel
theorem dM_send_45 : decode zc_M_send 45 = .ok (.iastore, 1) := by decide +kernel
theorem dM_send_46 : decode zc_M_send 46 = .ok (.aload_n 0, 1) := by decide +kernel
theorem dM_send_47 : decode zc_M_send 47 = .ok (.getfield 81, 3) := by decide +kernel
theorem dM_send_50 : decode zc_M_send 50 = .ok (.iload_n 3, 1) := by decide +kernel
theorem dM_send_51 : decode zc_M_send 51 = .ok (.aload_n 0, 1) := by decide +kernel
theorem dM_send_52 : decode zc_M_send 52 = .ok (.getfield 75, 3) := by decide +kernel
theorem dM_send_55 : decode zc_M_send 55 = .ok (.bipush 8, 2) := by decide +kernel
theorem dM_send_57 : decode zc_M_send 57 = .ok (.iload_n 3, 1) := by decide +kernel
theorem dM_send_58 : decode zc_M_send 58 = .ok (.imul, 1) := by decide +kernel
theorem dM_send_59 : decode zc_M_send 59 = .ok (.iaload, 1) := by decide +kernel
theorem dM_send_60 : decode zc_M_send 60 = .ok (.iastore, 1) := by decide +kernel
theorem dM_send_61 : decode zc_M_send 61 = .ok (.aload_n 0, 1) := by decide +kernel
theorem dM_send_62 : decode zc_M_send 62 = .ok (.getfield 84, 3) := by decide +kernel
theorem dM_send_65 : decode zc_M_send 65 = .ok (.iload_n 3, 1) := by decide +kernel
theorem dM_send_66 : decode zc_M_send 66 = .ok (.aload_n 0, 1) := by decide +kernel
theorem dM_send_67 : decode zc_M_send 67 = .ok (.getfield 78, 3) := by decide +kernel
theorem dM_send_70 : decode zc_M_send 70 = .ok (.bipush 8, 2) := by decide +kernel
theorem dM_send_72 : decode zc_M_send 72 = .ok (.iload_n 3, 1) := by decide +kernel
theorem dM_send_73 : decode zc_M_send 73 = .ok (.imul, 1) := by decide +kernel
theorem dM_send_74 : decode zc_M_send 74 = .ok (.iaload, 1) := by decide +kernel
theorem dM_send_75 : decode zc_M_send 75 = .ok (.iastore, 1) := by decide +kernel
theorem dM_send_76 : decode zc_M_send 76 = .ok (.aload_n 0, 1) := by decide +kernel
theorem dM_send_77 : decode zc_M_send 77 = .ok (.getfield 63, 3) := by decide +kernel
theorem dM_send_80 : decode zc_M_send 80 = .ok (.iload_n 3, 1) := by decide +kernel
theorem dM_send_81 : decode zc_M_send 81 = .ok (.iaload, 1) := by decide +kernel
theorem dM_send_82 : decode zc_M_send 82 = .ok (.ireturn, 1) := by decide +kernel
theorem dM_arrive_0 : decode zc_M_arrive 0 = .ok (.aload_n 0, 1) := by decide +kernel
theorem dM_arrive_1 : decode zc_M_arrive 1 = .ok (.iload_n 1, 1) := by decide +kernel
theorem dM_arrive_2 : decode zc_M_arrive 2 = .ok (.iload_n 2, 1) := by decide +kernel
theorem dM_arrive_3 : decode zc_M_arrive 3 = .ok (.invokestatic 135, 3) := by decide +kernel
theorem dM_arrive_6 : decode zc_M_arrive 6 = .ok (.invokevirtual 95, 3) := by decide +kernel
theorem dM_arrive_9 : decode zc_M_arrive 9 = .ok (.ifCond .eq 5, 3) := by decide +kernel
theorem dM_arrive_12 : decode zc_M_arrive 12 = .ok (.iconst 0, 1) := by decide +kernel
theorem dM_arrive_13 : decode zc_M_arrive 13 = .ok (.ireturn, 1) := by decide +kernel
theorem dM_arrive_14 : decode zc_M_arrive 14 = .ok (.iconst 4, 1) := by decide +kernel
theorem dM_arrive_15 : decode zc_M_arrive 15 = .ok (.iload_n 1, 1) := by decide +kernel
theorem dM_arrive_16 : decode zc_M_arrive 16 = .ok (.imul, 1) := by decide +kernel
theorem dM_arrive_17 : decode zc_M_arrive 17 = .ok (.iload_n 2, 1) := by decide +kernel
theorem dM_arrive_18 : decode zc_M_arrive 18 = .ok (.iadd, 1) := by decide +kernel
theorem dM_arrive_19 : decode zc_M_arrive 19 = .ok (.istore_n 3, 1) := by decide +kernel
theorem dM_arrive_20 : decode zc_M_arrive 20 = .ok (.aload_n 0, 1) := by decide +kernel
theorem dM_arrive_21 : decode zc_M_arrive 21 = .ok (.getfield 63, 3) := by decide +kernel
theorem dM_arrive_24 : decode zc_M_arrive 24 = .ok (.iload_n 3, 1) := by decide +kernel
theorem dM_arrive_25 : decode zc_M_arrive 25 = .ok (.iaload, 1) := by decide +kernel
theorem dM_arrive_26 : decode zc_M_arrive 26 = .ok (.istore 4, 2) := by decide +kernel
theorem dM_arrive_28 : decode zc_M_arrive 28 = .ok (.iload 4, 2) := by decide +kernel
theorem dM_arrive_30 : decode zc_M_arrive 30 = .ok (.ifCond .ne 5, 3) := by decide +kernel
theorem dM_arrive_33 : decode zc_M_arrive 33 = .ok (.iconst (-1), 1) := by decide +kernel
theorem dM_arrive_34 : decode zc_M_arrive 34 = .ok (.ireturn, 1) := by decide +kernel
theorem dM_arrive_35 : decode zc_M_arrive 35 = .ok (.aload_n 0, 1) := by decide +kernel
theorem dM_arrive_36 : decode zc_M_arrive 36 = .ok (.getfield 63, 3) := by decide +kernel
theorem dM_arrive_39 : decode zc_M_arrive 39 = .ok (.iload_n 3, 1) := by decide +kernel
theorem dM_arrive_40 : decode zc_M_arrive 40 = .ok (.iconst 0, 1) := by decide +kernel
theorem dM_arrive_41 : decode zc_M_arrive 41 = .ok (.iastore, 1) := by decide +kernel
theorem dM_arrive_42 : decode zc_M_arrive 42 = .ok (.iconst 0, 1) := by decide +kernel
theorem dM_arrive_43 : decode zc_M_arrive 43 = .ok (.istore 5, 2) := by decide +kernel
theorem dM_arrive_45 : decode zc_M_arrive 45 = .ok (.iload 4, 2) := by decide +kernel
theorem dM_arrive_47 : decode zc_M_arrive 47 = .ok (.aload_n 0, 1) := by decide +kernel
theorem dM_arrive_48 : decode zc_M_arrive 48 = .ok (.getfield 66, 3) := by decide +kernel
theorem dM_arrive_51 : decode zc_M_arrive 51 = .ok (.iload_n 3, 1) := by decide +kernel
theorem dM_arrive_52 : decode zc_M_arrive 52 = .ok (.iaload, 1) := by decide +kernel
theorem dM_arrive_53 : decode zc_M_arrive 53 = .ok (.iconst 1, 1) := by decide +kernel
theorem dM_arrive_54 : decode zc_M_arrive 54 = .ok (.iadd, 1) := by decide +kernel
theorem dM_arrive_55 : decode zc_M_arrive 55 = .ok (.if_icmp .ne 57, 3) := by decide +kernel
theorem dM_arrive_58 : decode zc_M_arrive 58 = .ok (.aload_n 0, 1) := by decide +kernel
theorem dM_arrive_59 : decode zc_M_arrive 59 = .ok (.getfield 66, 3) := by decide +kernel
theorem dM_arrive_62 : decode zc_M_arrive 62 = .ok (.iload_n 3, 1) := by decide +kernel
theorem dM_arrive_63 : decode zc_M_arrive 63 = .ok (.iload 4, 2) := by decide +kernel
theorem dM_arrive_65 : decode zc_M_arrive 65 = .ok (.iastore, 1) := by decide +kernel
theorem dM_arrive_66 : decode zc_M_arrive 66 = .ok (.aload_n 0, 1) := by decide +kernel
theorem dM_arrive_67 : decode zc_M_arrive 67 = .ok (.getfield 17, 3) := by decide +kernel
theorem dM_arrive_70 : decode zc_M_arrive 70 = .ok (.bipush 16, 2) := by decide +kernel
theorem dM_arrive_72 : decode zc_M_arrive 72 = .ok (.iload_n 2, 1) := by decide +kernel
theorem dM_arrive_73 : decode zc_M_arrive 73 = .ok (.imul, 1) := by decide +kernel
theorem dM_arrive_74 : decode zc_M_arrive 74 = .ok (.aload_n 0, 1) := by decide +kernel
theorem dM_arrive_75 : decode zc_M_arrive 75 = .ok (.getfield 81, 3) := by decide +kernel
theorem dM_arrive_78 : decode zc_M_arrive 78 = .ok (.iload_n 3, 1) := by decide +kernel
theorem dM_arrive_79 : decode zc_M_arrive 79 = .ok (.iaload, 1) := by decide +kernel
theorem dM_arrive_80 : decode zc_M_arrive 80 = .ok (.iadd, 1) := by decide +kernel
theorem dM_arrive_81 : decode zc_M_arrive 81 = .ok (.aload_n 0, 1) := by decide +kernel
theorem dM_arrive_82 : decode zc_M_arrive 82 = .ok (.getfield 17, 3) := by decide +kernel
theorem dM_arrive_85 : decode zc_M_arrive 85 = .ok (.bipush 16, 2) := by decide +kernel
theorem dM_arrive_87 : decode zc_M_arrive 87 = .ok (.iload_n 2, 1) := by decide +kernel
theorem dM_arrive_88 : decode zc_M_arrive 88 = .ok (.imul, 1) := by decide +kernel
theorem dM_arrive_89 : decode zc_M_arrive 89 = .ok (.aload_n 0, 1) := by decide +kernel
theorem dM_arrive_90 : decode zc_M_arrive 90 = .ok (.getfield 81, 3) := by decide +kernel
theorem dM_arrive_93 : decode zc_M_arrive 93 = .ok (.iload_n 3, 1) := by decide +kernel
theorem dM_arrive_94 : decode zc_M_arrive 94 = .ok (.iaload, 1) := by decide +kernel
theorem dM_arrive_95 : decode zc_M_arrive 95 = .ok (.iadd, 1) := by decide +kernel
theorem dM_arrive_96 : decode zc_M_arrive 96 = .ok (.iaload, 1) := by decide +kernel
theorem dM_arrive_97 : decode zc_M_arrive 97 = .ok (.aload_n 0, 1) := by decide +kernel
theorem dM_arrive_98 : decode zc_M_arrive 98 = .ok (.getfield 84, 3) := by decide +kernel
theorem dM_arrive_101 : decode zc_M_arrive 101 = .ok (.iload_n 3, 1) := by decide +kernel
theorem dM_arrive_102 : decode zc_M_arrive 102 = .ok (.iaload, 1) := by decide +kernel
theorem dM_arrive_103 : decode zc_M_arrive 103 = .ok (.iadd, 1) := by decide +kernel
theorem dM_arrive_104 : decode zc_M_arrive 104 = .ok (.iastore, 1) := by decide +kernel
theorem dM_arrive_105 : decode zc_M_arrive 105 = .ok (.aload_n 0, 1) := by decide +kernel
theorem dM_arrive_106 : decode zc_M_arrive 106 = .ok (.iload_n 2, 1) := by decide +kernel
theorem dM_arrive_107 : decode zc_M_arrive 107 = .ok (.invokevirtual 125, 3) := by decide +kernel
theorem dM_arrive_110 : decode zc_M_arrive 110 = .ok (.istore 5, 2) := by decide +kernel
theorem dM_arrive_112 : decode zc_M_arrive 112 = .ok (.aload_n 0, 1) := by decide +kernel
theorem dM_arrive_113 : decode zc_M_arrive 113 = .ok (.getfield 69, 3) := by decide +kernel
theorem dM_arrive_116 : decode zc_M_arrive 116 = .ok (.iload_n 3, 1) := by decide +kernel
theorem dM_arrive_117 : decode zc_M_arrive 117 = .ok (.aload_n 0, 1) := by decide +kernel
theorem dM_arrive_118 : decode zc_M_arrive 118 = .ok (.getfield 66, 3) := by decide +kernel
theorem dM_arrive_121 : decode zc_M_arrive 121 = .ok (.iload_n 3, 1) := by decide +kernel
theorem dM_arrive_122 : decode zc_M_arrive 122 = .ok (.iaload, 1) := by decide +kernel
theorem dM_arrive_123 : decode zc_M_arrive 123 = .ok (.iastore, 1) := by decide +kernel
theorem dM_arrive_124 : decode zc_M_arrive 124 = .ok (.iload 5, 2) := by decide +kernel
theorem dM_arrive_126 : decode zc_M_arrive 126 = .ok (.ireturn, 1) := by decide +kernel
theorem dM_receipt_0 : decode zc_M_receipt 0 = .ok (.aload_n 0, 1) := by decide +kernel
theorem dM_receipt_1 : decode zc_M_receipt 1 = .ok (.iload_n 1, 1) := by decide +kernel
theorem dM_receipt_2 : decode zc_M_receipt 2 = .ok (.iload_n 2, 1) := by decide +kernel
theorem dM_receipt_3 : decode zc_M_receipt 3 = .ok (.invokestatic 135, 3) := by decide +kernel
theorem dM_receipt_6 : decode zc_M_receipt 6 = .ok (.invokevirtual 95, 3) := by decide +kernel
theorem dM_receipt_9 : decode zc_M_receipt 9 = .ok (.ifCond .eq 5, 3) := by decide +kernel
theorem dM_receipt_12 : decode zc_M_receipt 12 = .ok (.iconst 0, 1) := by decide +kernel
theorem dM_receipt_13 : decode zc_M_receipt 13 = .ok (.ireturn, 1) := by decide +kernel
theorem dM_receipt_14 : decode zc_M_receipt 14 = .ok (.iconst 4, 1) := by decide +kernel
theorem dM_receipt_15 : decode zc_M_receipt 15 = .ok (.iload_n 1, 1) := by decide +kernel
theorem dM_receipt_16 : decode zc_M_receipt 16 = .ok (.imul, 1) := by decide +kernel
theorem dM_receipt_17 : decode zc_M_receipt 17 = .ok (.iload_n 2, 1) := by decide +kernel
theorem dM_receipt_18 : decode zc_M_receipt 18 = .ok (.iadd, 1) := by decide +kernel
theorem dM_receipt_19 : decode zc_M_receipt 19 = .ok (.istore_n 3, 1) := by decide +kernel
theorem dM_receipt_20 : decode zc_M_receipt 20 = .ok (.aload_n 0, 1) := by decide +kernel
theorem dM_receipt_21 : decode zc_M_receipt 21 = .ok (.getfield 69, 3) := by decide +kernel
theorem dM_receipt_24 : decode zc_M_receipt 24 = .ok (.iload_n 3, 1) := by decide +kernel
theorem dM_receipt_25 : decode zc_M_receipt 25 = .ok (.iaload, 1) := by decide +kernel
theorem dM_receipt_26 : decode zc_M_receipt 26 = .ok (.istore 4, 2) := by decide +kernel
theorem dM_receipt_28 : decode zc_M_receipt 28 = .ok (.iload 4, 2) := by decide +kernel
theorem dM_receipt_30 : decode zc_M_receipt 30 = .ok (.ifCond .ge 5, 3) := by decide +kernel
theorem dM_receipt_33 : decode zc_M_receipt 33 = .ok (.iconst (-1), 1) := by decide +kernel
theorem dM_receipt_34 : decode zc_M_receipt 34 = .ok (.ireturn, 1) := by decide +kernel
theorem dM_receipt_35 : decode zc_M_receipt 35 = .ok (.aload_n 0, 1) := by decide +kernel
theorem dM_receipt_36 : decode zc_M_receipt 36 = .ok (.getfield 69, 3) := by decide +kernel
theorem dM_receipt_39 : decode zc_M_receipt 39 = .ok (.iload_n 3, 1) := by decide +kernel
theorem dM_receipt_40 : decode zc_M_receipt 40 = .ok (.iconst (-1), 1) := by decide +kernel
theorem dM_receipt_41 : decode zc_M_receipt 41 = .ok (.iastore, 1) := by decide +kernel
theorem dM_receipt_42 : decode zc_M_receipt 42 = .ok (.iconst 0, 1) := by decide +kernel
theorem dM_receipt_43 : decode zc_M_receipt 43 = .ok (.istore 5, 2) := by decide +kernel
theorem dM_receipt_45 : decode zc_M_receipt 45 = .ok (.aload_n 0, 1) := by decide +kernel
theorem dM_receipt_46 : decode zc_M_receipt 46 = .ok (.getfield 60, 3) := by decide +kernel
theorem dM_receipt_49 : decode zc_M_receipt 49 = .ok (.iload_n 3, 1) := by decide +kernel
theorem dM_receipt_50 : decode zc_M_receipt 50 = .ok (.iaload, 1) := by decide +kernel
theorem dM_receipt_51 : decode zc_M_receipt 51 = .ok (.istore 6, 2) := by decide +kernel
theorem dM_receipt_53 : decode zc_M_receipt 53 = .ok (.bipush 8, 2) := by decide +kernel
theorem dM_receipt_55 : decode zc_M_receipt 55 = .ok (.iload_n 3, 1) := by decide +kernel
theorem dM_receipt_56 : decode zc_M_receipt 56 = .ok (.imul, 1) := by decide +kernel
theorem dM_receipt_57 : decode zc_M_receipt 57 = .ok (.istore 7, 2) := by decide +kernel
theorem dM_receipt_59 : decode zc_M_receipt 59 = .ok (.iload 7, 2) := by decide +kernel
theorem dM_receipt_61 : decode zc_M_receipt 61 = .ok (.bipush 8, 2) := by decide +kernel
