theorem dM_serve_3 : decode zc_M_serve 3 = .ok (.istore_n 3, 1) := by decide +kernel
theorem dM_serve_4 : decode zc_M_serve 4 = .ok (.aload_n 0, 1) := by decide +kernel
theorem dM_serve_5 : decode zc_M_serve 5 = .ok (.getfield 48, 3) := by decide +kernel
theorem dM_serve_8 : decode zc_M_serve 8 = .ok (.iload_n 1, 1) := by decide +kernel
theorem dM_serve_9 : decode zc_M_serve 9 = .ok (.iaload, 1) := by decide +kernel
theorem dM_serve_10 : decode zc_M_serve 10 = .ok (.istore 4, 2) := by decide +kernel
theorem dM_serve_12 : decode zc_M_serve 12 = .ok (.iconst 0, 1) := by decide +kernel
theorem dM_serve_13 : decode zc_M_serve 13 = .ok (.istore 5, 2) := by decide +kernel
theorem dM_serve_15 : decode zc_M_serve 15 = .ok (.iload 5, 2) := by decide +kernel
theorem dM_serve_17 : decode zc_M_serve 17 = .ok (.iload 4, 2) := by decide +kernel
theorem dM_serve_19 : decode zc_M_serve 19 = .ok (.if_icmp .ge 149, 3) := by decide +kernel
theorem dM_serve_22 : decode zc_M_serve 22 = .ok (.bipush 6, 2) := by decide +kernel
theorem dM_serve_24 : decode zc_M_serve 24 = .ok (.iload_n 1, 1) := by decide +kernel
theorem dM_serve_25 : decode zc_M_serve 25 = .ok (.imul, 1) := by decide +kernel
theorem dM_serve_26 : decode zc_M_serve 26 = .ok (.iload 5, 2) := by decide +kernel
theorem dM_serve_28 : decode zc_M_serve 28 = .ok (.iadd, 1) := by decide +kernel
theorem dM_serve_29 : decode zc_M_serve 29 = .ok (.istore 6, 2) := by decide +kernel
theorem dM_serve_31 : decode zc_M_serve 31 = .ok (.sipush 324, 3) := by decide +kernel
theorem dM_serve_34 : decode zc_M_serve 34 = .ok (.iconst 4, 1) := by decide +kernel
theorem dM_serve_35 : decode zc_M_serve 35 = .ok (.iload 6, 2) := by decide +kernel
theorem dM_serve_37 : decode zc_M_serve 37 = .ok (.imul, 1) := by decide +kernel
theorem dM_serve_38 : decode zc_M_serve 38 = .ok (.iadd, 1) := by decide +kernel
theorem dM_serve_39 : decode zc_M_serve 39 = .ok (.istore 7, 2) := by decide +kernel
theorem dM_serve_41 : decode zc_M_serve 41 = .ok (.aload_n 0, 1) := by decide +kernel
theorem dM_serve_42 : decode zc_M_serve 42 = .ok (.getfield 110, 3) := by decide +kernel
theorem dM_serve_45 : decode zc_M_serve 45 = .ok (.bipush 80, 2) := by decide +kernel
theorem dM_serve_47 : decode zc_M_serve 47 = .ok (.if_icmp .ge 55, 3) := by decide +kernel
theorem dM_serve_50 : decode zc_M_serve 50 = .ok (.aload_n 0, 1) := by decide +kernel
theorem dM_serve_51 : decode zc_M_serve 51 = .ok (.iload_n 1, 1) := by decide +kernel
theorem dM_serve_52 : decode zc_M_serve 52 = .ok (.iload 7, 2) := by decide +kernel
theorem dM_serve_54 : decode zc_M_serve 54 = .ok (.aload_n 0, 1) := by decide +kernel
theorem dM_serve_55 : decode zc_M_serve 55 = .ok (.getfield 54, 3) := by decide +kernel
theorem dM_serve_58 : decode zc_M_serve 58 = .ok (.iload 6, 2) := by decide +kernel
theorem dM_serve_60 : decode zc_M_serve 60 = .ok (.iaload, 1) := by decide +kernel
theorem dM_serve_61 : decode zc_M_serve 61 = .ok (.aload_n 0, 1) := by decide +kernel
theorem dM_serve_62 : decode zc_M_serve 62 = .ok (.getfield 51, 3) := by decide +kernel
theorem dM_serve_65 : decode zc_M_serve 65 = .ok (.iload 6, 2) := by decide +kernel
theorem dM_serve_67 : decode zc_M_serve 67 = .ok (.iaload, 1) := by decide +kernel
theorem dM_serve_68 : decode zc_M_serve 68 = .ok (.invokevirtual 117, 3) := by decide +kernel
theorem dM_serve_71 : decode zc_M_serve 71 = .ok (.ifCond .eq 31, 3) := by decide +kernel
theorem dM_serve_74 : decode zc_M_serve 74 = .ok (.aload_n 0, 1) := by decide +kernel
theorem dM_serve_75 : decode zc_M_serve 75 = .ok (.iload_n 1, 1) := by decide +kernel
theorem dM_serve_76 : decode zc_M_serve 76 = .ok (.iload 7, 2) := by decide +kernel
theorem dM_serve_78 : decode zc_M_serve 78 = .ok (.aload_n 0, 1) := by decide +kernel
theorem dM_serve_79 : decode zc_M_serve 79 = .ok (.getfield 54, 3) := by decide +kernel
theorem dM_serve_82 : decode zc_M_serve 82 = .ok (.iload 6, 2) := by decide +kernel
theorem dM_serve_84 : decode zc_M_serve 84 = .ok (.iaload, 1) := by decide +kernel
theorem dM_serve_85 : decode zc_M_serve 85 = .ok (.aload_n 0, 1) := by decide +kernel
theorem dM_serve_86 : decode zc_M_serve 86 = .ok (.getfield 51, 3) := by decide +kernel
theorem dM_serve_89 : decode zc_M_serve 89 = .ok (.iload 6, 2) := by decide +kernel
theorem dM_serve_91 : decode zc_M_serve 91 = .ok (.iaload, 1) := by decide +kernel
theorem dM_serve_92 : decode zc_M_serve 92 = .ok (.invokevirtual 121, 3) := by decide +kernel
theorem dM_serve_95 : decode zc_M_serve 95 = .ok (.pop, 1) := by decide +kernel
theorem dM_serve_96 : decode zc_M_serve 96 = .ok (.iinc 2 1, 3) := by decide +kernel
theorem dM_serve_99 : decode zc_M_serve 99 = .ok (.goto 63, 3) := by decide +kernel
theorem dM_serve_102 : decode zc_M_serve 102 = .ok (.bipush 6, 2) := by decide +kernel
theorem dM_serve_104 : decode zc_M_serve 104 = .ok (.iload_n 1, 1) := by decide +kernel
theorem dM_serve_105 : decode zc_M_serve 105 = .ok (.imul, 1) := by decide +kernel
theorem dM_serve_106 : decode zc_M_serve 106 = .ok (.iload_n 3, 1) := by decide +kernel
theorem dM_serve_107 : decode zc_M_serve 107 = .ok (.iadd, 1) := by decide +kernel
theorem dM_serve_108 : decode zc_M_serve 108 = .ok (.istore 8, 2) := by decide +kernel
theorem dM_serve_110 : decode zc_M_serve 110 = .ok (.aload_n 0, 1) := by decide +kernel
theorem dM_serve_111 : decode zc_M_serve 111 = .ok (.sipush 324, 3) := by decide +kernel
theorem dM_serve_114 : decode zc_M_serve 114 = .ok (.iconst 4, 1) := by decide +kernel
theorem dM_serve_115 : decode zc_M_serve 115 = .ok (.iload 8, 2) := by decide +kernel
theorem dM_serve_117 : decode zc_M_serve 117 = .ok (.imul, 1) := by decide +kernel
theorem dM_serve_118 : decode zc_M_serve 118 = .ok (.iadd, 1) := by decide +kernel
theorem dM_serve_119 : decode zc_M_serve 119 = .ok (.iload 7, 2) := by decide +kernel
theorem dM_serve_121 : decode zc_M_serve 121 = .ok (.aload_n 0, 1) := by decide +kernel
theorem dM_serve_122 : decode zc_M_serve 122 = .ok (.getfield 54, 3) := by decide +kernel
theorem dM_serve_125 : decode zc_M_serve 125 = .ok (.iload 6, 2) := by decide +kernel
theorem dM_serve_127 : decode zc_M_serve 127 = .ok (.iaload, 1) := by decide +kernel
theorem dM_serve_128 : decode zc_M_serve 128 = .ok (.invokevirtual 113, 3) := by decide +kernel
theorem dM_serve_131 : decode zc_M_serve 131 = .ok (.aload_n 0, 1) := by decide +kernel
theorem dM_serve_132 : decode zc_M_serve 132 = .ok (.getfield 51, 3) := by decide +kernel
theorem dM_serve_135 : decode zc_M_serve 135 = .ok (.iload 8, 2) := by decide +kernel
theorem dM_serve_137 : decode zc_M_serve 137 = .ok (.aload_n 0, 1) := by decide +kernel
theorem dM_serve_138 : decode zc_M_serve 138 = .ok (.getfield 51, 3) := by decide +kernel
theorem dM_serve_141 : decode zc_M_serve 141 = .ok (.iload 6, 2) := by decide +kernel
theorem dM_serve_143 : decode zc_M_serve 143 = .ok (.iaload, 1) := by decide +kernel
theorem dM_serve_144 : decode zc_M_serve 144 = .ok (.iastore, 1) := by decide +kernel
theorem dM_serve_145 : decode zc_M_serve 145 = .ok (.aload_n 0, 1) := by decide +kernel
theorem dM_serve_146 : decode zc_M_serve 146 = .ok (.getfield 54, 3) := by decide +kernel
theorem dM_serve_149 : decode zc_M_serve 149 = .ok (.iload 8, 2) := by decide +kernel
theorem dM_serve_151 : decode zc_M_serve 151 = .ok (.aload_n 0, 1) := by decide +kernel
theorem dM_serve_152 : decode zc_M_serve 152 = .ok (.getfield 54, 3) := by decide +kernel
theorem dM_serve_155 : decode zc_M_serve 155 = .ok (.iload 6, 2) := by decide +kernel
theorem dM_serve_157 : decode zc_M_serve 157 = .ok (.iaload, 1) := by decide +kernel
theorem dM_serve_158 : decode zc_M_serve 158 = .ok (.iastore, 1) := by decide +kernel
theorem dM_serve_159 : decode zc_M_serve 159 = .ok (.iinc 3 1, 3) := by decide +kernel
theorem dM_serve_162 : decode zc_M_serve 162 = .ok (.iinc 5 1, 3) := by decide +kernel
theorem dM_serve_165 : decode zc_M_serve 165 = .ok (.goto (-150), 3) := by decide +kernel
theorem dM_serve_168 : decode zc_M_serve 168 = .ok (.aload_n 0, 1) := by decide +kernel
theorem dM_serve_169 : decode zc_M_serve 169 = .ok (.getfield 48, 3) := by decide +kernel
theorem dM_serve_172 : decode zc_M_serve 172 = .ok (.iload_n 1, 1) := by decide +kernel
theorem dM_serve_173 : decode zc_M_serve 173 = .ok (.iload_n 3, 1) := by decide +kernel
theorem dM_serve_174 : decode zc_M_serve 174 = .ok (.iastore, 1) := by decide +kernel
theorem dM_serve_175 : decode zc_M_serve 175 = .ok (.iload_n 2, 1) := by decide +kernel
theorem dM_serve_176 : decode zc_M_serve 176 = .ok (.ireturn, 1) := by decide +kernel
theorem dM_cancel_0 : decode zc_M_cancel 0 = .ok (.aload_n 0, 1) := by decide +kernel
theorem dM_cancel_1 : decode zc_M_cancel 1 = .ok (.aload_n 0, 1) := by decide +kernel
theorem dM_cancel_2 : decode zc_M_cancel 2 = .ok (.iload_n 1, 1) := by decide +kernel
theorem dM_cancel_3 : decode zc_M_cancel 3 = .ok (.invokevirtual 129, 3) := by decide +kernel
theorem dM_cancel_6 : decode zc_M_cancel 6 = .ok (.ifCond .ne 7, 3) := by decide +kernel
theorem dM_cancel_9 : decode zc_M_cancel 9 = .ok (.iconst 1, 1) := by decide +kernel
theorem dM_cancel_10 : decode zc_M_cancel 10 = .ok (.goto 17, 3) := by decide +kernel
theorem dM_cancel_13 : decode zc_M_cancel 13 = .ok (.aload_n 0, 1) := by decide +kernel
theorem dM_cancel_14 : decode zc_M_cancel 14 = .ok (.getfield 42, 3) := by decide +kernel
theorem dM_cancel_17 : decode zc_M_cancel 17 = .ok (.iload_n 1, 1) := by decide +kernel
theorem dM_cancel_18 : decode zc_M_cancel 18 = .ok (.baload, 1) := by decide +kernel
theorem dM_cancel_19 : decode zc_M_cancel 19 = .ok (.ifCond .ne 7, 3) := by decide +kernel
theorem dM_cancel_22 : decode zc_M_cancel 22 = .ok (.iconst 2, 1) := by decide +kernel
theorem dM_cancel_23 : decode zc_M_cancel 23 = .ok (.goto 4, 3) := by decide +kernel
theorem dM_cancel_26 : decode zc_M_cancel 26 = .ok (.iconst 0, 1) := by decide +kernel
theorem dM_cancel_27 : decode zc_M_cancel 27 = .ok (.invokevirtual 95, 3) := by decide +kernel
theorem dM_cancel_30 : decode zc_M_cancel 30 = .ok (.ifCond .eq 5, 3) := by decide +kernel
theorem dM_cancel_33 : decode zc_M_cancel 33 = .ok (.iconst 0, 1) := by decide +kernel
theorem dM_cancel_34 : decode zc_M_cancel 34 = .ok (.ireturn, 1) := by decide +kernel
theorem dM_cancel_35 : decode zc_M_cancel 35 = .ok (.aload_n 0, 1) := by decide +kernel
theorem dM_cancel_36 : decode zc_M_cancel 36 = .ok (.getfield 42, 3) := by decide +kernel
theorem dM_cancel_39 : decode zc_M_cancel 39 = .ok (.iload_n 1, 1) := by decide +kernel
theorem dM_cancel_40 : decode zc_M_cancel 40 = .ok (.iconst 0, 1) := by decide +kernel
theorem dM_cancel_41 : decode zc_M_cancel 41 = .ok (.bastore, 1) := by decide +kernel
theorem dM_cancel_42 : decode zc_M_cancel 42 = .ok (.aload_n 0, 1) := by decide +kernel
theorem dM_cancel_43 : decode zc_M_cancel 43 = .ok (.aload_n 0, 1) := by decide +kernel
theorem dM_cancel_44 : decode zc_M_cancel 44 = .ok (.getfield 29, 3) := by decide +kernel
theorem dM_cancel_47 : decode zc_M_cancel 47 = .ok (.iload_n 1, 1) := by decide +kernel
theorem dM_cancel_48 : decode zc_M_cancel 48 = .ok (.iaload, 1) := by decide +kernel
theorem dM_cancel_49 : decode zc_M_cancel 49 = .ok (.iconst 4, 1) := by decide +kernel
theorem dM_cancel_50 : decode zc_M_cancel 50 = .ok (.iconst 4, 1) := by decide +kernel
theorem dM_cancel_51 : decode zc_M_cancel 51 = .ok (.iload_n 1, 1) := by decide +kernel
theorem dM_cancel_52 : decode zc_M_cancel 52 = .ok (.imul, 1) := by decide +kernel
theorem dM_cancel_53 : decode zc_M_cancel 53 = .ok (.iadd, 1) := by decide +kernel
theorem dM_cancel_54 : decode zc_M_cancel 54 = .ok (.aload_n 0, 1) := by decide +kernel
theorem dM_cancel_55 : decode zc_M_cancel 55 = .ok (.getfield 35, 3) := by decide +kernel
theorem dM_cancel_58 : decode zc_M_cancel 58 = .ok (.iload_n 1, 1) := by decide +kernel
theorem dM_cancel_59 : decode zc_M_cancel 59 = .ok (.iaload, 1) := by decide +kernel
theorem dM_cancel_60 : decode zc_M_cancel 60 = .ok (.aload_n 0, 1) := by decide +kernel
theorem dM_cancel_61 : decode zc_M_cancel 61 = .ok (.getfield 32, 3) := by decide +kernel
theorem dM_cancel_64 : decode zc_M_cancel 64 = .ok (.iload_n 1, 1) := by decide +kernel
theorem dM_cancel_65 : decode zc_M_cancel 65 = .ok (.iaload, 1) := by decide +kernel
theorem dM_cancel_66 : decode zc_M_cancel 66 = .ok (.invokevirtual 106, 3) := by decide +kernel
theorem dM_cancel_69 : decode zc_M_cancel 69 = .ok (.aload_n 0, 1) := by decide +kernel
theorem dM_cancel_70 : decode zc_M_cancel 70 = .ok (.getfield 45, 3) := by decide +kernel
theorem dM_cancel_73 : decode zc_M_cancel 73 = .ok (.aload_n 0, 1) := by decide +kernel
theorem dM_cancel_74 : decode zc_M_cancel 74 = .ok (.getfield 29, 3) := by decide +kernel
theorem dM_cancel_77 : decode zc_M_cancel 77 = .ok (.iload_n 1, 1) := by decide +kernel
theorem dM_cancel_78 : decode zc_M_cancel 78 = .ok (.iaload, 1) := by decide +kernel
theorem dM_cancel_79 : decode zc_M_cancel 79 = .ok (.aload_n 0, 1) := by decide +kernel
theorem dM_cancel_80 : decode zc_M_cancel 80 = .ok (.getfield 45, 3) := by decide +kernel
theorem dM_cancel_83 : decode zc_M_cancel 83 = .ok (.aload_n 0, 1) := by decide +kernel
theorem dM_cancel_84 : decode zc_M_cancel 84 = .ok (.getfield 29, 3) := by decide +kernel
theorem dM_cancel_87 : decode zc_M_cancel 87 = .ok (.iload_n 1, 1) := by decide +kernel
theorem dM_cancel_88 : decode zc_M_cancel 88 = .ok (.iaload, 1) := by decide +kernel
theorem dM_cancel_89 : decode zc_M_cancel 89 = .ok (.laload, 1) := by decide +kernel
theorem dM_cancel_90 : decode zc_M_cancel 90 = .ok (.aload_n 0, 1) := by decide +kernel
theorem dM_cancel_91 : decode zc_M_cancel 91 = .ok (.getfield 38, 3) := by decide +kernel
theorem dM_cancel_94 : decode zc_M_cancel 94 = .ok (.iload_n 1, 1) := by decide +kernel
theorem dM_cancel_95 : decode zc_M_cancel 95 = .ok (.laload, 1) := by decide +kernel
theorem dM_cancel_96 : decode zc_M_cancel 96 = .ok (.lsub, 1) := by decide +kernel
theorem dM_cancel_97 : decode zc_M_cancel 97 = .ok (.lastore, 1) := by decide +kernel
theorem dM_cancel_98 : decode zc_M_cancel 98 = .ok (.aload_n 0, 1) := by decide +kernel
theorem dM_cancel_99 : decode zc_M_cancel 99 = .ok (.aload_n 0, 1) := by decide +kernel
theorem dM_cancel_100 : decode zc_M_cancel 100 = .ok (.getfield 29, 3) := by decide +kernel
theorem dM_cancel_103 : decode zc_M_cancel 103 = .ok (.iload_n 1, 1) := by decide +kernel
theorem dM_cancel_104 : decode zc_M_cancel 104 = .ok (.iaload, 1) := by decide +kernel
theorem dM_cancel_105 : decode zc_M_cancel 105 = .ok (.invokevirtual 125, 3) := by decide +kernel
theorem dM_cancel_108 : decode zc_M_cancel 108 = .ok (.ireturn, 1) := by decide +kernel
theorem dM_isTicket_0 : decode zc_M_isTicket 0 = .ok (.iload_n 1, 1) := by decide +kernel
theorem dM_isTicket_1 : decode zc_M_isTicket 1 = .ok (.ifCond .lt 15, 3) := by decide +kernel
theorem dM_isTicket_4 : decode zc_M_isTicket 4 = .ok (.iload_n 1, 1) := by decide +kernel
theorem dM_isTicket_5 : decode zc_M_isTicket 5 = .ok (.aload_n 0, 1) := by decide +kernel
theorem dM_isTicket_6 : decode zc_M_isTicket 6 = .ok (.getfield 110, 3) := by decide +kernel
theorem dM_isTicket_9 : decode zc_M_isTicket 9 = .ok (.if_icmp .ge 7, 3) := by decide +kernel
theorem dM_isTicket_12 : decode zc_M_isTicket 12 = .ok (.iconst 1, 1) := by decide +kernel
theorem dM_isTicket_13 : decode zc_M_isTicket 13 = .ok (.goto 4, 3) := by decide +kernel
theorem dM_isTicket_16 : decode zc_M_isTicket 16 = .ok (.iconst 0, 1) := by decide +kernel
theorem dM_isTicket_17 : decode zc_M_isTicket 17 = .ok (.ireturn, 1) := by decide +kernel
theorem dM_ticket_0 : decode zc_M_ticket 0 = .ok (.aload_n 0, 1) := by decide +kernel
theorem dM_ticket_1 : decode zc_M_ticket 1 = .ok (.aload_n 0, 1) := by decide +kernel
theorem dM_ticket_2 : decode zc_M_ticket 2 = .ok (.iload_n 1, 1) := by decide +kernel
theorem dM_ticket_3 : decode zc_M_ticket 3 = .ok (.invokevirtual 129, 3) := by decide +kernel
theorem dM_ticket_6 : decode zc_M_ticket 6 = .ok (.ifCond .ne 7, 3) := by decide +kernel
theorem dM_ticket_9 : decode zc_M_ticket 9 = .ok (.iconst 1, 1) := by decide +kernel
theorem dM_ticket_10 : decode zc_M_ticket 10 = .ok (.goto 17, 3) := by decide +kernel
theorem dM_ticket_13 : decode zc_M_ticket 13 = .ok (.iload_n 2, 1) := by decide +kernel
theorem dM_ticket_14 : decode zc_M_ticket 14 = .ok (.ifCond .lt 8, 3) := by decide +kernel
theorem dM_ticket_17 : decode zc_M_ticket 17 = .ok (.iload_n 2, 1) := by decide +kernel
theorem dM_ticket_18 : decode zc_M_ticket 18 = .ok (.iconst 3, 1) := by decide +kernel
theorem dM_ticket_19 : decode zc_M_ticket 19 = .ok (.if_icmp .le 7, 3) := by decide +kernel
theorem dM_ticket_22 : decode zc_M_ticket 22 = .ok (.iconst 2, 1) := by decide +kernel
theorem dM_ticket_23 : decode zc_M_ticket 23 = .ok (.goto 4, 3) := by decide +kernel
theorem dM_ticket_26 : decode zc_M_ticket 26 = .ok (.iconst 0, 1) := by decide +kernel
theorem dM_ticket_27 : decode zc_M_ticket 27 = .ok (.invokevirtual 95, 3) := by decide +kernel
theorem dM_ticket_30 : decode zc_M_ticket 30 = .ok (.ifCond .eq 5, 3) := by decide +kernel
theorem dM_ticket_33 : decode zc_M_ticket 33 = .ok (.iconst 0, 1) := by decide +kernel
theorem dM_ticket_34 : decode zc_M_ticket 34 = .ok (.ireturn, 1) := by decide +kernel
theorem dM_ticket_35 : decode zc_M_ticket 35 = .ok (.iload_n 2, 1) := by decide +kernel
theorem dM_ticket_36 : decode zc_M_ticket 36 = .ok (.ifCond .ne 12, 3) := by decide +kernel
theorem dM_ticket_39 : decode zc_M_ticket 39 = .ok (.aload_n 0, 1) := by decide +kernel
theorem dM_ticket_40 : decode zc_M_ticket 40 = .ok (.getfield 29, 3) := by decide +kernel
theorem dM_ticket_43 : decode zc_M_ticket 43 = .ok (.iload_n 1, 1) := by decide +kernel
theorem dM_ticket_44 : decode zc_M_ticket 44 = .ok (.iaload, 1) := by decide +kernel
theorem dM_ticket_45 : decode zc_M_ticket 45 = .ok (.goto 45, 3) := by decide +kernel
theorem dM_ticket_48 : decode zc_M_ticket 48 = .ok (.iload_n 2, 1) := by decide +kernel
theorem dM_ticket_49 : decode zc_M_ticket 49 = .ok (.iconst 1, 1) := by decide +kernel
theorem dM_ticket_50 : decode zc_M_ticket 50 = .ok (.if_icmp .ne 12, 3) := by decide +kernel
theorem dM_ticket_53 : decode zc_M_ticket 53 = .ok (.aload_n 0, 1) := by decide +kernel
theorem dM_ticket_54 : decode zc_M_ticket 54 = .ok (.getfield 32, 3) := by decide +kernel
theorem dM_ticket_57 : decode zc_M_ticket 57 = .ok (.iload_n 1, 1) := by decide +kernel
theorem dM_ticket_58 : decode zc_M_ticket 58 = .ok (.iaload, 1) := by decide +kernel
theorem dM_ticket_59 : decode zc_M_ticket 59 = .ok (.goto 31, 3) := by decide +kernel
theorem dM_ticket_62 : decode zc_M_ticket 62 = .ok (.iload_n 2, 1) := by decide +kernel
theorem dM_ticket_63 : decode zc_M_ticket 63 = .ok (.iconst 2, 1) := by decide +kernel
theorem dM_ticket_64 : decode zc_M_ticket 64 = .ok (.if_icmp .ne 12, 3) := by decide +kernel
theorem dM_ticket_67 : decode zc_M_ticket 67 = .ok (.aload_n 0, 1) := by decide +kernel
theorem dM_ticket_68 : decode zc_M_ticket 68 = .ok (.getfield 35, 3) := by decide +kernel
theorem dM_ticket_71 : decode zc_M_ticket 71 = .ok (.iload_n 1, 1) := by decide +kernel
theorem dM_ticket_72 : decode zc_M_ticket 72 = .ok (.iaload, 1) := by decide +kernel
theorem dM_ticket_73 : decode zc_M_ticket 73 = .ok (.goto 17, 3) := by decide +kernel
theorem dM_ticket_76 : decode zc_M_ticket 76 = .ok (.aload_n 0, 1) := by decide +kernel
theorem dM_ticket_77 : decode zc_M_ticket 77 = .ok (.getfield 42, 3) := by decide +kernel
theorem dM_ticket_80 : decode zc_M_ticket 80 = .ok (.iload_n 1, 1) := by decide +kernel
theorem dM_ticket_81 : decode zc_M_ticket 81 = .ok (.baload, 1) := by decide +kernel
theorem dM_ticket_82 : decode zc_M_ticket 82 = .ok (.ifCond .eq 7, 3) := by decide +kernel
theorem dM_ticket_85 : decode zc_M_ticket 85 = .ok (.iconst 1, 1) := by decide +kernel
theorem dM_ticket_86 : decode zc_M_ticket 86 = .ok (.goto 4, 3) := by decide +kernel
theorem dM_ticket_89 : decode zc_M_ticket 89 = .ok (.iconst 0, 1) := by decide +kernel
theorem dM_ticket_90 : decode zc_M_ticket 90 = .ok (.ireturn, 1) := by decide +kernel
theorem dM_price_0 : decode zc_M_price 0 = .ok (.aload_n 0, 1) := by decide +kernel
theorem dM_price_1 : decode zc_M_price 1 = .ok (.aload_n 0, 1) := by decide +kernel
theorem dM_price_2 : decode zc_M_price 2 = .ok (.iload_n 1, 1) := by decide +kernel
theorem dM_price_3 : decode zc_M_price 3 = .ok (.invokevirtual 129, 3) := by decide +kernel
theorem dM_price_6 : decode zc_M_price 6 = .ok (.ifCond .eq 7, 3) := by decide +kernel
theorem dM_price_9 : decode zc_M_price 9 = .ok (.iconst 0, 1) := by decide +kernel
theorem dM_price_10 : decode zc_M_price 10 = .ok (.goto 4, 3) := by decide +kernel
theorem dM_price_13 : decode zc_M_price 13 = .ok (.iconst 1, 1) := by decide +kernel
theorem dM_price_14 : decode zc_M_price 14 = .ok (.invokevirtual 95, 3) := by decide +kernel
theorem dM_price_17 : decode zc_M_price 17 = .ok (.ifCond .eq 7, 3) := by decide +kernel
theorem dM_price_20 : decode zc_M_price 20 = .ok (.lconst 0, 1) := by decide +kernel
theorem dM_price_21 : decode zc_M_price 21 = .ok (.goto 9, 3) := by decide +kernel
theorem dM_price_24 : decode zc_M_price 24 = .ok (.aload_n 0, 1) := by decide +kernel
theorem dM_price_25 : decode zc_M_price 25 = .ok (.getfield 38, 3) := by decide +kernel
theorem dM_price_28 : decode zc_M_price 28 = .ok (.iload_n 1, 1) := by decide +kernel
theorem dM_price_29 : decode zc_M_price 29 = .ok (.laload, 1) := by decide +kernel
theorem dM_price_30 : decode zc_M_price 30 = .ok (.lreturn, 1) := by decide +kernel
theorem dM_hand_0 : decode zc_M_hand 0 = .ok (.iload_n 1, 1) := by decide +kernel
theorem dM_hand_1 : decode zc_M_hand 1 = .ok (.invokestatic 91, 3) := by decide +kernel
theorem dM_hand_4 : decode zc_M_hand 4 = .ok (.ifCond .eq 29, 3) := by decide +kernel
theorem dM_hand_7 : decode zc_M_hand 7 = .ok (.iload_n 2, 1) := by decide +kernel
theorem dM_hand_8 : decode zc_M_hand 8 = .ok (.invokestatic 91, 3) := by decide +kernel
theorem dM_hand_11 : decode zc_M_hand 11 = .ok (.ifCond .eq 22, 3) := by decide +kernel
theorem dM_hand_14 : decode zc_M_hand 14 = .ok (.iload_n 3, 1) := by decide +kernel
theorem dM_hand_15 : decode zc_M_hand 15 = .ok (.invokestatic 91, 3) := by decide +kernel
theorem dM_hand_18 : decode zc_M_hand 18 = .ok (.ifCond .eq 15, 3) := by decide +kernel
theorem dM_hand_21 : decode zc_M_hand 21 = .ok (.iload 4, 2) := by decide +kernel
theorem dM_hand_23 : decode zc_M_hand 23 = .ok (.invokestatic 91, 3) := by decide +kernel
theorem dM_hand_26 : decode zc_M_hand 26 = .ok (.ifCond .eq 7, 3) := by decide +kernel
theorem dM_hand_29 : decode zc_M_hand 29 = .ok (.iconst 1, 1) := by decide +kernel
theorem dM_hand_30 : decode zc_M_hand 30 = .ok (.goto 4, 3) := by decide +kernel
theorem dM_hand_33 : decode zc_M_hand 33 = .ok (.iconst 0, 1) := by decide +kernel
theorem dM_hand_34 : decode zc_M_hand 34 = .ok (.istore 6, 2) := by decide +kernel
theorem dM_hand_36 : decode zc_M_hand 36 = .ok (.aload_n 0, 1) := by decide +kernel
theorem dM_hand_37 : decode zc_M_hand 37 = .ok (.iload 6, 2) := by decide +kernel
theorem dM_hand_39 : decode zc_M_hand 39 = .ok (.ifCond .ne 7, 3) := by decide +kernel
theorem dM_hand_42 : decode zc_M_hand 42 = .ok (.iconst 1, 1) := by decide +kernel
theorem dM_hand_43 : decode zc_M_hand 43 = .ok (.goto 45, 3) := by decide +kernel
theorem dM_hand_46 : decode zc_M_hand 46 = .ok (.iload_n 1, 1) := by decide +kernel
theorem dM_hand_47 : decode zc_M_hand 47 = .ok (.iload_n 2, 1) := by decide +kernel
theorem dM_hand_48 : decode zc_M_hand 48 = .ok (.if_icmp .eq 16, 3) := by decide +kernel
theorem dM_hand_51 : decode zc_M_hand 51 = .ok (.iload 5, 2) := by decide +kernel
theorem dM_hand_53 : decode zc_M_hand 53 = .ok (.iconst 1, 1) := by decide +kernel
theorem dM_hand_54 : decode zc_M_hand 54 = .ok (.if_icmp .lt 10, 3) := by decide +kernel
theorem dM_hand_57 : decode zc_M_hand 57 = .ok (.iload 5, 2) := by decide +kernel
theorem dM_hand_59 : decode zc_M_hand 59 = .ok (.bipush 100, 2) := by decide +kernel
theorem dM_hand_61 : decode zc_M_hand 61 = .ok (.if_icmp .le 7, 3) := by decide +kernel
theorem dM_hand_64 : decode zc_M_hand 64 = .ok (.iconst 2, 1) := by decide +kernel
theorem dM_hand_65 : decode zc_M_hand 65 = .ok (.goto 23, 3) := by decide +kernel
theorem dM_hand_68 : decode zc_M_hand 68 = .ok (.aload_n 0, 1) := by decide +kernel
theorem dM_hand_69 : decode zc_M_hand 69 = .ok (.getfield 60, 3) := by decide +kernel
theorem dM_hand_72 : decode zc_M_hand 72 = .ok (.iconst 4, 1) := by decide +kernel
theorem dM_hand_73 : decode zc_M_hand 73 = .ok (.iload_n 1, 1) := by decide +kernel
theorem dM_hand_74 : decode zc_M_hand 74 = .ok (.imul, 1) := by decide +kernel
theorem dM_hand_75 : decode zc_M_hand 75 = .ok (.iload_n 2, 1) := by decide +kernel
theorem dM_hand_76 : decode zc_M_hand 76 = .ok (.iadd, 1) := by decide +kernel
theorem dM_hand_77 : decode zc_M_hand 77 = .ok (.iaload, 1) := by decide +kernel
theorem dM_hand_78 : decode zc_M_hand 78 = .ok (.bipush 8, 2) := by decide +kernel
theorem dM_hand_80 : decode zc_M_hand 80 = .ok (.if_icmp .ne 7, 3) := by decide +kernel
theorem dM_hand_83 : decode zc_M_hand 83 = .ok (.iconst 3, 1) := by decide +kernel
theorem dM_hand_84 : decode zc_M_hand 84 = .ok (.goto 4, 3) := by decide +kernel
theorem dM_hand_87 : decode zc_M_hand 87 = .ok (.iconst 0, 1) := by decide +kernel
theorem dM_hand_88 : decode zc_M_hand 88 = .ok (.invokevirtual 95, 3) := by decide +kernel
theorem dM_hand_91 : decode zc_M_hand 91 = .ok (.ifCond .eq 5, 3) := by decide +kernel
theorem dM_hand_94 : decode zc_M_hand 94 = .ok (.iconst 0, 1) := by decide +kernel
theorem dM_hand_95 : decode zc_M_hand 95 = .ok (.ireturn, 1) := by decide +kernel
theorem dM_hand_96 : decode zc_M_hand 96 = .ok (.aload_n 0, 1) := by decide +kernel
theorem dM_hand_97 : decode zc_M_hand 97 = .ok (.getfield 17, 3) := by decide +kernel
theorem dM_hand_100 : decode zc_M_hand 100 = .ok (.bipush 16, 2) := by decide +kernel
theorem dM_hand_102 : decode zc_M_hand 102 = .ok (.iload_n 1, 1) := by decide +kernel
theorem dM_hand_103 : decode zc_M_hand 103 = .ok (.imul, 1) := by decide +kernel
theorem dM_hand_104 : decode zc_M_hand 104 = .ok (.iconst 4, 1) := by decide +kernel
theorem dM_hand_105 : decode zc_M_hand 105 = .ok (.iload_n 3, 1) := by decide +kernel
theorem dM_hand_106 : decode zc_M_hand 106 = .ok (.imul, 1) := by decide +kernel
theorem dM_hand_107 : decode zc_M_hand 107 = .ok (.iadd, 1) := by decide +kernel
theorem dM_hand_108 : decode zc_M_hand 108 = .ok (.iload 4, 2) := by decide +kernel
theorem dM_hand_110 : decode zc_M_hand 110 = .ok (.iadd, 1) := by decide +kernel
theorem dM_hand_111 : decode zc_M_hand 111 = .ok (.iaload, 1) := by decide +kernel
theorem dM_hand_112 : decode zc_M_hand 112 = .ok (.iload 5, 2) := by decide +kernel
theorem dM_hand_114 : decode zc_M_hand 114 = .ok (.if_icmp .ge 7, 3) := by decide +kernel
theorem dM_hand_117 : decode zc_M_hand 117 = .ok (.iconst (-1), 1) := by decide +kernel
theorem dM_hand_118 : decode zc_M_hand 118 = .ok (.goto 17, 3) := by decide +kernel
theorem dM_hand_121 : decode zc_M_hand 121 = .ok (.aload_n 0, 1) := by decide +kernel
theorem dM_hand_122 : decode zc_M_hand 122 = .ok (.iload_n 1, 1) := by decide +kernel
theorem dM_hand_123 : decode zc_M_hand 123 = .ok (.iload_n 2, 1) := by decide +kernel
theorem dM_hand_124 : decode zc_M_hand 124 = .ok (.iconst 4, 1) := by decide +kernel
theorem dM_hand_125 : decode zc_M_hand 125 = .ok (.iload_n 3, 1) := by decide +kernel
theorem dM_hand_126 : decode zc_M_hand 126 = .ok (.imul, 1) := by decide +kernel
theorem dM_hand_127 : decode zc_M_hand 127 = .ok (.iload 4, 2) := by decide +kernel
theorem dM_hand_129 : decode zc_M_hand 129 = .ok (.iadd, 1) := by decide +kernel
theorem dM_hand_130 : decode zc_M_hand 130 = .ok (.iload 5, 2) := by decide +kernel
theorem dM_hand_132 : decode zc_M_hand 132 = .ok (.invokevirtual 132, 3) := by decide +kernel
theorem dM_hand_135 : decode zc_M_hand 135 = .ok (.ireturn, 1) := by decide +kernel
theorem dM_enclose_0 : decode zc_M_enclose 0 = .ok (.iconst 4, 1) := by decide +kernel
theorem dM_enclose_1 : decode zc_M_enclose 1 = .ok (.iload_n 1, 1) := by decide +kernel
theorem dM_enclose_2 : decode zc_M_enclose 2 = .ok (.imul, 1) := by decide +kernel
theorem dM_enclose_3 : decode zc_M_enclose 3 = .ok (.iload_n 2, 1) := by decide +kernel
theorem dM_enclose_4 : decode zc_M_enclose 4 = .ok (.iadd, 1) := by decide +kernel
theorem dM_enclose_5 : decode zc_M_enclose 5 = .ok (.istore 5, 2) := by decide +kernel
theorem dM_enclose_7 : decode zc_M_enclose 7 = .ok (.aload_n 0, 1) := by decide +kernel
theorem dM_enclose_8 : decode zc_M_enclose 8 = .ok (.getfield 57, 3) := by decide +kernel
