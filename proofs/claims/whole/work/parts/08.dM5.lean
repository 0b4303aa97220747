theorem dM_receipt_63 : decode zc_M_receipt 63 = .ok (.iload_n 3, 1) := by decide +kernel
theorem dM_receipt_64 : decode zc_M_receipt 64 = .ok (.imul, 1) := by decide +kernel
theorem dM_receipt_65 : decode zc_M_receipt 65 = .ok (.iload 6, 2) := by decide +kernel
theorem dM_receipt_67 : decode zc_M_receipt 67 = .ok (.iadd, 1) := by decide +kernel
theorem dM_receipt_68 : decode zc_M_receipt 68 = .ok (.if_icmp .ge 81, 3) := by decide +kernel
theorem dM_receipt_71 : decode zc_M_receipt 71 = .ok (.aload_n 0, 1) := by decide +kernel
theorem dM_receipt_72 : decode zc_M_receipt 72 = .ok (.getfield 72, 3) := by decide +kernel
theorem dM_receipt_75 : decode zc_M_receipt 75 = .ok (.iload 7, 2) := by decide +kernel
theorem dM_receipt_77 : decode zc_M_receipt 77 = .ok (.iaload, 1) := by decide +kernel
theorem dM_receipt_78 : decode zc_M_receipt 78 = .ok (.iload 4, 2) := by decide +kernel
theorem dM_receipt_80 : decode zc_M_receipt 80 = .ok (.if_icmp .le 63, 3) := by decide +kernel
theorem dM_receipt_83 : decode zc_M_receipt 83 = .ok (.aload_n 0, 1) := by decide +kernel
theorem dM_receipt_84 : decode zc_M_receipt 84 = .ok (.getfield 72, 3) := by decide +kernel
theorem dM_receipt_87 : decode zc_M_receipt 87 = .ok (.bipush 8, 2) := by decide +kernel
theorem dM_receipt_89 : decode zc_M_receipt 89 = .ok (.iload_n 3, 1) := by decide +kernel
theorem dM_receipt_90 : decode zc_M_receipt 90 = .ok (.imul, 1) := by decide +kernel
theorem dM_receipt_91 : decode zc_M_receipt 91 = .ok (.iload 5, 2) := by decide +kernel
theorem dM_receipt_93 : decode zc_M_receipt 93 = .ok (.iadd, 1) := by decide +kernel
theorem dM_receipt_94 : decode zc_M_receipt 94 = .ok (.aload_n 0, 1) := by decide +kernel
theorem dM_receipt_95 : decode zc_M_receipt 95 = .ok (.getfield 72, 3) := by decide +kernel
theorem dM_receipt_98 : decode zc_M_receipt 98 = .ok (.iload 7, 2) := by decide +kernel
theorem dM_receipt_100 : decode zc_M_receipt 100 = .ok (.iaload, 1) := by decide +kernel
theorem dM_receipt_101 : decode zc_M_receipt 101 = .ok (.iastore, 1) := by decide +kernel
theorem dM_receipt_102 : decode zc_M_receipt 102 = .ok (.aload_n 0, 1) := by decide +kernel
theorem dM_receipt_103 : decode zc_M_receipt 103 = .ok (.getfield 75, 3) := by decide +kernel
theorem dM_receipt_106 : decode zc_M_receipt 106 = .ok (.bipush 8, 2) := by decide +kernel
theorem dM_receipt_108 : decode zc_M_receipt 108 = .ok (.iload_n 3, 1) := by decide +kernel
theorem dM_receipt_109 : decode zc_M_receipt 109 = .ok (.imul, 1) := by decide +kernel
theorem dM_receipt_110 : decode zc_M_receipt 110 = .ok (.iload 5, 2) := by decide +kernel
theorem dM_receipt_112 : decode zc_M_receipt 112 = .ok (.iadd, 1) := by decide +kernel
theorem dM_receipt_113 : decode zc_M_receipt 113 = .ok (.aload_n 0, 1) := by decide +kernel
theorem dM_receipt_114 : decode zc_M_receipt 114 = .ok (.getfield 75, 3) := by decide +kernel
theorem dM_receipt_117 : decode zc_M_receipt 117 = .ok (.iload 7, 2) := by decide +kernel
theorem dM_receipt_119 : decode zc_M_receipt 119 = .ok (.iaload, 1) := by decide +kernel
theorem dM_receipt_120 : decode zc_M_receipt 120 = .ok (.iastore, 1) := by decide +kernel
theorem dM_receipt_121 : decode zc_M_receipt 121 = .ok (.aload_n 0, 1) := by decide +kernel
theorem dM_receipt_122 : decode zc_M_receipt 122 = .ok (.getfield 78, 3) := by decide +kernel
theorem dM_receipt_125 : decode zc_M_receipt 125 = .ok (.bipush 8, 2) := by decide +kernel
theorem dM_receipt_127 : decode zc_M_receipt 127 = .ok (.iload_n 3, 1) := by decide +kernel
theorem dM_receipt_128 : decode zc_M_receipt 128 = .ok (.imul, 1) := by decide +kernel
theorem dM_receipt_129 : decode zc_M_receipt 129 = .ok (.iload 5, 2) := by decide +kernel
theorem dM_receipt_131 : decode zc_M_receipt 131 = .ok (.iadd, 1) := by decide +kernel
theorem dM_receipt_132 : decode zc_M_receipt 132 = .ok (.aload_n 0, 1) := by decide +kernel
theorem dM_receipt_133 : decode zc_M_receipt 133 = .ok (.getfield 78, 3) := by decide +kernel
theorem dM_receipt_136 : decode zc_M_receipt 136 = .ok (.iload 7, 2) := by decide +kernel
theorem dM_receipt_138 : decode zc_M_receipt 138 = .ok (.iaload, 1) := by decide +kernel
theorem dM_receipt_139 : decode zc_M_receipt 139 = .ok (.iastore, 1) := by decide +kernel
theorem dM_receipt_140 : decode zc_M_receipt 140 = .ok (.iinc 5 1, 3) := by decide +kernel
theorem dM_receipt_143 : decode zc_M_receipt 143 = .ok (.iinc 7 1, 3) := by decide +kernel
theorem dM_receipt_146 : decode zc_M_receipt 146 = .ok (.goto (-87), 3) := by decide +kernel
theorem dM_receipt_149 : decode zc_M_receipt 149 = .ok (.aload_n 0, 1) := by decide +kernel
theorem dM_receipt_150 : decode zc_M_receipt 150 = .ok (.getfield 60, 3) := by decide +kernel
theorem dM_receipt_153 : decode zc_M_receipt 153 = .ok (.iload_n 3, 1) := by decide +kernel
theorem dM_receipt_154 : decode zc_M_receipt 154 = .ok (.iload 5, 2) := by decide +kernel
theorem dM_receipt_156 : decode zc_M_receipt 156 = .ok (.iastore, 1) := by decide +kernel
theorem dM_receipt_157 : decode zc_M_receipt 157 = .ok (.iload 6, 2) := by decide +kernel
theorem dM_receipt_159 : decode zc_M_receipt 159 = .ok (.iload 5, 2) := by decide +kernel
theorem dM_receipt_161 : decode zc_M_receipt 161 = .ok (.isub, 1) := by decide +kernel
theorem dM_receipt_162 : decode zc_M_receipt 162 = .ok (.ireturn, 1) := by decide +kernel
theorem dM_lose_0 : decode zc_M_lose 0 = .ok (.aload_n 0, 1) := by decide +kernel
theorem dM_lose_1 : decode zc_M_lose 1 = .ok (.iload_n 1, 1) := by decide +kernel
theorem dM_lose_2 : decode zc_M_lose 2 = .ok (.iload_n 2, 1) := by decide +kernel
theorem dM_lose_3 : decode zc_M_lose 3 = .ok (.invokestatic 135, 3) := by decide +kernel
theorem dM_lose_6 : decode zc_M_lose 6 = .ok (.invokevirtual 95, 3) := by decide +kernel
theorem dM_lose_9 : decode zc_M_lose 9 = .ok (.ifCond .eq 7, 3) := by decide +kernel
theorem dM_lose_12 : decode zc_M_lose 12 = .ok (.iconst 0, 1) := by decide +kernel
theorem dM_lose_13 : decode zc_M_lose 13 = .ok (.goto 12, 3) := by decide +kernel
theorem dM_lose_16 : decode zc_M_lose 16 = .ok (.aload_n 0, 1) := by decide +kernel
theorem dM_lose_17 : decode zc_M_lose 17 = .ok (.iconst 4, 1) := by decide +kernel
theorem dM_lose_18 : decode zc_M_lose 18 = .ok (.iload_n 1, 1) := by decide +kernel
theorem dM_lose_19 : decode zc_M_lose 19 = .ok (.imul, 1) := by decide +kernel
theorem dM_lose_20 : decode zc_M_lose 20 = .ok (.iload_n 2, 1) := by decide +kernel
theorem dM_lose_21 : decode zc_M_lose 21 = .ok (.iadd, 1) := by decide +kernel
theorem dM_lose_22 : decode zc_M_lose 22 = .ok (.invokevirtual 139, 3) := by decide +kernel
theorem dM_lose_25 : decode zc_M_lose 25 = .ok (.ireturn, 1) := by decide +kernel
theorem dM_loseOne_0 : decode zc_M_loseOne 0 = .ok (.aload_n 0, 1) := by decide +kernel
theorem dM_loseOne_1 : decode zc_M_loseOne 1 = .ok (.getfield 63, 3) := by decide +kernel
theorem dM_loseOne_4 : decode zc_M_loseOne 4 = .ok (.iload_n 1, 1) := by decide +kernel
theorem dM_loseOne_5 : decode zc_M_loseOne 5 = .ok (.iaload, 1) := by decide +kernel
theorem dM_loseOne_6 : decode zc_M_loseOne 6 = .ok (.ifCond .le 7, 3) := by decide +kernel
theorem dM_loseOne_9 : decode zc_M_loseOne 9 = .ok (.iconst 1, 1) := by decide +kernel
theorem dM_loseOne_10 : decode zc_M_loseOne 10 = .ok (.goto 4, 3) := by decide +kernel
theorem dM_loseOne_13 : decode zc_M_loseOne 13 = .ok (.iconst 0, 1) := by decide +kernel
theorem dM_loseOne_14 : decode zc_M_loseOne 14 = .ok (.aload_n 0, 1) := by decide +kernel
theorem dM_loseOne_15 : decode zc_M_loseOne 15 = .ok (.getfield 69, 3) := by decide +kernel
theorem dM_loseOne_18 : decode zc_M_loseOne 18 = .ok (.iload_n 1, 1) := by decide +kernel
theorem dM_loseOne_19 : decode zc_M_loseOne 19 = .ok (.iaload, 1) := by decide +kernel
theorem dM_loseOne_20 : decode zc_M_loseOne 20 = .ok (.ifCond .lt 7, 3) := by decide +kernel
theorem dM_loseOne_23 : decode zc_M_loseOne 23 = .ok (.iconst 1, 1) := by decide +kernel
theorem dM_loseOne_24 : decode zc_M_loseOne 24 = .ok (.goto 4, 3) := by decide +kernel
theorem dM_loseOne_27 : decode zc_M_loseOne 27 = .ok (.iconst 0, 1) := by decide +kernel
theorem dM_loseOne_28 : decode zc_M_loseOne 28 = .ok (.iadd, 1) := by decide +kernel
theorem dM_loseOne_29 : decode zc_M_loseOne 29 = .ok (.istore_n 2, 1) := by decide +kernel
theorem dM_loseOne_30 : decode zc_M_loseOne 30 = .ok (.aload_n 0, 1) := by decide +kernel
theorem dM_loseOne_31 : decode zc_M_loseOne 31 = .ok (.getfield 63, 3) := by decide +kernel
theorem dM_loseOne_34 : decode zc_M_loseOne 34 = .ok (.iload_n 1, 1) := by decide +kernel
theorem dM_loseOne_35 : decode zc_M_loseOne 35 = .ok (.iconst 0, 1) := by decide +kernel
theorem dM_loseOne_36 : decode zc_M_loseOne 36 = .ok (.iastore, 1) := by decide +kernel
theorem dM_loseOne_37 : decode zc_M_loseOne 37 = .ok (.aload_n 0, 1) := by decide +kernel
theorem dM_loseOne_38 : decode zc_M_loseOne 38 = .ok (.getfield 69, 3) := by decide +kernel
theorem dM_loseOne_41 : decode zc_M_loseOne 41 = .ok (.iload_n 1, 1) := by decide +kernel
theorem dM_loseOne_42 : decode zc_M_loseOne 42 = .ok (.iconst (-1), 1) := by decide +kernel
theorem dM_loseOne_43 : decode zc_M_loseOne 43 = .ok (.iastore, 1) := by decide +kernel
theorem dM_loseOne_44 : decode zc_M_loseOne 44 = .ok (.iload_n 2, 1) := by decide +kernel
theorem dM_loseOne_45 : decode zc_M_loseOne 45 = .ok (.ireturn, 1) := by decide +kernel
theorem dM_crash_0 : decode zc_M_crash 0 = .ok (.aload_n 0, 1) := by decide +kernel
theorem dM_crash_1 : decode zc_M_crash 1 = .ok (.iload_n 1, 1) := by decide +kernel
theorem dM_crash_2 : decode zc_M_crash 2 = .ok (.invokestatic 91, 3) := by decide +kernel
theorem dM_crash_5 : decode zc_M_crash 5 = .ok (.ifCond .eq 7, 3) := by decide +kernel
theorem dM_crash_8 : decode zc_M_crash 8 = .ok (.iconst 0, 1) := by decide +kernel
theorem dM_crash_9 : decode zc_M_crash 9 = .ok (.goto 4, 3) := by decide +kernel
theorem dM_crash_12 : decode zc_M_crash 12 = .ok (.iconst 1, 1) := by decide +kernel
theorem dM_crash_13 : decode zc_M_crash 13 = .ok (.invokevirtual 95, 3) := by decide +kernel
theorem dM_crash_16 : decode zc_M_crash 16 = .ok (.ifCond .eq 5, 3) := by decide +kernel
theorem dM_crash_19 : decode zc_M_crash 19 = .ok (.iconst 0, 1) := by decide +kernel
theorem dM_crash_20 : decode zc_M_crash 20 = .ok (.ireturn, 1) := by decide +kernel
theorem dM_crash_21 : decode zc_M_crash 21 = .ok (.iconst 0, 1) := by decide +kernel
theorem dM_crash_22 : decode zc_M_crash 22 = .ok (.istore_n 2, 1) := by decide +kernel
theorem dM_crash_23 : decode zc_M_crash 23 = .ok (.iconst 0, 1) := by decide +kernel
theorem dM_crash_24 : decode zc_M_crash 24 = .ok (.istore_n 3, 1) := by decide +kernel
theorem dM_crash_25 : decode zc_M_crash 25 = .ok (.iload_n 3, 1) := by decide +kernel
theorem dM_crash_26 : decode zc_M_crash 26 = .ok (.iconst 4, 1) := by decide +kernel
theorem dM_crash_27 : decode zc_M_crash 27 = .ok (.if_icmp .ge 36, 3) := by decide +kernel
theorem dM_crash_30 : decode zc_M_crash 30 = .ok (.iload_n 3, 1) := by decide +kernel
theorem dM_crash_31 : decode zc_M_crash 31 = .ok (.iload_n 1, 1) := by decide +kernel
theorem dM_crash_32 : decode zc_M_crash 32 = .ok (.if_icmp .eq 25, 3) := by decide +kernel
theorem dM_crash_35 : decode zc_M_crash 35 = .ok (.iload_n 2, 1) := by decide +kernel
theorem dM_crash_36 : decode zc_M_crash 36 = .ok (.aload_n 0, 1) := by decide +kernel
theorem dM_crash_37 : decode zc_M_crash 37 = .ok (.iconst 4, 1) := by decide +kernel
theorem dM_crash_38 : decode zc_M_crash 38 = .ok (.iload_n 1, 1) := by decide +kernel
theorem dM_crash_39 : decode zc_M_crash 39 = .ok (.imul, 1) := by decide +kernel
theorem dM_crash_40 : decode zc_M_crash 40 = .ok (.iload_n 3, 1) := by decide +kernel
theorem dM_crash_41 : decode zc_M_crash 41 = .ok (.iadd, 1) := by decide +kernel
theorem dM_crash_42 : decode zc_M_crash 42 = .ok (.invokevirtual 139, 3) := by decide +kernel
theorem dM_crash_45 : decode zc_M_crash 45 = .ok (.iadd, 1) := by decide +kernel
theorem dM_crash_46 : decode zc_M_crash 46 = .ok (.aload_n 0, 1) := by decide +kernel
theorem dM_crash_47 : decode zc_M_crash 47 = .ok (.iconst 4, 1) := by decide +kernel
theorem dM_crash_48 : decode zc_M_crash 48 = .ok (.iload_n 3, 1) := by decide +kernel
theorem dM_crash_49 : decode zc_M_crash 49 = .ok (.imul, 1) := by decide +kernel
theorem dM_crash_50 : decode zc_M_crash 50 = .ok (.iload_n 1, 1) := by decide +kernel
theorem dM_crash_51 : decode zc_M_crash 51 = .ok (.iadd, 1) := by decide +kernel
theorem dM_crash_52 : decode zc_M_crash 52 = .ok (.invokevirtual 139, 3) := by decide +kernel
theorem dM_crash_55 : decode zc_M_crash 55 = .ok (.iadd, 1) := by decide +kernel
theorem dM_crash_56 : decode zc_M_crash 56 = .ok (.istore_n 2, 1) := by decide +kernel
theorem dM_crash_57 : decode zc_M_crash 57 = .ok (.iinc 3 1, 3) := by decide +kernel
theorem dM_crash_60 : decode zc_M_crash 60 = .ok (.goto (-35), 3) := by decide +kernel
theorem dM_crash_63 : decode zc_M_crash 63 = .ok (.iload_n 2, 1) := by decide +kernel
theorem dM_crash_64 : decode zc_M_crash 64 = .ok (.ireturn, 1) := by decide +kernel
theorem dM_rights_0 : decode zc_M_rights 0 = .ok (.iload_n 1, 1) := by decide +kernel
theorem dM_rights_1 : decode zc_M_rights 1 = .ok (.invokestatic 91, 3) := by decide +kernel
theorem dM_rights_4 : decode zc_M_rights 4 = .ok (.ifCond .eq 21, 3) := by decide +kernel
theorem dM_rights_7 : decode zc_M_rights 7 = .ok (.iload_n 2, 1) := by decide +kernel
theorem dM_rights_8 : decode zc_M_rights 8 = .ok (.invokestatic 91, 3) := by decide +kernel
theorem dM_rights_11 : decode zc_M_rights 11 = .ok (.ifCond .eq 14, 3) := by decide +kernel
theorem dM_rights_14 : decode zc_M_rights 14 = .ok (.iload_n 3, 1) := by decide +kernel
theorem dM_rights_15 : decode zc_M_rights 15 = .ok (.invokestatic 91, 3) := by decide +kernel
theorem dM_rights_18 : decode zc_M_rights 18 = .ok (.ifCond .eq 7, 3) := by decide +kernel
theorem dM_rights_21 : decode zc_M_rights 21 = .ok (.iconst 1, 1) := by decide +kernel
theorem dM_rights_22 : decode zc_M_rights 22 = .ok (.goto 4, 3) := by decide +kernel
theorem dM_rights_25 : decode zc_M_rights 25 = .ok (.iconst 0, 1) := by decide +kernel
theorem dM_rights_26 : decode zc_M_rights 26 = .ok (.istore 4, 2) := by decide +kernel
theorem dM_rights_28 : decode zc_M_rights 28 = .ok (.aload_n 0, 1) := by decide +kernel
theorem dM_rights_29 : decode zc_M_rights 29 = .ok (.iload 4, 2) := by decide +kernel
theorem dM_rights_31 : decode zc_M_rights 31 = .ok (.ifCond .eq 7, 3) := by decide +kernel
theorem dM_rights_34 : decode zc_M_rights 34 = .ok (.iconst 0, 1) := by decide +kernel
theorem dM_rights_35 : decode zc_M_rights 35 = .ok (.goto 4, 3) := by decide +kernel
theorem dM_rights_38 : decode zc_M_rights 38 = .ok (.iconst 1, 1) := by decide +kernel
theorem dM_rights_39 : decode zc_M_rights 39 = .ok (.invokevirtual 95, 3) := by decide +kernel
theorem dM_rights_42 : decode zc_M_rights 42 = .ok (.ifCond .eq 7, 3) := by decide +kernel
theorem dM_rights_45 : decode zc_M_rights 45 = .ok (.iconst 0, 1) := by decide +kernel
theorem dM_rights_46 : decode zc_M_rights 46 = .ok (.goto 18, 3) := by decide +kernel
theorem dM_rights_49 : decode zc_M_rights 49 = .ok (.aload_n 0, 1) := by decide +kernel
theorem dM_rights_50 : decode zc_M_rights 50 = .ok (.getfield 17, 3) := by decide +kernel
theorem dM_rights_53 : decode zc_M_rights 53 = .ok (.bipush 16, 2) := by decide +kernel
theorem dM_rights_55 : decode zc_M_rights 55 = .ok (.iload_n 1, 1) := by decide +kernel
theorem dM_rights_56 : decode zc_M_rights 56 = .ok (.imul, 1) := by decide +kernel
theorem dM_rights_57 : decode zc_M_rights 57 = .ok (.iconst 4, 1) := by decide +kernel
theorem dM_rights_58 : decode zc_M_rights 58 = .ok (.iload_n 2, 1) := by decide +kernel
theorem dM_rights_59 : decode zc_M_rights 59 = .ok (.imul, 1) := by decide +kernel
theorem dM_rights_60 : decode zc_M_rights 60 = .ok (.iadd, 1) := by decide +kernel
theorem dM_rights_61 : decode zc_M_rights 61 = .ok (.iload_n 3, 1) := by decide +kernel
theorem dM_rights_62 : decode zc_M_rights 62 = .ok (.iadd, 1) := by decide +kernel
theorem dM_rights_63 : decode zc_M_rights 63 = .ok (.iaload, 1) := by decide +kernel
theorem dM_rights_64 : decode zc_M_rights 64 = .ok (.ireturn, 1) := by decide +kernel
theorem dM_air_0 : decode zc_M_air 0 = .ok (.aload_n 0, 1) := by decide +kernel
theorem dM_air_1 : decode zc_M_air 1 = .ok (.iload_n 1, 1) := by decide +kernel
theorem dM_air_2 : decode zc_M_air 2 = .ok (.invokestatic 91, 3) := by decide +kernel
theorem dM_air_5 : decode zc_M_air 5 = .ok (.ifCond .eq 14, 3) := by decide +kernel
theorem dM_air_8 : decode zc_M_air 8 = .ok (.iload_n 2, 1) := by decide +kernel
theorem dM_air_9 : decode zc_M_air 9 = .ok (.invokestatic 91, 3) := by decide +kernel
theorem dM_air_12 : decode zc_M_air 12 = .ok (.ifCond .eq 7, 3) := by decide +kernel
theorem dM_air_15 : decode zc_M_air 15 = .ok (.iconst 0, 1) := by decide +kernel
theorem dM_air_16 : decode zc_M_air 16 = .ok (.goto 4, 3) := by decide +kernel
theorem dM_air_19 : decode zc_M_air 19 = .ok (.iconst 1, 1) := by decide +kernel
theorem dM_air_20 : decode zc_M_air 20 = .ok (.invokevirtual 95, 3) := by decide +kernel
theorem dM_air_23 : decode zc_M_air 23 = .ok (.ifCond .eq 5, 3) := by decide +kernel
theorem dM_air_26 : decode zc_M_air 26 = .ok (.iconst 0, 1) := by decide +kernel
theorem dM_air_27 : decode zc_M_air 27 = .ok (.ireturn, 1) := by decide +kernel
theorem dM_air_28 : decode zc_M_air 28 = .ok (.iconst 0, 1) := by decide +kernel
theorem dM_air_29 : decode zc_M_air 29 = .ok (.istore_n 3, 1) := by decide +kernel
theorem dM_air_30 : decode zc_M_air 30 = .ok (.iconst 0, 1) := by decide +kernel
theorem dM_air_31 : decode zc_M_air 31 = .ok (.istore 4, 2) := by decide +kernel
theorem dM_air_33 : decode zc_M_air 33 = .ok (.iload 4, 2) := by decide +kernel
theorem dM_air_35 : decode zc_M_air 35 = .ok (.bipush 16, 2) := by decide +kernel
theorem dM_air_37 : decode zc_M_air 37 = .ok (.if_icmp .ge 86, 3) := by decide +kernel
theorem dM_air_40 : decode zc_M_air 40 = .ok (.bipush 8, 2) := by decide +kernel
theorem dM_air_42 : decode zc_M_air 42 = .ok (.iload 4, 2) := by decide +kernel
theorem dM_air_44 : decode zc_M_air 44 = .ok (.imul, 1) := by decide +kernel
theorem dM_air_45 : decode zc_M_air 45 = .ok (.istore 5, 2) := by decide +kernel
theorem dM_air_47 : decode zc_M_air 47 = .ok (.iload 5, 2) := by decide +kernel
theorem dM_air_49 : decode zc_M_air 49 = .ok (.bipush 8, 2) := by decide +kernel
theorem dM_air_51 : decode zc_M_air 51 = .ok (.iload 4, 2) := by decide +kernel
theorem dM_air_53 : decode zc_M_air 53 = .ok (.imul, 1) := by decide +kernel
theorem dM_air_54 : decode zc_M_air 54 = .ok (.aload_n 0, 1) := by decide +kernel
theorem dM_air_55 : decode zc_M_air 55 = .ok (.getfield 60, 3) := by decide +kernel
theorem dM_air_58 : decode zc_M_air 58 = .ok (.iload 4, 2) := by decide +kernel
theorem dM_air_60 : decode zc_M_air 60 = .ok (.iaload, 1) := by decide +kernel
theorem dM_air_61 : decode zc_M_air 61 = .ok (.iadd, 1) := by decide +kernel
theorem dM_air_62 : decode zc_M_air 62 = .ok (.if_icmp .ge 55, 3) := by decide +kernel
theorem dM_air_65 : decode zc_M_air 65 = .ok (.aload_n 0, 1) := by decide +kernel
theorem dM_air_66 : decode zc_M_air 66 = .ok (.getfield 75, 3) := by decide +kernel
theorem dM_air_69 : decode zc_M_air 69 = .ok (.iload 5, 2) := by decide +kernel
theorem dM_air_71 : decode zc_M_air 71 = .ok (.iaload, 1) := by decide +kernel
theorem dM_air_72 : decode zc_M_air 72 = .ok (.iconst 4, 1) := by decide +kernel
theorem dM_air_73 : decode zc_M_air 73 = .ok (.iload_n 1, 1) := by decide +kernel
theorem dM_air_74 : decode zc_M_air 74 = .ok (.imul, 1) := by decide +kernel
theorem dM_air_75 : decode zc_M_air 75 = .ok (.iload_n 2, 1) := by decide +kernel
theorem dM_air_76 : decode zc_M_air 76 = .ok (.iadd, 1) := by decide +kernel
theorem dM_air_77 : decode zc_M_air 77 = .ok (.if_icmp .ne 32, 3) := by decide +kernel
theorem dM_air_80 : decode zc_M_air 80 = .ok (.aload_n 0, 1) := by decide +kernel
theorem dM_air_81 : decode zc_M_air 81 = .ok (.getfield 72, 3) := by decide +kernel
theorem dM_air_84 : decode zc_M_air 84 = .ok (.iload 5, 2) := by decide +kernel
theorem dM_air_86 : decode zc_M_air 86 = .ok (.iaload, 1) := by decide +kernel
theorem dM_air_87 : decode zc_M_air 87 = .ok (.aload_n 0, 1) := by decide +kernel
theorem dM_air_88 : decode zc_M_air 88 = .ok (.getfield 66, 3) := by decide +kernel
theorem dM_air_91 : decode zc_M_air 91 = .ok (.iload 4, 2) := by decide +kernel
theorem dM_air_93 : decode zc_M_air 93 = .ok (.iaload, 1) := by decide +kernel
theorem dM_air_94 : decode zc_M_air 94 = .ok (.if_icmp .le 15, 3) := by decide +kernel
theorem dM_air_97 : decode zc_M_air 97 = .ok (.iload_n 3, 1) := by decide +kernel
theorem dM_air_98 : decode zc_M_air 98 = .ok (.aload_n 0, 1) := by decide +kernel
theorem dM_air_99 : decode zc_M_air 99 = .ok (.getfield 78, 3) := by decide +kernel
theorem dM_air_102 : decode zc_M_air 102 = .ok (.iload 5, 2) := by decide +kernel
theorem dM_air_104 : decode zc_M_air 104 = .ok (.iaload, 1) := by decide +kernel
theorem dM_air_105 : decode zc_M_air 105 = .ok (.iadd, 1) := by decide +kernel
theorem dM_air_106 : decode zc_M_air 106 = .ok (.goto 4, 3) := by decide +kernel
theorem dM_air_109 : decode zc_M_air 109 = .ok (.iload_n 3, 1) := by decide +kernel
theorem dM_air_110 : decode zc_M_air 110 = .ok (.istore_n 3, 1) := by decide +kernel
theorem dM_air_111 : decode zc_M_air 111 = .ok (.iinc 5 1, 3) := by decide +kernel
theorem dM_air_114 : decode zc_M_air 114 = .ok (.goto (-67), 3) := by decide +kernel
theorem dM_air_117 : decode zc_M_air 117 = .ok (.iinc 4 1, 3) := by decide +kernel
theorem dM_air_120 : decode zc_M_air 120 = .ok (.goto (-87), 3) := by decide +kernel
theorem dM_air_123 : decode zc_M_air 123 = .ok (.iload_n 3, 1) := by decide +kernel
theorem dM_air_124 : decode zc_M_air 124 = .ok (.ireturn, 1) := by decide +kernel
theorem dM_sold_0 : decode zc_M_sold 0 = .ok (.aload_n 0, 1) := by decide +kernel
theorem dM_sold_1 : decode zc_M_sold 1 = .ok (.iload_n 1, 1) := by decide +kernel
theorem dM_sold_2 : decode zc_M_sold 2 = .ok (.invokestatic 91, 3) := by decide +kernel
theorem dM_sold_5 : decode zc_M_sold 5 = .ok (.ifCond .eq 14, 3) := by decide +kernel
theorem dM_sold_8 : decode zc_M_sold 8 = .ok (.iload_n 2, 1) := by decide +kernel
theorem dM_sold_9 : decode zc_M_sold 9 = .ok (.invokestatic 91, 3) := by decide +kernel
theorem dM_sold_12 : decode zc_M_sold 12 = .ok (.ifCond .eq 7, 3) := by decide +kernel
theorem dM_sold_15 : decode zc_M_sold 15 = .ok (.iconst 0, 1) := by decide +kernel
theorem dM_sold_16 : decode zc_M_sold 16 = .ok (.goto 4, 3) := by decide +kernel
theorem dM_sold_19 : decode zc_M_sold 19 = .ok (.iconst 1, 1) := by decide +kernel
theorem dM_sold_20 : decode zc_M_sold 20 = .ok (.invokevirtual 95, 3) := by decide +kernel
theorem dM_sold_23 : decode zc_M_sold 23 = .ok (.ifCond .eq 5, 3) := by decide +kernel
theorem dM_sold_26 : decode zc_M_sold 26 = .ok (.iconst 0, 1) := by decide +kernel
theorem dM_sold_27 : decode zc_M_sold 27 = .ok (.ireturn, 1) := by decide +kernel
theorem dM_sold_28 : decode zc_M_sold 28 = .ok (.iconst 0, 1) := by decide +kernel
theorem dM_sold_29 : decode zc_M_sold 29 = .ok (.istore_n 3, 1) := by decide +kernel
theorem dM_sold_30 : decode zc_M_sold 30 = .ok (.iconst 0, 1) := by decide +kernel
theorem dM_sold_31 : decode zc_M_sold 31 = .ok (.istore 4, 2) := by decide +kernel
theorem dM_sold_33 : decode zc_M_sold 33 = .ok (.iload 4, 2) := by decide +kernel
theorem dM_sold_35 : decode zc_M_sold 35 = .ok (.aload_n 0, 1) := by decide +kernel
theorem dM_sold_36 : decode zc_M_sold 36 = .ok (.getfield 110, 3) := by decide +kernel
theorem dM_sold_39 : decode zc_M_sold 39 = .ok (.if_icmp .ge 56, 3) := by decide +kernel
theorem dM_sold_42 : decode zc_M_sold 42 = .ok (.aload_n 0, 1) := by decide +kernel
theorem dM_sold_43 : decode zc_M_sold 43 = .ok (.getfield 42, 3) := by decide +kernel
theorem dM_sold_46 : decode zc_M_sold 46 = .ok (.iload 4, 2) := by decide +kernel
theorem dM_sold_48 : decode zc_M_sold 48 = .ok (.baload, 1) := by decide +kernel
theorem dM_sold_49 : decode zc_M_sold 49 = .ok (.ifCond .eq 38, 3) := by decide +kernel
theorem dM_sold_52 : decode zc_M_sold 52 = .ok (.iload_n 3, 1) := by decide +kernel
theorem dM_sold_53 : decode zc_M_sold 53 = .ok (.aload_n 0, 1) := by decide +kernel
theorem dM_sold_54 : decode zc_M_sold 54 = .ok (.getfield 32, 3) := by decide +kernel
theorem dM_sold_57 : decode zc_M_sold 57 = .ok (.iload 4, 2) := by decide +kernel
theorem dM_sold_59 : decode zc_M_sold 59 = .ok (.iaload, 1) := by decide +kernel
theorem dM_sold_60 : decode zc_M_sold 60 = .ok (.aload_n 0, 1) := by decide +kernel
theorem dM_sold_61 : decode zc_M_sold 61 = .ok (.iconst 4, 1) := by decide +kernel
theorem dM_sold_62 : decode zc_M_sold 62 = .ok (.iconst 4, 1) := by decide +kernel
theorem dM_sold_63 : decode zc_M_sold 63 = .ok (.iload 4, 2) := by decide +kernel
theorem dM_sold_65 : decode zc_M_sold 65 = .ok (.imul, 1) := by decide +kernel
theorem dM_sold_66 : decode zc_M_sold 66 = .ok (.iadd, 1) := by decide +kernel
theorem dM_sold_67 : decode zc_M_sold 67 = .ok (.aload_n 0, 1) := by decide +kernel
theorem dM_sold_68 : decode zc_M_sold 68 = .ok (.getfield 35, 3) := by decide +kernel
theorem dM_sold_71 : decode zc_M_sold 71 = .ok (.iload 4, 2) := by decide +kernel
theorem dM_sold_73 : decode zc_M_sold 73 = .ok (.iaload, 1) := by decide +kernel
theorem dM_sold_74 : decode zc_M_sold 74 = .ok (.iconst 4, 1) := by decide +kernel
theorem dM_sold_75 : decode zc_M_sold 75 = .ok (.iload_n 1, 1) := by decide +kernel
theorem dM_sold_76 : decode zc_M_sold 76 = .ok (.imul, 1) := by decide +kernel
theorem dM_sold_77 : decode zc_M_sold 77 = .ok (.iload_n 2, 1) := by decide +kernel
theorem dM_sold_78 : decode zc_M_sold 78 = .ok (.iadd, 1) := by decide +kernel
theorem dM_sold_79 : decode zc_M_sold 79 = .ok (.invokevirtual 102, 3) := by decide +kernel
theorem dM_sold_82 : decode zc_M_sold 82 = .ok (.imul, 1) := by decide +kernel
theorem dM_sold_83 : decode zc_M_sold 83 = .ok (.iadd, 1) := by decide +kernel
theorem dM_sold_84 : decode zc_M_sold 84 = .ok (.goto 4, 3) := by decide +kernel
theorem dM_sold_87 : decode zc_M_sold 87 = .ok (.iload_n 3, 1) := by decide +kernel
theorem dM_sold_88 : decode zc_M_sold 88 = .ok (.istore_n 3, 1) := by decide +kernel
theorem dM_sold_89 : decode zc_M_sold 89 = .ok (.iinc 4 1, 3) := by decide +kernel
theorem dM_sold_92 : decode zc_M_sold 92 = .ok (.goto (-59), 3) := by decide +kernel
theorem dM_sold_95 : decode zc_M_sold 95 = .ok (.iload_n 3, 1) := by decide +kernel
theorem dM_sold_96 : decode zc_M_sold 96 = .ok (.ireturn, 1) := by decide +kernel
theorem dM_wishes_0 : decode zc_M_wishes 0 = .ok (.aload_n 0, 1) := by decide +kernel
theorem dM_wishes_1 : decode zc_M_wishes 1 = .ok (.iload_n 1, 1) := by decide +kernel
theorem dM_wishes_2 : decode zc_M_wishes 2 = .ok (.invokestatic 91, 3) := by decide +kernel
theorem dM_wishes_5 : decode zc_M_wishes 5 = .ok (.ifCond .eq 7, 3) := by decide +kernel
theorem dM_wishes_8 : decode zc_M_wishes 8 = .ok (.iconst 0, 1) := by decide +kernel
theorem dM_wishes_9 : decode zc_M_wishes 9 = .ok (.goto 4, 3) := by decide +kernel
theorem dM_wishes_12 : decode zc_M_wishes 12 = .ok (.iconst 1, 1) := by decide +kernel
theorem dM_wishes_13 : decode zc_M_wishes 13 = .ok (.invokevirtual 95, 3) := by decide +kernel
theorem dM_wishes_16 : decode zc_M_wishes 16 = .ok (.ifCond .eq 7, 3) := by decide +kernel
theorem dM_wishes_19 : decode zc_M_wishes 19 = .ok (.iconst 0, 1) := by decide +kernel
theorem dM_wishes_20 : decode zc_M_wishes 20 = .ok (.goto 9, 3) := by decide +kernel
theorem dM_wishes_23 : decode zc_M_wishes 23 = .ok (.aload_n 0, 1) := by decide +kernel
theorem dM_wishes_24 : decode zc_M_wishes 24 = .ok (.getfield 48, 3) := by decide +kernel
theorem dM_wishes_27 : decode zc_M_wishes 27 = .ok (.iload_n 1, 1) := by decide +kernel
theorem dM_wishes_28 : decode zc_M_wishes 28 = .ok (.iaload, 1) := by decide +kernel
theorem dM_wishes_29 : decode zc_M_wishes 29 = .ok (.ireturn, 1) := by decide +kernel
theorem dM_till_0 : decode zc_M_till 0 = .ok (.aload_n 0, 1) := by decide +kernel
theorem dM_till_1 : decode zc_M_till 1 = .ok (.iload_n 1, 1) := by decide +kernel
theorem dM_till_2 : decode zc_M_till 2 = .ok (.invokestatic 91, 3) := by decide +kernel
theorem dM_till_5 : decode zc_M_till 5 = .ok (.ifCond .eq 7, 3) := by decide +kernel
