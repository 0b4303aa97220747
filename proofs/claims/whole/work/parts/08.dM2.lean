theorem dM_buy_88 : decode zc_M_buy 88 = .ok (.iconst (-1), 1) := by decide +kernel
theorem dM_buy_89 : decode zc_M_buy 89 = .ok (.ireturn, 1) := by decide +kernel
theorem dM_fits_0 : decode zc_M_fits 0 = .ok (.iconst 1, 1) := by decide +kernel
theorem dM_fits_1 : decode zc_M_fits 1 = .ok (.istore 5, 2) := by decide +kernel
theorem dM_fits_3 : decode zc_M_fits 3 = .ok (.iconst 0, 1) := by decide +kernel
theorem dM_fits_4 : decode zc_M_fits 4 = .ok (.istore 6, 2) := by decide +kernel
theorem dM_fits_6 : decode zc_M_fits 6 = .ok (.iload 6, 2) := by decide +kernel
theorem dM_fits_8 : decode zc_M_fits 8 = .ok (.bipush 16, 2) := by decide +kernel
theorem dM_fits_10 : decode zc_M_fits 10 = .ok (.if_icmp .ge 47, 3) := by decide +kernel
theorem dM_fits_13 : decode zc_M_fits 13 = .ok (.iload 5, 2) := by decide +kernel
theorem dM_fits_15 : decode zc_M_fits 15 = .ok (.ifCond .eq 33, 3) := by decide +kernel
theorem dM_fits_18 : decode zc_M_fits 18 = .ok (.iload 4, 2) := by decide +kernel
theorem dM_fits_20 : decode zc_M_fits 20 = .ok (.aload_n 0, 1) := by decide +kernel
theorem dM_fits_21 : decode zc_M_fits 21 = .ok (.iload_n 2, 1) := by decide +kernel
theorem dM_fits_22 : decode zc_M_fits 22 = .ok (.iload_n 3, 1) := by decide +kernel
theorem dM_fits_23 : decode zc_M_fits 23 = .ok (.iload 6, 2) := by decide +kernel
theorem dM_fits_25 : decode zc_M_fits 25 = .ok (.invokevirtual 102, 3) := by decide +kernel
theorem dM_fits_28 : decode zc_M_fits 28 = .ok (.imul, 1) := by decide +kernel
theorem dM_fits_29 : decode zc_M_fits 29 = .ok (.aload_n 0, 1) := by decide +kernel
theorem dM_fits_30 : decode zc_M_fits 30 = .ok (.getfield 17, 3) := by decide +kernel
theorem dM_fits_33 : decode zc_M_fits 33 = .ok (.bipush 16, 2) := by decide +kernel
theorem dM_fits_35 : decode zc_M_fits 35 = .ok (.iload_n 1, 1) := by decide +kernel
theorem dM_fits_36 : decode zc_M_fits 36 = .ok (.imul, 1) := by decide +kernel
theorem dM_fits_37 : decode zc_M_fits 37 = .ok (.iload 6, 2) := by decide +kernel
theorem dM_fits_39 : decode zc_M_fits 39 = .ok (.iadd, 1) := by decide +kernel
theorem dM_fits_40 : decode zc_M_fits 40 = .ok (.iaload, 1) := by decide +kernel
theorem dM_fits_41 : decode zc_M_fits 41 = .ok (.if_icmp .gt 7, 3) := by decide +kernel
theorem dM_fits_44 : decode zc_M_fits 44 = .ok (.iconst 1, 1) := by decide +kernel
theorem dM_fits_45 : decode zc_M_fits 45 = .ok (.goto 4, 3) := by decide +kernel
theorem dM_fits_48 : decode zc_M_fits 48 = .ok (.iconst 0, 1) := by decide +kernel
theorem dM_fits_49 : decode zc_M_fits 49 = .ok (.istore 5, 2) := by decide +kernel
theorem dM_fits_51 : decode zc_M_fits 51 = .ok (.iinc 6 1, 3) := by decide +kernel
theorem dM_fits_54 : decode zc_M_fits 54 = .ok (.goto (-48), 3) := by decide +kernel
theorem dM_fits_57 : decode zc_M_fits 57 = .ok (.iload 5, 2) := by decide +kernel
theorem dM_fits_59 : decode zc_M_fits 59 = .ok (.ireturn, 1) := by decide +kernel
theorem dM_lies_0 : decode zc_M_lies 0 = .ok (.iconst 0, 1) := by decide +kernel
theorem dM_lies_1 : decode zc_M_lies 1 = .ok (.istore 4, 2) := by decide +kernel
theorem dM_lies_3 : decode zc_M_lies 3 = .ok (.iload_n 1, 1) := by decide +kernel
theorem dM_lies_4 : decode zc_M_lies 4 = .ok (.istore 5, 2) := by decide +kernel
theorem dM_lies_6 : decode zc_M_lies 6 = .ok (.iload 5, 2) := by decide +kernel
theorem dM_lies_8 : decode zc_M_lies 8 = .ok (.iload_n 1, 1) := by decide +kernel
theorem dM_lies_9 : decode zc_M_lies 9 = .ok (.iload_n 2, 1) := by decide +kernel
theorem dM_lies_10 : decode zc_M_lies 10 = .ok (.iadd, 1) := by decide +kernel
theorem dM_lies_11 : decode zc_M_lies 11 = .ok (.if_icmp .ge 59, 3) := by decide +kernel
theorem dM_lies_14 : decode zc_M_lies 14 = .ok (.aload_n 0, 1) := by decide +kernel
theorem dM_lies_15 : decode zc_M_lies 15 = .ok (.getfield 20, 3) := by decide +kernel
theorem dM_lies_18 : decode zc_M_lies 18 = .ok (.iload 5, 2) := by decide +kernel
theorem dM_lies_20 : decode zc_M_lies 20 = .ok (.iaload, 1) := by decide +kernel
theorem dM_lies_21 : decode zc_M_lies 21 = .ok (.iload_n 3, 1) := by decide +kernel
theorem dM_lies_22 : decode zc_M_lies 22 = .ok (.iconst 4, 1) := by decide +kernel
theorem dM_lies_23 : decode zc_M_lies 23 = .ok (.idiv, 1) := by decide +kernel
theorem dM_lies_24 : decode zc_M_lies 24 = .ok (.if_icmp .ne 36, 3) := by decide +kernel
theorem dM_lies_27 : decode zc_M_lies 27 = .ok (.aload_n 0, 1) := by decide +kernel
theorem dM_lies_28 : decode zc_M_lies 28 = .ok (.getfield 23, 3) := by decide +kernel
theorem dM_lies_31 : decode zc_M_lies 31 = .ok (.iload 5, 2) := by decide +kernel
theorem dM_lies_33 : decode zc_M_lies 33 = .ok (.iaload, 1) := by decide +kernel
theorem dM_lies_34 : decode zc_M_lies 34 = .ok (.iload_n 3, 1) := by decide +kernel
theorem dM_lies_35 : decode zc_M_lies 35 = .ok (.iconst 4, 1) := by decide +kernel
theorem dM_lies_36 : decode zc_M_lies 36 = .ok (.irem, 1) := by decide +kernel
theorem dM_lies_37 : decode zc_M_lies 37 = .ok (.if_icmp .gt 23, 3) := by decide +kernel
theorem dM_lies_40 : decode zc_M_lies 40 = .ok (.iload_n 3, 1) := by decide +kernel
theorem dM_lies_41 : decode zc_M_lies 41 = .ok (.iconst 4, 1) := by decide +kernel
theorem dM_lies_42 : decode zc_M_lies 42 = .ok (.irem, 1) := by decide +kernel
theorem dM_lies_43 : decode zc_M_lies 43 = .ok (.aload_n 0, 1) := by decide +kernel
theorem dM_lies_44 : decode zc_M_lies 44 = .ok (.getfield 26, 3) := by decide +kernel
theorem dM_lies_47 : decode zc_M_lies 47 = .ok (.iload 5, 2) := by decide +kernel
theorem dM_lies_49 : decode zc_M_lies 49 = .ok (.iaload, 1) := by decide +kernel
theorem dM_lies_50 : decode zc_M_lies 50 = .ok (.if_icmp .ge 10, 3) := by decide +kernel
theorem dM_lies_53 : decode zc_M_lies 53 = .ok (.iload 4, 2) := by decide +kernel
theorem dM_lies_55 : decode zc_M_lies 55 = .ok (.iconst 1, 1) := by decide +kernel
theorem dM_lies_56 : decode zc_M_lies 56 = .ok (.iadd, 1) := by decide +kernel
theorem dM_lies_57 : decode zc_M_lies 57 = .ok (.goto 5, 3) := by decide +kernel
theorem dM_lies_60 : decode zc_M_lies 60 = .ok (.iload 4, 2) := by decide +kernel
theorem dM_lies_62 : decode zc_M_lies 62 = .ok (.istore 4, 2) := by decide +kernel
theorem dM_lies_64 : decode zc_M_lies 64 = .ok (.iinc 5 1, 3) := by decide +kernel
theorem dM_lies_67 : decode zc_M_lies 67 = .ok (.goto (-61), 3) := by decide +kernel
theorem dM_lies_70 : decode zc_M_lies 70 = .ok (.iload 4, 2) := by decide +kernel
theorem dM_lies_72 : decode zc_M_lies 72 = .ok (.ireturn, 1) := by decide +kernel
theorem dM_sell_0 : decode zc_M_sell 0 = .ok (.lconst 0, 1) := by decide +kernel
theorem dM_sell_1 : decode zc_M_sell 1 = .ok (.lstore 5, 2) := by decide +kernel
theorem dM_sell_3 : decode zc_M_sell 3 = .ok (.iconst 0, 1) := by decide +kernel
theorem dM_sell_4 : decode zc_M_sell 4 = .ok (.istore 7, 2) := by decide +kernel
theorem dM_sell_6 : decode zc_M_sell 6 = .ok (.iload 7, 2) := by decide +kernel
theorem dM_sell_8 : decode zc_M_sell 8 = .ok (.bipush 16, 2) := by decide +kernel
theorem dM_sell_10 : decode zc_M_sell 10 = .ok (.if_icmp .ge 32, 3) := by decide +kernel
theorem dM_sell_13 : decode zc_M_sell 13 = .ok (.lload 5, 2) := by decide +kernel
theorem dM_sell_15 : decode zc_M_sell 15 = .ok (.aload_n 0, 1) := by decide +kernel
theorem dM_sell_16 : decode zc_M_sell 16 = .ok (.iload_n 2, 1) := by decide +kernel
theorem dM_sell_17 : decode zc_M_sell 17 = .ok (.iload_n 3, 1) := by decide +kernel
theorem dM_sell_18 : decode zc_M_sell 18 = .ok (.iload 7, 2) := by decide +kernel
theorem dM_sell_20 : decode zc_M_sell 20 = .ok (.invokevirtual 102, 3) := by decide +kernel
theorem dM_sell_23 : decode zc_M_sell 23 = .ok (.i2l, 1) := by decide +kernel
theorem dM_sell_24 : decode zc_M_sell 24 = .ok (.aload_n 0, 1) := by decide +kernel
theorem dM_sell_25 : decode zc_M_sell 25 = .ok (.getfield 13, 3) := by decide +kernel
theorem dM_sell_28 : decode zc_M_sell 28 = .ok (.iload 7, 2) := by decide +kernel
theorem dM_sell_30 : decode zc_M_sell 30 = .ok (.iaload, 1) := by decide +kernel
theorem dM_sell_31 : decode zc_M_sell 31 = .ok (.i2l, 1) := by decide +kernel
theorem dM_sell_32 : decode zc_M_sell 32 = .ok (.lmul, 1) := by decide +kernel
theorem dM_sell_33 : decode zc_M_sell 33 = .ok (.ladd, 1) := by decide +kernel
theorem dM_sell_34 : decode zc_M_sell 34 = .ok (.lstore 5, 2) := by decide +kernel
theorem dM_sell_36 : decode zc_M_sell 36 = .ok (.iinc 7 1, 3) := by decide +kernel
theorem dM_sell_39 : decode zc_M_sell 39 = .ok (.goto (-33), 3) := by decide +kernel
theorem dM_sell_42 : decode zc_M_sell 42 = .ok (.aload_n 0, 1) := by decide +kernel
theorem dM_sell_43 : decode zc_M_sell 43 = .ok (.iload_n 1, 1) := by decide +kernel
theorem dM_sell_44 : decode zc_M_sell 44 = .ok (.iload_n 2, 1) := by decide +kernel
theorem dM_sell_45 : decode zc_M_sell 45 = .ok (.iload_n 3, 1) := by decide +kernel
theorem dM_sell_46 : decode zc_M_sell 46 = .ok (.iload 4, 2) := by decide +kernel
theorem dM_sell_48 : decode zc_M_sell 48 = .ok (.ineg, 1) := by decide +kernel
theorem dM_sell_49 : decode zc_M_sell 49 = .ok (.invokevirtual 106, 3) := by decide +kernel
theorem dM_sell_52 : decode zc_M_sell 52 = .ok (.aload_n 0, 1) := by decide +kernel
theorem dM_sell_53 : decode zc_M_sell 53 = .ok (.iconst 4, 1) := by decide +kernel
theorem dM_sell_54 : decode zc_M_sell 54 = .ok (.iconst 4, 1) := by decide +kernel
theorem dM_sell_55 : decode zc_M_sell 55 = .ok (.aload_n 0, 1) := by decide +kernel
theorem dM_sell_56 : decode zc_M_sell 56 = .ok (.getfield 110, 3) := by decide +kernel
theorem dM_sell_59 : decode zc_M_sell 59 = .ok (.imul, 1) := by decide +kernel
theorem dM_sell_60 : decode zc_M_sell 60 = .ok (.iadd, 1) := by decide +kernel
theorem dM_sell_61 : decode zc_M_sell 61 = .ok (.iload_n 2, 1) := by decide +kernel
theorem dM_sell_62 : decode zc_M_sell 62 = .ok (.iload_n 3, 1) := by decide +kernel
theorem dM_sell_63 : decode zc_M_sell 63 = .ok (.invokevirtual 113, 3) := by decide +kernel
theorem dM_sell_66 : decode zc_M_sell 66 = .ok (.aload_n 0, 1) := by decide +kernel
theorem dM_sell_67 : decode zc_M_sell 67 = .ok (.getfield 29, 3) := by decide +kernel
theorem dM_sell_70 : decode zc_M_sell 70 = .ok (.aload_n 0, 1) := by decide +kernel
theorem dM_sell_71 : decode zc_M_sell 71 = .ok (.getfield 110, 3) := by decide +kernel
theorem dM_sell_74 : decode zc_M_sell 74 = .ok (.iload_n 1, 1) := by decide +kernel
theorem dM_sell_75 : decode zc_M_sell 75 = .ok (.iastore, 1) := by decide +kernel
theorem dM_sell_76 : decode zc_M_sell 76 = .ok (.aload_n 0, 1) := by decide +kernel
theorem dM_sell_77 : decode zc_M_sell 77 = .ok (.getfield 32, 3) := by decide +kernel
theorem dM_sell_80 : decode zc_M_sell 80 = .ok (.aload_n 0, 1) := by decide +kernel
theorem dM_sell_81 : decode zc_M_sell 81 = .ok (.getfield 110, 3) := by decide +kernel
theorem dM_sell_84 : decode zc_M_sell 84 = .ok (.iload 4, 2) := by decide +kernel
theorem dM_sell_86 : decode zc_M_sell 86 = .ok (.iastore, 1) := by decide +kernel
theorem dM_sell_87 : decode zc_M_sell 87 = .ok (.aload_n 0, 1) := by decide +kernel
theorem dM_sell_88 : decode zc_M_sell 88 = .ok (.getfield 35, 3) := by decide +kernel
theorem dM_sell_91 : decode zc_M_sell 91 = .ok (.aload_n 0, 1) := by decide +kernel
theorem dM_sell_92 : decode zc_M_sell 92 = .ok (.getfield 110, 3) := by decide +kernel
theorem dM_sell_95 : decode zc_M_sell 95 = .ok (.iload_n 3, 1) := by decide +kernel
theorem dM_sell_96 : decode zc_M_sell 96 = .ok (.iastore, 1) := by decide +kernel
theorem dM_sell_97 : decode zc_M_sell 97 = .ok (.aload_n 0, 1) := by decide +kernel
theorem dM_sell_98 : decode zc_M_sell 98 = .ok (.getfield 38, 3) := by decide +kernel
theorem dM_sell_101 : decode zc_M_sell 101 = .ok (.aload_n 0, 1) := by decide +kernel
theorem dM_sell_102 : decode zc_M_sell 102 = .ok (.getfield 110, 3) := by decide +kernel
theorem dM_sell_105 : decode zc_M_sell 105 = .ok (.iload 4, 2) := by decide +kernel
theorem dM_sell_107 : decode zc_M_sell 107 = .ok (.i2l, 1) := by decide +kernel
theorem dM_sell_108 : decode zc_M_sell 108 = .ok (.lload 5, 2) := by decide +kernel
theorem dM_sell_110 : decode zc_M_sell 110 = .ok (.lmul, 1) := by decide +kernel
theorem dM_sell_111 : decode zc_M_sell 111 = .ok (.lastore, 1) := by decide +kernel
theorem dM_sell_112 : decode zc_M_sell 112 = .ok (.aload_n 0, 1) := by decide +kernel
theorem dM_sell_113 : decode zc_M_sell 113 = .ok (.getfield 42, 3) := by decide +kernel
theorem dM_sell_116 : decode zc_M_sell 116 = .ok (.aload_n 0, 1) := by decide +kernel
theorem dM_sell_117 : decode zc_M_sell 117 = .ok (.getfield 110, 3) := by decide +kernel
theorem dM_sell_120 : decode zc_M_sell 120 = .ok (.iconst 1, 1) := by decide +kernel
theorem dM_sell_121 : decode zc_M_sell 121 = .ok (.bastore, 1) := by decide +kernel
theorem dM_sell_122 : decode zc_M_sell 122 = .ok (.aload_n 0, 1) := by decide +kernel
theorem dM_sell_123 : decode zc_M_sell 123 = .ok (.getfield 45, 3) := by decide +kernel
theorem dM_sell_126 : decode zc_M_sell 126 = .ok (.iload_n 1, 1) := by decide +kernel
theorem dM_sell_127 : decode zc_M_sell 127 = .ok (.aload_n 0, 1) := by decide +kernel
theorem dM_sell_128 : decode zc_M_sell 128 = .ok (.getfield 45, 3) := by decide +kernel
theorem dM_sell_131 : decode zc_M_sell 131 = .ok (.iload_n 1, 1) := by decide +kernel
theorem dM_sell_132 : decode zc_M_sell 132 = .ok (.laload, 1) := by decide +kernel
theorem dM_sell_133 : decode zc_M_sell 133 = .ok (.iload 4, 2) := by decide +kernel
theorem dM_sell_135 : decode zc_M_sell 135 = .ok (.i2l, 1) := by decide +kernel
theorem dM_sell_136 : decode zc_M_sell 136 = .ok (.lload 5, 2) := by decide +kernel
theorem dM_sell_138 : decode zc_M_sell 138 = .ok (.lmul, 1) := by decide +kernel
theorem dM_sell_139 : decode zc_M_sell 139 = .ok (.ladd, 1) := by decide +kernel
theorem dM_sell_140 : decode zc_M_sell 140 = .ok (.lastore, 1) := by decide +kernel
theorem dM_sell_141 : decode zc_M_sell 141 = .ok (.aload_n 0, 1) := by decide +kernel
theorem dM_sell_142 : decode zc_M_sell 142 = .ok (.dup, 1) := by decide +kernel
theorem dM_sell_143 : decode zc_M_sell 143 = .ok (.getfield 110, 3) := by decide +kernel
theorem dM_sell_146 : decode zc_M_sell 146 = .ok (.iconst 1, 1) := by decide +kernel
theorem dM_sell_147 : decode zc_M_sell 147 = .ok (.iadd, 1) := by decide +kernel
theorem dM_sell_148 : decode zc_M_sell 148 = .ok (.putfield 110, 3) := by decide +kernel
theorem dM_sell_151 : decode zc_M_sell 151 = .ok (.aload_n 0, 1) := by decide +kernel
theorem dM_sell_152 : decode zc_M_sell 152 = .ok (.getfield 110, 3) := by decide +kernel
theorem dM_sell_155 : decode zc_M_sell 155 = .ok (.iconst 1, 1) := by decide +kernel
theorem dM_sell_156 : decode zc_M_sell 156 = .ok (.isub, 1) := by decide +kernel
theorem dM_sell_157 : decode zc_M_sell 157 = .ok (.ireturn, 1) := by decide +kernel
theorem dM_give_0 : decode zc_M_give 0 = .ok (.iconst 0, 1) := by decide +kernel
theorem dM_give_1 : decode zc_M_give 1 = .ok (.istore 5, 2) := by decide +kernel
theorem dM_give_3 : decode zc_M_give 3 = .ok (.iload 5, 2) := by decide +kernel
theorem dM_give_5 : decode zc_M_give 5 = .ok (.bipush 16, 2) := by decide +kernel
theorem dM_give_7 : decode zc_M_give 7 = .ok (.if_icmp .ge 45, 3) := by decide +kernel
theorem dM_give_10 : decode zc_M_give 10 = .ok (.aload_n 0, 1) := by decide +kernel
theorem dM_give_11 : decode zc_M_give 11 = .ok (.getfield 17, 3) := by decide +kernel
theorem dM_give_14 : decode zc_M_give 14 = .ok (.bipush 16, 2) := by decide +kernel
theorem dM_give_16 : decode zc_M_give 16 = .ok (.iload_n 1, 1) := by decide +kernel
theorem dM_give_17 : decode zc_M_give 17 = .ok (.imul, 1) := by decide +kernel
theorem dM_give_18 : decode zc_M_give 18 = .ok (.iload 5, 2) := by decide +kernel
theorem dM_give_20 : decode zc_M_give 20 = .ok (.iadd, 1) := by decide +kernel
theorem dM_give_21 : decode zc_M_give 21 = .ok (.aload_n 0, 1) := by decide +kernel
theorem dM_give_22 : decode zc_M_give 22 = .ok (.getfield 17, 3) := by decide +kernel
theorem dM_give_25 : decode zc_M_give 25 = .ok (.bipush 16, 2) := by decide +kernel
theorem dM_give_27 : decode zc_M_give 27 = .ok (.iload_n 1, 1) := by decide +kernel
theorem dM_give_28 : decode zc_M_give 28 = .ok (.imul, 1) := by decide +kernel
theorem dM_give_29 : decode zc_M_give 29 = .ok (.iload 5, 2) := by decide +kernel
theorem dM_give_31 : decode zc_M_give 31 = .ok (.iadd, 1) := by decide +kernel
theorem dM_give_32 : decode zc_M_give 32 = .ok (.iaload, 1) := by decide +kernel
theorem dM_give_33 : decode zc_M_give 33 = .ok (.iload 4, 2) := by decide +kernel
theorem dM_give_35 : decode zc_M_give 35 = .ok (.aload_n 0, 1) := by decide +kernel
theorem dM_give_36 : decode zc_M_give 36 = .ok (.iload_n 2, 1) := by decide +kernel
theorem dM_give_37 : decode zc_M_give 37 = .ok (.iload_n 3, 1) := by decide +kernel
theorem dM_give_38 : decode zc_M_give 38 = .ok (.iload 5, 2) := by decide +kernel
theorem dM_give_40 : decode zc_M_give 40 = .ok (.invokevirtual 102, 3) := by decide +kernel
theorem dM_give_43 : decode zc_M_give 43 = .ok (.imul, 1) := by decide +kernel
theorem dM_give_44 : decode zc_M_give 44 = .ok (.iadd, 1) := by decide +kernel
theorem dM_give_45 : decode zc_M_give 45 = .ok (.iastore, 1) := by decide +kernel
theorem dM_give_46 : decode zc_M_give 46 = .ok (.iinc 5 1, 3) := by decide +kernel
theorem dM_give_49 : decode zc_M_give 49 = .ok (.goto (-46), 3) := by decide +kernel
theorem dM_give_52 : decode zc_M_give 52 = .ok (.return_, 1) := by decide +kernel
theorem dM_copy_0 : decode zc_M_copy 0 = .ok (.iconst 0, 1) := by decide +kernel
theorem dM_copy_1 : decode zc_M_copy 1 = .ok (.istore 4, 2) := by decide +kernel
theorem dM_copy_3 : decode zc_M_copy 3 = .ok (.iload 4, 2) := by decide +kernel
theorem dM_copy_5 : decode zc_M_copy 5 = .ok (.iload_n 3, 1) := by decide +kernel
theorem dM_copy_6 : decode zc_M_copy 6 = .ok (.if_icmp .ge 63, 3) := by decide +kernel
theorem dM_copy_9 : decode zc_M_copy 9 = .ok (.aload_n 0, 1) := by decide +kernel
theorem dM_copy_10 : decode zc_M_copy 10 = .ok (.getfield 20, 3) := by decide +kernel
theorem dM_copy_13 : decode zc_M_copy 13 = .ok (.iload_n 1, 1) := by decide +kernel
theorem dM_copy_14 : decode zc_M_copy 14 = .ok (.iload 4, 2) := by decide +kernel
theorem dM_copy_16 : decode zc_M_copy 16 = .ok (.iadd, 1) := by decide +kernel
theorem dM_copy_17 : decode zc_M_copy 17 = .ok (.aload_n 0, 1) := by decide +kernel
theorem dM_copy_18 : decode zc_M_copy 18 = .ok (.getfield 20, 3) := by decide +kernel
theorem dM_copy_21 : decode zc_M_copy 21 = .ok (.iload_n 2, 1) := by decide +kernel
theorem dM_copy_22 : decode zc_M_copy 22 = .ok (.iload 4, 2) := by decide +kernel
theorem dM_copy_24 : decode zc_M_copy 24 = .ok (.iadd, 1) := by decide +kernel
theorem dM_copy_25 : decode zc_M_copy 25 = .ok (.iaload, 1) := by decide +kernel
theorem dM_copy_26 : decode zc_M_copy 26 = .ok (.iastore, 1) := by decide +kernel
theorem dM_copy_27 : decode zc_M_copy 27 = .ok (.aload_n 0, 1) := by decide +kernel
theorem dM_copy_28 : decode zc_M_copy 28 = .ok (.getfield 23, 3) := by decide +kernel
theorem dM_copy_31 : decode zc_M_copy 31 = .ok (.iload_n 1, 1) := by decide +kernel
theorem dM_copy_32 : decode zc_M_copy 32 = .ok (.iload 4, 2) := by decide +kernel
theorem dM_copy_34 : decode zc_M_copy 34 = .ok (.iadd, 1) := by decide +kernel
theorem dM_copy_35 : decode zc_M_copy 35 = .ok (.aload_n 0, 1) := by decide +kernel
theorem dM_copy_36 : decode zc_M_copy 36 = .ok (.getfield 23, 3) := by decide +kernel
theorem dM_copy_39 : decode zc_M_copy 39 = .ok (.iload_n 2, 1) := by decide +kernel
theorem dM_copy_40 : decode zc_M_copy 40 = .ok (.iload 4, 2) := by decide +kernel
theorem dM_copy_42 : decode zc_M_copy 42 = .ok (.iadd, 1) := by decide +kernel
theorem dM_copy_43 : decode zc_M_copy 43 = .ok (.iaload, 1) := by decide +kernel
theorem dM_copy_44 : decode zc_M_copy 44 = .ok (.iastore, 1) := by decide +kernel
theorem dM_copy_45 : decode zc_M_copy 45 = .ok (.aload_n 0, 1) := by decide +kernel
theorem dM_copy_46 : decode zc_M_copy 46 = .ok (.getfield 26, 3) := by decide +kernel
theorem dM_copy_49 : decode zc_M_copy 49 = .ok (.iload_n 1, 1) := by decide +kernel
theorem dM_copy_50 : decode zc_M_copy 50 = .ok (.iload 4, 2) := by decide +kernel
theorem dM_copy_52 : decode zc_M_copy 52 = .ok (.iadd, 1) := by decide +kernel
theorem dM_copy_53 : decode zc_M_copy 53 = .ok (.aload_n 0, 1) := by decide +kernel
theorem dM_copy_54 : decode zc_M_copy 54 = .ok (.getfield 26, 3) := by decide +kernel
theorem dM_copy_57 : decode zc_M_copy 57 = .ok (.iload_n 2, 1) := by decide +kernel
theorem dM_copy_58 : decode zc_M_copy 58 = .ok (.iload 4, 2) := by decide +kernel
theorem dM_copy_60 : decode zc_M_copy 60 = .ok (.iadd, 1) := by decide +kernel
theorem dM_copy_61 : decode zc_M_copy 61 = .ok (.iaload, 1) := by decide +kernel
theorem dM_copy_62 : decode zc_M_copy 62 = .ok (.iastore, 1) := by decide +kernel
theorem dM_copy_63 : decode zc_M_copy 63 = .ok (.iinc 4 1, 3) := by decide +kernel
theorem dM_copy_66 : decode zc_M_copy 66 = .ok (.goto (-63), 3) := by decide +kernel
theorem dM_copy_69 : decode zc_M_copy 69 = .ok (.return_, 1) := by decide +kernel
theorem dM_wish_0 : decode zc_M_wish 0 = .ok (.aload_n 0, 1) := by decide +kernel
theorem dM_wish_1 : decode zc_M_wish 1 = .ok (.iload_n 1, 1) := by decide +kernel
theorem dM_wish_2 : decode zc_M_wish 2 = .ok (.invokestatic 91, 3) := by decide +kernel
theorem dM_wish_5 : decode zc_M_wish 5 = .ok (.ifCond .ne 7, 3) := by decide +kernel
theorem dM_wish_8 : decode zc_M_wish 8 = .ok (.iconst 1, 1) := by decide +kernel
theorem dM_wish_9 : decode zc_M_wish 9 = .ok (.goto 41, 3) := by decide +kernel
theorem dM_wish_12 : decode zc_M_wish 12 = .ok (.iload_n 2, 1) := by decide +kernel
theorem dM_wish_13 : decode zc_M_wish 13 = .ok (.iconst 1, 1) := by decide +kernel
theorem dM_wish_14 : decode zc_M_wish 14 = .ok (.if_icmp .lt 9, 3) := by decide +kernel
theorem dM_wish_17 : decode zc_M_wish 17 = .ok (.iload_n 2, 1) := by decide +kernel
theorem dM_wish_18 : decode zc_M_wish 18 = .ok (.bipush 100, 2) := by decide +kernel
theorem dM_wish_20 : decode zc_M_wish 20 = .ok (.if_icmp .le 7, 3) := by decide +kernel
theorem dM_wish_23 : decode zc_M_wish 23 = .ok (.iconst 2, 1) := by decide +kernel
theorem dM_wish_24 : decode zc_M_wish 24 = .ok (.goto 26, 3) := by decide +kernel
theorem dM_wish_27 : decode zc_M_wish 27 = .ok (.aload_n 0, 1) := by decide +kernel
theorem dM_wish_28 : decode zc_M_wish 28 = .ok (.getfield 99, 3) := by decide +kernel
theorem dM_wish_31 : decode zc_M_wish 31 = .ok (.ifCond .eq 14, 3) := by decide +kernel
theorem dM_wish_34 : decode zc_M_wish 34 = .ok (.aload_n 0, 1) := by decide +kernel
theorem dM_wish_35 : decode zc_M_wish 35 = .ok (.getfield 48, 3) := by decide +kernel
theorem dM_wish_38 : decode zc_M_wish 38 = .ok (.iload_n 1, 1) := by decide +kernel
theorem dM_wish_39 : decode zc_M_wish 39 = .ok (.iaload, 1) := by decide +kernel
theorem dM_wish_40 : decode zc_M_wish 40 = .ok (.bipush 6, 2) := by decide +kernel
theorem dM_wish_42 : decode zc_M_wish 42 = .ok (.if_icmp .ne 7, 3) := by decide +kernel
theorem dM_wish_45 : decode zc_M_wish 45 = .ok (.iconst 3, 1) := by decide +kernel
theorem dM_wish_46 : decode zc_M_wish 46 = .ok (.goto 4, 3) := by decide +kernel
theorem dM_wish_49 : decode zc_M_wish 49 = .ok (.iconst 0, 1) := by decide +kernel
theorem dM_wish_50 : decode zc_M_wish 50 = .ok (.invokevirtual 95, 3) := by decide +kernel
theorem dM_wish_53 : decode zc_M_wish 53 = .ok (.ifCond .eq 5, 3) := by decide +kernel
theorem dM_wish_56 : decode zc_M_wish 56 = .ok (.iconst 0, 1) := by decide +kernel
theorem dM_wish_57 : decode zc_M_wish 57 = .ok (.ireturn, 1) := by decide +kernel
theorem dM_wish_58 : decode zc_M_wish 58 = .ok (.bipush 6, 2) := by decide +kernel
theorem dM_wish_60 : decode zc_M_wish 60 = .ok (.iload_n 1, 1) := by decide +kernel
theorem dM_wish_61 : decode zc_M_wish 61 = .ok (.imul, 1) := by decide +kernel
theorem dM_wish_62 : decode zc_M_wish 62 = .ok (.aload_n 0, 1) := by decide +kernel
theorem dM_wish_63 : decode zc_M_wish 63 = .ok (.getfield 48, 3) := by decide +kernel
theorem dM_wish_66 : decode zc_M_wish 66 = .ok (.iload_n 1, 1) := by decide +kernel
theorem dM_wish_67 : decode zc_M_wish 67 = .ok (.iaload, 1) := by decide +kernel
theorem dM_wish_68 : decode zc_M_wish 68 = .ok (.iadd, 1) := by decide +kernel
theorem dM_wish_69 : decode zc_M_wish 69 = .ok (.istore_n 3, 1) := by decide +kernel
theorem dM_wish_70 : decode zc_M_wish 70 = .ok (.aload_n 0, 1) := by decide +kernel
theorem dM_wish_71 : decode zc_M_wish 71 = .ok (.sipush 324, 3) := by decide +kernel
theorem dM_wish_74 : decode zc_M_wish 74 = .ok (.iconst 4, 1) := by decide +kernel
theorem dM_wish_75 : decode zc_M_wish 75 = .ok (.iload_n 3, 1) := by decide +kernel
theorem dM_wish_76 : decode zc_M_wish 76 = .ok (.imul, 1) := by decide +kernel
theorem dM_wish_77 : decode zc_M_wish 77 = .ok (.iadd, 1) := by decide +kernel
theorem dM_wish_78 : decode zc_M_wish 78 = .ok (.iconst 0, 1) := by decide +kernel
theorem dM_wish_79 : decode zc_M_wish 79 = .ok (.aload_n 0, 1) := by decide +kernel
theorem dM_wish_80 : decode zc_M_wish 80 = .ok (.getfield 99, 3) := by decide +kernel
theorem dM_wish_83 : decode zc_M_wish 83 = .ok (.invokevirtual 113, 3) := by decide +kernel
theorem dM_wish_86 : decode zc_M_wish 86 = .ok (.aload_n 0, 1) := by decide +kernel
theorem dM_wish_87 : decode zc_M_wish 87 = .ok (.getfield 51, 3) := by decide +kernel
theorem dM_wish_90 : decode zc_M_wish 90 = .ok (.iload_n 3, 1) := by decide +kernel
theorem dM_wish_91 : decode zc_M_wish 91 = .ok (.iload_n 2, 1) := by decide +kernel
theorem dM_wish_92 : decode zc_M_wish 92 = .ok (.iastore, 1) := by decide +kernel
theorem dM_wish_93 : decode zc_M_wish 93 = .ok (.aload_n 0, 1) := by decide +kernel
theorem dM_wish_94 : decode zc_M_wish 94 = .ok (.getfield 54, 3) := by decide +kernel
theorem dM_wish_97 : decode zc_M_wish 97 = .ok (.iload_n 3, 1) := by decide +kernel
theorem dM_wish_98 : decode zc_M_wish 98 = .ok (.aload_n 0, 1) := by decide +kernel
theorem dM_wish_99 : decode zc_M_wish 99 = .ok (.getfield 99, 3) := by decide +kernel
theorem dM_wish_102 : decode zc_M_wish 102 = .ok (.iastore, 1) := by decide +kernel
theorem dM_wish_103 : decode zc_M_wish 103 = .ok (.aload_n 0, 1) := by decide +kernel
theorem dM_wish_104 : decode zc_M_wish 104 = .ok (.getfield 48, 3) := by decide +kernel
theorem dM_wish_107 : decode zc_M_wish 107 = .ok (.iload_n 1, 1) := by decide +kernel
theorem dM_wish_108 : decode zc_M_wish 108 = .ok (.dup2, 1) := by decide +kernel
theorem dM_wish_109 : decode zc_M_wish 109 = .ok (.iaload, 1) := by decide +kernel
theorem dM_wish_110 : decode zc_M_wish 110 = .ok (.iconst 1, 1) := by decide +kernel
theorem dM_wish_111 : decode zc_M_wish 111 = .ok (.iadd, 1) := by decide +kernel
theorem dM_wish_112 : decode zc_M_wish 112 = .ok (.iastore, 1) := by decide +kernel
theorem dM_wish_113 : decode zc_M_wish 113 = .ok (.aload_n 0, 1) := by decide +kernel
theorem dM_wish_114 : decode zc_M_wish 114 = .ok (.iconst 0, 1) := by decide +kernel
theorem dM_wish_115 : decode zc_M_wish 115 = .ok (.putfield 99, 3) := by decide +kernel
theorem dM_wish_118 : decode zc_M_wish 118 = .ok (.aload_n 0, 1) := by decide +kernel
theorem dM_wish_119 : decode zc_M_wish 119 = .ok (.iload_n 1, 1) := by decide +kernel
theorem dM_wish_120 : decode zc_M_wish 120 = .ok (.invokevirtual 125, 3) := by decide +kernel
theorem dM_wish_123 : decode zc_M_wish 123 = .ok (.ireturn, 1) := by decide +kernel
theorem dM_serve_0 : decode zc_M_serve 0 = .ok (.iconst 0, 1) := by decide +kernel
theorem dM_serve_1 : decode zc_M_serve 1 = .ok (.istore_n 2, 1) := by decide +kernel
theorem dM_serve_2 : decode zc_M_serve 2 = .ok (.iconst 0, 1) := by decide +kernel
