theorem dM_init_0 : decode zc_M_init 0 = .ok (.aload_n 0, 1) := by decide +kernel
theorem dM_init_1 : decode zc_M_init 1 = .ok (.invokespecial 1, 3) := by decide +kernel
theorem dM_init_4 : decode zc_M_init 4 = .ok (.aload_n 0, 1) := by decide +kernel
theorem dM_init_5 : decode zc_M_init 5 = .ok (.iconst 4, 1) := by decide +kernel
theorem dM_init_6 : decode zc_M_init 6 = .ok (.newarray .boolean, 2) := by decide +kernel
theorem dM_init_8 : decode zc_M_init 8 = .ok (.putfield 7, 3) := by decide +kernel
theorem dM_init_11 : decode zc_M_init 11 = .ok (.aload_n 0, 1) := by decide +kernel
theorem dM_init_12 : decode zc_M_init 12 = .ok (.bipush 16, 2) := by decide +kernel
theorem dM_init_14 : decode zc_M_init 14 = .ok (.newarray .int, 2) := by decide +kernel
theorem dM_init_16 : decode zc_M_init 16 = .ok (.putfield 13, 3) := by decide +kernel
theorem dM_init_19 : decode zc_M_init 19 = .ok (.aload_n 0, 1) := by decide +kernel
theorem dM_init_20 : decode zc_M_init 20 = .ok (.bipush 64, 2) := by decide +kernel
theorem dM_init_22 : decode zc_M_init 22 = .ok (.newarray .int, 2) := by decide +kernel
theorem dM_init_24 : decode zc_M_init 24 = .ok (.putfield 17, 3) := by decide +kernel
theorem dM_init_27 : decode zc_M_init 27 = .ok (.aload_n 0, 1) := by decide +kernel
theorem dM_init_28 : decode zc_M_init 28 = .ok (.sipush 420, 3) := by decide +kernel
theorem dM_init_31 : decode zc_M_init 31 = .ok (.newarray .int, 2) := by decide +kernel
theorem dM_init_33 : decode zc_M_init 33 = .ok (.putfield 20, 3) := by decide +kernel
theorem dM_init_36 : decode zc_M_init 36 = .ok (.aload_n 0, 1) := by decide +kernel
theorem dM_init_37 : decode zc_M_init 37 = .ok (.sipush 420, 3) := by decide +kernel
theorem dM_init_40 : decode zc_M_init 40 = .ok (.newarray .int, 2) := by decide +kernel
theorem dM_init_42 : decode zc_M_init 42 = .ok (.putfield 23, 3) := by decide +kernel
theorem dM_init_45 : decode zc_M_init 45 = .ok (.aload_n 0, 1) := by decide +kernel
theorem dM_init_46 : decode zc_M_init 46 = .ok (.sipush 420, 3) := by decide +kernel
theorem dM_init_49 : decode zc_M_init 49 = .ok (.newarray .int, 2) := by decide +kernel
theorem dM_init_51 : decode zc_M_init 51 = .ok (.putfield 26, 3) := by decide +kernel
theorem dM_init_54 : decode zc_M_init 54 = .ok (.aload_n 0, 1) := by decide +kernel
theorem dM_init_55 : decode zc_M_init 55 = .ok (.bipush 80, 2) := by decide +kernel
theorem dM_init_57 : decode zc_M_init 57 = .ok (.newarray .int, 2) := by decide +kernel
theorem dM_init_59 : decode zc_M_init 59 = .ok (.putfield 29, 3) := by decide +kernel
theorem dM_init_62 : decode zc_M_init 62 = .ok (.aload_n 0, 1) := by decide +kernel
theorem dM_init_63 : decode zc_M_init 63 = .ok (.bipush 80, 2) := by decide +kernel
theorem dM_init_65 : decode zc_M_init 65 = .ok (.newarray .int, 2) := by decide +kernel
theorem dM_init_67 : decode zc_M_init 67 = .ok (.putfield 32, 3) := by decide +kernel
theorem dM_init_70 : decode zc_M_init 70 = .ok (.aload_n 0, 1) := by decide +kernel
theorem dM_init_71 : decode zc_M_init 71 = .ok (.bipush 80, 2) := by decide +kernel
theorem dM_init_73 : decode zc_M_init 73 = .ok (.newarray .int, 2) := by decide +kernel
theorem dM_init_75 : decode zc_M_init 75 = .ok (.putfield 35, 3) := by decide +kernel
theorem dM_init_78 : decode zc_M_init 78 = .ok (.aload_n 0, 1) := by decide +kernel
theorem dM_init_79 : decode zc_M_init 79 = .ok (.bipush 80, 2) := by decide +kernel
theorem dM_init_81 : decode zc_M_init 81 = .ok (.newarray .long, 2) := by decide +kernel
theorem dM_init_83 : decode zc_M_init 83 = .ok (.putfield 38, 3) := by decide +kernel
theorem dM_init_86 : decode zc_M_init 86 = .ok (.aload_n 0, 1) := by decide +kernel
theorem dM_init_87 : decode zc_M_init 87 = .ok (.bipush 80, 2) := by decide +kernel
theorem dM_init_89 : decode zc_M_init 89 = .ok (.newarray .boolean, 2) := by decide +kernel
theorem dM_init_91 : decode zc_M_init 91 = .ok (.putfield 42, 3) := by decide +kernel
theorem dM_init_94 : decode zc_M_init 94 = .ok (.aload_n 0, 1) := by decide +kernel
theorem dM_init_95 : decode zc_M_init 95 = .ok (.iconst 4, 1) := by decide +kernel
theorem dM_init_96 : decode zc_M_init 96 = .ok (.newarray .long, 2) := by decide +kernel
theorem dM_init_98 : decode zc_M_init 98 = .ok (.putfield 45, 3) := by decide +kernel
theorem dM_init_101 : decode zc_M_init 101 = .ok (.aload_n 0, 1) := by decide +kernel
theorem dM_init_102 : decode zc_M_init 102 = .ok (.iconst 4, 1) := by decide +kernel
theorem dM_init_103 : decode zc_M_init 103 = .ok (.newarray .int, 2) := by decide +kernel
theorem dM_init_105 : decode zc_M_init 105 = .ok (.putfield 48, 3) := by decide +kernel
theorem dM_init_108 : decode zc_M_init 108 = .ok (.aload_n 0, 1) := by decide +kernel
theorem dM_init_109 : decode zc_M_init 109 = .ok (.bipush 24, 2) := by decide +kernel
theorem dM_init_111 : decode zc_M_init 111 = .ok (.newarray .int, 2) := by decide +kernel
theorem dM_init_113 : decode zc_M_init 113 = .ok (.putfield 51, 3) := by decide +kernel
theorem dM_init_116 : decode zc_M_init 116 = .ok (.aload_n 0, 1) := by decide +kernel
theorem dM_init_117 : decode zc_M_init 117 = .ok (.bipush 24, 2) := by decide +kernel
theorem dM_init_119 : decode zc_M_init 119 = .ok (.newarray .int, 2) := by decide +kernel
theorem dM_init_121 : decode zc_M_init 121 = .ok (.putfield 54, 3) := by decide +kernel
theorem dM_init_124 : decode zc_M_init 124 = .ok (.aload_n 0, 1) := by decide +kernel
theorem dM_init_125 : decode zc_M_init 125 = .ok (.bipush 16, 2) := by decide +kernel
theorem dM_init_127 : decode zc_M_init 127 = .ok (.newarray .int, 2) := by decide +kernel
theorem dM_init_129 : decode zc_M_init 129 = .ok (.putfield 57, 3) := by decide +kernel
theorem dM_init_132 : decode zc_M_init 132 = .ok (.aload_n 0, 1) := by decide +kernel
theorem dM_init_133 : decode zc_M_init 133 = .ok (.bipush 16, 2) := by decide +kernel
theorem dM_init_135 : decode zc_M_init 135 = .ok (.newarray .int, 2) := by decide +kernel
theorem dM_init_137 : decode zc_M_init 137 = .ok (.putfield 60, 3) := by decide +kernel
theorem dM_init_140 : decode zc_M_init 140 = .ok (.aload_n 0, 1) := by decide +kernel
theorem dM_init_141 : decode zc_M_init 141 = .ok (.bipush 16, 2) := by decide +kernel
theorem dM_init_143 : decode zc_M_init 143 = .ok (.newarray .int, 2) := by decide +kernel
theorem dM_init_145 : decode zc_M_init 145 = .ok (.putfield 63, 3) := by decide +kernel
theorem dM_init_148 : decode zc_M_init 148 = .ok (.aload_n 0, 1) := by decide +kernel
theorem dM_init_149 : decode zc_M_init 149 = .ok (.bipush 16, 2) := by decide +kernel
theorem dM_init_151 : decode zc_M_init 151 = .ok (.newarray .int, 2) := by decide +kernel
theorem dM_init_153 : decode zc_M_init 153 = .ok (.putfield 66, 3) := by decide +kernel
theorem dM_init_156 : decode zc_M_init 156 = .ok (.aload_n 0, 1) := by decide +kernel
theorem dM_init_157 : decode zc_M_init 157 = .ok (.bipush 16, 2) := by decide +kernel
theorem dM_init_159 : decode zc_M_init 159 = .ok (.newarray .int, 2) := by decide +kernel
theorem dM_init_161 : decode zc_M_init 161 = .ok (.putfield 69, 3) := by decide +kernel
theorem dM_init_164 : decode zc_M_init 164 = .ok (.aload_n 0, 1) := by decide +kernel
theorem dM_init_165 : decode zc_M_init 165 = .ok (.sipush 128, 3) := by decide +kernel
theorem dM_init_168 : decode zc_M_init 168 = .ok (.newarray .int, 2) := by decide +kernel
theorem dM_init_170 : decode zc_M_init 170 = .ok (.putfield 72, 3) := by decide +kernel
theorem dM_init_173 : decode zc_M_init 173 = .ok (.aload_n 0, 1) := by decide +kernel
theorem dM_init_174 : decode zc_M_init 174 = .ok (.sipush 128, 3) := by decide +kernel
theorem dM_init_177 : decode zc_M_init 177 = .ok (.newarray .int, 2) := by decide +kernel
theorem dM_init_179 : decode zc_M_init 179 = .ok (.putfield 75, 3) := by decide +kernel
theorem dM_init_182 : decode zc_M_init 182 = .ok (.aload_n 0, 1) := by decide +kernel
theorem dM_init_183 : decode zc_M_init 183 = .ok (.sipush 128, 3) := by decide +kernel
theorem dM_init_186 : decode zc_M_init 186 = .ok (.newarray .int, 2) := by decide +kernel
theorem dM_init_188 : decode zc_M_init 188 = .ok (.putfield 78, 3) := by decide +kernel
theorem dM_init_191 : decode zc_M_init 191 = .ok (.aload_n 0, 1) := by decide +kernel
theorem dM_init_192 : decode zc_M_init 192 = .ok (.bipush 16, 2) := by decide +kernel
theorem dM_init_194 : decode zc_M_init 194 = .ok (.newarray .int, 2) := by decide +kernel
theorem dM_init_196 : decode zc_M_init 196 = .ok (.putfield 81, 3) := by decide +kernel
theorem dM_init_199 : decode zc_M_init 199 = .ok (.aload_n 0, 1) := by decide +kernel
theorem dM_init_200 : decode zc_M_init 200 = .ok (.bipush 16, 2) := by decide +kernel
theorem dM_init_202 : decode zc_M_init 202 = .ok (.newarray .int, 2) := by decide +kernel
theorem dM_init_204 : decode zc_M_init 204 = .ok (.putfield 84, 3) := by decide +kernel
theorem dM_init_207 : decode zc_M_init 207 = .ok (.iconst 0, 1) := by decide +kernel
theorem dM_init_208 : decode zc_M_init 208 = .ok (.istore_n 1, 1) := by decide +kernel
theorem dM_init_209 : decode zc_M_init 209 = .ok (.iload_n 1, 1) := by decide +kernel
theorem dM_init_210 : decode zc_M_init 210 = .ok (.bipush 16, 2) := by decide +kernel
theorem dM_init_212 : decode zc_M_init 212 = .ok (.if_icmp .ge 16, 3) := by decide +kernel
theorem dM_init_215 : decode zc_M_init 215 = .ok (.aload_n 0, 1) := by decide +kernel
theorem dM_init_216 : decode zc_M_init 216 = .ok (.getfield 69, 3) := by decide +kernel
theorem dM_init_219 : decode zc_M_init 219 = .ok (.iload_n 1, 1) := by decide +kernel
theorem dM_init_220 : decode zc_M_init 220 = .ok (.iconst (-1), 1) := by decide +kernel
theorem dM_init_221 : decode zc_M_init 221 = .ok (.iastore, 1) := by decide +kernel
theorem dM_init_222 : decode zc_M_init 222 = .ok (.iinc 1 1, 3) := by decide +kernel
theorem dM_init_225 : decode zc_M_init 225 = .ok (.goto (-16), 3) := by decide +kernel
theorem dM_init_228 : decode zc_M_init 228 = .ok (.return_, 1) := by decide +kernel
theorem dM_thrown_0 : decode zc_M_thrown 0 = .ok (.aload_n 0, 1) := by decide +kernel
theorem dM_thrown_1 : decode zc_M_thrown 1 = .ok (.getfield 87, 3) := by decide +kernel
theorem dM_thrown_4 : decode zc_M_thrown 4 = .ok (.ireturn, 1) := by decide +kernel
theorem dM_open_0 : decode zc_M_open 0 = .ok (.aload_n 0, 1) := by decide +kernel
theorem dM_open_1 : decode zc_M_open 1 = .ok (.iload_n 1, 1) := by decide +kernel
theorem dM_open_2 : decode zc_M_open 2 = .ok (.invokestatic 91, 3) := by decide +kernel
theorem dM_open_5 : decode zc_M_open 5 = .ok (.ifCond .ne 7, 3) := by decide +kernel
theorem dM_open_8 : decode zc_M_open 8 = .ok (.iconst 1, 1) := by decide +kernel
theorem dM_open_9 : decode zc_M_open 9 = .ok (.goto 32, 3) := by decide +kernel
theorem dM_open_12 : decode zc_M_open 12 = .ok (.iload_n 2, 1) := by decide +kernel
theorem dM_open_13 : decode zc_M_open 13 = .ok (.iconst 1, 1) := by decide +kernel
theorem dM_open_14 : decode zc_M_open 14 = .ok (.if_icmp .lt 9, 3) := by decide +kernel
theorem dM_open_17 : decode zc_M_open 17 = .ok (.iload_n 2, 1) := by decide +kernel
theorem dM_open_18 : decode zc_M_open 18 = .ok (.bipush 100, 2) := by decide +kernel
theorem dM_open_20 : decode zc_M_open 20 = .ok (.if_icmp .le 7, 3) := by decide +kernel
theorem dM_open_23 : decode zc_M_open 23 = .ok (.iconst 2, 1) := by decide +kernel
theorem dM_open_24 : decode zc_M_open 24 = .ok (.goto 17, 3) := by decide +kernel
theorem dM_open_27 : decode zc_M_open 27 = .ok (.aload_n 0, 1) := by decide +kernel
theorem dM_open_28 : decode zc_M_open 28 = .ok (.getfield 7, 3) := by decide +kernel
theorem dM_open_31 : decode zc_M_open 31 = .ok (.iload_n 1, 1) := by decide +kernel
theorem dM_open_32 : decode zc_M_open 32 = .ok (.baload, 1) := by decide +kernel
theorem dM_open_33 : decode zc_M_open 33 = .ok (.ifCond .eq 7, 3) := by decide +kernel
theorem dM_open_36 : decode zc_M_open 36 = .ok (.iconst 3, 1) := by decide +kernel
theorem dM_open_37 : decode zc_M_open 37 = .ok (.goto 4, 3) := by decide +kernel
theorem dM_open_40 : decode zc_M_open 40 = .ok (.iconst 0, 1) := by decide +kernel
theorem dM_open_41 : decode zc_M_open 41 = .ok (.invokevirtual 95, 3) := by decide +kernel
theorem dM_open_44 : decode zc_M_open 44 = .ok (.ifCond .eq 4, 3) := by decide +kernel
theorem dM_open_47 : decode zc_M_open 47 = .ok (.return_, 1) := by decide +kernel
theorem dM_open_48 : decode zc_M_open 48 = .ok (.aload_n 0, 1) := by decide +kernel
theorem dM_open_49 : decode zc_M_open 49 = .ok (.getfield 7, 3) := by decide +kernel
theorem dM_open_52 : decode zc_M_open 52 = .ok (.iload_n 1, 1) := by decide +kernel
theorem dM_open_53 : decode zc_M_open 53 = .ok (.iconst 1, 1) := by decide +kernel
theorem dM_open_54 : decode zc_M_open 54 = .ok (.bastore, 1) := by decide +kernel
theorem dM_open_55 : decode zc_M_open 55 = .ok (.iconst 0, 1) := by decide +kernel
theorem dM_open_56 : decode zc_M_open 56 = .ok (.istore_n 3, 1) := by decide +kernel
theorem dM_open_57 : decode zc_M_open 57 = .ok (.iload_n 3, 1) := by decide +kernel
theorem dM_open_58 : decode zc_M_open 58 = .ok (.iconst 4, 1) := by decide +kernel
theorem dM_open_59 : decode zc_M_open 59 = .ok (.if_icmp .ge 20, 3) := by decide +kernel
theorem dM_open_62 : decode zc_M_open 62 = .ok (.aload_n 0, 1) := by decide +kernel
theorem dM_open_63 : decode zc_M_open 63 = .ok (.getfield 17, 3) := by decide +kernel
theorem dM_open_66 : decode zc_M_open 66 = .ok (.iconst 4, 1) := by decide +kernel
theorem dM_open_67 : decode zc_M_open 67 = .ok (.iload_n 1, 1) := by decide +kernel
theorem dM_open_68 : decode zc_M_open 68 = .ok (.imul, 1) := by decide +kernel
theorem dM_open_69 : decode zc_M_open 69 = .ok (.iload_n 3, 1) := by decide +kernel
theorem dM_open_70 : decode zc_M_open 70 = .ok (.iadd, 1) := by decide +kernel
theorem dM_open_71 : decode zc_M_open 71 = .ok (.iload_n 2, 1) := by decide +kernel
theorem dM_open_72 : decode zc_M_open 72 = .ok (.iastore, 1) := by decide +kernel
theorem dM_open_73 : decode zc_M_open 73 = .ok (.iinc 3 1, 3) := by decide +kernel
theorem dM_open_76 : decode zc_M_open 76 = .ok (.goto (-19), 3) := by decide +kernel
theorem dM_open_79 : decode zc_M_open 79 = .ok (.return_, 1) := by decide +kernel
theorem dM_isFour_0 : decode zc_M_isFour 0 = .ok (.iload_n 0, 1) := by decide +kernel
theorem dM_isFour_1 : decode zc_M_isFour 1 = .ok (.ifCond .lt 12, 3) := by decide +kernel
theorem dM_isFour_4 : decode zc_M_isFour 4 = .ok (.iload_n 0, 1) := by decide +kernel
theorem dM_isFour_5 : decode zc_M_isFour 5 = .ok (.iconst 4, 1) := by decide +kernel
theorem dM_isFour_6 : decode zc_M_isFour 6 = .ok (.if_icmp .ge 7, 3) := by decide +kernel
theorem dM_isFour_9 : decode zc_M_isFour 9 = .ok (.iconst 1, 1) := by decide +kernel
theorem dM_isFour_10 : decode zc_M_isFour 10 = .ok (.goto 4, 3) := by decide +kernel
theorem dM_isFour_13 : decode zc_M_isFour 13 = .ok (.iconst 0, 1) := by decide +kernel
theorem dM_isFour_14 : decode zc_M_isFour 14 = .ok (.ireturn, 1) := by decide +kernel
theorem dM_refused_0 : decode zc_M_refused 0 = .ok (.aload_n 0, 1) := by decide +kernel
theorem dM_refused_1 : decode zc_M_refused 1 = .ok (.iload_n 1, 1) := by decide +kernel
theorem dM_refused_2 : decode zc_M_refused 2 = .ok (.putfield 87, 3) := by decide +kernel
theorem dM_refused_5 : decode zc_M_refused 5 = .ok (.iload_n 1, 1) := by decide +kernel
theorem dM_refused_6 : decode zc_M_refused 6 = .ok (.ifCond .le 7, 3) := by decide +kernel
theorem dM_refused_9 : decode zc_M_refused 9 = .ok (.iconst 1, 1) := by decide +kernel
theorem dM_refused_10 : decode zc_M_refused 10 = .ok (.goto 4, 3) := by decide +kernel
theorem dM_refused_13 : decode zc_M_refused 13 = .ok (.iconst 0, 1) := by decide +kernel
theorem dM_refused_14 : decode zc_M_refused 14 = .ok (.ireturn, 1) := by decide +kernel
theorem dM_fare_0 : decode zc_M_fare 0 = .ok (.aload_n 0, 1) := by decide +kernel
theorem dM_fare_1 : decode zc_M_fare 1 = .ok (.iload_n 1, 1) := by decide +kernel
theorem dM_fare_2 : decode zc_M_fare 2 = .ok (.invokestatic 91, 3) := by decide +kernel
theorem dM_fare_5 : decode zc_M_fare 5 = .ok (.ifCond .eq 10, 3) := by decide +kernel
theorem dM_fare_8 : decode zc_M_fare 8 = .ok (.iload_n 2, 1) := by decide +kernel
theorem dM_fare_9 : decode zc_M_fare 9 = .ok (.invokestatic 91, 3) := by decide +kernel
theorem dM_fare_12 : decode zc_M_fare 12 = .ok (.ifCond .ne 7, 3) := by decide +kernel
theorem dM_fare_15 : decode zc_M_fare 15 = .ok (.iconst 1, 1) := by decide +kernel
theorem dM_fare_16 : decode zc_M_fare 16 = .ok (.goto 18, 3) := by decide +kernel
theorem dM_fare_19 : decode zc_M_fare 19 = .ok (.iload_n 3, 1) := by decide +kernel
theorem dM_fare_20 : decode zc_M_fare 20 = .ok (.ifCond .lt 9, 3) := by decide +kernel
theorem dM_fare_23 : decode zc_M_fare 23 = .ok (.iload_n 3, 1) := by decide +kernel
theorem dM_fare_24 : decode zc_M_fare 24 = .ok (.ldc 98, 2) := by decide +kernel
theorem dM_fare_26 : decode zc_M_fare 26 = .ok (.if_icmp .le 7, 3) := by decide +kernel
theorem dM_fare_29 : decode zc_M_fare 29 = .ok (.iconst 2, 1) := by decide +kernel
theorem dM_fare_30 : decode zc_M_fare 30 = .ok (.goto 4, 3) := by decide +kernel
theorem dM_fare_33 : decode zc_M_fare 33 = .ok (.iconst 0, 1) := by decide +kernel
theorem dM_fare_34 : decode zc_M_fare 34 = .ok (.invokevirtual 95, 3) := by decide +kernel
theorem dM_fare_37 : decode zc_M_fare 37 = .ok (.ifCond .ne 14, 3) := by decide +kernel
theorem dM_fare_40 : decode zc_M_fare 40 = .ok (.aload_n 0, 1) := by decide +kernel
theorem dM_fare_41 : decode zc_M_fare 41 = .ok (.getfield 13, 3) := by decide +kernel
theorem dM_fare_44 : decode zc_M_fare 44 = .ok (.iconst 4, 1) := by decide +kernel
theorem dM_fare_45 : decode zc_M_fare 45 = .ok (.iload_n 1, 1) := by decide +kernel
theorem dM_fare_46 : decode zc_M_fare 46 = .ok (.imul, 1) := by decide +kernel
theorem dM_fare_47 : decode zc_M_fare 47 = .ok (.iload_n 2, 1) := by decide +kernel
theorem dM_fare_48 : decode zc_M_fare 48 = .ok (.iadd, 1) := by decide +kernel
theorem dM_fare_49 : decode zc_M_fare 49 = .ok (.iload_n 3, 1) := by decide +kernel
theorem dM_fare_50 : decode zc_M_fare 50 = .ok (.iastore, 1) := by decide +kernel
theorem dM_fare_51 : decode zc_M_fare 51 = .ok (.return_, 1) := by decide +kernel
theorem dM_part_0 : decode zc_M_part 0 = .ok (.iload_n 1, 1) := by decide +kernel
theorem dM_part_1 : decode zc_M_part 1 = .ok (.invokestatic 91, 3) := by decide +kernel
theorem dM_part_4 : decode zc_M_part 4 = .ok (.ifCond .eq 25, 3) := by decide +kernel
theorem dM_part_7 : decode zc_M_part 7 = .ok (.iload_n 2, 1) := by decide +kernel
theorem dM_part_8 : decode zc_M_part 8 = .ok (.ifCond .lt 21, 3) := by decide +kernel
theorem dM_part_11 : decode zc_M_part 11 = .ok (.iload_n 2, 1) := by decide +kernel
theorem dM_part_12 : decode zc_M_part 12 = .ok (.iconst 5, 1) := by decide +kernel
theorem dM_part_13 : decode zc_M_part 13 = .ok (.if_icmp .ge 16, 3) := by decide +kernel
theorem dM_part_16 : decode zc_M_part 16 = .ok (.iload_n 3, 1) := by decide +kernel
theorem dM_part_17 : decode zc_M_part 17 = .ok (.ifCond .lt 12, 3) := by decide +kernel
theorem dM_part_20 : decode zc_M_part 20 = .ok (.iload_n 3, 1) := by decide +kernel
theorem dM_part_21 : decode zc_M_part 21 = .ok (.iconst 5, 1) := by decide +kernel
theorem dM_part_22 : decode zc_M_part 22 = .ok (.if_icmp .ge 7, 3) := by decide +kernel
theorem dM_part_25 : decode zc_M_part 25 = .ok (.iconst 1, 1) := by decide +kernel
theorem dM_part_26 : decode zc_M_part 26 = .ok (.goto 4, 3) := by decide +kernel
theorem dM_part_29 : decode zc_M_part 29 = .ok (.iconst 0, 1) := by decide +kernel
theorem dM_part_30 : decode zc_M_part 30 = .ok (.istore 4, 2) := by decide +kernel
theorem dM_part_32 : decode zc_M_part 32 = .ok (.aload_n 0, 1) := by decide +kernel
theorem dM_part_33 : decode zc_M_part 33 = .ok (.iload 4, 2) := by decide +kernel
theorem dM_part_35 : decode zc_M_part 35 = .ok (.ifCond .ne 7, 3) := by decide +kernel
theorem dM_part_38 : decode zc_M_part 38 = .ok (.iconst 1, 1) := by decide +kernel
theorem dM_part_39 : decode zc_M_part 39 = .ok (.goto 34, 3) := by decide +kernel
theorem dM_part_42 : decode zc_M_part 42 = .ok (.iload_n 2, 1) := by decide +kernel
theorem dM_part_43 : decode zc_M_part 43 = .ok (.iload_n 3, 1) := by decide +kernel
theorem dM_part_44 : decode zc_M_part 44 = .ok (.if_icmp .lt 7, 3) := by decide +kernel
theorem dM_part_47 : decode zc_M_part 47 = .ok (.iconst 2, 1) := by decide +kernel
theorem dM_part_48 : decode zc_M_part 48 = .ok (.goto 25, 3) := by decide +kernel
theorem dM_part_51 : decode zc_M_part 51 = .ok (.aload_n 0, 1) := by decide +kernel
theorem dM_part_52 : decode zc_M_part 52 = .ok (.getfield 7, 3) := by decide +kernel
theorem dM_part_55 : decode zc_M_part 55 = .ok (.iload_n 1, 1) := by decide +kernel
theorem dM_part_56 : decode zc_M_part 56 = .ok (.baload, 1) := by decide +kernel
theorem dM_part_57 : decode zc_M_part 57 = .ok (.ifCond .eq 11, 3) := by decide +kernel
theorem dM_part_60 : decode zc_M_part 60 = .ok (.aload_n 0, 1) := by decide +kernel
theorem dM_part_61 : decode zc_M_part 61 = .ok (.getfield 99, 3) := by decide +kernel
theorem dM_part_64 : decode zc_M_part 64 = .ok (.iconst 4, 1) := by decide +kernel
theorem dM_part_65 : decode zc_M_part 65 = .ok (.if_icmp .ne 7, 3) := by decide +kernel
theorem dM_part_68 : decode zc_M_part 68 = .ok (.iconst 3, 1) := by decide +kernel
theorem dM_part_69 : decode zc_M_part 69 = .ok (.goto 4, 3) := by decide +kernel
theorem dM_part_72 : decode zc_M_part 72 = .ok (.iconst 0, 1) := by decide +kernel
theorem dM_part_73 : decode zc_M_part 73 = .ok (.invokevirtual 95, 3) := by decide +kernel
theorem dM_part_76 : decode zc_M_part 76 = .ok (.ifCond .eq 5, 3) := by decide +kernel
theorem dM_part_79 : decode zc_M_part 79 = .ok (.iconst 0, 1) := by decide +kernel
theorem dM_part_80 : decode zc_M_part 80 = .ok (.ireturn, 1) := by decide +kernel
theorem dM_part_81 : decode zc_M_part 81 = .ok (.aload_n 0, 1) := by decide +kernel
theorem dM_part_82 : decode zc_M_part 82 = .ok (.getfield 20, 3) := by decide +kernel
theorem dM_part_85 : decode zc_M_part 85 = .ok (.aload_n 0, 1) := by decide +kernel
theorem dM_part_86 : decode zc_M_part 86 = .ok (.getfield 99, 3) := by decide +kernel
theorem dM_part_89 : decode zc_M_part 89 = .ok (.iload_n 1, 1) := by decide +kernel
theorem dM_part_90 : decode zc_M_part 90 = .ok (.iastore, 1) := by decide +kernel
theorem dM_part_91 : decode zc_M_part 91 = .ok (.aload_n 0, 1) := by decide +kernel
theorem dM_part_92 : decode zc_M_part 92 = .ok (.getfield 23, 3) := by decide +kernel
theorem dM_part_95 : decode zc_M_part 95 = .ok (.aload_n 0, 1) := by decide +kernel
theorem dM_part_96 : decode zc_M_part 96 = .ok (.getfield 99, 3) := by decide +kernel
theorem dM_part_99 : decode zc_M_part 99 = .ok (.iload_n 2, 1) := by decide +kernel
theorem dM_part_100 : decode zc_M_part 100 = .ok (.iastore, 1) := by decide +kernel
theorem dM_part_101 : decode zc_M_part 101 = .ok (.aload_n 0, 1) := by decide +kernel
theorem dM_part_102 : decode zc_M_part 102 = .ok (.getfield 26, 3) := by decide +kernel
theorem dM_part_105 : decode zc_M_part 105 = .ok (.aload_n 0, 1) := by decide +kernel
theorem dM_part_106 : decode zc_M_part 106 = .ok (.getfield 99, 3) := by decide +kernel
theorem dM_part_109 : decode zc_M_part 109 = .ok (.iload_n 3, 1) := by decide +kernel
theorem dM_part_110 : decode zc_M_part 110 = .ok (.iastore, 1) := by decide +kernel
theorem dM_part_111 : decode zc_M_part 111 = .ok (.aload_n 0, 1) := by decide +kernel
theorem dM_part_112 : decode zc_M_part 112 = .ok (.dup, 1) := by decide +kernel
theorem dM_part_113 : decode zc_M_part 113 = .ok (.getfield 99, 3) := by decide +kernel
theorem dM_part_116 : decode zc_M_part 116 = .ok (.iconst 1, 1) := by decide +kernel
theorem dM_part_117 : decode zc_M_part 117 = .ok (.iadd, 1) := by decide +kernel
theorem dM_part_118 : decode zc_M_part 118 = .ok (.putfield 99, 3) := by decide +kernel
theorem dM_part_121 : decode zc_M_part 121 = .ok (.aload_n 0, 1) := by decide +kernel
theorem dM_part_122 : decode zc_M_part 122 = .ok (.getfield 99, 3) := by decide +kernel
theorem dM_part_125 : decode zc_M_part 125 = .ok (.ireturn, 1) := by decide +kernel
theorem dM_buy_0 : decode zc_M_buy 0 = .ok (.aload_n 0, 1) := by decide +kernel
theorem dM_buy_1 : decode zc_M_buy 1 = .ok (.iload_n 1, 1) := by decide +kernel
theorem dM_buy_2 : decode zc_M_buy 2 = .ok (.invokestatic 91, 3) := by decide +kernel
theorem dM_buy_5 : decode zc_M_buy 5 = .ok (.ifCond .ne 7, 3) := by decide +kernel
theorem dM_buy_8 : decode zc_M_buy 8 = .ok (.iconst 1, 1) := by decide +kernel
theorem dM_buy_9 : decode zc_M_buy 9 = .ok (.goto 39, 3) := by decide +kernel
theorem dM_buy_12 : decode zc_M_buy 12 = .ok (.iload_n 2, 1) := by decide +kernel
theorem dM_buy_13 : decode zc_M_buy 13 = .ok (.iconst 1, 1) := by decide +kernel
theorem dM_buy_14 : decode zc_M_buy 14 = .ok (.if_icmp .lt 9, 3) := by decide +kernel
theorem dM_buy_17 : decode zc_M_buy 17 = .ok (.iload_n 2, 1) := by decide +kernel
theorem dM_buy_18 : decode zc_M_buy 18 = .ok (.bipush 100, 2) := by decide +kernel
theorem dM_buy_20 : decode zc_M_buy 20 = .ok (.if_icmp .le 7, 3) := by decide +kernel
theorem dM_buy_23 : decode zc_M_buy 23 = .ok (.iconst 2, 1) := by decide +kernel
theorem dM_buy_24 : decode zc_M_buy 24 = .ok (.goto 24, 3) := by decide +kernel
theorem dM_buy_27 : decode zc_M_buy 27 = .ok (.aload_n 0, 1) := by decide +kernel
theorem dM_buy_28 : decode zc_M_buy 28 = .ok (.getfield 99, 3) := by decide +kernel
theorem dM_buy_31 : decode zc_M_buy 31 = .ok (.ifCond .eq 12, 3) := by decide +kernel
theorem dM_buy_34 : decode zc_M_buy 34 = .ok (.aload_n 0, 1) := by decide +kernel
theorem dM_buy_35 : decode zc_M_buy 35 = .ok (.getfield 110, 3) := by decide +kernel
theorem dM_buy_38 : decode zc_M_buy 38 = .ok (.bipush 80, 2) := by decide +kernel
theorem dM_buy_40 : decode zc_M_buy 40 = .ok (.if_icmp .ne 7, 3) := by decide +kernel
theorem dM_buy_43 : decode zc_M_buy 43 = .ok (.iconst 3, 1) := by decide +kernel
theorem dM_buy_44 : decode zc_M_buy 44 = .ok (.goto 4, 3) := by decide +kernel
theorem dM_buy_47 : decode zc_M_buy 47 = .ok (.iconst 0, 1) := by decide +kernel
theorem dM_buy_48 : decode zc_M_buy 48 = .ok (.invokevirtual 95, 3) := by decide +kernel
theorem dM_buy_51 : decode zc_M_buy 51 = .ok (.ifCond .eq 5, 3) := by decide +kernel
theorem dM_buy_54 : decode zc_M_buy 54 = .ok (.iconst 0, 1) := by decide +kernel
theorem dM_buy_55 : decode zc_M_buy 55 = .ok (.ireturn, 1) := by decide +kernel
theorem dM_buy_56 : decode zc_M_buy 56 = .ok (.aload_n 0, 1) := by decide +kernel
theorem dM_buy_57 : decode zc_M_buy 57 = .ok (.getfield 99, 3) := by decide +kernel
theorem dM_buy_60 : decode zc_M_buy 60 = .ok (.istore_n 3, 1) := by decide +kernel
theorem dM_buy_61 : decode zc_M_buy 61 = .ok (.aload_n 0, 1) := by decide +kernel
theorem dM_buy_62 : decode zc_M_buy 62 = .ok (.iconst 0, 1) := by decide +kernel
theorem dM_buy_63 : decode zc_M_buy 63 = .ok (.putfield 99, 3) := by decide +kernel
theorem dM_buy_66 : decode zc_M_buy 66 = .ok (.aload_n 0, 1) := by decide +kernel
theorem dM_buy_67 : decode zc_M_buy 67 = .ok (.iload_n 1, 1) := by decide +kernel
theorem dM_buy_68 : decode zc_M_buy 68 = .ok (.iconst 0, 1) := by decide +kernel
theorem dM_buy_69 : decode zc_M_buy 69 = .ok (.iload_n 3, 1) := by decide +kernel
theorem dM_buy_70 : decode zc_M_buy 70 = .ok (.iload_n 2, 1) := by decide +kernel
theorem dM_buy_71 : decode zc_M_buy 71 = .ok (.invokevirtual 117, 3) := by decide +kernel
theorem dM_buy_74 : decode zc_M_buy 74 = .ok (.ifCond .eq 14, 3) := by decide +kernel
theorem dM_buy_77 : decode zc_M_buy 77 = .ok (.aload_n 0, 1) := by decide +kernel
theorem dM_buy_78 : decode zc_M_buy 78 = .ok (.iload_n 1, 1) := by decide +kernel
theorem dM_buy_79 : decode zc_M_buy 79 = .ok (.iconst 0, 1) := by decide +kernel
theorem dM_buy_80 : decode zc_M_buy 80 = .ok (.iload_n 3, 1) := by decide +kernel
theorem dM_buy_81 : decode zc_M_buy 81 = .ok (.iload_n 2, 1) := by decide +kernel
theorem dM_buy_82 : decode zc_M_buy 82 = .ok (.invokevirtual 121, 3) := by decide +kernel
theorem dM_buy_85 : decode zc_M_buy 85 = .ok (.goto 4, 3) := by decide +kernel
