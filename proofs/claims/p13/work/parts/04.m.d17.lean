theorem dX12_searched_108 : decode cX12_searched 108 = .ok (.goto (-38), 3) := by decide +kernel
theorem dX12_searched_111 : decode cX12_searched 111 = .ok (.iload 7, 2) := by decide +kernel
theorem dX12_searched_113 : decode cX12_searched 113 = .ok (.iconst 1, 1) := by decide +kernel
theorem dX12_searched_114 : decode cX12_searched 114 = .ok (.if_icmp .ne 82, 3) := by decide +kernel
theorem dX12_searched_117 : decode cX12_searched 117 = .ok (.iconst 0, 1) := by decide +kernel
theorem dX12_searched_118 : decode cX12_searched 118 = .ok (.istore 9, 2) := by decide +kernel
theorem dX12_searched_120 : decode cX12_searched 120 = .ok (.iload 9, 2) := by decide +kernel
theorem dX12_searched_122 : decode cX12_searched 122 = .ok (.bipush 10, 2) := by decide +kernel
theorem dX12_searched_124 : decode cX12_searched 124 = .ok (.if_icmp .ge 72, 3) := by decide +kernel
theorem dX12_searched_127 : decode cX12_searched 127 = .ok (.aload_n 0, 1) := by decide +kernel
theorem dX12_searched_128 : decode cX12_searched 128 = .ok (.getfield 231, 3) := by decide +kernel
theorem dX12_searched_131 : decode cX12_searched 131 = .ok (.iconst 2, 1) := by decide +kernel
theorem dX12_searched_132 : decode cX12_searched 132 = .ok (.iload 9, 2) := by decide +kernel
theorem dX12_searched_134 : decode cX12_searched 134 = .ok (.imul, 1) := by decide +kernel
theorem dX12_searched_135 : decode cX12_searched 135 = .ok (.iload 9, 2) := by decide +kernel
theorem dX12_searched_137 : decode cX12_searched 137 = .ok (.ifCond .ne 10, 3) := by decide +kernel
theorem dX12_searched_140 : decode cX12_searched 140 = .ok (.iload 8, 2) := by decide +kernel
theorem dX12_searched_142 : decode cX12_searched 142 = .ok (.iconst 1, 1) := by decide +kernel
theorem dX12_searched_143 : decode cX12_searched 143 = .ok (.isub, 1) := by decide +kernel
theorem dX12_searched_144 : decode cX12_searched 144 = .ok (.goto 12, 3) := by decide +kernel
theorem dX12_searched_147 : decode cX12_searched 147 = .ok (.aload_n 0, 1) := by decide +kernel
theorem dX12_searched_148 : decode cX12_searched 148 = .ok (.getfield 204, 3) := by decide +kernel
theorem dX12_searched_151 : decode cX12_searched 151 = .ok (.iconst 0, 1) := by decide +kernel
theorem dX12_searched_152 : decode cX12_searched 152 = .ok (.iload 9, 2) := by decide +kernel
theorem dX12_searched_154 : decode cX12_searched 154 = .ok (.iadd, 1) := by decide +kernel
theorem dX12_searched_155 : decode cX12_searched 155 = .ok (.iaload, 1) := by decide +kernel
theorem dX12_searched_156 : decode cX12_searched 156 = .ok (.iastore, 1) := by decide +kernel
theorem dX12_searched_157 : decode cX12_searched 157 = .ok (.aload_n 0, 1) := by decide +kernel
theorem dX12_searched_158 : decode cX12_searched 158 = .ok (.getfield 231, 3) := by decide +kernel
theorem dX12_searched_161 : decode cX12_searched 161 = .ok (.iconst 2, 1) := by decide +kernel
theorem dX12_searched_162 : decode cX12_searched 162 = .ok (.iload 9, 2) := by decide +kernel
theorem dX12_searched_164 : decode cX12_searched 164 = .ok (.imul, 1) := by decide +kernel
theorem dX12_searched_165 : decode cX12_searched 165 = .ok (.iconst 1, 1) := by decide +kernel
theorem dX12_searched_166 : decode cX12_searched 166 = .ok (.iadd, 1) := by decide +kernel
theorem dX12_searched_167 : decode cX12_searched 167 = .ok (.iload 9, 2) := by decide +kernel
theorem dX12_searched_169 : decode cX12_searched 169 = .ok (.ifCond .ne 10, 3) := by decide +kernel
theorem dX12_searched_172 : decode cX12_searched 172 = .ok (.aload_n 0, 1) := by decide +kernel
theorem dX12_searched_173 : decode cX12_searched 173 = .ok (.getfield 604, 3) := by decide +kernel
theorem dX12_searched_176 : decode cX12_searched 176 = .ok (.goto 13, 3) := by decide +kernel
theorem dX12_searched_179 : decode cX12_searched 179 = .ok (.aload_n 0, 1) := by decide +kernel
theorem dX12_searched_180 : decode cX12_searched 180 = .ok (.getfield 204, 3) := by decide +kernel
theorem dX12_searched_183 : decode cX12_searched 183 = .ok (.bipush 10, 2) := by decide +kernel
theorem dX12_searched_185 : decode cX12_searched 185 = .ok (.iload 9, 2) := by decide +kernel
theorem dX12_searched_187 : decode cX12_searched 187 = .ok (.iadd, 1) := by decide +kernel
theorem dX12_searched_188 : decode cX12_searched 188 = .ok (.iaload, 1) := by decide +kernel
theorem dX12_searched_189 : decode cX12_searched 189 = .ok (.iastore, 1) := by decide +kernel
theorem dX12_searched_190 : decode cX12_searched 190 = .ok (.iinc 9 1, 3) := by decide +kernel
theorem dX12_searched_193 : decode cX12_searched 193 = .ok (.goto (-73), 3) := by decide +kernel
theorem dX12_searched_196 : decode cX12_searched 196 = .ok (.aload_n 0, 1) := by decide +kernel
theorem dX12_searched_197 : decode cX12_searched 197 = .ok (.iload 5, 2) := by decide +kernel
theorem dX12_searched_199 : decode cX12_searched 199 = .ok (.ifCond .eq 7, 3) := by decide +kernel
theorem dX12_searched_202 : decode cX12_searched 202 = .ok (.iconst 0, 1) := by decide +kernel
theorem dX12_searched_203 : decode cX12_searched 203 = .ok (.goto 7, 3) := by decide +kernel
theorem dX12_searched_206 : decode cX12_searched 206 = .ok (.aload_n 0, 1) := by decide +kernel
theorem dX12_searched_207 : decode cX12_searched 207 = .ok (.getfield 583, 3) := by decide +kernel
theorem dX12_searched_210 : decode cX12_searched 210 = .ok (.putfield 583, 3) := by decide +kernel
theorem dX12_searched_213 : decode cX12_searched 213 = .ok (.iload 7, 2) := by decide +kernel
theorem dX12_searched_215 : decode cX12_searched 215 = .ok (.ireturn, 1) := by decide +kernel
theorem dX12_set_0 : decode cX12_set 0 = .ok (.aload_n 0, 1) := by decide +kernel
theorem dX12_set_1 : decode cX12_set 1 = .ok (.getfield 204, 3) := by decide +kernel
theorem dX12_set_4 : decode cX12_set 4 = .ok (.iload_n 1, 1) := by decide +kernel
theorem dX12_set_5 : decode cX12_set 5 = .ok (.iaload, 1) := by decide +kernel
theorem dX12_set_6 : decode cX12_set 6 = .ok (.iload_n 2, 1) := by decide +kernel
theorem dX12_set_7 : decode cX12_set 7 = .ok (.if_icmp .eq 45, 3) := by decide +kernel
theorem dX12_set_10 : decode cX12_set 10 = .ok (.aload_n 0, 1) := by decide +kernel
theorem dX12_set_11 : decode cX12_set 11 = .ok (.getfield 208, 3) := by decide +kernel
theorem dX12_set_14 : decode cX12_set 14 = .ok (.aload_n 0, 1) := by decide +kernel
theorem dX12_set_15 : decode cX12_set 15 = .ok (.getfield 577, 3) := by decide +kernel
theorem dX12_set_18 : decode cX12_set 18 = .ok (.iload_n 1, 1) := by decide +kernel
theorem dX12_set_19 : decode cX12_set 19 = .ok (.iastore, 1) := by decide +kernel
theorem dX12_set_20 : decode cX12_set 20 = .ok (.aload_n 0, 1) := by decide +kernel
theorem dX12_set_21 : decode cX12_set 21 = .ok (.getfield 211, 3) := by decide +kernel
theorem dX12_set_24 : decode cX12_set 24 = .ok (.aload_n 0, 1) := by decide +kernel
theorem dX12_set_25 : decode cX12_set 25 = .ok (.getfield 577, 3) := by decide +kernel
theorem dX12_set_28 : decode cX12_set 28 = .ok (.aload_n 0, 1) := by decide +kernel
theorem dX12_set_29 : decode cX12_set 29 = .ok (.getfield 204, 3) := by decide +kernel
theorem dX12_set_32 : decode cX12_set 32 = .ok (.iload_n 1, 1) := by decide +kernel
theorem dX12_set_33 : decode cX12_set 33 = .ok (.iaload, 1) := by decide +kernel
theorem dX12_set_34 : decode cX12_set 34 = .ok (.iastore, 1) := by decide +kernel
theorem dX12_set_35 : decode cX12_set 35 = .ok (.aload_n 0, 1) := by decide +kernel
theorem dX12_set_36 : decode cX12_set 36 = .ok (.dup, 1) := by decide +kernel
theorem dX12_set_37 : decode cX12_set 37 = .ok (.getfield 577, 3) := by decide +kernel
theorem dX12_set_40 : decode cX12_set 40 = .ok (.iconst 1, 1) := by decide +kernel
theorem dX12_set_41 : decode cX12_set 41 = .ok (.iadd, 1) := by decide +kernel
theorem dX12_set_42 : decode cX12_set 42 = .ok (.putfield 577, 3) := by decide +kernel
theorem dX12_set_45 : decode cX12_set 45 = .ok (.aload_n 0, 1) := by decide +kernel
theorem dX12_set_46 : decode cX12_set 46 = .ok (.getfield 204, 3) := by decide +kernel
theorem dX12_set_49 : decode cX12_set 49 = .ok (.iload_n 1, 1) := by decide +kernel
theorem dX12_set_50 : decode cX12_set 50 = .ok (.iload_n 2, 1) := by decide +kernel
theorem dX12_set_51 : decode cX12_set 51 = .ok (.iastore, 1) := by decide +kernel
theorem dX12_set_52 : decode cX12_set 52 = .ok (.return_, 1) := by decide +kernel
theorem dX12_setNode_0 : decode cX12_setNode 0 = .ok (.aload_n 0, 1) := by decide +kernel
theorem dX12_setNode_1 : decode cX12_setNode 1 = .ok (.iload_n 1, 1) := by decide +kernel
theorem dX12_setNode_2 : decode cX12_setNode 2 = .ok (.invokevirtual 399, 3) := by decide +kernel
theorem dX12_setNode_5 : decode cX12_setNode 5 = .ok (.aload_n 0, 1) := by decide +kernel
theorem dX12_setNode_6 : decode cX12_setNode 6 = .ok (.iconst 2, 1) := by decide +kernel
theorem dX12_setNode_7 : decode cX12_setNode 7 = .ok (.iload_n 2, 1) := by decide +kernel
theorem dX12_setNode_8 : decode cX12_setNode 8 = .ok (.ifCond .eq 7, 3) := by decide +kernel
theorem dX12_setNode_11 : decode cX12_setNode 11 = .ok (.iconst 1, 1) := by decide +kernel
theorem dX12_setNode_12 : decode cX12_setNode 12 = .ok (.goto 4, 3) := by decide +kernel
theorem dX12_setNode_15 : decode cX12_setNode 15 = .ok (.iconst 0, 1) := by decide +kernel
theorem dX12_setNode_16 : decode cX12_setNode 16 = .ok (.invokevirtual 335, 3) := by decide +kernel
theorem dX12_setNode_19 : decode cX12_setNode 19 = .ok (.istore_n 3, 1) := by decide +kernel
theorem dX12_setNode_20 : decode cX12_setNode 20 = .ok (.aload_n 0, 1) := by decide +kernel
theorem dX12_setNode_21 : decode cX12_setNode 21 = .ok (.getfield 107, 3) := by decide +kernel
theorem dX12_setNode_24 : decode cX12_setNode 24 = .ok (.iload_n 3, 1) := by decide +kernel
theorem dX12_setNode_25 : decode cX12_setNode 25 = .ok (.iload_n 1, 1) := by decide +kernel
theorem dX12_setNode_26 : decode cX12_setNode 26 = .ok (.iastore, 1) := by decide +kernel
theorem dX12_setNode_27 : decode cX12_setNode 27 = .ok (.aload_n 0, 1) := by decide +kernel
theorem dX12_setNode_28 : decode cX12_setNode 28 = .ok (.getfield 104, 3) := by decide +kernel
theorem dX12_setNode_31 : decode cX12_setNode 31 = .ok (.iload_n 3, 1) := by decide +kernel
theorem dX12_setNode_32 : decode cX12_setNode 32 = .ok (.aload_n 0, 1) := by decide +kernel
theorem dX12_setNode_33 : decode cX12_setNode 33 = .ok (.getfield 396, 3) := by decide +kernel
theorem dX12_setNode_36 : decode cX12_setNode 36 = .ok (.iload_n 1, 1) := by decide +kernel
theorem dX12_setNode_37 : decode cX12_setNode 37 = .ok (.isub, 1) := by decide +kernel
theorem dX12_setNode_38 : decode cX12_setNode 38 = .ok (.iastore, 1) := by decide +kernel
theorem dX12_setNode_39 : decode cX12_setNode 39 = .ok (.iload_n 3, 1) := by decide +kernel
theorem dX12_setNode_40 : decode cX12_setNode 40 = .ok (.ireturn, 1) := by decide +kernel
theorem dX12_sign_0 : decode cX12_sign 0 = .ok (.aload_n 0, 1) := by decide +kernel
theorem dX12_sign_1 : decode cX12_sign 1 = .ok (.iload_n 1, 1) := by decide +kernel
theorem dX12_sign_2 : decode cX12_sign 2 = .ok (.iconst 0, 1) := by decide +kernel
theorem dX12_sign_3 : decode cX12_sign 3 = .ok (.iconst 3, 1) := by decide +kernel
theorem dX12_sign_4 : decode cX12_sign 4 = .ok (.invokestatic 7, 3) := by decide +kernel
theorem dX12_sign_7 : decode cX12_sign 7 = .ok (.ifCond .ne 7, 3) := by decide +kernel
theorem dX12_sign_10 : decode cX12_sign 10 = .ok (.iconst 2, 1) := by decide +kernel
theorem dX12_sign_11 : decode cX12_sign 11 = .ok (.goto 37, 3) := by decide +kernel
theorem dX12_sign_14 : decode cX12_sign 14 = .ok (.aload_n 0, 1) := by decide +kernel
theorem dX12_sign_15 : decode cX12_sign 15 = .ok (.getfield 171, 3) := by decide +kernel
theorem dX12_sign_18 : decode cX12_sign 18 = .ok (.iload_n 1, 1) := by decide +kernel
theorem dX12_sign_19 : decode cX12_sign 19 = .ok (.baload, 1) := by decide +kernel
theorem dX12_sign_20 : decode cX12_sign 20 = .ok (.ifCond .ne 7, 3) := by decide +kernel
theorem dX12_sign_23 : decode cX12_sign 23 = .ok (.iconst 1, 1) := by decide +kernel
theorem dX12_sign_24 : decode cX12_sign 24 = .ok (.goto 24, 3) := by decide +kernel
theorem dX12_sign_27 : decode cX12_sign 27 = .ok (.iload_n 2, 1) := by decide +kernel
theorem dX12_sign_28 : decode cX12_sign 28 = .ok (.iconst 0, 1) := by decide +kernel
theorem dX12_sign_29 : decode cX12_sign 29 = .ok (.aload_n 0, 1) := by decide +kernel
theorem dX12_sign_30 : decode cX12_sign 30 = .ok (.getfield 174, 3) := by decide +kernel
theorem dX12_sign_33 : decode cX12_sign 33 = .ok (.iload_n 1, 1) := by decide +kernel
theorem dX12_sign_34 : decode cX12_sign 34 = .ok (.iaload, 1) := by decide +kernel
theorem dX12_sign_35 : decode cX12_sign 35 = .ok (.iconst 1, 1) := by decide +kernel
theorem dX12_sign_36 : decode cX12_sign 36 = .ok (.isub, 1) := by decide +kernel
theorem dX12_sign_37 : decode cX12_sign 37 = .ok (.invokestatic 7, 3) := by decide +kernel
theorem dX12_sign_40 : decode cX12_sign 40 = .ok (.ifCond .ne 7, 3) := by decide +kernel
theorem dX12_sign_43 : decode cX12_sign 43 = .ok (.iconst 2, 1) := by decide +kernel
theorem dX12_sign_44 : decode cX12_sign 44 = .ok (.goto 4, 3) := by decide +kernel
theorem dX12_sign_47 : decode cX12_sign 47 = .ok (.iconst 0, 1) := by decide +kernel
theorem dX12_sign_48 : decode cX12_sign 48 = .ok (.putfield 1, 3) := by decide +kernel
theorem dX12_sign_51 : decode cX12_sign 51 = .ok (.aload_n 0, 1) := by decide +kernel
theorem dX12_sign_52 : decode cX12_sign 52 = .ok (.getfield 1, 3) := by decide +kernel
theorem dX12_sign_55 : decode cX12_sign 55 = .ok (.ifCond .ne 18, 3) := by decide +kernel
theorem dX12_sign_58 : decode cX12_sign 58 = .ok (.aload_n 0, 1) := by decide +kernel
theorem dX12_sign_59 : decode cX12_sign 59 = .ok (.getfield 177, 3) := by decide +kernel
theorem dX12_sign_62 : decode cX12_sign 62 = .ok (.bipush 100, 2) := by decide +kernel
theorem dX12_sign_64 : decode cX12_sign 64 = .ok (.iload_n 1, 1) := by decide +kernel
theorem dX12_sign_65 : decode cX12_sign 65 = .ok (.imul, 1) := by decide +kernel
theorem dX12_sign_66 : decode cX12_sign 66 = .ok (.iload_n 2, 1) := by decide +kernel
theorem dX12_sign_67 : decode cX12_sign 67 = .ok (.iadd, 1) := by decide +kernel
theorem dX12_sign_68 : decode cX12_sign 68 = .ok (.iaload, 1) := by decide +kernel
theorem dX12_sign_69 : decode cX12_sign 69 = .ok (.i2c, 1) := by decide +kernel
theorem dX12_sign_70 : decode cX12_sign 70 = .ok (.goto 5, 3) := by decide +kernel
theorem dX12_sign_73 : decode cX12_sign 73 = .ok (.bipush 32, 2) := by decide +kernel
theorem dX12_sign_75 : decode cX12_sign 75 = .ok (.ireturn, 1) := by decide +kernel
theorem dX12_signAt_0 : decode cX12_signAt 0 = .ok (.iload_n 1, 1) := by decide +kernel
theorem dX12_signAt_1 : decode cX12_signAt 1 = .ok (.aload_n 0, 1) := by decide +kernel
theorem dX12_signAt_2 : decode cX12_signAt 2 = .ok (.getfield 317, 3) := by decide +kernel
theorem dX12_signAt_5 : decode cX12_signAt 5 = .ok (.if_icmp .ge 12, 3) := by decide +kernel
theorem dX12_signAt_8 : decode cX12_signAt 8 = .ok (.aload_n 0, 1) := by decide +kernel
theorem dX12_signAt_9 : decode cX12_signAt 9 = .ok (.getfield 24, 3) := by decide +kernel
theorem dX12_signAt_12 : decode cX12_signAt 12 = .ok (.iload_n 1, 1) := by decide +kernel
theorem dX12_signAt_13 : decode cX12_signAt 13 = .ok (.iaload, 1) := by decide +kernel
theorem dX12_signAt_14 : decode cX12_signAt 14 = .ok (.goto 4, 3) := by decide +kernel
theorem dX12_signAt_17 : decode cX12_signAt 17 = .ok (.iconst (-1), 1) := by decide +kernel
theorem dX12_signAt_18 : decode cX12_signAt 18 = .ok (.ireturn, 1) := by decide +kernel
theorem dX12_signOf_0 : decode cX12_signOf 0 = .ok (.aload_n 0, 1) := by decide +kernel
theorem dX12_signOf_1 : decode cX12_signOf 1 = .ok (.getfield 177, 3) := by decide +kernel
theorem dX12_signOf_4 : decode cX12_signOf 4 = .ok (.aload_n 0, 1) := by decide +kernel
theorem dX12_signOf_5 : decode cX12_signOf 5 = .ok (.getfield 592, 3) := by decide +kernel
theorem dX12_signOf_8 : decode cX12_signOf 8 = .ok (.iload_n 1, 1) := by decide +kernel
theorem dX12_signOf_9 : decode cX12_signOf 9 = .ok (.iadd, 1) := by decide +kernel
theorem dX12_signOf_10 : decode cX12_signOf 10 = .ok (.iaload, 1) := by decide +kernel
theorem dX12_signOf_11 : decode cX12_signOf 11 = .ok (.ireturn, 1) := by decide +kernel
theorem dX12_sizeBars_0 : decode cX12_sizeBars 0 = .ok (.sipush 220, 3) := by decide +kernel
theorem dX12_sizeBars_3 : decode cX12_sizeBars 3 = .ok (.iload_n 1, 1) := by decide +kernel
theorem dX12_sizeBars_4 : decode cX12_sizeBars 4 = .ok (.imul, 1) := by decide +kernel
theorem dX12_sizeBars_5 : decode cX12_sizeBars 5 = .ok (.istore_n 3, 1) := by decide +kernel
theorem dX12_sizeBars_6 : decode cX12_sizeBars 6 = .ok (.iload_n 2, 1) := by decide +kernel
theorem dX12_sizeBars_7 : decode cX12_sizeBars 7 = .ok (.ifCond .le 15, 3) := by decide +kernel
theorem dX12_sizeBars_10 : decode cX12_sizeBars 10 = .ok (.aload_n 0, 1) := by decide +kernel
theorem dX12_sizeBars_11 : decode cX12_sizeBars 11 = .ok (.getfield 65, 3) := by decide +kernel
theorem dX12_sizeBars_14 : decode cX12_sizeBars 14 = .ok (.iload_n 3, 1) := by decide +kernel
theorem dX12_sizeBars_15 : decode cX12_sizeBars 15 = .ok (.iaload, 1) := by decide +kernel
theorem dX12_sizeBars_16 : decode cX12_sizeBars 16 = .ok (.sipush 200, 3) := by decide +kernel
theorem dX12_sizeBars_19 : decode cX12_sizeBars 19 = .ok (.if_icmp .gt 19, 3) := by decide +kernel
theorem dX12_sizeBars_22 : decode cX12_sizeBars 22 = .ok (.iload_n 2, 1) := by decide +kernel
theorem dX12_sizeBars_23 : decode cX12_sizeBars 23 = .ok (.iconst 2, 1) := by decide +kernel
theorem dX12_sizeBars_24 : decode cX12_sizeBars 24 = .ok (.if_icmp .ne 19, 3) := by decide +kernel
theorem dX12_sizeBars_27 : decode cX12_sizeBars 27 = .ok (.aload_n 0, 1) := by decide +kernel
theorem dX12_sizeBars_28 : decode cX12_sizeBars 28 = .ok (.getfield 68, 3) := by decide +kernel
theorem dX12_sizeBars_31 : decode cX12_sizeBars 31 = .ok (.iload_n 3, 1) := by decide +kernel
theorem dX12_sizeBars_32 : decode cX12_sizeBars 32 = .ok (.iaload, 1) := by decide +kernel
theorem dX12_sizeBars_33 : decode cX12_sizeBars 33 = .ok (.bipush 60, 2) := by decide +kernel
theorem dX12_sizeBars_35 : decode cX12_sizeBars 35 = .ok (.if_icmp .le 8, 3) := by decide +kernel
theorem dX12_sizeBars_38 : decode cX12_sizeBars 38 = .ok (.bipush (-7), 2) := by decide +kernel
theorem dX12_sizeBars_40 : decode cX12_sizeBars 40 = .ok (.goto 4, 3) := by decide +kernel
theorem dX12_sizeBars_43 : decode cX12_sizeBars 43 = .ok (.iconst 0, 1) := by decide +kernel
theorem dX12_sizeBars_44 : decode cX12_sizeBars 44 = .ok (.ireturn, 1) := by decide +kernel
theorem dX12_span_0 : decode cX12_span 0 = .ok (.aload_n 0, 1) := by decide +kernel
theorem dX12_span_1 : decode cX12_span 1 = .ok (.iconst 0, 1) := by decide +kernel
theorem dX12_span_2 : decode cX12_span 2 = .ok (.putfield 1, 3) := by decide +kernel
theorem dX12_span_5 : decode cX12_span 5 = .ok (.aload_n 0, 1) := by decide +kernel
theorem dX12_span_6 : decode cX12_span 6 = .ok (.getfield 664, 3) := by decide +kernel
theorem dX12_span_9 : decode cX12_span 9 = .ok (.ifCond .ne 6, 3) := by decide +kernel
theorem dX12_span_12 : decode cX12_span 12 = .ok (.bipush (-2), 2) := by decide +kernel
theorem dX12_span_14 : decode cX12_span 14 = .ok (.ireturn, 1) := by decide +kernel
theorem dX12_span_15 : decode cX12_span 15 = .ok (.iload_n 1, 1) := by decide +kernel
theorem dX12_span_16 : decode cX12_span 16 = .ok (.iconst 0, 1) := by decide +kernel
theorem dX12_span_17 : decode cX12_span 17 = .ok (.aload_n 0, 1) := by decide +kernel
theorem dX12_span_18 : decode cX12_span 18 = .ok (.getfield 667, 3) := by decide +kernel
theorem dX12_span_21 : decode cX12_span 21 = .ok (.invokestatic 7, 3) := by decide +kernel
theorem dX12_span_24 : decode cX12_span 24 = .ok (.ifCond .ne 11, 3) := by decide +kernel
theorem dX12_span_27 : decode cX12_span 27 = .ok (.aload_n 0, 1) := by decide +kernel
theorem dX12_span_28 : decode cX12_span 28 = .ok (.iconst 1, 1) := by decide +kernel
theorem dX12_span_29 : decode cX12_span 29 = .ok (.putfield 456, 3) := by decide +kernel
theorem dX12_span_32 : decode cX12_span 32 = .ok (.bipush (-4), 2) := by decide +kernel
theorem dX12_span_34 : decode cX12_span 34 = .ok (.ireturn, 1) := by decide +kernel
theorem dX12_span_35 : decode cX12_span 35 = .ok (.aload_n 0, 1) := by decide +kernel
theorem dX12_span_36 : decode cX12_span 36 = .ok (.getfield 234, 3) := by decide +kernel
theorem dX12_span_39 : decode cX12_span 39 = .ok (.iconst 2, 1) := by decide +kernel
theorem dX12_span_40 : decode cX12_span 40 = .ok (.iload_n 1, 1) := by decide +kernel
theorem dX12_span_41 : decode cX12_span 41 = .ok (.imul, 1) := by decide +kernel
theorem dX12_span_42 : decode cX12_span 42 = .ok (.iload_n 2, 1) := by decide +kernel
theorem dX12_span_43 : decode cX12_span 43 = .ok (.ifCond .eq 7, 3) := by decide +kernel
theorem dX12_span_46 : decode cX12_span 46 = .ok (.iconst 1, 1) := by decide +kernel
theorem dX12_span_47 : decode cX12_span 47 = .ok (.goto 4, 3) := by decide +kernel
theorem dX12_span_50 : decode cX12_span 50 = .ok (.iconst 0, 1) := by decide +kernel
theorem dX12_span_51 : decode cX12_span 51 = .ok (.iadd, 1) := by decide +kernel
theorem dX12_span_52 : decode cX12_span 52 = .ok (.iaload, 1) := by decide +kernel
theorem dX12_span_53 : decode cX12_span 53 = .ok (.ireturn, 1) := by decide +kernel
theorem dX12_steps_0 : decode cX12_steps 0 = .ok (.aload_n 0, 1) := by decide +kernel
theorem dX12_steps_1 : decode cX12_steps 1 = .ok (.iconst 0, 1) := by decide +kernel
theorem dX12_steps_2 : decode cX12_steps 2 = .ok (.putfield 1, 3) := by decide +kernel
theorem dX12_steps_5 : decode cX12_steps 5 = .ok (.aload_n 0, 1) := by decide +kernel
theorem dX12_steps_6 : decode cX12_steps 6 = .ok (.getfield 583, 3) := by decide +kernel
theorem dX12_steps_9 : decode cX12_steps 9 = .ok (.ireturn, 1) := by decide +kernel
theorem dX12_table_0 : decode cX12_table 0 = .ok (.aload_n 0, 1) := by decide +kernel
theorem dX12_table_1 : decode cX12_table 1 = .ok (.iconst 0, 1) := by decide +kernel
theorem dX12_table_2 : decode cX12_table 2 = .ok (.putfield 1, 3) := by decide +kernel
theorem dX12_table_5 : decode cX12_table 5 = .ok (.aload_n 0, 1) := by decide +kernel
theorem dX12_table_6 : decode cX12_table 6 = .ok (.iload_n 1, 1) := by decide +kernel
theorem dX12_table_7 : decode cX12_table 7 = .ok (.invokevirtual 459, 3) := by decide +kernel
theorem dX12_table_10 : decode cX12_table 10 = .ok (.ifCond .eq 6, 3) := by decide +kernel
theorem dX12_table_13 : decode cX12_table 13 = .ok (.bipush (-2), 2) := by decide +kernel
theorem dX12_table_15 : decode cX12_table 15 = .ok (.ireturn, 1) := by decide +kernel
theorem dX12_table_16 : decode cX12_table 16 = .ok (.aload_n 0, 1) := by decide +kernel
theorem dX12_table_17 : decode cX12_table 17 = .ok (.iload_n 1, 1) := by decide +kernel
theorem dX12_table_18 : decode cX12_table 18 = .ok (.invokevirtual 730, 3) := by decide +kernel
theorem dX12_table_21 : decode cX12_table 21 = .ok (.istore_n 2, 1) := by decide +kernel
theorem dX12_table_22 : decode cX12_table 22 = .ok (.iload_n 2, 1) := by decide +kernel
theorem dX12_table_23 : decode cX12_table 23 = .ok (.ifCond .eq 7, 3) := by decide +kernel
theorem dX12_table_26 : decode cX12_table 26 = .ok (.iload_n 2, 1) := by decide +kernel
theorem dX12_table_27 : decode cX12_table 27 = .ok (.goto 9, 3) := by decide +kernel
theorem dX12_table_30 : decode cX12_table 30 = .ok (.aload_n 0, 1) := by decide +kernel
theorem dX12_table_31 : decode cX12_table 31 = .ok (.getfield 262, 3) := by decide +kernel
theorem dX12_table_34 : decode cX12_table 34 = .ok (.iconst 0, 1) := by decide +kernel
theorem dX12_table_35 : decode cX12_table 35 = .ok (.iaload, 1) := by decide +kernel
theorem dX12_table_36 : decode cX12_table 36 = .ok (.ireturn, 1) := by decide +kernel
theorem dX12_tabled_0 : decode cX12_tabled 0 = .ok (.aload_n 0, 1) := by decide +kernel
theorem dX12_tabled_1 : decode cX12_tabled 1 = .ok (.iload_n 1, 1) := by decide +kernel
theorem dX12_tabled_2 : decode cX12_tabled 2 = .ok (.iconst 2, 1) := by decide +kernel
theorem dX12_tabled_3 : decode cX12_tabled 3 = .ok (.invokevirtual 690, 3) := by decide +kernel
theorem dX12_tabled_6 : decode cX12_tabled 6 = .ok (.istore_n 2, 1) := by decide +kernel
theorem dX12_tabled_7 : decode cX12_tabled 7 = .ok (.iload_n 2, 1) := by decide +kernel
theorem dX12_tabled_8 : decode cX12_tabled 8 = .ok (.ifCond .eq 5, 3) := by decide +kernel
theorem dX12_tabled_11 : decode cX12_tabled 11 = .ok (.iload_n 2, 1) := by decide +kernel
theorem dX12_tabled_12 : decode cX12_tabled 12 = .ok (.ireturn, 1) := by decide +kernel
theorem dX12_tabled_13 : decode cX12_tabled 13 = .ok (.aload_n 0, 1) := by decide +kernel
theorem dX12_tabled_14 : decode cX12_tabled 14 = .ok (.iload_n 1, 1) := by decide +kernel
theorem dX12_tabled_15 : decode cX12_tabled 15 = .ok (.invokevirtual 528, 3) := by decide +kernel
theorem dX12_tabled_18 : decode cX12_tabled 18 = .ok (.aload_n 0, 1) := by decide +kernel
theorem dX12_tabled_19 : decode cX12_tabled 19 = .ok (.invokevirtual 531, 3) := by decide +kernel
theorem dX12_tabled_22 : decode cX12_tabled 22 = .ok (.aload_n 0, 1) := by decide +kernel
theorem dX12_tabled_23 : decode cX12_tabled 23 = .ok (.iconst 0, 1) := by decide +kernel
theorem dX12_tabled_24 : decode cX12_tabled 24 = .ok (.iload_n 1, 1) := by decide +kernel
theorem dX12_tabled_25 : decode cX12_tabled 25 = .ok (.invokevirtual 727, 3) := by decide +kernel
theorem dX12_tabled_28 : decode cX12_tabled 28 = .ok (.ireturn, 1) := by decide +kernel
theorem dX12_takes_0 : decode cX12_takes 0 = .ok (.aload_n 0, 1) := by decide +kernel
theorem dX12_takes_1 : decode cX12_takes 1 = .ok (.getfield 77, 3) := by decide +kernel
theorem dX12_takes_4 : decode cX12_takes 4 = .ok (.iload_n 1, 1) := by decide +kernel
theorem dX12_takes_5 : decode cX12_takes 5 = .ok (.baload, 1) := by decide +kernel
theorem dX12_takes_6 : decode cX12_takes 6 = .ok (.ifCond .eq 10, 3) := by decide +kernel
theorem dX12_takes_9 : decode cX12_takes 9 = .ok (.iload_n 2, 1) := by decide +kernel
theorem dX12_takes_10 : decode cX12_takes 10 = .ok (.invokestatic 511, 3) := by decide +kernel
theorem dX12_takes_13 : decode cX12_takes 13 = .ok (.goto 4, 3) := by decide +kernel
theorem dX12_takes_16 : decode cX12_takes 16 = .ok (.iload_n 2, 1) := by decide +kernel
theorem dX12_takes_17 : decode cX12_takes 17 = .ok (.istore_n 3, 1) := by decide +kernel
theorem dX12_takes_18 : decode cX12_takes 18 = .ok (.aload_n 0, 1) := by decide +kernel
theorem dX12_takes_19 : decode cX12_takes 19 = .ok (.getfield 44, 3) := by decide +kernel
theorem dX12_takes_22 : decode cX12_takes 22 = .ok (.iload_n 1, 1) := by decide +kernel
theorem dX12_takes_23 : decode cX12_takes 23 = .ok (.iaload, 1) := by decide +kernel
theorem dX12_takes_24 : decode cX12_takes 24 = .ok (.ifCond .ne 29, 3) := by decide +kernel
theorem dX12_takes_27 : decode cX12_takes 27 = .ok (.aload_n 0, 1) := by decide +kernel
theorem dX12_takes_28 : decode cX12_takes 28 = .ok (.getfield 47, 3) := by decide +kernel
theorem dX12_takes_31 : decode cX12_takes 31 = .ok (.iload_n 1, 1) := by decide +kernel
theorem dX12_takes_32 : decode cX12_takes 32 = .ok (.iaload, 1) := by decide +kernel
theorem dX12_takes_33 : decode cX12_takes 33 = .ok (.iload_n 2, 1) := by decide +kernel
theorem dX12_takes_34 : decode cX12_takes 34 = .ok (.if_icmp .eq 13, 3) := by decide +kernel
theorem dX12_takes_37 : decode cX12_takes 37 = .ok (.aload_n 0, 1) := by decide +kernel
theorem dX12_takes_38 : decode cX12_takes 38 = .ok (.getfield 47, 3) := by decide +kernel
theorem dX12_takes_41 : decode cX12_takes 41 = .ok (.iload_n 1, 1) := by decide +kernel
theorem dX12_takes_42 : decode cX12_takes 42 = .ok (.iaload, 1) := by decide +kernel
theorem dX12_takes_43 : decode cX12_takes 43 = .ok (.iload_n 3, 1) := by decide +kernel
theorem dX12_takes_44 : decode cX12_takes 44 = .ok (.if_icmp .ne 7, 3) := by decide +kernel
theorem dX12_takes_47 : decode cX12_takes 47 = .ok (.iconst 1, 1) := by decide +kernel
theorem dX12_takes_48 : decode cX12_takes 48 = .ok (.goto 4, 3) := by decide +kernel
theorem dX12_takes_51 : decode cX12_takes 51 = .ok (.iconst 0, 1) := by decide +kernel
theorem dX12_takes_52 : decode cX12_takes 52 = .ok (.ireturn, 1) := by decide +kernel
theorem dX12_takes_53 : decode cX12_takes 53 = .ok (.aload_n 0, 1) := by decide +kernel
theorem dX12_takes_54 : decode cX12_takes 54 = .ok (.getfield 44, 3) := by decide +kernel
theorem dX12_takes_57 : decode cX12_takes 57 = .ok (.iload_n 1, 1) := by decide +kernel
theorem dX12_takes_58 : decode cX12_takes 58 = .ok (.iaload, 1) := by decide +kernel
theorem dX12_takes_59 : decode cX12_takes 59 = .ok (.iconst 1, 1) := by decide +kernel
theorem dX12_takes_60 : decode cX12_takes 60 = .ok (.if_icmp .ne 15, 3) := by decide +kernel
theorem dX12_takes_63 : decode cX12_takes 63 = .ok (.iload_n 2, 1) := by decide +kernel
theorem dX12_takes_64 : decode cX12_takes 64 = .ok (.bipush 10, 2) := by decide +kernel
theorem dX12_takes_66 : decode cX12_takes 66 = .ok (.if_icmp .eq 7, 3) := by decide +kernel
theorem dX12_takes_69 : decode cX12_takes 69 = .ok (.iconst 1, 1) := by decide +kernel
theorem dX12_takes_70 : decode cX12_takes 70 = .ok (.goto 4, 3) := by decide +kernel
theorem dX12_takes_73 : decode cX12_takes 73 = .ok (.iconst 0, 1) := by decide +kernel
theorem dX12_takes_74 : decode cX12_takes 74 = .ok (.ireturn, 1) := by decide +kernel
theorem dX12_takes_75 : decode cX12_takes 75 = .ok (.aload_n 0, 1) := by decide +kernel
theorem dX12_takes_76 : decode cX12_takes 76 = .ok (.iload_n 1, 1) := by decide +kernel
theorem dX12_takes_77 : decode cX12_takes 77 = .ok (.iload_n 2, 1) := by decide +kernel
theorem dX12_takes_78 : decode cX12_takes 78 = .ok (.invokevirtual 514, 3) := by decide +kernel
theorem dX12_takes_81 : decode cX12_takes 81 = .ok (.ifCond .ne 12, 3) := by decide +kernel
theorem dX12_takes_84 : decode cX12_takes 84 = .ok (.aload_n 0, 1) := by decide +kernel
theorem dX12_takes_85 : decode cX12_takes 85 = .ok (.iload_n 1, 1) := by decide +kernel
theorem dX12_takes_86 : decode cX12_takes 86 = .ok (.iload_n 3, 1) := by decide +kernel
theorem dX12_takes_87 : decode cX12_takes 87 = .ok (.invokevirtual 514, 3) := by decide +kernel
theorem dX12_takes_90 : decode cX12_takes 90 = .ok (.ifCond .eq 7, 3) := by decide +kernel
theorem dX12_takes_93 : decode cX12_takes 93 = .ok (.iconst 1, 1) := by decide +kernel
theorem dX12_takes_94 : decode cX12_takes 94 = .ok (.goto 4, 3) := by decide +kernel
theorem dX12_takes_97 : decode cX12_takes 97 = .ok (.iconst 0, 1) := by decide +kernel
theorem dX12_takes_98 : decode cX12_takes 98 = .ok (.aload_n 0, 1) := by decide +kernel
theorem dX12_takes_99 : decode cX12_takes 99 = .ok (.getfield 47, 3) := by decide +kernel
theorem dX12_takes_102 : decode cX12_takes 102 = .ok (.iload_n 1, 1) := by decide +kernel
theorem dX12_takes_103 : decode cX12_takes 103 = .ok (.iaload, 1) := by decide +kernel
theorem dX12_takes_104 : decode cX12_takes 104 = .ok (.iconst 1, 1) := by decide +kernel
theorem dX12_takes_105 : decode cX12_takes 105 = .ok (.if_icmp .ne 7, 3) := by decide +kernel
theorem dX12_takes_108 : decode cX12_takes 108 = .ok (.iconst 1, 1) := by decide +kernel
theorem dX12_takes_109 : decode cX12_takes 109 = .ok (.goto 4, 3) := by decide +kernel
theorem dX12_takes_112 : decode cX12_takes 112 = .ok (.iconst 0, 1) := by decide +kernel
theorem dX12_takes_113 : decode cX12_takes 113 = .ok (.if_icmp .eq 7, 3) := by decide +kernel
theorem dX12_takes_116 : decode cX12_takes 116 = .ok (.iconst 1, 1) := by decide +kernel
theorem dX12_takes_117 : decode cX12_takes 117 = .ok (.goto 4, 3) := by decide +kernel
theorem dX12_takes_120 : decode cX12_takes 120 = .ok (.iconst 0, 1) := by decide +kernel
theorem dX12_takes_121 : decode cX12_takes 121 = .ok (.ireturn, 1) := by decide +kernel
theorem dX12_testLoop_0 : decode cX12_testLoop 0 = .ok (.aload_n 0, 1) := by decide +kernel
theorem dX12_testLoop_1 : decode cX12_testLoop 1 = .ok (.getfield 629, 3) := by decide +kernel
theorem dX12_testLoop_4 : decode cX12_testLoop 4 = .ok (.iload_n 1, 1) := by decide +kernel
theorem dX12_testLoop_5 : decode cX12_testLoop 5 = .ok (.iadd, 1) := by decide +kernel
theorem dX12_testLoop_6 : decode cX12_testLoop 6 = .ok (.istore_n 3, 1) := by decide +kernel
theorem dX12_testLoop_7 : decode cX12_testLoop 7 = .ok (.aload_n 0, 1) := by decide +kernel
theorem dX12_testLoop_8 : decode cX12_testLoop 8 = .ok (.getfield 204, 3) := by decide +kernel
theorem dX12_testLoop_11 : decode cX12_testLoop 11 = .ok (.bipush 30, 2) := by decide +kernel
theorem dX12_testLoop_13 : decode cX12_testLoop 13 = .ok (.iload_n 1, 1) := by decide +kernel
theorem dX12_testLoop_14 : decode cX12_testLoop 14 = .ok (.iadd, 1) := by decide +kernel
theorem dX12_testLoop_15 : decode cX12_testLoop 15 = .ok (.iaload, 1) := by decide +kernel
theorem dX12_testLoop_16 : decode cX12_testLoop 16 = .ok (.istore 4, 2) := by decide +kernel
theorem dX12_testLoop_18 : decode cX12_testLoop 18 = .ok (.iload 4, 2) := by decide +kernel
theorem dX12_testLoop_20 : decode cX12_testLoop 20 = .ok (.aload_n 0, 1) := by decide +kernel
theorem dX12_testLoop_21 : decode cX12_testLoop 21 = .ok (.getfield 50, 3) := by decide +kernel
theorem dX12_testLoop_24 : decode cX12_testLoop 24 = .ok (.iload_n 3, 1) := by decide +kernel
theorem dX12_testLoop_25 : decode cX12_testLoop 25 = .ok (.iaload, 1) := by decide +kernel
theorem dX12_testLoop_26 : decode cX12_testLoop 26 = .ok (.if_icmp .ge 9, 3) := by decide +kernel
theorem dX12_testLoop_29 : decode cX12_testLoop 29 = .ok (.aload_n 0, 1) := by decide +kernel
theorem dX12_testLoop_30 : decode cX12_testLoop 30 = .ok (.iload_n 1, 1) := by decide +kernel
theorem dX12_testLoop_31 : decode cX12_testLoop 31 = .ok (.invokevirtual 623, 3) := by decide +kernel
theorem dX12_testLoop_34 : decode cX12_testLoop 34 = .ok (.return_, 1) := by decide +kernel
theorem dX12_testLoop_35 : decode cX12_testLoop 35 = .ok (.aload_n 0, 1) := by decide +kernel
theorem dX12_testLoop_36 : decode cX12_testLoop 36 = .ok (.getfield 53, 3) := by decide +kernel
theorem dX12_testLoop_39 : decode cX12_testLoop 39 = .ok (.iload_n 3, 1) := by decide +kernel
theorem dX12_testLoop_40 : decode cX12_testLoop 40 = .ok (.iaload, 1) := by decide +kernel
theorem dX12_testLoop_41 : decode cX12_testLoop 41 = .ok (.iconst (-1), 1) := by decide +kernel
theorem dX12_testLoop_42 : decode cX12_testLoop 42 = .ok (.if_icmp .eq 14, 3) := by decide +kernel
theorem dX12_testLoop_45 : decode cX12_testLoop 45 = .ok (.iload 4, 2) := by decide +kernel
theorem dX12_testLoop_47 : decode cX12_testLoop 47 = .ok (.aload_n 0, 1) := by decide +kernel
theorem dX12_testLoop_48 : decode cX12_testLoop 48 = .ok (.getfield 53, 3) := by decide +kernel
theorem dX12_testLoop_51 : decode cX12_testLoop 51 = .ok (.iload_n 3, 1) := by decide +kernel
theorem dX12_testLoop_52 : decode cX12_testLoop 52 = .ok (.iaload, 1) := by decide +kernel
theorem dX12_testLoop_53 : decode cX12_testLoop 53 = .ok (.if_icmp .ge 7, 3) := by decide +kernel
theorem dX12_testLoop_56 : decode cX12_testLoop 56 = .ok (.iconst 1, 1) := by decide +kernel
theorem dX12_testLoop_57 : decode cX12_testLoop 57 = .ok (.goto 4, 3) := by decide +kernel
theorem dX12_testLoop_60 : decode cX12_testLoop 60 = .ok (.iconst 0, 1) := by decide +kernel
theorem dX12_testLoop_61 : decode cX12_testLoop 61 = .ok (.istore 5, 2) := by decide +kernel
theorem dX12_testLoop_63 : decode cX12_testLoop 63 = .ok (.aload_n 0, 1) := by decide +kernel
theorem dX12_testLoop_64 : decode cX12_testLoop 64 = .ok (.getfield 47, 3) := by decide +kernel
theorem dX12_testLoop_67 : decode cX12_testLoop 67 = .ok (.iload_n 3, 1) := by decide +kernel
theorem dX12_testLoop_68 : decode cX12_testLoop 68 = .ok (.iaload, 1) := by decide +kernel
theorem dX12_testLoop_69 : decode cX12_testLoop 69 = .ok (.iconst 1, 1) := by decide +kernel
theorem dX12_testLoop_70 : decode cX12_testLoop 70 = .ok (.if_icmp .ne 34, 3) := by decide +kernel
theorem dX12_testLoop_73 : decode cX12_testLoop 73 = .ok (.iload 5, 2) := by decide +kernel
theorem dX12_testLoop_75 : decode cX12_testLoop 75 = .ok (.ifCond .eq 16, 3) := by decide +kernel
theorem dX12_testLoop_78 : decode cX12_testLoop 78 = .ok (.aload_n 0, 1) := by decide +kernel
theorem dX12_testLoop_79 : decode cX12_testLoop 79 = .ok (.iconst 1, 1) := by decide +kernel
theorem dX12_testLoop_80 : decode cX12_testLoop 80 = .ok (.aload_n 0, 1) := by decide +kernel
theorem dX12_testLoop_81 : decode cX12_testLoop 81 = .ok (.getfield 617, 3) := by decide +kernel
theorem dX12_testLoop_84 : decode cX12_testLoop 84 = .ok (.aload_n 0, 1) := by decide +kernel
theorem dX12_testLoop_85 : decode cX12_testLoop 85 = .ok (.getfield 604, 3) := by decide +kernel
theorem dX12_testLoop_88 : decode cX12_testLoop 88 = .ok (.invokevirtual 620, 3) := by decide +kernel
theorem dX12_testLoop_91 : decode cX12_testLoop 91 = .ok (.aload_n 0, 1) := by decide +kernel
theorem dX12_testLoop_92 : decode cX12_testLoop 92 = .ok (.aload_n 0, 1) := by decide +kernel
theorem dX12_testLoop_93 : decode cX12_testLoop 93 = .ok (.getfield 189, 3) := by decide +kernel
theorem dX12_testLoop_96 : decode cX12_testLoop 96 = .ok (.iload_n 2, 1) := by decide +kernel
theorem dX12_testLoop_97 : decode cX12_testLoop 97 = .ok (.iaload, 1) := by decide +kernel
theorem dX12_testLoop_98 : decode cX12_testLoop 98 = .ok (.putfield 617, 3) := by decide +kernel
theorem dX12_testLoop_101 : decode cX12_testLoop 101 = .ok (.goto 41, 3) := by decide +kernel
theorem dX12_testLoop_104 : decode cX12_testLoop 104 = .ok (.iload 5, 2) := by decide +kernel
theorem dX12_testLoop_106 : decode cX12_testLoop 106 = .ok (.ifCond .eq 26, 3) := by decide +kernel
theorem dX12_testLoop_109 : decode cX12_testLoop 109 = .ok (.aload_n 0, 1) := by decide +kernel
theorem dX12_testLoop_110 : decode cX12_testLoop 110 = .ok (.iconst 0, 1) := by decide +kernel
theorem dX12_testLoop_111 : decode cX12_testLoop 111 = .ok (.aload_n 0, 1) := by decide +kernel
theorem dX12_testLoop_112 : decode cX12_testLoop 112 = .ok (.getfield 189, 3) := by decide +kernel
theorem dX12_testLoop_115 : decode cX12_testLoop 115 = .ok (.iload_n 2, 1) := by decide +kernel
theorem dX12_testLoop_116 : decode cX12_testLoop 116 = .ok (.iaload, 1) := by decide +kernel
theorem dX12_testLoop_117 : decode cX12_testLoop 117 = .ok (.aload_n 0, 1) := by decide +kernel
theorem dX12_testLoop_118 : decode cX12_testLoop 118 = .ok (.getfield 604, 3) := by decide +kernel
theorem dX12_testLoop_121 : decode cX12_testLoop 121 = .ok (.invokevirtual 620, 3) := by decide +kernel
theorem dX12_testLoop_124 : decode cX12_testLoop 124 = .ok (.aload_n 0, 1) := by decide +kernel
theorem dX12_testLoop_125 : decode cX12_testLoop 125 = .ok (.iload_n 1, 1) := by decide +kernel
theorem dX12_testLoop_126 : decode cX12_testLoop 126 = .ok (.invokevirtual 623, 3) := by decide +kernel
theorem dX12_testLoop_129 : decode cX12_testLoop 129 = .ok (.goto 13, 3) := by decide +kernel
theorem dX12_testLoop_132 : decode cX12_testLoop 132 = .ok (.aload_n 0, 1) := by decide +kernel
theorem dX12_testLoop_133 : decode cX12_testLoop 133 = .ok (.aload_n 0, 1) := by decide +kernel
theorem dX12_testLoop_134 : decode cX12_testLoop 134 = .ok (.getfield 189, 3) := by decide +kernel
theorem dX12_testLoop_137 : decode cX12_testLoop 137 = .ok (.iload_n 2, 1) := by decide +kernel
theorem dX12_testLoop_138 : decode cX12_testLoop 138 = .ok (.iaload, 1) := by decide +kernel
theorem dX12_testLoop_139 : decode cX12_testLoop 139 = .ok (.putfield 617, 3) := by decide +kernel
theorem dX12_testLoop_142 : decode cX12_testLoop 142 = .ok (.return_, 1) := by decide +kernel
theorem dX12_told_0 : decode cX12_told 0 = .ok (.aload_n 0, 1) := by decide +kernel
theorem dX12_told_1 : decode cX12_told 1 = .ok (.iconst 0, 1) := by decide +kernel
theorem dX12_told_2 : decode cX12_told 2 = .ok (.putfield 1, 3) := by decide +kernel
theorem dX12_told_5 : decode cX12_told 5 = .ok (.iconst 0, 1) := by decide +kernel
theorem dX12_told_6 : decode cX12_told 6 = .ok (.istore_n 2, 1) := by decide +kernel
theorem dX12_told_7 : decode cX12_told 7 = .ok (.iconst 0, 1) := by decide +kernel
theorem dX12_told_8 : decode cX12_told 8 = .ok (.istore_n 3, 1) := by decide +kernel
theorem dX12_told_9 : decode cX12_told 9 = .ok (.iload_n 3, 1) := by decide +kernel
theorem dX12_told_10 : decode cX12_told 10 = .ok (.bipush 6, 2) := by decide +kernel
theorem dX12_told_12 : decode cX12_told 12 = .ok (.if_icmp .ge 26, 3) := by decide +kernel
theorem dX12_told_15 : decode cX12_told 15 = .ok (.iload_n 2, 1) := by decide +kernel
theorem dX12_told_16 : decode cX12_told 16 = .ok (.aload_n 0, 1) := by decide +kernel
