theorem dX5_buildLoop_29 : decode cX5_buildLoop 29 = .ok (.iload_n 2, 1) := by decide +kernel
theorem dX5_buildLoop_30 : decode cX5_buildLoop 30 = .ok (.istore 7, 2) := by decide +kernel
theorem dX5_buildLoop_32 : decode cX5_buildLoop 32 = .ok (.aload_n 0, 1) := by decide +kernel
theorem dX5_buildLoop_33 : decode cX5_buildLoop 33 = .ok (.getfield 14, 3) := by decide +kernel
theorem dX5_buildLoop_36 : decode cX5_buildLoop 36 = .ok (.iload_n 1, 1) := by decide +kernel
theorem dX5_buildLoop_37 : decode cX5_buildLoop 37 = .ok (.invokevirtual 79, 3) := by decide +kernel
theorem dX5_buildLoop_40 : decode cX5_buildLoop 40 = .ok (.ifCond .eq 50, 3) := by decide +kernel
theorem dX5_buildLoop_43 : decode cX5_buildLoop 43 = .ok (.aload_n 0, 1) := by decide +kernel
theorem dX5_buildLoop_44 : decode cX5_buildLoop 44 = .ok (.iconst 4, 1) := by decide +kernel
theorem dX5_buildLoop_45 : decode cX5_buildLoop 45 = .ok (.iconst (-1), 1) := by decide +kernel
theorem dX5_buildLoop_46 : decode cX5_buildLoop 46 = .ok (.iconst (-1), 1) := by decide +kernel
theorem dX5_buildLoop_47 : decode cX5_buildLoop 47 = .ok (.iconst (-1), 1) := by decide +kernel
theorem dX5_buildLoop_48 : decode cX5_buildLoop 48 = .ok (.invokevirtual 37, 3) := by decide +kernel
theorem dX5_buildLoop_51 : decode cX5_buildLoop 51 = .ok (.istore 7, 2) := by decide +kernel
theorem dX5_buildLoop_53 : decode cX5_buildLoop 53 = .ok (.aload_n 0, 1) := by decide +kernel
theorem dX5_buildLoop_54 : decode cX5_buildLoop 54 = .ok (.iconst 5, 1) := by decide +kernel
theorem dX5_buildLoop_55 : decode cX5_buildLoop 55 = .ok (.iconst (-1), 1) := by decide +kernel
theorem dX5_buildLoop_56 : decode cX5_buildLoop 56 = .ok (.iload 7, 2) := by decide +kernel
theorem dX5_buildLoop_58 : decode cX5_buildLoop 58 = .ok (.iload_n 3, 1) := by decide +kernel
theorem dX5_buildLoop_59 : decode cX5_buildLoop 59 = .ok (.iconst 1, 1) := by decide +kernel
theorem dX5_buildLoop_60 : decode cX5_buildLoop 60 = .ok (.iadd, 1) := by decide +kernel
theorem dX5_buildLoop_61 : decode cX5_buildLoop 61 = .ok (.invokevirtual 37, 3) := by decide +kernel
theorem dX5_buildLoop_64 : decode cX5_buildLoop 64 = .ok (.istore 8, 2) := by decide +kernel
theorem dX5_buildLoop_66 : decode cX5_buildLoop 66 = .ok (.aload_n 0, 1) := by decide +kernel
theorem dX5_buildLoop_67 : decode cX5_buildLoop 67 = .ok (.iload 7, 2) := by decide +kernel
theorem dX5_buildLoop_69 : decode cX5_buildLoop 69 = .ok (.aload_n 0, 1) := by decide +kernel
theorem dX5_buildLoop_70 : decode cX5_buildLoop 70 = .ok (.iload 5, 2) := by decide +kernel
theorem dX5_buildLoop_72 : decode cX5_buildLoop 72 = .ok (.iload 8, 2) := by decide +kernel
theorem dX5_buildLoop_74 : decode cX5_buildLoop 74 = .ok (.iload_n 3, 1) := by decide +kernel
theorem dX5_buildLoop_75 : decode cX5_buildLoop 75 = .ok (.iconst 1, 1) := by decide +kernel
theorem dX5_buildLoop_76 : decode cX5_buildLoop 76 = .ok (.iadd, 1) := by decide +kernel
theorem dX5_buildLoop_77 : decode cX5_buildLoop 77 = .ok (.iload 4, 2) := by decide +kernel
theorem dX5_buildLoop_79 : decode cX5_buildLoop 79 = .ok (.iconst 1, 1) := by decide +kernel
theorem dX5_buildLoop_80 : decode cX5_buildLoop 80 = .ok (.iadd, 1) := by decide +kernel
theorem dX5_buildLoop_81 : decode cX5_buildLoop 81 = .ok (.invokevirtual 41, 3) := by decide +kernel
theorem dX5_buildLoop_84 : decode cX5_buildLoop 84 = .ok (.iload_n 2, 1) := by decide +kernel
theorem dX5_buildLoop_85 : decode cX5_buildLoop 85 = .ok (.iload 6, 2) := by decide +kernel
theorem dX5_buildLoop_87 : decode cX5_buildLoop 87 = .ok (.invokevirtual 83, 3) := by decide +kernel
theorem dX5_buildLoop_90 : decode cX5_buildLoop 90 = .ok (.aload_n 0, 1) := by decide +kernel
theorem dX5_buildLoop_91 : decode cX5_buildLoop 91 = .ok (.getfield 14, 3) := by decide +kernel
theorem dX5_buildLoop_94 : decode cX5_buildLoop 94 = .ok (.iload_n 1, 1) := by decide +kernel
theorem dX5_buildLoop_95 : decode cX5_buildLoop 95 = .ok (.invokevirtual 87, 3) := by decide +kernel
theorem dX5_buildLoop_98 : decode cX5_buildLoop 98 = .ok (.istore 8, 2) := by decide +kernel
theorem dX5_buildLoop_100 : decode cX5_buildLoop 100 = .ok (.iload 8, 2) := by decide +kernel
theorem dX5_buildLoop_102 : decode cX5_buildLoop 102 = .ok (.aload_n 0, 1) := by decide +kernel
theorem dX5_buildLoop_103 : decode cX5_buildLoop 103 = .ok (.getfield 14, 3) := by decide +kernel
theorem dX5_buildLoop_106 : decode cX5_buildLoop 106 = .ok (.iload_n 1, 1) := by decide +kernel
theorem dX5_buildLoop_107 : decode cX5_buildLoop 107 = .ok (.invokevirtual 90, 3) := by decide +kernel
theorem dX5_buildLoop_110 : decode cX5_buildLoop 110 = .ok (.if_icmp .le 45, 3) := by decide +kernel
theorem dX5_buildLoop_113 : decode cX5_buildLoop 113 = .ok (.aload_n 0, 1) := by decide +kernel
theorem dX5_buildLoop_114 : decode cX5_buildLoop 114 = .ok (.iload 5, 2) := by decide +kernel
theorem dX5_buildLoop_116 : decode cX5_buildLoop 116 = .ok (.iload 7, 2) := by decide +kernel
theorem dX5_buildLoop_118 : decode cX5_buildLoop 118 = .ok (.iload_n 3, 1) := by decide +kernel
theorem dX5_buildLoop_119 : decode cX5_buildLoop 119 = .ok (.iload 4, 2) := by decide +kernel
theorem dX5_buildLoop_121 : decode cX5_buildLoop 121 = .ok (.iconst 1, 1) := by decide +kernel
theorem dX5_buildLoop_122 : decode cX5_buildLoop 122 = .ok (.iadd, 1) := by decide +kernel
theorem dX5_buildLoop_123 : decode cX5_buildLoop 123 = .ok (.invokevirtual 41, 3) := by decide +kernel
theorem dX5_buildLoop_126 : decode cX5_buildLoop 126 = .ok (.istore 9, 2) := by decide +kernel
theorem dX5_buildLoop_128 : decode cX5_buildLoop 128 = .ok (.aload_n 0, 1) := by decide +kernel
theorem dX5_buildLoop_129 : decode cX5_buildLoop 129 = .ok (.iconst 4, 1) := by decide +kernel
theorem dX5_buildLoop_130 : decode cX5_buildLoop 130 = .ok (.iconst (-1), 1) := by decide +kernel
theorem dX5_buildLoop_131 : decode cX5_buildLoop 131 = .ok (.iconst (-1), 1) := by decide +kernel
theorem dX5_buildLoop_132 : decode cX5_buildLoop 132 = .ok (.iconst (-1), 1) := by decide +kernel
theorem dX5_buildLoop_133 : decode cX5_buildLoop 133 = .ok (.invokevirtual 37, 3) := by decide +kernel
theorem dX5_buildLoop_136 : decode cX5_buildLoop 136 = .ok (.istore 7, 2) := by decide +kernel
theorem dX5_buildLoop_138 : decode cX5_buildLoop 138 = .ok (.aload_n 0, 1) := by decide +kernel
theorem dX5_buildLoop_139 : decode cX5_buildLoop 139 = .ok (.iload 7, 2) := by decide +kernel
theorem dX5_buildLoop_141 : decode cX5_buildLoop 141 = .ok (.iload 9, 2) := by decide +kernel
theorem dX5_buildLoop_143 : decode cX5_buildLoop 143 = .ok (.iload_n 2, 1) := by decide +kernel
theorem dX5_buildLoop_144 : decode cX5_buildLoop 144 = .ok (.iload 6, 2) := by decide +kernel
theorem dX5_buildLoop_146 : decode cX5_buildLoop 146 = .ok (.invokevirtual 83, 3) := by decide +kernel
theorem dX5_buildLoop_149 : decode cX5_buildLoop 149 = .ok (.iinc 8 (-1), 3) := by decide +kernel
theorem dX5_buildLoop_152 : decode cX5_buildLoop 152 = .ok (.goto (-52), 3) := by decide +kernel
theorem dX5_buildLoop_155 : decode cX5_buildLoop 155 = .ok (.iconst 0, 1) := by decide +kernel
theorem dX5_buildLoop_156 : decode cX5_buildLoop 156 = .ok (.istore 8, 2) := by decide +kernel
theorem dX5_buildLoop_158 : decode cX5_buildLoop 158 = .ok (.iload 8, 2) := by decide +kernel
theorem dX5_buildLoop_160 : decode cX5_buildLoop 160 = .ok (.aload_n 0, 1) := by decide +kernel
theorem dX5_buildLoop_161 : decode cX5_buildLoop 161 = .ok (.getfield 14, 3) := by decide +kernel
theorem dX5_buildLoop_164 : decode cX5_buildLoop 164 = .ok (.iload_n 1, 1) := by decide +kernel
theorem dX5_buildLoop_165 : decode cX5_buildLoop 165 = .ok (.invokevirtual 90, 3) := by decide +kernel
theorem dX5_buildLoop_168 : decode cX5_buildLoop 168 = .ok (.if_icmp .ge 24, 3) := by decide +kernel
theorem dX5_buildLoop_171 : decode cX5_buildLoop 171 = .ok (.aload_n 0, 1) := by decide +kernel
theorem dX5_buildLoop_172 : decode cX5_buildLoop 172 = .ok (.iload 5, 2) := by decide +kernel
theorem dX5_buildLoop_174 : decode cX5_buildLoop 174 = .ok (.iload 7, 2) := by decide +kernel
theorem dX5_buildLoop_176 : decode cX5_buildLoop 176 = .ok (.iload_n 3, 1) := by decide +kernel
theorem dX5_buildLoop_177 : decode cX5_buildLoop 177 = .ok (.iload 4, 2) := by decide +kernel
theorem dX5_buildLoop_179 : decode cX5_buildLoop 179 = .ok (.iconst 1, 1) := by decide +kernel
theorem dX5_buildLoop_180 : decode cX5_buildLoop 180 = .ok (.iadd, 1) := by decide +kernel
theorem dX5_buildLoop_181 : decode cX5_buildLoop 181 = .ok (.invokevirtual 41, 3) := by decide +kernel
theorem dX5_buildLoop_184 : decode cX5_buildLoop 184 = .ok (.istore 7, 2) := by decide +kernel
theorem dX5_buildLoop_186 : decode cX5_buildLoop 186 = .ok (.iinc 8 1, 3) := by decide +kernel
theorem dX5_buildLoop_189 : decode cX5_buildLoop 189 = .ok (.goto (-31), 3) := by decide +kernel
theorem dX5_buildLoop_192 : decode cX5_buildLoop 192 = .ok (.iload 7, 2) := by decide +kernel
theorem dX5_buildLoop_194 : decode cX5_buildLoop 194 = .ok (.ireturn, 1) := by decide +kernel
theorem dX5_buildRow_0 : decode cX5_buildRow 0 = .ok (.iload_n 2, 1) := by decide +kernel
theorem dX5_buildRow_1 : decode cX5_buildRow 1 = .ok (.istore 5, 2) := by decide +kernel
theorem dX5_buildRow_3 : decode cX5_buildRow 3 = .ok (.aload_n 0, 1) := by decide +kernel
theorem dX5_buildRow_4 : decode cX5_buildRow 4 = .ok (.getfield 14, 3) := by decide +kernel
theorem dX5_buildRow_7 : decode cX5_buildRow 7 = .ok (.iload_n 1, 1) := by decide +kernel
theorem dX5_buildRow_8 : decode cX5_buildRow 8 = .ok (.invokevirtual 73, 3) := by decide +kernel
theorem dX5_buildRow_11 : decode cX5_buildRow 11 = .ok (.istore 6, 2) := by decide +kernel
theorem dX5_buildRow_13 : decode cX5_buildRow 13 = .ok (.iload 6, 2) := by decide +kernel
theorem dX5_buildRow_15 : decode cX5_buildRow 15 = .ok (.iconst (-1), 1) := by decide +kernel
theorem dX5_buildRow_16 : decode cX5_buildRow 16 = .ok (.if_icmp .eq 32, 3) := by decide +kernel
theorem dX5_buildRow_19 : decode cX5_buildRow 19 = .ok (.aload_n 0, 1) := by decide +kernel
theorem dX5_buildRow_20 : decode cX5_buildRow 20 = .ok (.iload 6, 2) := by decide +kernel
theorem dX5_buildRow_22 : decode cX5_buildRow 22 = .ok (.iload 5, 2) := by decide +kernel
theorem dX5_buildRow_24 : decode cX5_buildRow 24 = .ok (.iload_n 3, 1) := by decide +kernel
theorem dX5_buildRow_25 : decode cX5_buildRow 25 = .ok (.iload 4, 2) := by decide +kernel
theorem dX5_buildRow_27 : decode cX5_buildRow 27 = .ok (.iconst 1, 1) := by decide +kernel
theorem dX5_buildRow_28 : decode cX5_buildRow 28 = .ok (.iadd, 1) := by decide +kernel
theorem dX5_buildRow_29 : decode cX5_buildRow 29 = .ok (.invokevirtual 41, 3) := by decide +kernel
theorem dX5_buildRow_32 : decode cX5_buildRow 32 = .ok (.istore 5, 2) := by decide +kernel
theorem dX5_buildRow_34 : decode cX5_buildRow 34 = .ok (.aload_n 0, 1) := by decide +kernel
theorem dX5_buildRow_35 : decode cX5_buildRow 35 = .ok (.getfield 14, 3) := by decide +kernel
theorem dX5_buildRow_38 : decode cX5_buildRow 38 = .ok (.iload 6, 2) := by decide +kernel
theorem dX5_buildRow_40 : decode cX5_buildRow 40 = .ok (.invokevirtual 76, 3) := by decide +kernel
theorem dX5_buildRow_43 : decode cX5_buildRow 43 = .ok (.istore 6, 2) := by decide +kernel
theorem dX5_buildRow_45 : decode cX5_buildRow 45 = .ok (.goto (-32), 3) := by decide +kernel
theorem dX5_buildRow_48 : decode cX5_buildRow 48 = .ok (.iload 5, 2) := by decide +kernel
theorem dX5_buildRow_50 : decode cX5_buildRow 50 = .ok (.ireturn, 1) := by decide +kernel
theorem dX5_has_0 : decode cX5_has 0 = .ok (.iload_n 1, 1) := by decide +kernel
theorem dX5_has_1 : decode cX5_has 1 = .ok (.ifCond .lt 15, 3) := by decide +kernel
theorem dX5_has_4 : decode cX5_has 4 = .ok (.iload_n 1, 1) := by decide +kernel
theorem dX5_has_5 : decode cX5_has 5 = .ok (.aload_n 0, 1) := by decide +kernel
theorem dX5_has_6 : decode cX5_has 6 = .ok (.getfield 33, 3) := by decide +kernel
theorem dX5_has_9 : decode cX5_has 9 = .ok (.if_icmp .ge 7, 3) := by decide +kernel
theorem dX5_has_12 : decode cX5_has 12 = .ok (.iconst 1, 1) := by decide +kernel
theorem dX5_has_13 : decode cX5_has 13 = .ok (.goto 4, 3) := by decide +kernel
theorem dX5_has_16 : decode cX5_has 16 = .ok (.iconst 0, 1) := by decide +kernel
theorem dX5_has_17 : decode cX5_has 17 = .ok (.ireturn, 1) := by decide +kernel
theorem dX5_kindOf_0 : decode cX5_kindOf 0 = .ok (.iload_n 1, 1) := by decide +kernel
theorem dX5_kindOf_1 : decode cX5_kindOf 1 = .ok (.ifCond .lt 20, 3) := by decide +kernel
theorem dX5_kindOf_4 : decode cX5_kindOf 4 = .ok (.iload_n 1, 1) := by decide +kernel
theorem dX5_kindOf_5 : decode cX5_kindOf 5 = .ok (.aload_n 0, 1) := by decide +kernel
theorem dX5_kindOf_6 : decode cX5_kindOf 6 = .ok (.getfield 33, 3) := by decide +kernel
theorem dX5_kindOf_9 : decode cX5_kindOf 9 = .ok (.if_icmp .ge 12, 3) := by decide +kernel
theorem dX5_kindOf_12 : decode cX5_kindOf 12 = .ok (.aload_n 0, 1) := by decide +kernel
theorem dX5_kindOf_13 : decode cX5_kindOf 13 = .ok (.getfield 20, 3) := by decide +kernel
theorem dX5_kindOf_16 : decode cX5_kindOf 16 = .ok (.iload_n 1, 1) := by decide +kernel
theorem dX5_kindOf_17 : decode cX5_kindOf 17 = .ok (.iaload, 1) := by decide +kernel
theorem dX5_kindOf_18 : decode cX5_kindOf 18 = .ok (.goto 5, 3) := by decide +kernel
theorem dX5_kindOf_21 : decode cX5_kindOf 21 = .ok (.bipush 6, 2) := by decide +kernel
theorem dX5_kindOf_23 : decode cX5_kindOf 23 = .ok (.ireturn, 1) := by decide +kernel
theorem dX5_nextOf_0 : decode cX5_nextOf 0 = .ok (.iload_n 1, 1) := by decide +kernel
theorem dX5_nextOf_1 : decode cX5_nextOf 1 = .ok (.ifCond .lt 20, 3) := by decide +kernel
theorem dX5_nextOf_4 : decode cX5_nextOf 4 = .ok (.iload_n 1, 1) := by decide +kernel
theorem dX5_nextOf_5 : decode cX5_nextOf 5 = .ok (.aload_n 0, 1) := by decide +kernel
theorem dX5_nextOf_6 : decode cX5_nextOf 6 = .ok (.getfield 33, 3) := by decide +kernel
theorem dX5_nextOf_9 : decode cX5_nextOf 9 = .ok (.if_icmp .ge 12, 3) := by decide +kernel
theorem dX5_nextOf_12 : decode cX5_nextOf 12 = .ok (.aload_n 0, 1) := by decide +kernel
theorem dX5_nextOf_13 : decode cX5_nextOf 13 = .ok (.getfield 27, 3) := by decide +kernel
theorem dX5_nextOf_16 : decode cX5_nextOf 16 = .ok (.iload_n 1, 1) := by decide +kernel
theorem dX5_nextOf_17 : decode cX5_nextOf 17 = .ok (.iaload, 1) := by decide +kernel
theorem dX5_nextOf_18 : decode cX5_nextOf 18 = .ok (.goto 4, 3) := by decide +kernel
theorem dX5_nextOf_21 : decode cX5_nextOf 21 = .ok (.iconst (-1), 1) := by decide +kernel
theorem dX5_nextOf_22 : decode cX5_nextOf 22 = .ok (.ireturn, 1) := by decide +kernel
theorem dX5_otherOf_0 : decode cX5_otherOf 0 = .ok (.iload_n 1, 1) := by decide +kernel
theorem dX5_otherOf_1 : decode cX5_otherOf 1 = .ok (.ifCond .lt 20, 3) := by decide +kernel
theorem dX5_otherOf_4 : decode cX5_otherOf 4 = .ok (.iload_n 1, 1) := by decide +kernel
theorem dX5_otherOf_5 : decode cX5_otherOf 5 = .ok (.aload_n 0, 1) := by decide +kernel
theorem dX5_otherOf_6 : decode cX5_otherOf 6 = .ok (.getfield 33, 3) := by decide +kernel
theorem dX5_otherOf_9 : decode cX5_otherOf 9 = .ok (.if_icmp .ge 12, 3) := by decide +kernel
theorem dX5_otherOf_12 : decode cX5_otherOf 12 = .ok (.aload_n 0, 1) := by decide +kernel
theorem dX5_otherOf_13 : decode cX5_otherOf 13 = .ok (.getfield 30, 3) := by decide +kernel
theorem dX5_otherOf_16 : decode cX5_otherOf 16 = .ok (.iload_n 1, 1) := by decide +kernel
theorem dX5_otherOf_17 : decode cX5_otherOf 17 = .ok (.iaload, 1) := by decide +kernel
theorem dX5_otherOf_18 : decode cX5_otherOf 18 = .ok (.goto 4, 3) := by decide +kernel
theorem dX5_otherOf_21 : decode cX5_otherOf 21 = .ok (.iconst (-1), 1) := by decide +kernel
theorem dX5_otherOf_22 : decode cX5_otherOf 22 = .ok (.ireturn, 1) := by decide +kernel
theorem dX5_subjectOf_0 : decode cX5_subjectOf 0 = .ok (.iload_n 1, 1) := by decide +kernel
theorem dX5_subjectOf_1 : decode cX5_subjectOf 1 = .ok (.ifCond .lt 20, 3) := by decide +kernel
theorem dX5_subjectOf_4 : decode cX5_subjectOf 4 = .ok (.iload_n 1, 1) := by decide +kernel
theorem dX5_subjectOf_5 : decode cX5_subjectOf 5 = .ok (.aload_n 0, 1) := by decide +kernel
theorem dX5_subjectOf_6 : decode cX5_subjectOf 6 = .ok (.getfield 33, 3) := by decide +kernel
theorem dX5_subjectOf_9 : decode cX5_subjectOf 9 = .ok (.if_icmp .ge 12, 3) := by decide +kernel
theorem dX5_subjectOf_12 : decode cX5_subjectOf 12 = .ok (.aload_n 0, 1) := by decide +kernel
theorem dX5_subjectOf_13 : decode cX5_subjectOf 13 = .ok (.getfield 24, 3) := by decide +kernel
theorem dX5_subjectOf_16 : decode cX5_subjectOf 16 = .ok (.iload_n 1, 1) := by decide +kernel
theorem dX5_subjectOf_17 : decode cX5_subjectOf 17 = .ok (.iaload, 1) := by decide +kernel
theorem dX5_subjectOf_18 : decode cX5_subjectOf 18 = .ok (.goto 4, 3) := by decide +kernel
theorem dX5_subjectOf_21 : decode cX5_subjectOf 21 = .ok (.iconst (-1), 1) := by decide +kernel
theorem dX5_subjectOf_22 : decode cX5_subjectOf 22 = .ok (.ireturn, 1) := by decide +kernel
theorem dX5_takes_0 : decode cX5_takes 0 = .ok (.aload_n 0, 1) := by decide +kernel
theorem dX5_takes_1 : decode cX5_takes 1 = .ok (.getfield 14, 3) := by decide +kernel
theorem dX5_takes_4 : decode cX5_takes 4 = .ok (.aload_n 0, 1) := by decide +kernel
theorem dX5_takes_5 : decode cX5_takes 5 = .ok (.iload_n 1, 1) := by decide +kernel
theorem dX5_takes_6 : decode cX5_takes 6 = .ok (.invokevirtual 47, 3) := by decide +kernel
theorem dX5_takes_9 : decode cX5_takes 9 = .ok (.iload_n 2, 1) := by decide +kernel
theorem dX5_takes_10 : decode cX5_takes 10 = .ok (.invokevirtual 51, 3) := by decide +kernel
theorem dX5_takes_13 : decode cX5_takes 13 = .ok (.ireturn, 1) := by decide +kernel
theorem dX5_write_0 : decode cX5_write 0 = .ok (.aload_n 0, 1) := by decide +kernel
theorem dX5_write_1 : decode cX5_write 1 = .ok (.aload_n 1, 1) := by decide +kernel
theorem dX5_write_2 : decode cX5_write 2 = .ok (.putfield 14, 3) := by decide +kernel
theorem dX5_write_5 : decode cX5_write 5 = .ok (.aload_n 0, 1) := by decide +kernel
theorem dX5_write_6 : decode cX5_write 6 = .ok (.iconst 0, 1) := by decide +kernel
theorem dX5_write_7 : decode cX5_write 7 = .ok (.putfield 33, 3) := by decide +kernel
theorem dX5_write_10 : decode cX5_write 10 = .ok (.aload_n 0, 1) := by decide +kernel
theorem dX5_write_11 : decode cX5_write 11 = .ok (.aload_n 0, 1) := by decide +kernel
theorem dX5_write_12 : decode cX5_write 12 = .ok (.iconst 0, 1) := by decide +kernel
theorem dX5_write_13 : decode cX5_write 13 = .ok (.aload_n 0, 1) := by decide +kernel
theorem dX5_write_14 : decode cX5_write 14 = .ok (.bipush 6, 2) := by decide +kernel
theorem dX5_write_16 : decode cX5_write 16 = .ok (.iconst (-1), 1) := by decide +kernel
theorem dX5_write_17 : decode cX5_write 17 = .ok (.iconst (-1), 1) := by decide +kernel
theorem dX5_write_18 : decode cX5_write 18 = .ok (.iconst (-1), 1) := by decide +kernel
theorem dX5_write_19 : decode cX5_write 19 = .ok (.invokevirtual 37, 3) := by decide +kernel
theorem dX5_write_22 : decode cX5_write 22 = .ok (.iconst 0, 1) := by decide +kernel
theorem dX5_write_23 : decode cX5_write 23 = .ok (.iconst 0, 1) := by decide +kernel
theorem dX5_write_24 : decode cX5_write 24 = .ok (.invokevirtual 41, 3) := by decide +kernel
theorem dX5_write_27 : decode cX5_write 27 = .ok (.putfield 44, 3) := by decide +kernel
theorem dX5_write_30 : decode cX5_write 30 = .ok (.return_, 1) := by decide +kernel
theorem dX6_addPart_0 : decode cX6_addPart 0 = .ok (.aload_n 0, 1) := by decide +kernel
theorem dX6_addPart_1 : decode cX6_addPart 1 = .ok (.getfield 248, 3) := by decide +kernel
theorem dX6_addPart_4 : decode cX6_addPart 4 = .ok (.sipush 200, 3) := by decide +kernel
theorem dX6_addPart_7 : decode cX6_addPart 7 = .ok (.if_icmp .lt 4, 3) := by decide +kernel
theorem dX6_addPart_10 : decode cX6_addPart 10 = .ok (.return_, 1) := by decide +kernel
theorem dX6_addPart_11 : decode cX6_addPart 11 = .ok (.aload_n 0, 1) := by decide +kernel
theorem dX6_addPart_12 : decode cX6_addPart 12 = .ok (.getfield 248, 3) := by decide +kernel
theorem dX6_addPart_15 : decode cX6_addPart 15 = .ok (.istore_n 3, 1) := by decide +kernel
theorem dX6_addPart_16 : decode cX6_addPart 16 = .ok (.iload_n 3, 1) := by decide +kernel
theorem dX6_addPart_17 : decode cX6_addPart 17 = .ok (.ifCond .le 49, 3) := by decide +kernel
theorem dX6_addPart_20 : decode cX6_addPart 20 = .ok (.aload_n 0, 1) := by decide +kernel
theorem dX6_addPart_21 : decode cX6_addPart 21 = .ok (.getfield 57, 3) := by decide +kernel
theorem dX6_addPart_24 : decode cX6_addPart 24 = .ok (.iload_n 3, 1) := by decide +kernel
theorem dX6_addPart_25 : decode cX6_addPart 25 = .ok (.iconst 1, 1) := by decide +kernel
theorem dX6_addPart_26 : decode cX6_addPart 26 = .ok (.isub, 1) := by decide +kernel
theorem dX6_addPart_27 : decode cX6_addPart 27 = .ok (.iaload, 1) := by decide +kernel
theorem dX6_addPart_28 : decode cX6_addPart 28 = .ok (.iload_n 1, 1) := by decide +kernel
theorem dX6_addPart_29 : decode cX6_addPart 29 = .ok (.if_icmp .le 37, 3) := by decide +kernel
theorem dX6_addPart_32 : decode cX6_addPart 32 = .ok (.aload_n 0, 1) := by decide +kernel
theorem dX6_addPart_33 : decode cX6_addPart 33 = .ok (.getfield 57, 3) := by decide +kernel
theorem dX6_addPart_36 : decode cX6_addPart 36 = .ok (.iload_n 3, 1) := by decide +kernel
theorem dX6_addPart_37 : decode cX6_addPart 37 = .ok (.aload_n 0, 1) := by decide +kernel
theorem dX6_addPart_38 : decode cX6_addPart 38 = .ok (.getfield 57, 3) := by decide +kernel
theorem dX6_addPart_41 : decode cX6_addPart 41 = .ok (.iload_n 3, 1) := by decide +kernel
theorem dX6_addPart_42 : decode cX6_addPart 42 = .ok (.iconst 1, 1) := by decide +kernel
theorem dX6_addPart_43 : decode cX6_addPart 43 = .ok (.isub, 1) := by decide +kernel
theorem dX6_addPart_44 : decode cX6_addPart 44 = .ok (.iaload, 1) := by decide +kernel
theorem dX6_addPart_45 : decode cX6_addPart 45 = .ok (.iastore, 1) := by decide +kernel
theorem dX6_addPart_46 : decode cX6_addPart 46 = .ok (.aload_n 0, 1) := by decide +kernel
theorem dX6_addPart_47 : decode cX6_addPart 47 = .ok (.getfield 60, 3) := by decide +kernel
theorem dX6_addPart_50 : decode cX6_addPart 50 = .ok (.iload_n 3, 1) := by decide +kernel
theorem dX6_addPart_51 : decode cX6_addPart 51 = .ok (.aload_n 0, 1) := by decide +kernel
theorem dX6_addPart_52 : decode cX6_addPart 52 = .ok (.getfield 60, 3) := by decide +kernel
theorem dX6_addPart_55 : decode cX6_addPart 55 = .ok (.iload_n 3, 1) := by decide +kernel
theorem dX6_addPart_56 : decode cX6_addPart 56 = .ok (.iconst 1, 1) := by decide +kernel
theorem dX6_addPart_57 : decode cX6_addPart 57 = .ok (.isub, 1) := by decide +kernel
theorem dX6_addPart_58 : decode cX6_addPart 58 = .ok (.iaload, 1) := by decide +kernel
theorem dX6_addPart_59 : decode cX6_addPart 59 = .ok (.iastore, 1) := by decide +kernel
theorem dX6_addPart_60 : decode cX6_addPart 60 = .ok (.iinc 3 (-1), 3) := by decide +kernel
theorem dX6_addPart_63 : decode cX6_addPart 63 = .ok (.goto (-47), 3) := by decide +kernel
theorem dX6_addPart_66 : decode cX6_addPart 66 = .ok (.aload_n 0, 1) := by decide +kernel
theorem dX6_addPart_67 : decode cX6_addPart 67 = .ok (.getfield 57, 3) := by decide +kernel
theorem dX6_addPart_70 : decode cX6_addPart 70 = .ok (.iload_n 3, 1) := by decide +kernel
theorem dX6_addPart_71 : decode cX6_addPart 71 = .ok (.iload_n 1, 1) := by decide +kernel
theorem dX6_addPart_72 : decode cX6_addPart 72 = .ok (.iastore, 1) := by decide +kernel
theorem dX6_addPart_73 : decode cX6_addPart 73 = .ok (.aload_n 0, 1) := by decide +kernel
theorem dX6_addPart_74 : decode cX6_addPart 74 = .ok (.getfield 60, 3) := by decide +kernel
theorem dX6_addPart_77 : decode cX6_addPart 77 = .ok (.iload_n 3, 1) := by decide +kernel
theorem dX6_addPart_78 : decode cX6_addPart 78 = .ok (.iload_n 2, 1) := by decide +kernel
theorem dX6_addPart_79 : decode cX6_addPart 79 = .ok (.iastore, 1) := by decide +kernel
theorem dX6_addPart_80 : decode cX6_addPart 80 = .ok (.aload_n 0, 1) := by decide +kernel
theorem dX6_addPart_81 : decode cX6_addPart 81 = .ok (.dup, 1) := by decide +kernel
theorem dX6_addPart_82 : decode cX6_addPart 82 = .ok (.getfield 248, 3) := by decide +kernel
theorem dX6_addPart_85 : decode cX6_addPart 85 = .ok (.iconst 1, 1) := by decide +kernel
theorem dX6_addPart_86 : decode cX6_addPart 86 = .ok (.iadd, 1) := by decide +kernel
theorem dX6_addPart_87 : decode cX6_addPart 87 = .ok (.putfield 248, 3) := by decide +kernel
theorem dX6_addPart_90 : decode cX6_addPart 90 = .ok (.return_, 1) := by decide +kernel
theorem dX6_addPending_0 : decode cX6_addPending 0 = .ok (.aload_n 1, 1) := by decide +kernel
theorem dX6_addPending_1 : decode cX6_addPending 1 = .ok (.getfield 166, 3) := by decide +kernel
theorem dX6_addPending_4 : decode cX6_addPending 4 = .ok (.iconst (-1), 1) := by decide +kernel
theorem dX6_addPending_5 : decode cX6_addPending 5 = .ok (.if_icmp .ne 4, 3) := by decide +kernel
theorem dX6_addPending_8 : decode cX6_addPending 8 = .ok (.return_, 1) := by decide +kernel
theorem dX6_addPending_9 : decode cX6_addPending 9 = .ok (.aload_n 1, 1) := by decide +kernel
theorem dX6_addPending_10 : decode cX6_addPending 10 = .ok (.getfield 173, 3) := by decide +kernel
theorem dX6_addPending_13 : decode cX6_addPending 13 = .ok (.ifCond .lt 29, 3) := by decide +kernel
theorem dX6_addPending_16 : decode cX6_addPending 16 = .ok (.aload_n 1, 1) := by decide +kernel
theorem dX6_addPending_17 : decode cX6_addPending 17 = .ok (.getfield 173, 3) := by decide +kernel
theorem dX6_addPending_20 : decode cX6_addPending 20 = .ok (.sipush 256, 3) := by decide +kernel
theorem dX6_addPending_23 : decode cX6_addPending 23 = .ok (.if_icmp .ge 19, 3) := by decide +kernel
theorem dX6_addPending_26 : decode cX6_addPending 26 = .ok (.aload_n 0, 1) := by decide +kernel
theorem dX6_addPending_27 : decode cX6_addPending 27 = .ok (.getfield 27, 3) := by decide +kernel
theorem dX6_addPending_30 : decode cX6_addPending 30 = .ok (.aload_n 1, 1) := by decide +kernel
theorem dX6_addPending_31 : decode cX6_addPending 31 = .ok (.getfield 173, 3) := by decide +kernel
theorem dX6_addPending_34 : decode cX6_addPending 34 = .ok (.aload_n 1, 1) := by decide +kernel
theorem dX6_addPending_35 : decode cX6_addPending 35 = .ok (.getfield 166, 3) := by decide +kernel
theorem dX6_addPending_38 : decode cX6_addPending 38 = .ok (.iastore, 1) := by decide +kernel
theorem dX6_addPending_39 : decode cX6_addPending 39 = .ok (.goto 11, 3) := by decide +kernel
theorem dX6_addPending_42 : decode cX6_addPending 42 = .ok (.aload_n 1, 1) := by decide +kernel
theorem dX6_addPending_43 : decode cX6_addPending 43 = .ok (.aload_n 1, 1) := by decide +kernel
theorem dX6_addPending_44 : decode cX6_addPending 44 = .ok (.getfield 166, 3) := by decide +kernel
theorem dX6_addPending_47 : decode cX6_addPending 47 = .ok (.putfield 176, 3) := by decide +kernel
theorem dX6_addPending_50 : decode cX6_addPending 50 = .ok (.aload_n 1, 1) := by decide +kernel
theorem dX6_addPending_51 : decode cX6_addPending 51 = .ok (.aload_n 1, 1) := by decide +kernel
theorem dX6_addPending_52 : decode cX6_addPending 52 = .ok (.getfield 166, 3) := by decide +kernel
theorem dX6_addPending_55 : decode cX6_addPending 55 = .ok (.putfield 173, 3) := by decide +kernel
theorem dX6_addPending_58 : decode cX6_addPending 58 = .ok (.aload_n 1, 1) := by decide +kernel
theorem dX6_addPending_59 : decode cX6_addPending 59 = .ok (.dup, 1) := by decide +kernel
theorem dX6_addPending_60 : decode cX6_addPending 60 = .ok (.getfield 179, 3) := by decide +kernel
theorem dX6_addPending_63 : decode cX6_addPending 63 = .ok (.iconst 1, 1) := by decide +kernel
theorem dX6_addPending_64 : decode cX6_addPending 64 = .ok (.iadd, 1) := by decide +kernel
theorem dX6_addPending_65 : decode cX6_addPending 65 = .ok (.putfield 179, 3) := by decide +kernel
theorem dX6_addPending_68 : decode cX6_addPending 68 = .ok (.aload_n 1, 1) := by decide +kernel
theorem dX6_addPending_69 : decode cX6_addPending 69 = .ok (.iconst (-1), 1) := by decide +kernel
theorem dX6_addPending_70 : decode cX6_addPending 70 = .ok (.putfield 166, 3) := by decide +kernel
theorem dX6_addPending_73 : decode cX6_addPending 73 = .ok (.return_, 1) := by decide +kernel
theorem dX6_blame_0 : decode cX6_blame 0 = .ok (.aload_n 0, 1) := by decide +kernel
theorem dX6_blame_1 : decode cX6_blame 1 = .ok (.getfield 75, 3) := by decide +kernel
theorem dX6_blame_4 : decode cX6_blame 4 = .ok (.ifCond .ne 13, 3) := by decide +kernel
theorem dX6_blame_7 : decode cX6_blame 7 = .ok (.aload_n 0, 1) := by decide +kernel
theorem dX6_blame_8 : decode cX6_blame 8 = .ok (.iload_n 1, 1) := by decide +kernel
theorem dX6_blame_9 : decode cX6_blame 9 = .ok (.putfield 75, 3) := by decide +kernel
theorem dX6_blame_12 : decode cX6_blame 12 = .ok (.aload_n 0, 1) := by decide +kernel
theorem dX6_blame_13 : decode cX6_blame 13 = .ok (.iload_n 2, 1) := by decide +kernel
theorem dX6_blame_14 : decode cX6_blame 14 = .ok (.putfield 113, 3) := by decide +kernel
theorem dX6_blame_17 : decode cX6_blame 17 = .ok (.return_, 1) := by decide +kernel
theorem dX6_choiceOf_0 : decode cX6_choiceOf 0 = .ok (.aload_n 1, 1) := by decide +kernel
theorem dX6_choiceOf_1 : decode cX6_choiceOf 1 = .ok (.getfield 192, 3) := by decide +kernel
theorem dX6_choiceOf_4 : decode cX6_choiceOf 4 = .ok (.iconst 1, 1) := by decide +kernel
theorem dX6_choiceOf_5 : decode cX6_choiceOf 5 = .ok (.if_icmp .ne 10, 3) := by decide +kernel
theorem dX6_choiceOf_8 : decode cX6_choiceOf 8 = .ok (.aload_n 1, 1) := by decide +kernel
theorem dX6_choiceOf_9 : decode cX6_choiceOf 9 = .ok (.getfield 189, 3) := by decide +kernel
theorem dX6_choiceOf_12 : decode cX6_choiceOf 12 = .ok (.goto 16, 3) := by decide +kernel
theorem dX6_choiceOf_15 : decode cX6_choiceOf 15 = .ok (.aload_n 0, 1) := by decide +kernel
theorem dX6_choiceOf_16 : decode cX6_choiceOf 16 = .ok (.bipush 6, 2) := by decide +kernel
theorem dX6_choiceOf_18 : decode cX6_choiceOf 18 = .ok (.iconst 0, 1) := by decide +kernel
theorem dX6_choiceOf_19 : decode cX6_choiceOf 19 = .ok (.iconst 0, 1) := by decide +kernel
theorem dX6_choiceOf_20 : decode cX6_choiceOf 20 = .ok (.iconst 0, 1) := by decide +kernel
theorem dX6_choiceOf_21 : decode cX6_choiceOf 21 = .ok (.aload_n 1, 1) := by decide +kernel
theorem dX6_choiceOf_22 : decode cX6_choiceOf 22 = .ok (.getfield 189, 3) := by decide +kernel
theorem dX6_choiceOf_25 : decode cX6_choiceOf 25 = .ok (.invokevirtual 182, 3) := by decide +kernel
theorem dX6_choiceOf_28 : decode cX6_choiceOf 28 = .ok (.ireturn, 1) := by decide +kernel
theorem dX6_closeRow_0 : decode cX6_closeRow 0 = .ok (.aload_n 0, 1) := by decide +kernel
theorem dX6_closeRow_1 : decode cX6_closeRow 1 = .ok (.aload_n 1, 1) := by decide +kernel
theorem dX6_closeRow_2 : decode cX6_closeRow 2 = .ok (.invokevirtual 163, 3) := by decide +kernel
theorem dX6_closeRow_5 : decode cX6_closeRow 5 = .ok (.aload_n 1, 1) := by decide +kernel
theorem dX6_closeRow_6 : decode cX6_closeRow 6 = .ok (.getfield 179, 3) := by decide +kernel
theorem dX6_closeRow_9 : decode cX6_closeRow 9 = .ok (.iconst 1, 1) := by decide +kernel
theorem dX6_closeRow_10 : decode cX6_closeRow 10 = .ok (.if_icmp .ne 10, 3) := by decide +kernel
theorem dX6_closeRow_13 : decode cX6_closeRow 13 = .ok (.aload_n 1, 1) := by decide +kernel
theorem dX6_closeRow_14 : decode cX6_closeRow 14 = .ok (.getfield 176, 3) := by decide +kernel
theorem dX6_closeRow_17 : decode cX6_closeRow 17 = .ok (.goto 15, 3) := by decide +kernel
theorem dX6_closeRow_20 : decode cX6_closeRow 20 = .ok (.aload_n 0, 1) := by decide +kernel
theorem dX6_closeRow_21 : decode cX6_closeRow 21 = .ok (.iconst 5, 1) := by decide +kernel
theorem dX6_closeRow_22 : decode cX6_closeRow 22 = .ok (.iconst 0, 1) := by decide +kernel
theorem dX6_closeRow_23 : decode cX6_closeRow 23 = .ok (.iconst 0, 1) := by decide +kernel
theorem dX6_closeRow_24 : decode cX6_closeRow 24 = .ok (.iconst 0, 1) := by decide +kernel
theorem dX6_closeRow_25 : decode cX6_closeRow 25 = .ok (.aload_n 1, 1) := by decide +kernel
theorem dX6_closeRow_26 : decode cX6_closeRow 26 = .ok (.getfield 176, 3) := by decide +kernel
theorem dX6_closeRow_29 : decode cX6_closeRow 29 = .ok (.invokevirtual 182, 3) := by decide +kernel
theorem dX6_closeRow_32 : decode cX6_closeRow 32 = .ok (.istore_n 2, 1) := by decide +kernel
theorem dX6_closeRow_33 : decode cX6_closeRow 33 = .ok (.aload_n 1, 1) := by decide +kernel
theorem dX6_closeRow_34 : decode cX6_closeRow 34 = .ok (.getfield 186, 3) := by decide +kernel
theorem dX6_closeRow_37 : decode cX6_closeRow 37 = .ok (.ifCond .lt 26, 3) := by decide +kernel
theorem dX6_closeRow_40 : decode cX6_closeRow 40 = .ok (.aload_n 1, 1) := by decide +kernel
theorem dX6_closeRow_41 : decode cX6_closeRow 41 = .ok (.getfield 186, 3) := by decide +kernel
theorem dX6_closeRow_44 : decode cX6_closeRow 44 = .ok (.sipush 256, 3) := by decide +kernel
theorem dX6_closeRow_47 : decode cX6_closeRow 47 = .ok (.if_icmp .ge 16, 3) := by decide +kernel
theorem dX6_closeRow_50 : decode cX6_closeRow 50 = .ok (.aload_n 0, 1) := by decide +kernel
theorem dX6_closeRow_51 : decode cX6_closeRow 51 = .ok (.getfield 27, 3) := by decide +kernel
theorem dX6_closeRow_54 : decode cX6_closeRow 54 = .ok (.aload_n 1, 1) := by decide +kernel
theorem dX6_closeRow_55 : decode cX6_closeRow 55 = .ok (.getfield 186, 3) := by decide +kernel
theorem dX6_closeRow_58 : decode cX6_closeRow 58 = .ok (.iload_n 2, 1) := by decide +kernel
theorem dX6_closeRow_59 : decode cX6_closeRow 59 = .ok (.iastore, 1) := by decide +kernel
theorem dX6_closeRow_60 : decode cX6_closeRow 60 = .ok (.goto 8, 3) := by decide +kernel
theorem dX6_closeRow_63 : decode cX6_closeRow 63 = .ok (.aload_n 1, 1) := by decide +kernel
theorem dX6_closeRow_64 : decode cX6_closeRow 64 = .ok (.iload_n 2, 1) := by decide +kernel
theorem dX6_closeRow_65 : decode cX6_closeRow 65 = .ok (.putfield 189, 3) := by decide +kernel
theorem dX6_closeRow_68 : decode cX6_closeRow 68 = .ok (.aload_n 1, 1) := by decide +kernel
theorem dX6_closeRow_69 : decode cX6_closeRow 69 = .ok (.iload_n 2, 1) := by decide +kernel
theorem dX6_closeRow_70 : decode cX6_closeRow 70 = .ok (.putfield 186, 3) := by decide +kernel
theorem dX6_closeRow_73 : decode cX6_closeRow 73 = .ok (.aload_n 1, 1) := by decide +kernel
theorem dX6_closeRow_74 : decode cX6_closeRow 74 = .ok (.dup, 1) := by decide +kernel
theorem dX6_closeRow_75 : decode cX6_closeRow 75 = .ok (.getfield 192, 3) := by decide +kernel
theorem dX6_closeRow_78 : decode cX6_closeRow 78 = .ok (.iconst 1, 1) := by decide +kernel
theorem dX6_closeRow_79 : decode cX6_closeRow 79 = .ok (.iadd, 1) := by decide +kernel
theorem dX6_closeRow_80 : decode cX6_closeRow 80 = .ok (.putfield 192, 3) := by decide +kernel
theorem dX6_closeRow_83 : decode cX6_closeRow 83 = .ok (.aload_n 1, 1) := by decide +kernel
theorem dX6_closeRow_84 : decode cX6_closeRow 84 = .ok (.invokevirtual 195, 3) := by decide +kernel
theorem dX6_closeRow_87 : decode cX6_closeRow 87 = .ok (.return_, 1) := by decide +kernel
theorem dX6_countItem_0 : decode cX6_countItem 0 = .ok (.aload_n 0, 1) := by decide +kernel
theorem dX6_countItem_1 : decode cX6_countItem 1 = .ok (.dup, 1) := by decide +kernel
theorem dX6_countItem_2 : decode cX6_countItem 2 = .ok (.getfield 117, 3) := by decide +kernel
theorem dX6_countItem_5 : decode cX6_countItem 5 = .ok (.iconst 1, 1) := by decide +kernel
theorem dX6_countItem_6 : decode cX6_countItem 6 = .ok (.iadd, 1) := by decide +kernel
theorem dX6_countItem_7 : decode cX6_countItem 7 = .ok (.putfield 117, 3) := by decide +kernel
theorem dX6_countItem_10 : decode cX6_countItem 10 = .ok (.aload_n 0, 1) := by decide +kernel
theorem dX6_countItem_11 : decode cX6_countItem 11 = .ok (.getfield 117, 3) := by decide +kernel
theorem dX6_countItem_14 : decode cX6_countItem 14 = .ok (.bipush 100, 2) := by decide +kernel
theorem dX6_countItem_16 : decode cX6_countItem 16 = .ok (.if_icmp .le 12, 3) := by decide +kernel
theorem dX6_countItem_19 : decode cX6_countItem 19 = .ok (.aload_n 0, 1) := by decide +kernel
theorem dX6_countItem_20 : decode cX6_countItem 20 = .ok (.iconst 2, 1) := by decide +kernel
theorem dX6_countItem_21 : decode cX6_countItem 21 = .ok (.aload_n 0, 1) := by decide +kernel
theorem dX6_countItem_22 : decode cX6_countItem 22 = .ok (.getfield 68, 3) := by decide +kernel
theorem dX6_countItem_25 : decode cX6_countItem 25 = .ok (.invokevirtual 88, 3) := by decide +kernel
theorem dX6_countItem_28 : decode cX6_countItem 28 = .ok (.aload_n 0, 1) := by decide +kernel
theorem dX6_countItem_29 : decode cX6_countItem 29 = .ok (.getfield 75, 3) := by decide +kernel
theorem dX6_countItem_32 : decode cX6_countItem 32 = .ok (.ifCond .ne 7, 3) := by decide +kernel
theorem dX6_countItem_35 : decode cX6_countItem 35 = .ok (.iconst 1, 1) := by decide +kernel
theorem dX6_countItem_36 : decode cX6_countItem 36 = .ok (.goto 4, 3) := by decide +kernel
theorem dX6_countItem_39 : decode cX6_countItem 39 = .ok (.iconst 0, 1) := by decide +kernel
theorem dX6_countItem_40 : decode cX6_countItem 40 = .ok (.ireturn, 1) := by decide +kernel
theorem dX6_here_0 : decode cX6_here 0 = .ok (.aload_n 0, 1) := by decide +kernel
theorem dX6_here_1 : decode cX6_here 1 = .ok (.getfield 41, 3) := by decide +kernel
theorem dX6_here_4 : decode cX6_here 4 = .ok (.aload_n 0, 1) := by decide +kernel
theorem dX6_here_5 : decode cX6_here 5 = .ok (.getfield 68, 3) := by decide +kernel
theorem dX6_here_8 : decode cX6_here 8 = .ok (.invokevirtual 128, 3) := by decide +kernel
theorem dX6_here_11 : decode cX6_here 11 = .ok (.ireturn, 1) := by decide +kernel
theorem dX6_lay_0 : decode cX6_lay 0 = .ok (.iload_n 1, 1) := by decide +kernel
theorem dX6_lay_1 : decode cX6_lay 1 = .ok (.ifCond .lt 17, 3) := by decide +kernel
theorem dX6_lay_4 : decode cX6_lay 4 = .ok (.iload_n 1, 1) := by decide +kernel
theorem dX6_lay_5 : decode cX6_lay 5 = .ok (.aload_n 0, 1) := by decide +kernel
theorem dX6_lay_6 : decode cX6_lay 6 = .ok (.getfield 116, 3) := by decide +kernel
theorem dX6_lay_9 : decode cX6_lay 9 = .ok (.if_icmp .ge 9, 3) := by decide +kernel
theorem dX6_lay_12 : decode cX6_lay 12 = .ok (.iload_n 3, 1) := by decide +kernel
theorem dX6_lay_13 : decode cX6_lay 13 = .ok (.bipush 60, 2) := by decide +kernel
theorem dX6_lay_15 : decode cX6_lay 15 = .ok (.if_icmp .le 4, 3) := by decide +kernel
theorem dX6_lay_18 : decode cX6_lay 18 = .ok (.return_, 1) := by decide +kernel
theorem dX6_lay_19 : decode cX6_lay 19 = .ok (.aload_n 0, 1) := by decide +kernel
theorem dX6_lay_20 : decode cX6_lay 20 = .ok (.getfield 50, 3) := by decide +kernel
theorem dX6_lay_23 : decode cX6_lay 23 = .ok (.aload_n 0, 1) := by decide +kernel
theorem dX6_lay_24 : decode cX6_lay 24 = .ok (.getfield 9, 3) := by decide +kernel
theorem dX6_lay_27 : decode cX6_lay 27 = .ok (.iload_n 1, 1) := by decide +kernel
theorem dX6_lay_28 : decode cX6_lay 28 = .ok (.iaload, 1) := by decide +kernel
theorem dX6_lay_29 : decode cX6_lay 29 = .ok (.aload_n 0, 1) := by decide +kernel
theorem dX6_lay_30 : decode cX6_lay 30 = .ok (.getfield 15, 3) := by decide +kernel
theorem dX6_lay_33 : decode cX6_lay 33 = .ok (.iload_n 1, 1) := by decide +kernel
theorem dX6_lay_34 : decode cX6_lay 34 = .ok (.iaload, 1) := by decide +kernel
theorem dX6_lay_35 : decode cX6_lay 35 = .ok (.aload_n 0, 1) := by decide +kernel
theorem dX6_lay_36 : decode cX6_lay 36 = .ok (.getfield 18, 3) := by decide +kernel
theorem dX6_lay_39 : decode cX6_lay 39 = .ok (.iload_n 1, 1) := by decide +kernel
theorem dX6_lay_40 : decode cX6_lay 40 = .ok (.iaload, 1) := by decide +kernel
theorem dX6_lay_41 : decode cX6_lay 41 = .ok (.aload_n 0, 1) := by decide +kernel
theorem dX6_lay_42 : decode cX6_lay 42 = .ok (.getfield 21, 3) := by decide +kernel
theorem dX6_lay_45 : decode cX6_lay 45 = .ok (.iload_n 1, 1) := by decide +kernel
theorem dX6_lay_46 : decode cX6_lay 46 = .ok (.iaload, 1) := by decide +kernel
theorem dX6_lay_47 : decode cX6_lay 47 = .ok (.iload_n 2, 1) := by decide +kernel
theorem dX6_lay_48 : decode cX6_lay 48 = .ok (.invokevirtual 285, 3) := by decide +kernel
theorem dX6_lay_51 : decode cX6_lay 51 = .ok (.istore 4, 2) := by decide +kernel
theorem dX6_lay_53 : decode cX6_lay 53 = .ok (.aload_n 0, 1) := by decide +kernel
theorem dX6_lay_54 : decode cX6_lay 54 = .ok (.getfield 24, 3) := by decide +kernel
theorem dX6_lay_57 : decode cX6_lay 57 = .ok (.iload_n 1, 1) := by decide +kernel
theorem dX6_lay_58 : decode cX6_lay 58 = .ok (.iaload, 1) := by decide +kernel
theorem dX6_lay_59 : decode cX6_lay 59 = .ok (.istore 5, 2) := by decide +kernel
theorem dX6_lay_61 : decode cX6_lay 61 = .ok (.iload 5, 2) := by decide +kernel
theorem dX6_lay_63 : decode cX6_lay 63 = .ok (.ifCond .lt 35, 3) := by decide +kernel
theorem dX6_lay_66 : decode cX6_lay 66 = .ok (.iload 5, 2) := by decide +kernel
theorem dX6_lay_68 : decode cX6_lay 68 = .ok (.aload_n 0, 1) := by decide +kernel
theorem dX6_lay_69 : decode cX6_lay 69 = .ok (.getfield 116, 3) := by decide +kernel
theorem dX6_lay_72 : decode cX6_lay 72 = .ok (.if_icmp .ge 26, 3) := by decide +kernel
