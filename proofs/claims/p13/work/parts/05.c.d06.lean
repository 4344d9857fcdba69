theorem dX3_spreadOne_77 : decode cX3_spreadOne 77 = .ok (.aload_n 0, 1) := by decide +kernel
theorem dX3_spreadOne_78 : decode cX3_spreadOne 78 = .ok (.getfield 27, 3) := by decide +kernel
theorem dX3_spreadOne_81 : decode cX3_spreadOne 81 = .ok (.iload 5, 2) := by decide +kernel
theorem dX3_spreadOne_83 : decode cX3_spreadOne 83 = .ok (.baload, 1) := by decide +kernel
theorem dX3_spreadOne_84 : decode cX3_spreadOne 84 = .ok (.ifCond .eq 126, 3) := by decide +kernel
theorem dX3_spreadOne_87 : decode cX3_spreadOne 87 = .ok (.aload_n 0, 1) := by decide +kernel
theorem dX3_spreadOne_88 : decode cX3_spreadOne 88 = .ok (.iload 4, 2) := by decide +kernel
theorem dX3_spreadOne_90 : decode cX3_spreadOne 90 = .ok (.iload_n 2, 1) := by decide +kernel
theorem dX3_spreadOne_91 : decode cX3_spreadOne 91 = .ok (.invokevirtual 153, 3) := by decide +kernel
theorem dX3_spreadOne_94 : decode cX3_spreadOne 94 = .ok (.goto 116, 3) := by decide +kernel
theorem dX3_spreadOne_97 : decode cX3_spreadOne 97 = .ok (.aload_n 0, 1) := by decide +kernel
theorem dX3_spreadOne_98 : decode cX3_spreadOne 98 = .ok (.aload_n 0, 1) := by decide +kernel
theorem dX3_spreadOne_99 : decode cX3_spreadOne 99 = .ok (.getfield 14, 3) := by decide +kernel
theorem dX3_spreadOne_102 : decode cX3_spreadOne 102 = .ok (.iload_n 1, 1) := by decide +kernel
theorem dX3_spreadOne_103 : decode cX3_spreadOne 103 = .ok (.invokevirtual 137, 3) := by decide +kernel
theorem dX3_spreadOne_106 : decode cX3_spreadOne 106 = .ok (.iload_n 2, 1) := by decide +kernel
theorem dX3_spreadOne_107 : decode cX3_spreadOne 107 = .ok (.invokevirtual 153, 3) := by decide +kernel
theorem dX3_spreadOne_110 : decode cX3_spreadOne 110 = .ok (.aload_n 0, 1) := by decide +kernel
theorem dX3_spreadOne_111 : decode cX3_spreadOne 111 = .ok (.iload 4, 2) := by decide +kernel
theorem dX3_spreadOne_113 : decode cX3_spreadOne 113 = .ok (.iload_n 2, 1) := by decide +kernel
theorem dX3_spreadOne_114 : decode cX3_spreadOne 114 = .ok (.invokevirtual 153, 3) := by decide +kernel
theorem dX3_spreadOne_117 : decode cX3_spreadOne 117 = .ok (.goto 93, 3) := by decide +kernel
theorem dX3_spreadOne_120 : decode cX3_spreadOne 120 = .ok (.iload_n 2, 1) := by decide +kernel
theorem dX3_spreadOne_121 : decode cX3_spreadOne 121 = .ok (.aload_n 0, 1) := by decide +kernel
theorem dX3_spreadOne_122 : decode cX3_spreadOne 122 = .ok (.getfield 14, 3) := by decide +kernel
theorem dX3_spreadOne_125 : decode cX3_spreadOne 125 = .ok (.iload_n 1, 1) := by decide +kernel
theorem dX3_spreadOne_126 : decode cX3_spreadOne 126 = .ok (.invokevirtual 137, 3) := by decide +kernel
theorem dX3_spreadOne_129 : decode cX3_spreadOne 129 = .ok (.if_icmp .lt 81, 3) := by decide +kernel
theorem dX3_spreadOne_132 : decode cX3_spreadOne 132 = .ok (.aload_n 0, 1) := by decide +kernel
theorem dX3_spreadOne_133 : decode cX3_spreadOne 133 = .ok (.iload 4, 2) := by decide +kernel
theorem dX3_spreadOne_135 : decode cX3_spreadOne 135 = .ok (.iload_n 2, 1) := by decide +kernel
theorem dX3_spreadOne_136 : decode cX3_spreadOne 136 = .ok (.iconst 1, 1) := by decide +kernel
theorem dX3_spreadOne_137 : decode cX3_spreadOne 137 = .ok (.isub, 1) := by decide +kernel
theorem dX3_spreadOne_138 : decode cX3_spreadOne 138 = .ok (.invokevirtual 153, 3) := by decide +kernel
theorem dX3_spreadOne_141 : decode cX3_spreadOne 141 = .ok (.goto 69, 3) := by decide +kernel
theorem dX3_spreadOne_144 : decode cX3_spreadOne 144 = .ok (.iconst 2, 1) := by decide +kernel
theorem dX3_spreadOne_145 : decode cX3_spreadOne 145 = .ok (.aload_n 0, 1) := by decide +kernel
theorem dX3_spreadOne_146 : decode cX3_spreadOne 146 = .ok (.getfield 14, 3) := by decide +kernel
theorem dX3_spreadOne_149 : decode cX3_spreadOne 149 = .ok (.iload_n 1, 1) := by decide +kernel
theorem dX3_spreadOne_150 : decode cX3_spreadOne 150 = .ok (.invokevirtual 167, 3) := by decide +kernel
theorem dX3_spreadOne_153 : decode cX3_spreadOne 153 = .ok (.imul, 1) := by decide +kernel
theorem dX3_spreadOne_154 : decode cX3_spreadOne 154 = .ok (.aload_n 0, 1) := by decide +kernel
theorem dX3_spreadOne_155 : decode cX3_spreadOne 155 = .ok (.getfield 14, 3) := by decide +kernel
theorem dX3_spreadOne_158 : decode cX3_spreadOne 158 = .ok (.iload_n 1, 1) := by decide +kernel
theorem dX3_spreadOne_159 : decode cX3_spreadOne 159 = .ok (.invokevirtual 123, 3) := by decide +kernel
theorem dX3_spreadOne_162 : decode cX3_spreadOne 162 = .ok (.iconst 2, 1) := by decide +kernel
theorem dX3_spreadOne_163 : decode cX3_spreadOne 163 = .ok (.if_icmp .ne 7, 3) := by decide +kernel
theorem dX3_spreadOne_166 : decode cX3_spreadOne 166 = .ok (.iconst 0, 1) := by decide +kernel
theorem dX3_spreadOne_167 : decode cX3_spreadOne 167 = .ok (.goto 4, 3) := by decide +kernel
theorem dX3_spreadOne_170 : decode cX3_spreadOne 170 = .ok (.iconst 1, 1) := by decide +kernel
theorem dX3_spreadOne_171 : decode cX3_spreadOne 171 = .ok (.iadd, 1) := by decide +kernel
theorem dX3_spreadOne_172 : decode cX3_spreadOne 172 = .ok (.istore 6, 2) := by decide +kernel
theorem dX3_spreadOne_174 : decode cX3_spreadOne 174 = .ok (.aload_n 0, 1) := by decide +kernel
theorem dX3_spreadOne_175 : decode cX3_spreadOne 175 = .ok (.iconst (-1), 1) := by decide +kernel
theorem dX3_spreadOne_176 : decode cX3_spreadOne 176 = .ok (.iload 6, 2) := by decide +kernel
theorem dX3_spreadOne_178 : decode cX3_spreadOne 178 = .ok (.isub, 1) := by decide +kernel
theorem dX3_spreadOne_179 : decode cX3_spreadOne 179 = .ok (.aload_n 0, 1) := by decide +kernel
theorem dX3_spreadOne_180 : decode cX3_spreadOne 180 = .ok (.iload 6, 2) := by decide +kernel
theorem dX3_spreadOne_182 : decode cX3_spreadOne 182 = .ok (.invokevirtual 170, 3) := by decide +kernel
theorem dX3_spreadOne_185 : decode cX3_spreadOne 185 = .ok (.invokevirtual 153, 3) := by decide +kernel
theorem dX3_spreadOne_188 : decode cX3_spreadOne 188 = .ok (.aload_n 0, 1) := by decide +kernel
theorem dX3_spreadOne_189 : decode cX3_spreadOne 189 = .ok (.iload 6, 2) := by decide +kernel
theorem dX3_spreadOne_191 : decode cX3_spreadOne 191 = .ok (.iload_n 3, 1) := by decide +kernel
theorem dX3_spreadOne_192 : decode cX3_spreadOne 192 = .ok (.invokevirtual 157, 3) := by decide +kernel
theorem dX3_spreadOne_195 : decode cX3_spreadOne 195 = .ok (.aload_n 0, 1) := by decide +kernel
theorem dX3_spreadOne_196 : decode cX3_spreadOne 196 = .ok (.iload 4, 2) := by decide +kernel
theorem dX3_spreadOne_198 : decode cX3_spreadOne 198 = .ok (.iload_n 2, 1) := by decide +kernel
theorem dX3_spreadOne_199 : decode cX3_spreadOne 199 = .ok (.invokevirtual 153, 3) := by decide +kernel
theorem dX3_spreadOne_202 : decode cX3_spreadOne 202 = .ok (.goto 8, 3) := by decide +kernel
theorem dX3_spreadOne_205 : decode cX3_spreadOne 205 = .ok (.aload_n 0, 1) := by decide +kernel
theorem dX3_spreadOne_206 : decode cX3_spreadOne 206 = .ok (.iload_n 1, 1) := by decide +kernel
theorem dX3_spreadOne_207 : decode cX3_spreadOne 207 = .ok (.invokevirtual 173, 3) := by decide +kernel
theorem dX3_spreadOne_210 : decode cX3_spreadOne 210 = .ok (.return_, 1) := by decide +kernel
theorem dX3_stopAt_0 : decode cX3_stopAt 0 = .ok (.iload_n 1, 1) := by decide +kernel
theorem dX3_stopAt_1 : decode cX3_stopAt 1 = .ok (.ifCond .lt 27, 3) := by decide +kernel
theorem dX3_stopAt_4 : decode cX3_stopAt 4 = .ok (.iload_n 1, 1) := by decide +kernel
theorem dX3_stopAt_5 : decode cX3_stopAt 5 = .ok (.sipush 512, 3) := by decide +kernel
theorem dX3_stopAt_8 : decode cX3_stopAt 8 = .ok (.if_icmp .ge 20, 3) := by decide +kernel
theorem dX3_stopAt_11 : decode cX3_stopAt 11 = .ok (.aload_n 0, 1) := by decide +kernel
theorem dX3_stopAt_12 : decode cX3_stopAt 12 = .ok (.getfield 47, 3) := by decide +kernel
theorem dX3_stopAt_15 : decode cX3_stopAt 15 = .ok (.iload_n 1, 1) := by decide +kernel
theorem dX3_stopAt_16 : decode cX3_stopAt 16 = .ok (.iaload, 1) := by decide +kernel
theorem dX3_stopAt_17 : decode cX3_stopAt 17 = .ok (.aload_n 0, 1) := by decide +kernel
theorem dX3_stopAt_18 : decode cX3_stopAt 18 = .ok (.getfield 81, 3) := by decide +kernel
theorem dX3_stopAt_21 : decode cX3_stopAt 21 = .ok (.if_icmp .ne 7, 3) := by decide +kernel
theorem dX3_stopAt_24 : decode cX3_stopAt 24 = .ok (.iconst 1, 1) := by decide +kernel
theorem dX3_stopAt_25 : decode cX3_stopAt 25 = .ok (.goto 4, 3) := by decide +kernel
theorem dX3_stopAt_28 : decode cX3_stopAt 28 = .ok (.iconst 0, 1) := by decide +kernel
theorem dX3_stopAt_29 : decode cX3_stopAt 29 = .ok (.istore_n 2, 1) := by decide +kernel
theorem dX3_stopAt_30 : decode cX3_stopAt 30 = .ok (.iload_n 2, 1) := by decide +kernel
theorem dX3_stopAt_31 : decode cX3_stopAt 31 = .ok (.ifCond .ne 82, 3) := by decide +kernel
theorem dX3_stopAt_34 : decode cX3_stopAt 34 = .ok (.iload_n 1, 1) := by decide +kernel
theorem dX3_stopAt_35 : decode cX3_stopAt 35 = .ok (.ifCond .lt 78, 3) := by decide +kernel
theorem dX3_stopAt_38 : decode cX3_stopAt 38 = .ok (.iload_n 1, 1) := by decide +kernel
theorem dX3_stopAt_39 : decode cX3_stopAt 39 = .ok (.sipush 512, 3) := by decide +kernel
theorem dX3_stopAt_42 : decode cX3_stopAt 42 = .ok (.if_icmp .ge 71, 3) := by decide +kernel
theorem dX3_stopAt_45 : decode cX3_stopAt 45 = .ok (.aload_n 0, 1) := by decide +kernel
theorem dX3_stopAt_46 : decode cX3_stopAt 46 = .ok (.getfield 78, 3) := by decide +kernel
theorem dX3_stopAt_49 : decode cX3_stopAt 49 = .ok (.ifCond .lt 64, 3) := by decide +kernel
theorem dX3_stopAt_52 : decode cX3_stopAt 52 = .ok (.aload_n 0, 1) := by decide +kernel
theorem dX3_stopAt_53 : decode cX3_stopAt 53 = .ok (.getfield 78, 3) := by decide +kernel
theorem dX3_stopAt_56 : decode cX3_stopAt 56 = .ok (.sipush 256, 3) := by decide +kernel
theorem dX3_stopAt_59 : decode cX3_stopAt 59 = .ok (.if_icmp .ge 54, 3) := by decide +kernel
theorem dX3_stopAt_62 : decode cX3_stopAt 62 = .ok (.aload_n 0, 1) := by decide +kernel
theorem dX3_stopAt_63 : decode cX3_stopAt 63 = .ok (.getfield 47, 3) := by decide +kernel
theorem dX3_stopAt_66 : decode cX3_stopAt 66 = .ok (.iload_n 1, 1) := by decide +kernel
theorem dX3_stopAt_67 : decode cX3_stopAt 67 = .ok (.aload_n 0, 1) := by decide +kernel
theorem dX3_stopAt_68 : decode cX3_stopAt 68 = .ok (.getfield 81, 3) := by decide +kernel
theorem dX3_stopAt_71 : decode cX3_stopAt 71 = .ok (.iastore, 1) := by decide +kernel
theorem dX3_stopAt_72 : decode cX3_stopAt 72 = .ok (.aload_n 0, 1) := by decide +kernel
theorem dX3_stopAt_73 : decode cX3_stopAt 73 = .ok (.getfield 38, 3) := by decide +kernel
theorem dX3_stopAt_76 : decode cX3_stopAt 76 = .ok (.aload_n 0, 1) := by decide +kernel
theorem dX3_stopAt_77 : decode cX3_stopAt 77 = .ok (.getfield 78, 3) := by decide +kernel
theorem dX3_stopAt_80 : decode cX3_stopAt 80 = .ok (.iload_n 1, 1) := by decide +kernel
theorem dX3_stopAt_81 : decode cX3_stopAt 81 = .ok (.iastore, 1) := by decide +kernel
theorem dX3_stopAt_82 : decode cX3_stopAt 82 = .ok (.aload_n 0, 1) := by decide +kernel
theorem dX3_stopAt_83 : decode cX3_stopAt 83 = .ok (.getfield 50, 3) := by decide +kernel
theorem dX3_stopAt_86 : decode cX3_stopAt 86 = .ok (.iconst 0, 1) := by decide +kernel
theorem dX3_stopAt_87 : decode cX3_stopAt 87 = .ok (.aload_n 0, 1) := by decide +kernel
theorem dX3_stopAt_88 : decode cX3_stopAt 88 = .ok (.getfield 41, 3) := by decide +kernel
theorem dX3_stopAt_91 : decode cX3_stopAt 91 = .ok (.aload_n 0, 1) := by decide +kernel
theorem dX3_stopAt_92 : decode cX3_stopAt 92 = .ok (.getfield 78, 3) := by decide +kernel
theorem dX3_stopAt_95 : decode cX3_stopAt 95 = .ok (.bipush 20, 2) := by decide +kernel
theorem dX3_stopAt_97 : decode cX3_stopAt 97 = .ok (.imul, 1) := by decide +kernel
theorem dX3_stopAt_98 : decode cX3_stopAt 98 = .ok (.bipush 20, 2) := by decide +kernel
theorem dX3_stopAt_100 : decode cX3_stopAt 100 = .ok (.invokestatic 117, 3) := by decide +kernel
theorem dX3_stopAt_103 : decode cX3_stopAt 103 = .ok (.aload_n 0, 1) := by decide +kernel
theorem dX3_stopAt_104 : decode cX3_stopAt 104 = .ok (.dup, 1) := by decide +kernel
theorem dX3_stopAt_105 : decode cX3_stopAt 105 = .ok (.getfield 78, 3) := by decide +kernel
theorem dX3_stopAt_108 : decode cX3_stopAt 108 = .ok (.iconst 1, 1) := by decide +kernel
theorem dX3_stopAt_109 : decode cX3_stopAt 109 = .ok (.iadd, 1) := by decide +kernel
theorem dX3_stopAt_110 : decode cX3_stopAt 110 = .ok (.putfield 78, 3) := by decide +kernel
theorem dX3_stopAt_113 : decode cX3_stopAt 113 = .ok (.return_, 1) := by decide +kernel
theorem dX3_tell_0 : decode cX3_tell 0 = .ok (.aload_n 1, 1) := by decide +kernel
theorem dX3_tell_1 : decode cX3_tell 1 = .ok (.invokevirtual 144, 3) := by decide +kernel
theorem dX3_tell_4 : decode cX3_tell 4 = .ok (.iconst 0, 1) := by decide +kernel
theorem dX3_tell_5 : decode cX3_tell 5 = .ok (.istore_n 2, 1) := by decide +kernel
theorem dX3_tell_6 : decode cX3_tell 6 = .ok (.iload_n 2, 1) := by decide +kernel
theorem dX3_tell_7 : decode cX3_tell 7 = .ok (.aload_n 0, 1) := by decide +kernel
theorem dX3_tell_8 : decode cX3_tell 8 = .ok (.getfield 75, 3) := by decide +kernel
theorem dX3_tell_11 : decode cX3_tell 11 = .ok (.if_icmp .ge 25, 3) := by decide +kernel
theorem dX3_tell_14 : decode cX3_tell 14 = .ok (.iload_n 2, 1) := by decide +kernel
theorem dX3_tell_15 : decode cX3_tell 15 = .ok (.bipush 20, 2) := by decide +kernel
theorem dX3_tell_17 : decode cX3_tell 17 = .ok (.if_icmp .ge 19, 3) := by decide +kernel
theorem dX3_tell_20 : decode cX3_tell 20 = .ok (.aload_n 1, 1) := by decide +kernel
theorem dX3_tell_21 : decode cX3_tell 21 = .ok (.aload_n 0, 1) := by decide +kernel
theorem dX3_tell_22 : decode cX3_tell 22 = .ok (.getfield 50, 3) := by decide +kernel
theorem dX3_tell_25 : decode cX3_tell 25 = .ok (.iload_n 2, 1) := by decide +kernel
theorem dX3_tell_26 : decode cX3_tell 26 = .ok (.iaload, 1) := by decide +kernel
theorem dX3_tell_27 : decode cX3_tell 27 = .ok (.invokevirtual 147, 3) := by decide +kernel
theorem dX3_tell_30 : decode cX3_tell 30 = .ok (.iinc 2 1, 3) := by decide +kernel
theorem dX3_tell_33 : decode cX3_tell 33 = .ok (.goto (-27), 3) := by decide +kernel
theorem dX3_tell_36 : decode cX3_tell 36 = .ok (.return_, 1) := by decide +kernel
theorem dX4_isGrouped_0 : decode cX4_isGrouped 0 = .ok (.iload_n 2, 1) := by decide +kernel
theorem dX4_isGrouped_1 : decode cX4_isGrouped 1 = .ok (.iconst (-1), 1) := by decide +kernel
theorem dX4_isGrouped_2 : decode cX4_isGrouped 2 = .ok (.if_icmp .ne 5, 3) := by decide +kernel
theorem dX4_isGrouped_5 : decode cX4_isGrouped 5 = .ok (.iconst 0, 1) := by decide +kernel
theorem dX4_isGrouped_6 : decode cX4_isGrouped 6 = .ok (.ireturn, 1) := by decide +kernel
theorem dX4_isGrouped_7 : decode cX4_isGrouped 7 = .ok (.iload_n 0, 1) := by decide +kernel
theorem dX4_isGrouped_8 : decode cX4_isGrouped 8 = .ok (.tableswitch 80 5 7 #[28, 45, 68], 28) := by decide +kernel
theorem dX4_isGrouped_36 : decode cX4_isGrouped 36 = .ok (.iload_n 1, 1) := by decide +kernel
theorem dX4_isGrouped_37 : decode cX4_isGrouped 37 = .ok (.iconst 5, 1) := by decide +kernel
theorem dX4_isGrouped_38 : decode cX4_isGrouped 38 = .ok (.if_icmp .eq 9, 3) := by decide +kernel
theorem dX4_isGrouped_41 : decode cX4_isGrouped 41 = .ok (.iload_n 1, 1) := by decide +kernel
theorem dX4_isGrouped_42 : decode cX4_isGrouped 42 = .ok (.bipush 7, 2) := by decide +kernel
theorem dX4_isGrouped_44 : decode cX4_isGrouped 44 = .ok (.if_icmp .ne 7, 3) := by decide +kernel
theorem dX4_isGrouped_47 : decode cX4_isGrouped 47 = .ok (.iconst 1, 1) := by decide +kernel
theorem dX4_isGrouped_48 : decode cX4_isGrouped 48 = .ok (.goto 4, 3) := by decide +kernel
theorem dX4_isGrouped_51 : decode cX4_isGrouped 51 = .ok (.iconst 0, 1) := by decide +kernel
theorem dX4_isGrouped_52 : decode cX4_isGrouped 52 = .ok (.ireturn, 1) := by decide +kernel
theorem dX4_isGrouped_53 : decode cX4_isGrouped 53 = .ok (.iload_n 1, 1) := by decide +kernel
theorem dX4_isGrouped_54 : decode cX4_isGrouped 54 = .ok (.iconst 5, 1) := by decide +kernel
theorem dX4_isGrouped_55 : decode cX4_isGrouped 55 = .ok (.if_icmp .eq 15, 3) := by decide +kernel
theorem dX4_isGrouped_58 : decode cX4_isGrouped 58 = .ok (.iload_n 1, 1) := by decide +kernel
theorem dX4_isGrouped_59 : decode cX4_isGrouped 59 = .ok (.bipush 7, 2) := by decide +kernel
theorem dX4_isGrouped_61 : decode cX4_isGrouped 61 = .ok (.if_icmp .eq 9, 3) := by decide +kernel
theorem dX4_isGrouped_64 : decode cX4_isGrouped 64 = .ok (.iload_n 1, 1) := by decide +kernel
theorem dX4_isGrouped_65 : decode cX4_isGrouped 65 = .ok (.bipush 6, 2) := by decide +kernel
theorem dX4_isGrouped_67 : decode cX4_isGrouped 67 = .ok (.if_icmp .ne 7, 3) := by decide +kernel
theorem dX4_isGrouped_70 : decode cX4_isGrouped 70 = .ok (.iconst 1, 1) := by decide +kernel
theorem dX4_isGrouped_71 : decode cX4_isGrouped 71 = .ok (.goto 4, 3) := by decide +kernel
theorem dX4_isGrouped_74 : decode cX4_isGrouped 74 = .ok (.iconst 0, 1) := by decide +kernel
theorem dX4_isGrouped_75 : decode cX4_isGrouped 75 = .ok (.ireturn, 1) := by decide +kernel
theorem dX4_isGrouped_76 : decode cX4_isGrouped 76 = .ok (.iload_n 1, 1) := by decide +kernel
theorem dX4_isGrouped_77 : decode cX4_isGrouped 77 = .ok (.bipush 7, 2) := by decide +kernel
theorem dX4_isGrouped_79 : decode cX4_isGrouped 79 = .ok (.if_icmp .ne 7, 3) := by decide +kernel
theorem dX4_isGrouped_82 : decode cX4_isGrouped 82 = .ok (.iconst 1, 1) := by decide +kernel
theorem dX4_isGrouped_83 : decode cX4_isGrouped 83 = .ok (.goto 4, 3) := by decide +kernel
theorem dX4_isGrouped_86 : decode cX4_isGrouped 86 = .ok (.iconst 0, 1) := by decide +kernel
theorem dX4_isGrouped_87 : decode cX4_isGrouped 87 = .ok (.ireturn, 1) := by decide +kernel
theorem dX4_isGrouped_88 : decode cX4_isGrouped 88 = .ok (.iconst 0, 1) := by decide +kernel
theorem dX4_isGrouped_89 : decode cX4_isGrouped 89 = .ok (.ireturn, 1) := by decide +kernel
theorem dX4_isMark_0 : decode cX4_isMark 0 = .ok (.iload_n 0, 1) := by decide +kernel
theorem dX4_isMark_1 : decode cX4_isMark 1 = .ok (.lookupswitch 77 #[(33, 75), (35, 75), (37, 75), (58, 75), (60, 75), (61, 75), (64, 75), (126, 75)], 75) := by decide +kernel
theorem dX4_isMark_76 : decode cX4_isMark 76 = .ok (.iconst 1, 1) := by decide +kernel
theorem dX4_isMark_77 : decode cX4_isMark 77 = .ok (.ireturn, 1) := by decide +kernel
theorem dX4_isMark_78 : decode cX4_isMark 78 = .ok (.iconst 0, 1) := by decide +kernel
theorem dX4_isMark_79 : decode cX4_isMark 79 = .ok (.ireturn, 1) := by decide +kernel
theorem dX4_markOfLook_0 : decode cX4_markOfLook 0 = .ok (.iload_n 0, 1) := by decide +kernel
theorem dX4_markOfLook_1 : decode cX4_markOfLook 1 = .ok (.tableswitch 36 0 2 #[27, 30, 33], 27) := by decide +kernel
theorem dX4_markOfLook_28 : decode cX4_markOfLook 28 = .ok (.bipush 61, 2) := by decide +kernel
theorem dX4_markOfLook_30 : decode cX4_markOfLook 30 = .ok (.ireturn, 1) := by decide +kernel
theorem dX4_markOfLook_31 : decode cX4_markOfLook 31 = .ok (.bipush 33, 2) := by decide +kernel
theorem dX4_markOfLook_33 : decode cX4_markOfLook 33 = .ok (.ireturn, 1) := by decide +kernel
theorem dX4_markOfLook_34 : decode cX4_markOfLook 34 = .ok (.bipush 60, 2) := by decide +kernel
theorem dX4_markOfLook_36 : decode cX4_markOfLook 36 = .ok (.ireturn, 1) := by decide +kernel
theorem dX4_markOfLook_37 : decode cX4_markOfLook 37 = .ok (.bipush 126, 2) := by decide +kernel
theorem dX4_markOfLook_39 : decode cX4_markOfLook 39 = .ok (.ireturn, 1) := by decide +kernel
theorem dX4_write_0 : decode cX4_write 0 = .ok (.aload_n 0, 1) := by decide +kernel
theorem dX4_write_1 : decode cX4_write 1 = .ok (.aload_n 2, 1) := by decide +kernel
theorem dX4_write_2 : decode cX4_write 2 = .ok (.putfield 14, 3) := by decide +kernel
theorem dX4_write_5 : decode cX4_write 5 = .ok (.aload_n 0, 1) := by decide +kernel
theorem dX4_write_6 : decode cX4_write 6 = .ok (.getfield 14, 3) := by decide +kernel
theorem dX4_write_9 : decode cX4_write 9 = .ok (.invokevirtual 20, 3) := by decide +kernel
theorem dX4_write_12 : decode cX4_write 12 = .ok (.aload_n 0, 1) := by decide +kernel
theorem dX4_write_13 : decode cX4_write 13 = .ok (.iconst (-1), 1) := by decide +kernel
theorem dX4_write_14 : decode cX4_write 14 = .ok (.putfield 23, 3) := by decide +kernel
theorem dX4_write_17 : decode cX4_write 17 = .ok (.aload_n 0, 1) := by decide +kernel
theorem dX4_write_18 : decode cX4_write 18 = .ok (.aload_n 1, 1) := by decide +kernel
theorem dX4_write_19 : decode cX4_write 19 = .ok (.iconst 0, 1) := by decide +kernel
theorem dX4_write_20 : decode cX4_write 20 = .ok (.iconst 0, 1) := by decide +kernel
theorem dX4_write_21 : decode cX4_write 21 = .ok (.invokevirtual 27, 3) := by decide +kernel
theorem dX4_write_24 : decode cX4_write 24 = .ok (.return_, 1) := by decide +kernel
theorem dX4_writeClosing_0 : decode cX4_writeClosing 0 = .ok (.aload_n 1, 1) := by decide +kernel
theorem dX4_writeClosing_1 : decode cX4_writeClosing 1 = .ok (.iload_n 2, 1) := by decide +kernel
theorem dX4_writeClosing_2 : decode cX4_writeClosing 2 = .ok (.invokevirtual 31, 3) := by decide +kernel
theorem dX4_writeClosing_5 : decode cX4_writeClosing 5 = .ok (.bipush 7, 2) := by decide +kernel
theorem dX4_writeClosing_7 : decode cX4_writeClosing 7 = .ok (.if_icmp .ne 51, 3) := by decide +kernel
theorem dX4_writeClosing_10 : decode cX4_writeClosing 10 = .ok (.aload_n 0, 1) := by decide +kernel
theorem dX4_writeClosing_11 : decode cX4_writeClosing 11 = .ok (.aload_n 1, 1) := by decide +kernel
theorem dX4_writeClosing_12 : decode cX4_writeClosing 12 = .ok (.iload_n 2, 1) := by decide +kernel
theorem dX4_writeClosing_13 : decode cX4_writeClosing 13 = .ok (.invokevirtual 104, 3) := by decide +kernel
theorem dX4_writeClosing_16 : decode cX4_writeClosing 16 = .ok (.aload_n 1, 1) := by decide +kernel
theorem dX4_writeClosing_17 : decode cX4_writeClosing 17 = .ok (.iload_n 2, 1) := by decide +kernel
theorem dX4_writeClosing_18 : decode cX4_writeClosing 18 = .ok (.invokevirtual 110, 3) := by decide +kernel
theorem dX4_writeClosing_21 : decode cX4_writeClosing 21 = .ok (.invokevirtual 113, 3) := by decide +kernel
theorem dX4_writeClosing_24 : decode cX4_writeClosing 24 = .ok (.aload_n 1, 1) := by decide +kernel
theorem dX4_writeClosing_25 : decode cX4_writeClosing 25 = .ok (.iload_n 2, 1) := by decide +kernel
theorem dX4_writeClosing_26 : decode cX4_writeClosing 26 = .ok (.invokevirtual 63, 3) := by decide +kernel
theorem dX4_writeClosing_29 : decode cX4_writeClosing 29 = .ok (.ifCond .eq 48, 3) := by decide +kernel
theorem dX4_writeClosing_32 : decode cX4_writeClosing 32 = .ok (.aload_n 0, 1) := by decide +kernel
theorem dX4_writeClosing_33 : decode cX4_writeClosing 33 = .ok (.getfield 14, 3) := by decide +kernel
theorem dX4_writeClosing_36 : decode cX4_writeClosing 36 = .ok (.aload_n 1, 1) := by decide +kernel
theorem dX4_writeClosing_37 : decode cX4_writeClosing 37 = .ok (.iload_n 2, 1) := by decide +kernel
theorem dX4_writeClosing_38 : decode cX4_writeClosing 38 = .ok (.invokevirtual 63, 3) := by decide +kernel
theorem dX4_writeClosing_41 : decode cX4_writeClosing 41 = .ok (.iconst 1, 1) := by decide +kernel
theorem dX4_writeClosing_42 : decode cX4_writeClosing 42 = .ok (.if_icmp .ne 8, 3) := by decide +kernel
theorem dX4_writeClosing_45 : decode cX4_writeClosing 45 = .ok (.bipush 63, 2) := by decide +kernel
theorem dX4_writeClosing_47 : decode cX4_writeClosing 47 = .ok (.goto 5, 3) := by decide +kernel
theorem dX4_writeClosing_50 : decode cX4_writeClosing 50 = .ok (.bipush 43, 2) := by decide +kernel
theorem dX4_writeClosing_52 : decode cX4_writeClosing 52 = .ok (.invokevirtual 44, 3) := by decide +kernel
theorem dX4_writeClosing_55 : decode cX4_writeClosing 55 = .ok (.goto 22, 3) := by decide +kernel
theorem dX4_writeClosing_58 : decode cX4_writeClosing 58 = .ok (.aload_n 1, 1) := by decide +kernel
theorem dX4_writeClosing_59 : decode cX4_writeClosing 59 = .ok (.iload_n 2, 1) := by decide +kernel
theorem dX4_writeClosing_60 : decode cX4_writeClosing 60 = .ok (.invokevirtual 31, 3) := by decide +kernel
theorem dX4_writeClosing_63 : decode cX4_writeClosing 63 = .ok (.bipush 8, 2) := by decide +kernel
theorem dX4_writeClosing_65 : decode cX4_writeClosing 65 = .ok (.if_icmp .lt 12, 3) := by decide +kernel
theorem dX4_writeClosing_68 : decode cX4_writeClosing 68 = .ok (.aload_n 0, 1) := by decide +kernel
theorem dX4_writeClosing_69 : decode cX4_writeClosing 69 = .ok (.getfield 14, 3) := by decide +kernel
theorem dX4_writeClosing_72 : decode cX4_writeClosing 72 = .ok (.bipush 41, 2) := by decide +kernel
theorem dX4_writeClosing_74 : decode cX4_writeClosing 74 = .ok (.invokevirtual 44, 3) := by decide +kernel
theorem dX4_writeClosing_77 : decode cX4_writeClosing 77 = .ok (.return_, 1) := by decide +kernel
theorem dX4_writeCode_0 : decode cX4_writeCode 0 = .ok (.aload_n 0, 1) := by decide +kernel
theorem dX4_writeCode_1 : decode cX4_writeCode 1 = .ok (.getfield 14, 3) := by decide +kernel
theorem dX4_writeCode_4 : decode cX4_writeCode 4 = .ok (.bipush 92, 2) := by decide +kernel
theorem dX4_writeCode_6 : decode cX4_writeCode 6 = .ok (.invokevirtual 44, 3) := by decide +kernel
theorem dX4_writeCode_9 : decode cX4_writeCode 9 = .ok (.aload_n 0, 1) := by decide +kernel
theorem dX4_writeCode_10 : decode cX4_writeCode 10 = .ok (.getfield 14, 3) := by decide +kernel
theorem dX4_writeCode_13 : decode cX4_writeCode 13 = .ok (.bipush 120, 2) := by decide +kernel
theorem dX4_writeCode_15 : decode cX4_writeCode 15 = .ok (.invokevirtual 44, 3) := by decide +kernel
theorem dX4_writeCode_18 : decode cX4_writeCode 18 = .ok (.bipush 12, 2) := by decide +kernel
theorem dX4_writeCode_20 : decode cX4_writeCode 20 = .ok (.istore_n 2, 1) := by decide +kernel
theorem dX4_writeCode_21 : decode cX4_writeCode 21 = .ok (.iload_n 2, 1) := by decide +kernel
theorem dX4_writeCode_22 : decode cX4_writeCode 22 = .ok (.ifCond .lt 43, 3) := by decide +kernel
theorem dX4_writeCode_25 : decode cX4_writeCode 25 = .ok (.iload_n 1, 1) := by decide +kernel
theorem dX4_writeCode_26 : decode cX4_writeCode 26 = .ok (.iload_n 2, 1) := by decide +kernel
theorem dX4_writeCode_27 : decode cX4_writeCode 27 = .ok (.ishr, 1) := by decide +kernel
theorem dX4_writeCode_28 : decode cX4_writeCode 28 = .ok (.bipush 15, 2) := by decide +kernel
theorem dX4_writeCode_30 : decode cX4_writeCode 30 = .ok (.iand, 1) := by decide +kernel
theorem dX4_writeCode_31 : decode cX4_writeCode 31 = .ok (.istore_n 3, 1) := by decide +kernel
theorem dX4_writeCode_32 : decode cX4_writeCode 32 = .ok (.aload_n 0, 1) := by decide +kernel
theorem dX4_writeCode_33 : decode cX4_writeCode 33 = .ok (.getfield 14, 3) := by decide +kernel
theorem dX4_writeCode_36 : decode cX4_writeCode 36 = .ok (.iload_n 3, 1) := by decide +kernel
theorem dX4_writeCode_37 : decode cX4_writeCode 37 = .ok (.bipush 10, 2) := by decide +kernel
theorem dX4_writeCode_39 : decode cX4_writeCode 39 = .ok (.if_icmp .ge 10, 3) := by decide +kernel
theorem dX4_writeCode_42 : decode cX4_writeCode 42 = .ok (.bipush 48, 2) := by decide +kernel
theorem dX4_writeCode_44 : decode cX4_writeCode 44 = .ok (.iload_n 3, 1) := by decide +kernel
theorem dX4_writeCode_45 : decode cX4_writeCode 45 = .ok (.iadd, 1) := by decide +kernel
theorem dX4_writeCode_46 : decode cX4_writeCode 46 = .ok (.goto 10, 3) := by decide +kernel
theorem dX4_writeCode_49 : decode cX4_writeCode 49 = .ok (.bipush 97, 2) := by decide +kernel
theorem dX4_writeCode_51 : decode cX4_writeCode 51 = .ok (.iload_n 3, 1) := by decide +kernel
theorem dX4_writeCode_52 : decode cX4_writeCode 52 = .ok (.iadd, 1) := by decide +kernel
theorem dX4_writeCode_53 : decode cX4_writeCode 53 = .ok (.bipush 10, 2) := by decide +kernel
theorem dX4_writeCode_55 : decode cX4_writeCode 55 = .ok (.isub, 1) := by decide +kernel
theorem dX4_writeCode_56 : decode cX4_writeCode 56 = .ok (.invokevirtual 44, 3) := by decide +kernel
theorem dX4_writeCode_59 : decode cX4_writeCode 59 = .ok (.iinc 2 (-4), 3) := by decide +kernel
theorem dX4_writeCode_62 : decode cX4_writeCode 62 = .ok (.goto (-41), 3) := by decide +kernel
theorem dX4_writeCode_65 : decode cX4_writeCode 65 = .ok (.return_, 1) := by decide +kernel
theorem dX4_writeEdge_0 : decode cX4_writeEdge 0 = .ok (.iload_n 1, 1) := by decide +kernel
theorem dX4_writeEdge_1 : decode cX4_writeEdge 1 = .ok (.iconst 2, 1) := by decide +kernel
theorem dX4_writeEdge_2 : decode cX4_writeEdge 2 = .ok (.if_icmp .ge 24, 3) := by decide +kernel
theorem dX4_writeEdge_5 : decode cX4_writeEdge 5 = .ok (.aload_n 0, 1) := by decide +kernel
theorem dX4_writeEdge_6 : decode cX4_writeEdge 6 = .ok (.getfield 14, 3) := by decide +kernel
theorem dX4_writeEdge_9 : decode cX4_writeEdge 9 = .ok (.iload_n 1, 1) := by decide +kernel
theorem dX4_writeEdge_10 : decode cX4_writeEdge 10 = .ok (.ifCond .ne 8, 3) := by decide +kernel
theorem dX4_writeEdge_13 : decode cX4_writeEdge 13 = .ok (.bipush 94, 2) := by decide +kernel
theorem dX4_writeEdge_15 : decode cX4_writeEdge 15 = .ok (.goto 5, 3) := by decide +kernel
theorem dX4_writeEdge_18 : decode cX4_writeEdge 18 = .ok (.bipush 36, 2) := by decide +kernel
theorem dX4_writeEdge_20 : decode cX4_writeEdge 20 = .ok (.invokevirtual 44, 3) := by decide +kernel
theorem dX4_writeEdge_23 : decode cX4_writeEdge 23 = .ok (.goto 31, 3) := by decide +kernel
theorem dX4_writeEdge_26 : decode cX4_writeEdge 26 = .ok (.aload_n 0, 1) := by decide +kernel
theorem dX4_writeEdge_27 : decode cX4_writeEdge 27 = .ok (.getfield 14, 3) := by decide +kernel
theorem dX4_writeEdge_30 : decode cX4_writeEdge 30 = .ok (.bipush 92, 2) := by decide +kernel
theorem dX4_writeEdge_32 : decode cX4_writeEdge 32 = .ok (.invokevirtual 44, 3) := by decide +kernel
theorem dX4_writeEdge_35 : decode cX4_writeEdge 35 = .ok (.aload_n 0, 1) := by decide +kernel
theorem dX4_writeEdge_36 : decode cX4_writeEdge 36 = .ok (.getfield 14, 3) := by decide +kernel
theorem dX4_writeEdge_39 : decode cX4_writeEdge 39 = .ok (.iload_n 1, 1) := by decide +kernel
theorem dX4_writeEdge_40 : decode cX4_writeEdge 40 = .ok (.iconst 2, 1) := by decide +kernel
theorem dX4_writeEdge_41 : decode cX4_writeEdge 41 = .ok (.if_icmp .ne 8, 3) := by decide +kernel
theorem dX4_writeEdge_44 : decode cX4_writeEdge 44 = .ok (.bipush 98, 2) := by decide +kernel
theorem dX4_writeEdge_46 : decode cX4_writeEdge 46 = .ok (.goto 5, 3) := by decide +kernel
theorem dX4_writeEdge_49 : decode cX4_writeEdge 49 = .ok (.bipush 66, 2) := by decide +kernel
theorem dX4_writeEdge_51 : decode cX4_writeEdge 51 = .ok (.invokevirtual 44, 3) := by decide +kernel
theorem dX4_writeEdge_54 : decode cX4_writeEdge 54 = .ok (.return_, 1) := by decide +kernel
theorem dX4_writeLeaf_0 : decode cX4_writeLeaf 0 = .ok (.aload_n 1, 1) := by decide +kernel
theorem dX4_writeLeaf_1 : decode cX4_writeLeaf 1 = .ok (.iload_n 2, 1) := by decide +kernel
theorem dX4_writeLeaf_2 : decode cX4_writeLeaf 2 = .ok (.invokevirtual 63, 3) := by decide +kernel
theorem dX4_writeLeaf_5 : decode cX4_writeLeaf 5 = .ok (.istore_n 3, 1) := by decide +kernel
theorem dX4_writeLeaf_6 : decode cX4_writeLeaf 6 = .ok (.aload_n 1, 1) := by decide +kernel
theorem dX4_writeLeaf_7 : decode cX4_writeLeaf 7 = .ok (.iload_n 2, 1) := by decide +kernel
theorem dX4_writeLeaf_8 : decode cX4_writeLeaf 8 = .ok (.invokevirtual 31, 3) := by decide +kernel
theorem dX4_writeLeaf_11 : decode cX4_writeLeaf 11 = .ok (.tableswitch 66 0 3 #[29, 37, 49, 58], 29) := by decide +kernel
theorem dX4_writeLeaf_40 : decode cX4_writeLeaf 40 = .ok (.aload_n 0, 1) := by decide +kernel
theorem dX4_writeLeaf_41 : decode cX4_writeLeaf 41 = .ok (.iload_n 3, 1) := by decide +kernel
theorem dX4_writeLeaf_42 : decode cX4_writeLeaf 42 = .ok (.invokevirtual 66, 3) := by decide +kernel
theorem dX4_writeLeaf_45 : decode cX4_writeLeaf 45 = .ok (.goto 52, 3) := by decide +kernel
theorem dX4_writeLeaf_48 : decode cX4_writeLeaf 48 = .ok (.aload_n 0, 1) := by decide +kernel
theorem dX4_writeLeaf_49 : decode cX4_writeLeaf 49 = .ok (.getfield 14, 3) := by decide +kernel
theorem dX4_writeLeaf_52 : decode cX4_writeLeaf 52 = .ok (.bipush 46, 2) := by decide +kernel
theorem dX4_writeLeaf_54 : decode cX4_writeLeaf 54 = .ok (.invokevirtual 44, 3) := by decide +kernel
theorem dX4_writeLeaf_57 : decode cX4_writeLeaf 57 = .ok (.goto 40, 3) := by decide +kernel
theorem dX4_writeLeaf_60 : decode cX4_writeLeaf 60 = .ok (.aload_n 0, 1) := by decide +kernel
theorem dX4_writeLeaf_61 : decode cX4_writeLeaf 61 = .ok (.aload_n 1, 1) := by decide +kernel
theorem dX4_writeLeaf_62 : decode cX4_writeLeaf 62 = .ok (.iload_n 2, 1) := by decide +kernel
theorem dX4_writeLeaf_63 : decode cX4_writeLeaf 63 = .ok (.invokevirtual 69, 3) := by decide +kernel
theorem dX4_writeLeaf_66 : decode cX4_writeLeaf 66 = .ok (.goto 31, 3) := by decide +kernel
theorem dX4_writeLeaf_69 : decode cX4_writeLeaf 69 = .ok (.aload_n 0, 1) := by decide +kernel
theorem dX4_writeLeaf_70 : decode cX4_writeLeaf 70 = .ok (.iload_n 3, 1) := by decide +kernel
theorem dX4_writeLeaf_71 : decode cX4_writeLeaf 71 = .ok (.invokevirtual 72, 3) := by decide +kernel
theorem dX4_writeLeaf_74 : decode cX4_writeLeaf 74 = .ok (.goto 23, 3) := by decide +kernel
theorem dX4_writeLeaf_77 : decode cX4_writeLeaf 77 = .ok (.aload_n 0, 1) := by decide +kernel
theorem dX4_writeLeaf_78 : decode cX4_writeLeaf 78 = .ok (.getfield 14, 3) := by decide +kernel
theorem dX4_writeLeaf_81 : decode cX4_writeLeaf 81 = .ok (.bipush 92, 2) := by decide +kernel
theorem dX4_writeLeaf_83 : decode cX4_writeLeaf 83 = .ok (.invokevirtual 44, 3) := by decide +kernel
theorem dX4_writeLeaf_86 : decode cX4_writeLeaf 86 = .ok (.aload_n 0, 1) := by decide +kernel
theorem dX4_writeLeaf_87 : decode cX4_writeLeaf 87 = .ok (.getfield 14, 3) := by decide +kernel
theorem dX4_writeLeaf_90 : decode cX4_writeLeaf 90 = .ok (.bipush 48, 2) := by decide +kernel
theorem dX4_writeLeaf_92 : decode cX4_writeLeaf 92 = .ok (.iload_n 3, 1) := by decide +kernel
theorem dX4_writeLeaf_93 : decode cX4_writeLeaf 93 = .ok (.iadd, 1) := by decide +kernel
theorem dX4_writeLeaf_94 : decode cX4_writeLeaf 94 = .ok (.invokevirtual 44, 3) := by decide +kernel
theorem dX4_writeLeaf_97 : decode cX4_writeLeaf 97 = .ok (.return_, 1) := by decide +kernel
theorem dX4_writeLoop_0 : decode cX4_writeLoop 0 = .ok (.iload_n 2, 1) := by decide +kernel
theorem dX4_writeLoop_1 : decode cX4_writeLoop 1 = .ok (.iconst (-1), 1) := by decide +kernel
theorem dX4_writeLoop_2 : decode cX4_writeLoop 2 = .ok (.if_icmp .ne 27, 3) := by decide +kernel
theorem dX4_writeLoop_5 : decode cX4_writeLoop 5 = .ok (.iload_n 1, 1) := by decide +kernel
theorem dX4_writeLoop_6 : decode cX4_writeLoop 6 = .ok (.iconst 1, 1) := by decide +kernel
theorem dX4_writeLoop_7 : decode cX4_writeLoop 7 = .ok (.if_icmp .gt 22, 3) := by decide +kernel
theorem dX4_writeLoop_10 : decode cX4_writeLoop 10 = .ok (.aload_n 0, 1) := by decide +kernel
theorem dX4_writeLoop_11 : decode cX4_writeLoop 11 = .ok (.getfield 14, 3) := by decide +kernel
theorem dX4_writeLoop_14 : decode cX4_writeLoop 14 = .ok (.iload_n 1, 1) := by decide +kernel
theorem dX4_writeLoop_15 : decode cX4_writeLoop 15 = .ok (.ifCond .ne 8, 3) := by decide +kernel
theorem dX4_writeLoop_18 : decode cX4_writeLoop 18 = .ok (.bipush 42, 2) := by decide +kernel
theorem dX4_writeLoop_20 : decode cX4_writeLoop 20 = .ok (.goto 5, 3) := by decide +kernel
theorem dX4_writeLoop_23 : decode cX4_writeLoop 23 = .ok (.bipush 43, 2) := by decide +kernel
theorem dX4_writeLoop_25 : decode cX4_writeLoop 25 = .ok (.invokevirtual 44, 3) := by decide +kernel
theorem dX4_writeLoop_28 : decode cX4_writeLoop 28 = .ok (.return_, 1) := by decide +kernel
theorem dX4_writeLoop_29 : decode cX4_writeLoop 29 = .ok (.iload_n 1, 1) := by decide +kernel
theorem dX4_writeLoop_30 : decode cX4_writeLoop 30 = .ok (.ifCond .ne 18, 3) := by decide +kernel
theorem dX4_writeLoop_33 : decode cX4_writeLoop 33 = .ok (.iload_n 2, 1) := by decide +kernel
theorem dX4_writeLoop_34 : decode cX4_writeLoop 34 = .ok (.iconst 1, 1) := by decide +kernel
theorem dX4_writeLoop_35 : decode cX4_writeLoop 35 = .ok (.if_icmp .ne 13, 3) := by decide +kernel
theorem dX4_writeLoop_38 : decode cX4_writeLoop 38 = .ok (.aload_n 0, 1) := by decide +kernel
theorem dX4_writeLoop_39 : decode cX4_writeLoop 39 = .ok (.getfield 14, 3) := by decide +kernel
theorem dX4_writeLoop_42 : decode cX4_writeLoop 42 = .ok (.bipush 63, 2) := by decide +kernel
theorem dX4_writeLoop_44 : decode cX4_writeLoop 44 = .ok (.invokevirtual 44, 3) := by decide +kernel
theorem dX4_writeLoop_47 : decode cX4_writeLoop 47 = .ok (.return_, 1) := by decide +kernel
theorem dX4_writeLoop_48 : decode cX4_writeLoop 48 = .ok (.aload_n 0, 1) := by decide +kernel
theorem dX4_writeLoop_49 : decode cX4_writeLoop 49 = .ok (.getfield 14, 3) := by decide +kernel
theorem dX4_writeLoop_52 : decode cX4_writeLoop 52 = .ok (.bipush 123, 2) := by decide +kernel
theorem dX4_writeLoop_54 : decode cX4_writeLoop 54 = .ok (.invokevirtual 44, 3) := by decide +kernel
theorem dX4_writeLoop_57 : decode cX4_writeLoop 57 = .ok (.aload_n 0, 1) := by decide +kernel
theorem dX4_writeLoop_58 : decode cX4_writeLoop 58 = .ok (.iload_n 1, 1) := by decide +kernel
theorem dX4_writeLoop_59 : decode cX4_writeLoop 59 = .ok (.invokevirtual 117, 3) := by decide +kernel
theorem dX4_writeLoop_62 : decode cX4_writeLoop 62 = .ok (.iload_n 2, 1) := by decide +kernel
theorem dX4_writeLoop_63 : decode cX4_writeLoop 63 = .ok (.iload_n 1, 1) := by decide +kernel
theorem dX4_writeLoop_64 : decode cX4_writeLoop 64 = .ok (.if_icmp .eq 12, 3) := by decide +kernel
theorem dX4_writeLoop_67 : decode cX4_writeLoop 67 = .ok (.aload_n 0, 1) := by decide +kernel
theorem dX4_writeLoop_68 : decode cX4_writeLoop 68 = .ok (.getfield 14, 3) := by decide +kernel
theorem dX4_writeLoop_71 : decode cX4_writeLoop 71 = .ok (.bipush 44, 2) := by decide +kernel
theorem dX4_writeLoop_73 : decode cX4_writeLoop 73 = .ok (.invokevirtual 44, 3) := by decide +kernel
theorem dX4_writeLoop_76 : decode cX4_writeLoop 76 = .ok (.iload_n 2, 1) := by decide +kernel
theorem dX4_writeLoop_77 : decode cX4_writeLoop 77 = .ok (.iload_n 1, 1) := by decide +kernel
theorem dX4_writeLoop_78 : decode cX4_writeLoop 78 = .ok (.if_icmp .eq 13, 3) := by decide +kernel
theorem dX4_writeLoop_81 : decode cX4_writeLoop 81 = .ok (.iload_n 2, 1) := by decide +kernel
theorem dX4_writeLoop_82 : decode cX4_writeLoop 82 = .ok (.iconst (-1), 1) := by decide +kernel
theorem dX4_writeLoop_83 : decode cX4_writeLoop 83 = .ok (.if_icmp .eq 8, 3) := by decide +kernel
theorem dX4_writeLoop_86 : decode cX4_writeLoop 86 = .ok (.aload_n 0, 1) := by decide +kernel
theorem dX4_writeLoop_87 : decode cX4_writeLoop 87 = .ok (.iload_n 2, 1) := by decide +kernel
theorem dX4_writeLoop_88 : decode cX4_writeLoop 88 = .ok (.invokevirtual 117, 3) := by decide +kernel
theorem dX4_writeLoop_91 : decode cX4_writeLoop 91 = .ok (.aload_n 0, 1) := by decide +kernel
theorem dX4_writeLoop_92 : decode cX4_writeLoop 92 = .ok (.getfield 14, 3) := by decide +kernel
theorem dX4_writeLoop_95 : decode cX4_writeLoop 95 = .ok (.bipush 125, 2) := by decide +kernel
theorem dX4_writeLoop_97 : decode cX4_writeLoop 97 = .ok (.invokevirtual 44, 3) := by decide +kernel
theorem dX4_writeLoop_100 : decode cX4_writeLoop 100 = .ok (.return_, 1) := by decide +kernel
theorem dX4_writeMember_0 : decode cX4_writeMember 0 = .ok (.iload_n 1, 1) := by decide +kernel
theorem dX4_writeMember_1 : decode cX4_writeMember 1 = .ok (.invokestatic 75, 3) := by decide +kernel
theorem dX4_writeMember_4 : decode cX4_writeMember 4 = .ok (.ifCond .ne 9, 3) := by decide +kernel
theorem dX4_writeMember_7 : decode cX4_writeMember 7 = .ok (.aload_n 0, 1) := by decide +kernel
theorem dX4_writeMember_8 : decode cX4_writeMember 8 = .ok (.iload_n 1, 1) := by decide +kernel
theorem dX4_writeMember_9 : decode cX4_writeMember 9 = .ok (.invokevirtual 85, 3) := by decide +kernel
theorem dX4_writeMember_12 : decode cX4_writeMember 12 = .ok (.return_, 1) := by decide +kernel
theorem dX4_writeMember_13 : decode cX4_writeMember 13 = .ok (.iload_n 1, 1) := by decide +kernel
theorem dX4_writeMember_14 : decode cX4_writeMember 14 = .ok (.bipush 91, 2) := by decide +kernel
theorem dX4_writeMember_16 : decode cX4_writeMember 16 = .ok (.if_icmp .eq 27, 3) := by decide +kernel
theorem dX4_writeMember_19 : decode cX4_writeMember 19 = .ok (.iload_n 1, 1) := by decide +kernel
theorem dX4_writeMember_20 : decode cX4_writeMember 20 = .ok (.bipush 93, 2) := by decide +kernel
theorem dX4_writeMember_22 : decode cX4_writeMember 22 = .ok (.if_icmp .eq 21, 3) := by decide +kernel
theorem dX4_writeMember_25 : decode cX4_writeMember 25 = .ok (.iload_n 1, 1) := by decide +kernel
theorem dX4_writeMember_26 : decode cX4_writeMember 26 = .ok (.bipush 94, 2) := by decide +kernel
theorem dX4_writeMember_28 : decode cX4_writeMember 28 = .ok (.if_icmp .eq 15, 3) := by decide +kernel
theorem dX4_writeMember_31 : decode cX4_writeMember 31 = .ok (.iload_n 1, 1) := by decide +kernel
theorem dX4_writeMember_32 : decode cX4_writeMember 32 = .ok (.bipush 45, 2) := by decide +kernel
theorem dX4_writeMember_34 : decode cX4_writeMember 34 = .ok (.if_icmp .eq 9, 3) := by decide +kernel
theorem dX4_writeMember_37 : decode cX4_writeMember 37 = .ok (.iload_n 1, 1) := by decide +kernel
theorem dX4_writeMember_38 : decode cX4_writeMember 38 = .ok (.bipush 92, 2) := by decide +kernel
theorem dX4_writeMember_40 : decode cX4_writeMember 40 = .ok (.if_icmp .ne 12, 3) := by decide +kernel
theorem dX4_writeMember_43 : decode cX4_writeMember 43 = .ok (.aload_n 0, 1) := by decide +kernel
theorem dX4_writeMember_44 : decode cX4_writeMember 44 = .ok (.getfield 14, 3) := by decide +kernel
theorem dX4_writeMember_47 : decode cX4_writeMember 47 = .ok (.bipush 92, 2) := by decide +kernel
theorem dX4_writeMember_49 : decode cX4_writeMember 49 = .ok (.invokevirtual 44, 3) := by decide +kernel
theorem dX4_writeMember_52 : decode cX4_writeMember 52 = .ok (.aload_n 0, 1) := by decide +kernel
theorem dX4_writeMember_53 : decode cX4_writeMember 53 = .ok (.getfield 14, 3) := by decide +kernel
theorem dX4_writeMember_56 : decode cX4_writeMember 56 = .ok (.iload_n 1, 1) := by decide +kernel
theorem dX4_writeMember_57 : decode cX4_writeMember 57 = .ok (.invokevirtual 44, 3) := by decide +kernel
theorem dX4_writeMember_60 : decode cX4_writeMember 60 = .ok (.return_, 1) := by decide +kernel
theorem dX4_writeNode_0 : decode cX4_writeNode 0 = .ok (.iload_n 3, 1) := by decide +kernel
theorem dX4_writeNode_1 : decode cX4_writeNode 1 = .ok (.bipush 60, 2) := by decide +kernel
theorem dX4_writeNode_3 : decode cX4_writeNode 3 = .ok (.if_icmp .le 4, 3) := by decide +kernel
theorem dX4_writeNode_6 : decode cX4_writeNode 6 = .ok (.return_, 1) := by decide +kernel
theorem dX4_writeNode_7 : decode cX4_writeNode 7 = .ok (.aload_n 1, 1) := by decide +kernel
