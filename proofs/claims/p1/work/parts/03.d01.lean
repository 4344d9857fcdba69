theorem dX11_clear_47 : decode cX11_clear 47 = .ok (.iload_n 2, 1) := by decide +kernel
theorem dX11_clear_48 : decode cX11_clear 48 = .ok (.aaload, 1) := by decide +kernel
theorem dX11_clear_49 : decode cX11_clear 49 = .ok (.invokevirtual 109, 3) := by decide +kernel
theorem dX11_clear_52 : decode cX11_clear 52 = .ok (.aload_n 0, 1) := by decide +kernel
theorem dX11_clear_53 : decode cX11_clear 53 = .ok (.getfield 24, 3) := by decide +kernel
theorem dX11_clear_56 : decode cX11_clear 56 = .ok (.iload_n 2, 1) := by decide +kernel
theorem dX11_clear_57 : decode cX11_clear 57 = .ok (.aaload, 1) := by decide +kernel
theorem dX11_clear_58 : decode cX11_clear 58 = .ok (.iconst 0, 1) := by decide +kernel
theorem dX11_clear_59 : decode cX11_clear 59 = .ok (.putfield 205, 3) := by decide +kernel
theorem dX11_clear_62 : decode cX11_clear 62 = .ok (.iinc 2 1, 3) := by decide +kernel
theorem dX11_clear_65 : decode cX11_clear 65 = .ok (.goto (-31), 3) := by decide +kernel
theorem dX11_clear_68 : decode cX11_clear 68 = .ok (.aload_n 0, 1) := by decide +kernel
theorem dX11_clear_69 : decode cX11_clear 69 = .ok (.getfield 14, 3) := by decide +kernel
theorem dX11_clear_72 : decode cX11_clear 72 = .ok (.invokevirtual 109, 3) := by decide +kernel
theorem dX11_clear_75 : decode cX11_clear 75 = .ok (.aload_n 0, 1) := by decide +kernel
theorem dX11_clear_76 : decode cX11_clear 76 = .ok (.getfield 28, 3) := by decide +kernel
theorem dX11_clear_79 : decode cX11_clear 79 = .ok (.invokevirtual 109, 3) := by decide +kernel
theorem dX11_clear_82 : decode cX11_clear 82 = .ok (.aload_n 0, 1) := by decide +kernel
theorem dX11_clear_83 : decode cX11_clear 83 = .ok (.iconst 0, 1) := by decide +kernel
theorem dX11_clear_84 : decode cX11_clear 84 = .ok (.putfield 320, 3) := by decide +kernel
theorem dX11_clear_87 : decode cX11_clear 87 = .ok (.aload_n 0, 1) := by decide +kernel
theorem dX11_clear_88 : decode cX11_clear 88 = .ok (.getfield 37, 3) := by decide +kernel
theorem dX11_clear_91 : decode cX11_clear 91 = .ok (.invokevirtual 109, 3) := by decide +kernel
theorem dX11_clear_94 : decode cX11_clear 94 = .ok (.aload_n 0, 1) := by decide +kernel
theorem dX11_clear_95 : decode cX11_clear 95 = .ok (.iconst (-1), 1) := by decide +kernel
theorem dX11_clear_96 : decode cX11_clear 96 = .ok (.putfield 75, 3) := by decide +kernel
theorem dX11_clear_99 : decode cX11_clear 99 = .ok (.aload_n 0, 1) := by decide +kernel
theorem dX11_clear_100 : decode cX11_clear 100 = .ok (.iconst 0, 1) := by decide +kernel
theorem dX11_clear_101 : decode cX11_clear 101 = .ok (.putfield 146, 3) := by decide +kernel
theorem dX11_clear_104 : decode cX11_clear 104 = .ok (.aload_n 0, 1) := by decide +kernel
theorem dX11_clear_105 : decode cX11_clear 105 = .ok (.iconst 0, 1) := by decide +kernel
theorem dX11_clear_106 : decode cX11_clear 106 = .ok (.putfield 249, 3) := by decide +kernel
theorem dX11_clear_109 : decode cX11_clear 109 = .ok (.aload_n 0, 1) := by decide +kernel
theorem dX11_clear_110 : decode cX11_clear 110 = .ok (.invokevirtual 252, 3) := by decide +kernel
theorem dX11_clear_113 : decode cX11_clear 113 = .ok (.iload_n 1, 1) := by decide +kernel
theorem dX11_clear_114 : decode cX11_clear 114 = .ok (.ireturn, 1) := by decide +kernel
theorem dX11_compare_0 : decode cX11_compare 0 = .ok (.aload_n 0, 1) := by decide +kernel
theorem dX11_compare_1 : decode cX11_compare 1 = .ok (.iload_n 1, 1) := by decide +kernel
theorem dX11_compare_2 : decode cX11_compare 2 = .ok (.invokevirtual 128, 3) := by decide +kernel
theorem dX11_compare_5 : decode cX11_compare 5 = .ok (.astore_n 3, 1) := by decide +kernel
theorem dX11_compare_6 : decode cX11_compare 6 = .ok (.aload_n 3, 1) := by decide +kernel
theorem dX11_compare_7 : decode cX11_compare 7 = .ok (.ifnonnull 7, 3) := by decide +kernel
theorem dX11_compare_10 : decode cX11_compare 10 = .ok (.aconst_null, 1) := by decide +kernel
theorem dX11_compare_11 : decode cX11_compare 11 = .ok (.goto 8, 3) := by decide +kernel
theorem dX11_compare_19 : decode cX11_compare 19 = .ok (.astore 4, 2) := by decide +kernel
theorem dX11_compare_21 : decode cX11_compare 21 = .ok (.aload_n 3, 1) := by decide +kernel
theorem dX11_compare_22 : decode cX11_compare 22 = .ok (.ifnull 8, 3) := by decide +kernel
theorem dX11_compare_30 : decode cX11_compare 30 = .ok (.bipush (-2), 2) := by decide +kernel
theorem dX11_compare_32 : decode cX11_compare 32 = .ok (.ireturn, 1) := by decide +kernel
theorem dX11_dead_0 : decode cX11_dead 0 = .ok (.aload_n 0, 1) := by decide +kernel
theorem dX11_dead_1 : decode cX11_dead 1 = .ok (.iload_n 1, 1) := by decide +kernel
theorem dX11_dead_2 : decode cX11_dead 2 = .ok (.invokevirtual 128, 3) := by decide +kernel
theorem dX11_dead_5 : decode cX11_dead 5 = .ok (.astore_n 3, 1) := by decide +kernel
theorem dX11_dead_6 : decode cX11_dead 6 = .ok (.aload_n 3, 1) := by decide +kernel
theorem dX11_dead_7 : decode cX11_dead 7 = .ok (.ifnonnull 6, 3) := by decide +kernel
theorem dX11_dead_10 : decode cX11_dead 10 = .ok (.bipush (-2), 2) := by decide +kernel
theorem dX11_dead_12 : decode cX11_dead 12 = .ok (.ireturn, 1) := by decide +kernel
theorem dX11_drop_0 : decode cX11_drop 0 = .ok (.aload_n 0, 1) := by decide +kernel
theorem dX11_drop_1 : decode cX11_drop 1 = .ok (.iload_n 1, 1) := by decide +kernel
theorem dX11_drop_2 : decode cX11_drop 2 = .ok (.invokevirtual 209, 3) := by decide +kernel
theorem dX11_drop_5 : decode cX11_drop 5 = .ok (.astore_n 2, 1) := by decide +kernel
theorem dX11_drop_6 : decode cX11_drop 6 = .ok (.aload_n 2, 1) := by decide +kernel
theorem dX11_drop_7 : decode cX11_drop 7 = .ok (.ifnonnull 9, 3) := by decide +kernel
theorem dX11_drop_10 : decode cX11_drop 10 = .ok (.aload_n 0, 1) := by decide +kernel
theorem dX11_drop_11 : decode cX11_drop 11 = .ok (.iload_n 1, 1) := by decide +kernel
theorem dX11_drop_12 : decode cX11_drop 12 = .ok (.invokevirtual 213, 3) := by decide +kernel
theorem dX11_drop_15 : decode cX11_drop 15 = .ok (.ireturn, 1) := by decide +kernel
theorem dX11_endSearch_0 : decode cX11_endSearch 0 = .ok (.aload_n 0, 1) := by decide +kernel
theorem dX11_endSearch_1 : decode cX11_endSearch 1 = .ok (.iconst (-1), 1) := by decide +kernel
theorem dX11_endSearch_2 : decode cX11_endSearch 2 = .ok (.putfield 79, 3) := by decide +kernel
theorem dX11_endSearch_5 : decode cX11_endSearch 5 = .ok (.aload_n 0, 1) := by decide +kernel
theorem dX11_endSearch_6 : decode cX11_endSearch 6 = .ok (.iconst (-1), 1) := by decide +kernel
theorem dX11_endSearch_7 : decode cX11_endSearch 7 = .ok (.putfield 82, 3) := by decide +kernel
theorem dX11_endSearch_10 : decode cX11_endSearch 10 = .ok (.return_, 1) := by decide +kernel
theorem dX11_endSearchWithSlot_0 : decode cX11_endSearchWithSlot 0 = .ok (.aload_n 0, 1) := by decide +kernel
theorem dX11_endSearchWithSlot_1 : decode cX11_endSearchWithSlot 1 = .ok (.getfield 79, 3) := by decide +kernel
theorem dX11_endSearchWithSlot_4 : decode cX11_endSearchWithSlot 4 = .ok (.iload_n 1, 1) := by decide +kernel
theorem dX11_endSearchWithSlot_5 : decode cX11_endSearchWithSlot 5 = .ok (.if_icmp .ne 7, 3) := by decide +kernel
theorem dX11_endSearchWithSlot_12 : decode cX11_endSearchWithSlot 12 = .ok (.return_, 1) := by decide +kernel
theorem dX11_find_0 : decode cX11_find 0 = .ok (.aload_n 0, 1) := by decide +kernel
theorem dX11_find_1 : decode cX11_find 1 = .ok (.iload_n 1, 1) := by decide +kernel
theorem dX11_find_2 : decode cX11_find 2 = .ok (.invokevirtual 128, 3) := by decide +kernel
theorem dX11_find_5 : decode cX11_find 5 = .ok (.astore 6, 2) := by decide +kernel
theorem dX11_find_7 : decode cX11_find 7 = .ok (.aload 6, 2) := by decide +kernel
theorem dX11_find_9 : decode cX11_find 9 = .ok (.ifnonnull 6, 3) := by decide +kernel
theorem dX11_find_12 : decode cX11_find 12 = .ok (.bipush (-2), 2) := by decide +kernel
theorem dX11_find_14 : decode cX11_find 14 = .ok (.ireturn, 1) := by decide +kernel
theorem dX11_finding_0 : decode cX11_finding 0 = .ok (.aload_n 0, 1) := by decide +kernel
theorem dX11_finding_1 : decode cX11_finding 1 = .ok (.getfield 146, 3) := by decide +kernel
theorem dX11_finding_4 : decode cX11_finding 4 = .ok (.ireturn, 1) := by decide +kernel
theorem dX11_forget_0 : decode cX11_forget 0 = .ok (.aload_n 0, 1) := by decide +kernel
theorem dX11_forget_1 : decode cX11_forget 1 = .ok (.iload_n 1, 1) := by decide +kernel
theorem dX11_forget_2 : decode cX11_forget 2 = .ok (.invokevirtual 128, 3) := by decide +kernel
theorem dX11_forget_5 : decode cX11_forget 5 = .ok (.astore_n 2, 1) := by decide +kernel
theorem dX11_forget_6 : decode cX11_forget 6 = .ok (.aload_n 2, 1) := by decide +kernel
theorem dX11_forget_7 : decode cX11_forget 7 = .ok (.ifnonnull 6, 3) := by decide +kernel
theorem dX11_forget_10 : decode cX11_forget 10 = .ok (.bipush (-2), 2) := by decide +kernel
theorem dX11_forget_12 : decode cX11_forget 12 = .ok (.ireturn, 1) := by decide +kernel
theorem dX11_goOn_0 : decode cX11_goOn 0 = .ok (.iload_n 1, 1) := by decide +kernel
theorem dX11_goOn_1 : decode cX11_goOn 1 = .ok (.invokestatic 228, 3) := by decide +kernel
theorem dX11_goOn_4 : decode cX11_goOn 4 = .ok (.ifCond .ne 6, 3) := by decide +kernel
theorem dX11_goOn_7 : decode cX11_goOn 7 = .ok (.bipush (-4), 2) := by decide +kernel
theorem dX11_goOn_9 : decode cX11_goOn 9 = .ok (.ireturn, 1) := by decide +kernel
theorem dX11_goOn_10 : decode cX11_goOn 10 = .ok (.aload_n 0, 1) := by decide +kernel
theorem dX11_goOn_11 : decode cX11_goOn 11 = .ok (.getfield 79, 3) := by decide +kernel
theorem dX11_goOn_14 : decode cX11_goOn 14 = .ok (.iconst (-1), 1) := by decide +kernel
theorem dX11_goOn_15 : decode cX11_goOn 15 = .ok (.if_icmp .ne 6, 3) := by decide +kernel
theorem dX11_goOn_18 : decode cX11_goOn 18 = .ok (.bipush (-5), 2) := by decide +kernel
theorem dX11_goOn_20 : decode cX11_goOn 20 = .ok (.ireturn, 1) := by decide +kernel
theorem dX11_init_0 : decode cX11_init 0 = .ok (.aload_n 0, 1) := by decide +kernel
theorem dX11_init_1 : decode cX11_init 1 = .ok (.invokespecial 1, 3) := by decide +kernel
theorem dX11_init_4 : decode cX11_init 4 = .ok (.aload_n 0, 1) := by decide +kernel
theorem dX11_init_5 : decode cX11_init 5 = .ok (.new 7, 3) := by decide +kernel
theorem dX11_init_8 : decode cX11_init 8 = .ok (.dup, 1) := by decide +kernel
theorem dX11_init_9 : decode cX11_init 9 = .ok (.sipush 200, 3) := by decide +kernel
theorem dX11_init_12 : decode cX11_init 12 = .ok (.invokespecial 11, 3) := by decide +kernel
theorem dX11_init_15 : decode cX11_init 15 = .ok (.putfield 14, 3) := by decide +kernel
theorem dX11_init_18 : decode cX11_init 18 = .ok (.aload_n 0, 1) := by decide +kernel
theorem dX11_init_19 : decode cX11_init 19 = .ok (.bipush 6, 2) := by decide +kernel
theorem dX11_init_21 : decode cX11_init 21 = .ok (.anewarray 18, 3) := by decide +kernel
theorem dX11_init_24 : decode cX11_init 24 = .ok (.putfield 20, 3) := by decide +kernel
theorem dX11_init_27 : decode cX11_init 27 = .ok (.aload_n 0, 1) := by decide +kernel
theorem dX11_init_28 : decode cX11_init 28 = .ok (.iconst 4, 1) := by decide +kernel
theorem dX11_init_29 : decode cX11_init 29 = .ok (.anewarray 7, 3) := by decide +kernel
theorem dX11_init_32 : decode cX11_init 32 = .ok (.putfield 24, 3) := by decide +kernel
theorem dX11_init_35 : decode cX11_init 35 = .ok (.aload_n 0, 1) := by decide +kernel
theorem dX11_init_36 : decode cX11_init 36 = .ok (.new 7, 3) := by decide +kernel
theorem dX11_init_39 : decode cX11_init 39 = .ok (.dup, 1) := by decide +kernel
theorem dX11_init_40 : decode cX11_init 40 = .ok (.sipush 400, 3) := by decide +kernel
theorem dX11_init_43 : decode cX11_init 43 = .ok (.invokespecial 11, 3) := by decide +kernel
theorem dX11_init_46 : decode cX11_init 46 = .ok (.putfield 28, 3) := by decide +kernel
theorem dX11_init_49 : decode cX11_init 49 = .ok (.aload_n 0, 1) := by decide +kernel
theorem dX11_init_50 : decode cX11_init 50 = .ok (.new 7, 3) := by decide +kernel
theorem dX11_init_53 : decode cX11_init 53 = .ok (.dup, 1) := by decide +kernel
theorem dX11_init_54 : decode cX11_init 54 = .ok (.sipush 400, 3) := by decide +kernel
theorem dX11_init_57 : decode cX11_init 57 = .ok (.invokespecial 11, 3) := by decide +kernel
theorem dX11_init_60 : decode cX11_init 60 = .ok (.putfield 31, 3) := by decide +kernel
theorem dX11_init_63 : decode cX11_init 63 = .ok (.aload_n 0, 1) := by decide +kernel
theorem dX11_init_64 : decode cX11_init 64 = .ok (.new 7, 3) := by decide +kernel
theorem dX11_init_67 : decode cX11_init 67 = .ok (.dup, 1) := by decide +kernel
theorem dX11_init_68 : decode cX11_init 68 = .ok (.bipush 20, 2) := by decide +kernel
theorem dX11_init_70 : decode cX11_init 70 = .ok (.invokespecial 11, 3) := by decide +kernel
theorem dX11_init_73 : decode cX11_init 73 = .ok (.putfield 34, 3) := by decide +kernel
theorem dX11_init_76 : decode cX11_init 76 = .ok (.aload_n 0, 1) := by decide +kernel
theorem dX11_init_77 : decode cX11_init 77 = .ok (.new 7, 3) := by decide +kernel
theorem dX11_init_80 : decode cX11_init 80 = .ok (.dup, 1) := by decide +kernel
theorem dX11_init_81 : decode cX11_init 81 = .ok (.bipush 20, 2) := by decide +kernel
theorem dX11_init_83 : decode cX11_init 83 = .ok (.invokespecial 11, 3) := by decide +kernel
theorem dX11_init_86 : decode cX11_init 86 = .ok (.putfield 37, 3) := by decide +kernel
theorem dX11_init_89 : decode cX11_init 89 = .ok (.aload_n 0, 1) := by decide +kernel
theorem dX11_init_90 : decode cX11_init 90 = .ok (.new 40, 3) := by decide +kernel
theorem dX11_init_93 : decode cX11_init 93 = .ok (.dup, 1) := by decide +kernel
theorem dX11_init_94 : decode cX11_init 94 = .ok (.invokespecial 42, 3) := by decide +kernel
theorem dX11_init_97 : decode cX11_init 97 = .ok (.putfield 43, 3) := by decide +kernel
theorem dX11_init_100 : decode cX11_init 100 = .ok (.aload_n 0, 1) := by decide +kernel
theorem dX11_init_101 : decode cX11_init 101 = .ok (.new 47, 3) := by decide +kernel
theorem dX11_init_104 : decode cX11_init 104 = .ok (.dup, 1) := by decide +kernel
theorem dX11_init_105 : decode cX11_init 105 = .ok (.invokespecial 49, 3) := by decide +kernel
theorem dX11_init_108 : decode cX11_init 108 = .ok (.putfield 50, 3) := by decide +kernel
theorem dX11_init_111 : decode cX11_init 111 = .ok (.aload_n 0, 1) := by decide +kernel
theorem dX11_init_112 : decode cX11_init 112 = .ok (.new 54, 3) := by decide +kernel
theorem dX11_init_115 : decode cX11_init 115 = .ok (.dup, 1) := by decide +kernel
theorem dX11_init_116 : decode cX11_init 116 = .ok (.invokespecial 56, 3) := by decide +kernel
theorem dX11_init_119 : decode cX11_init 119 = .ok (.putfield 57, 3) := by decide +kernel
theorem dX11_init_122 : decode cX11_init 122 = .ok (.aload_n 0, 1) := by decide +kernel
theorem dX11_init_123 : decode cX11_init 123 = .ok (.new 61, 3) := by decide +kernel
theorem dX11_init_126 : decode cX11_init 126 = .ok (.dup, 1) := by decide +kernel
theorem dX11_init_127 : decode cX11_init 127 = .ok (.invokespecial 63, 3) := by decide +kernel
theorem dX11_init_130 : decode cX11_init 130 = .ok (.putfield 64, 3) := by decide +kernel
theorem dX11_init_133 : decode cX11_init 133 = .ok (.aload_n 0, 1) := by decide +kernel
theorem dX11_init_134 : decode cX11_init 134 = .ok (.new 68, 3) := by decide +kernel
theorem dX11_init_137 : decode cX11_init 137 = .ok (.dup, 1) := by decide +kernel
theorem dX11_init_138 : decode cX11_init 138 = .ok (.invokespecial 70, 3) := by decide +kernel
theorem dX11_init_141 : decode cX11_init 141 = .ok (.putfield 71, 3) := by decide +kernel
theorem dX11_init_144 : decode cX11_init 144 = .ok (.aload_n 0, 1) := by decide +kernel
theorem dX11_init_145 : decode cX11_init 145 = .ok (.iconst (-1), 1) := by decide +kernel
theorem dX11_init_146 : decode cX11_init 146 = .ok (.putfield 75, 3) := by decide +kernel
theorem dX11_init_149 : decode cX11_init 149 = .ok (.aload_n 0, 1) := by decide +kernel
theorem dX11_init_150 : decode cX11_init 150 = .ok (.iconst (-1), 1) := by decide +kernel
theorem dX11_init_151 : decode cX11_init 151 = .ok (.putfield 79, 3) := by decide +kernel
theorem dX11_init_154 : decode cX11_init 154 = .ok (.aload_n 0, 1) := by decide +kernel
theorem dX11_init_155 : decode cX11_init 155 = .ok (.iconst (-1), 1) := by decide +kernel
theorem dX11_init_156 : decode cX11_init 156 = .ok (.putfield 82, 3) := by decide +kernel
theorem dX11_init_159 : decode cX11_init 159 = .ok (.iconst 0, 1) := by decide +kernel
theorem dX11_init_160 : decode cX11_init 160 = .ok (.istore_n 1, 1) := by decide +kernel
theorem dX11_init_161 : decode cX11_init 161 = .ok (.iload_n 1, 1) := by decide +kernel
theorem dX11_init_162 : decode cX11_init 162 = .ok (.aload_n 0, 1) := by decide +kernel
theorem dX11_init_163 : decode cX11_init 163 = .ok (.getfield 20, 3) := by decide +kernel
theorem dX11_init_166 : decode cX11_init 166 = .ok (.arraylength, 1) := by decide +kernel
theorem dX11_init_167 : decode cX11_init 167 = .ok (.if_icmp .ge 28, 3) := by decide +kernel
theorem dX11_init_170 : decode cX11_init 170 = .ok (.aload_n 0, 1) := by decide +kernel
theorem dX11_init_171 : decode cX11_init 171 = .ok (.getfield 20, 3) := by decide +kernel
theorem dX11_init_174 : decode cX11_init 174 = .ok (.iload_n 1, 1) := by decide +kernel
theorem dX11_init_175 : decode cX11_init 175 = .ok (.new 18, 3) := by decide +kernel
theorem dX11_init_178 : decode cX11_init 178 = .ok (.dup, 1) := by decide +kernel
theorem dX11_init_179 : decode cX11_init 179 = .ok (.sipush 256, 3) := by decide +kernel
theorem dX11_init_182 : decode cX11_init 182 = .ok (.sipush 512, 3) := by decide +kernel
theorem dX11_init_185 : decode cX11_init 185 = .ok (.invokespecial 85, 3) := by decide +kernel
theorem dX11_init_188 : decode cX11_init 188 = .ok (.aastore, 1) := by decide +kernel
theorem dX11_init_189 : decode cX11_init 189 = .ok (.iinc 1 1, 3) := by decide +kernel
theorem dX11_init_192 : decode cX11_init 192 = .ok (.goto (-31), 3) := by decide +kernel
theorem dX11_init_195 : decode cX11_init 195 = .ok (.iconst 0, 1) := by decide +kernel
theorem dX11_init_196 : decode cX11_init 196 = .ok (.istore_n 1, 1) := by decide +kernel
theorem dX11_init_197 : decode cX11_init 197 = .ok (.iload_n 1, 1) := by decide +kernel
theorem dX11_init_198 : decode cX11_init 198 = .ok (.aload_n 0, 1) := by decide +kernel
theorem dX11_init_199 : decode cX11_init 199 = .ok (.getfield 24, 3) := by decide +kernel
theorem dX11_init_202 : decode cX11_init 202 = .ok (.arraylength, 1) := by decide +kernel
theorem dX11_init_203 : decode cX11_init 203 = .ok (.if_icmp .ge 24, 3) := by decide +kernel
theorem dX11_init_206 : decode cX11_init 206 = .ok (.aload_n 0, 1) := by decide +kernel
theorem dX11_init_207 : decode cX11_init 207 = .ok (.getfield 24, 3) := by decide +kernel
theorem dX11_init_210 : decode cX11_init 210 = .ok (.iload_n 1, 1) := by decide +kernel
theorem dX11_init_211 : decode cX11_init 211 = .ok (.new 7, 3) := by decide +kernel
theorem dX11_init_214 : decode cX11_init 214 = .ok (.dup, 1) := by decide +kernel
theorem dX11_init_215 : decode cX11_init 215 = .ok (.bipush 100, 2) := by decide +kernel
theorem dX11_init_217 : decode cX11_init 217 = .ok (.invokespecial 11, 3) := by decide +kernel
theorem dX11_init_220 : decode cX11_init 220 = .ok (.aastore, 1) := by decide +kernel
theorem dX11_init_221 : decode cX11_init 221 = .ok (.iinc 1 1, 3) := by decide +kernel
theorem dX11_init_224 : decode cX11_init 224 = .ok (.goto (-27), 3) := by decide +kernel
theorem dX11_init_227 : decode cX11_init 227 = .ok (.return_, 1) := by decide +kernel
theorem dX11_isSlot_0 : decode cX11_isSlot 0 = .ok (.iload_n 0, 1) := by decide +kernel
theorem dX11_isSlot_1 : decode cX11_isSlot 1 = .ok (.ifCond .lt 13, 3) := by decide +kernel
theorem dX11_isSlot_4 : decode cX11_isSlot 4 = .ok (.iload_n 0, 1) := by decide +kernel
theorem dX11_isSlot_5 : decode cX11_isSlot 5 = .ok (.bipush 6, 2) := by decide +kernel
theorem dX11_isSlot_7 : decode cX11_isSlot 7 = .ok (.if_icmp .ge 7, 3) := by decide +kernel
theorem dX11_isSlot_10 : decode cX11_isSlot 10 = .ok (.iconst 1, 1) := by decide +kernel
theorem dX11_isSlot_11 : decode cX11_isSlot 11 = .ok (.goto 4, 3) := by decide +kernel
theorem dX11_isSlot_14 : decode cX11_isSlot 14 = .ok (.iconst 0, 1) := by decide +kernel
theorem dX11_isSlot_15 : decode cX11_isSlot 15 = .ok (.ireturn, 1) := by decide +kernel
theorem dX11_isStepCount_0 : decode cX11_isStepCount 0 = .ok (.iload_n 0, 1) := by decide +kernel
theorem dX11_isStepCount_1 : decode cX11_isStepCount 1 = .ok (.iconst 1, 1) := by decide +kernel
theorem dX11_isStepCount_2 : decode cX11_isStepCount 2 = .ok (.if_icmp .lt 14, 3) := by decide +kernel
theorem dX11_isStepCount_5 : decode cX11_isStepCount 5 = .ok (.iload_n 0, 1) := by decide +kernel
theorem dX11_isStepCount_6 : decode cX11_isStepCount 6 = .ok (.sipush 3000, 3) := by decide +kernel
theorem dX11_isStepCount_9 : decode cX11_isStepCount 9 = .ok (.if_icmp .gt 7, 3) := by decide +kernel
theorem dX11_isStepCount_12 : decode cX11_isStepCount 12 = .ok (.iconst 1, 1) := by decide +kernel
theorem dX11_isStepCount_13 : decode cX11_isStepCount 13 = .ok (.goto 4, 3) := by decide +kernel
theorem dX11_isStepCount_16 : decode cX11_isStepCount 16 = .ok (.iconst 0, 1) := by decide +kernel
theorem dX11_isStepCount_17 : decode cX11_isStepCount 17 = .ok (.ireturn, 1) := by decide +kernel
theorem dX11_isSubject_0 : decode cX11_isSubject 0 = .ok (.iload_n 0, 1) := by decide +kernel
theorem dX11_isSubject_1 : decode cX11_isSubject 1 = .ok (.ifCond .lt 12, 3) := by decide +kernel
theorem dX11_isSubject_4 : decode cX11_isSubject 4 = .ok (.iload_n 0, 1) := by decide +kernel
theorem dX11_isSubject_5 : decode cX11_isSubject 5 = .ok (.iconst 4, 1) := by decide +kernel
theorem dX11_isSubject_6 : decode cX11_isSubject 6 = .ok (.if_icmp .ge 7, 3) := by decide +kernel
theorem dX11_isSubject_9 : decode cX11_isSubject 9 = .ok (.iconst 1, 1) := by decide +kernel
theorem dX11_isSubject_10 : decode cX11_isSubject 10 = .ok (.goto 4, 3) := by decide +kernel
theorem dX11_isSubject_13 : decode cX11_isSubject 13 = .ok (.iconst 0, 1) := by decide +kernel
theorem dX11_isSubject_14 : decode cX11_isSubject 14 = .ok (.ireturn, 1) := by decide +kernel
theorem dX11_least_0 : decode cX11_least 0 = .ok (.aload_n 0, 1) := by decide +kernel
theorem dX11_least_1 : decode cX11_least 1 = .ok (.iload_n 1, 1) := by decide +kernel
theorem dX11_least_2 : decode cX11_least 2 = .ok (.invokevirtual 128, 3) := by decide +kernel
theorem dX11_least_5 : decode cX11_least 5 = .ok (.astore_n 2, 1) := by decide +kernel
theorem dX11_least_6 : decode cX11_least 6 = .ok (.aload_n 2, 1) := by decide +kernel
theorem dX11_least_7 : decode cX11_least 7 = .ok (.ifnonnull 6, 3) := by decide +kernel
theorem dX11_least_10 : decode cX11_least 10 = .ok (.bipush (-2), 2) := by decide +kernel
theorem dX11_least_12 : decode cX11_least 12 = .ok (.ireturn, 1) := by decide +kernel
theorem dX11_named_0 : decode cX11_named 0 = .ok (.aload_n 0, 1) := by decide +kernel
theorem dX11_named_1 : decode cX11_named 1 = .ok (.iload_n 1, 1) := by decide +kernel
theorem dX11_named_2 : decode cX11_named 2 = .ok (.invokevirtual 128, 3) := by decide +kernel
theorem dX11_named_5 : decode cX11_named 5 = .ok (.astore_n 3, 1) := by decide +kernel
theorem dX11_named_6 : decode cX11_named 6 = .ok (.aload_n 3, 1) := by decide +kernel
theorem dX11_named_7 : decode cX11_named 7 = .ok (.ifnonnull 6, 3) := by decide +kernel
theorem dX11_named_10 : decode cX11_named 10 = .ok (.bipush (-2), 2) := by decide +kernel
theorem dX11_named_12 : decode cX11_named 12 = .ok (.ireturn, 1) := by decide +kernel
theorem dX11_node_0 : decode cX11_node 0 = .ok (.aload_n 0, 1) := by decide +kernel
theorem dX11_node_1 : decode cX11_node 1 = .ok (.iload_n 1, 1) := by decide +kernel
theorem dX11_node_2 : decode cX11_node 2 = .ok (.invokevirtual 128, 3) := by decide +kernel
theorem dX11_node_5 : decode cX11_node 5 = .ok (.astore 4, 2) := by decide +kernel
theorem dX11_node_7 : decode cX11_node 7 = .ok (.aload 4, 2) := by decide +kernel
theorem dX11_node_9 : decode cX11_node 9 = .ok (.ifnonnull 6, 3) := by decide +kernel
theorem dX11_node_12 : decode cX11_node 12 = .ok (.bipush (-2), 2) := by decide +kernel
theorem dX11_node_14 : decode cX11_node 14 = .ok (.ireturn, 1) := by decide +kernel
theorem dX11_part_0 : decode cX11_part 0 = .ok (.aload_n 0, 1) := by decide +kernel
theorem dX11_part_1 : decode cX11_part 1 = .ok (.iload_n 1, 1) := by decide +kernel
theorem dX11_part_2 : decode cX11_part 2 = .ok (.invokevirtual 128, 3) := by decide +kernel
theorem dX11_part_5 : decode cX11_part 5 = .ok (.astore 5, 2) := by decide +kernel
theorem dX11_part_7 : decode cX11_part 7 = .ok (.aload 5, 2) := by decide +kernel
theorem dX11_part_9 : decode cX11_part 9 = .ok (.ifnonnull 6, 3) := by decide +kernel
theorem dX11_part_12 : decode cX11_part 12 = .ok (.bipush (-2), 2) := by decide +kernel
theorem dX11_part_14 : decode cX11_part 14 = .ok (.ireturn, 1) := by decide +kernel
theorem dX11_parting_0 : decode cX11_parting 0 = .ok (.aload_n 0, 1) := by decide +kernel
theorem dX11_parting_1 : decode cX11_parting 1 = .ok (.iload_n 1, 1) := by decide +kernel
theorem dX11_parting_2 : decode cX11_parting 2 = .ok (.invokevirtual 128, 3) := by decide +kernel
theorem dX11_parting_5 : decode cX11_parting 5 = .ok (.astore_n 3, 1) := by decide +kernel
theorem dX11_parting_6 : decode cX11_parting 6 = .ok (.aload_n 3, 1) := by decide +kernel
theorem dX11_parting_7 : decode cX11_parting 7 = .ok (.ifnonnull 7, 3) := by decide +kernel
theorem dX11_parting_10 : decode cX11_parting 10 = .ok (.aconst_null, 1) := by decide +kernel
theorem dX11_parting_11 : decode cX11_parting 11 = .ok (.goto 8, 3) := by decide +kernel
theorem dX11_parting_19 : decode cX11_parting 19 = .ok (.astore 4, 2) := by decide +kernel
theorem dX11_parting_21 : decode cX11_parting 21 = .ok (.aload_n 3, 1) := by decide +kernel
theorem dX11_parting_22 : decode cX11_parting 22 = .ok (.ifnull 8, 3) := by decide +kernel
theorem dX11_parting_30 : decode cX11_parting 30 = .ok (.bipush (-2), 2) := by decide +kernel
theorem dX11_parting_32 : decode cX11_parting 32 = .ok (.ireturn, 1) := by decide +kernel
theorem dX11_pattern_0 : decode cX11_pattern 0 = .ok (.iload_n 1, 1) := by decide +kernel
theorem dX11_pattern_1 : decode cX11_pattern 1 = .ok (.invokestatic 102, 3) := by decide +kernel
theorem dX11_pattern_4 : decode cX11_pattern 4 = .ok (.ifCond .ne 6, 3) := by decide +kernel
theorem dX11_pattern_7 : decode cX11_pattern 7 = .ok (.bipush (-2), 2) := by decide +kernel
theorem dX11_pattern_9 : decode cX11_pattern 9 = .ok (.ireturn, 1) := by decide +kernel
theorem dX11_pattern_10 : decode cX11_pattern 10 = .ok (.aload_n 0, 1) := by decide +kernel
theorem dX11_pattern_11 : decode cX11_pattern 11 = .ok (.getfield 43, 3) := by decide +kernel
theorem dX11_pattern_14 : decode cX11_pattern 14 = .ok (.aload_n 0, 1) := by decide +kernel
theorem dX11_pattern_15 : decode cX11_pattern 15 = .ok (.getfield 14, 3) := by decide +kernel
theorem dX11_pattern_18 : decode cX11_pattern 18 = .ok (.invokevirtual 105, 3) := by decide +kernel
theorem dX11_pattern_21 : decode cX11_pattern 21 = .ok (.istore_n 2, 1) := by decide +kernel
theorem dX11_pattern_22 : decode cX11_pattern 22 = .ok (.aload_n 0, 1) := by decide +kernel
theorem dX11_pattern_23 : decode cX11_pattern 23 = .ok (.getfield 14, 3) := by decide +kernel
theorem dX11_pattern_26 : decode cX11_pattern 26 = .ok (.invokevirtual 109, 3) := by decide +kernel
theorem dX11_pattern_29 : decode cX11_pattern 29 = .ok (.aload_n 0, 1) := by decide +kernel
theorem dX11_pattern_30 : decode cX11_pattern 30 = .ok (.aload_n 0, 1) := by decide +kernel
theorem dX11_pattern_31 : decode cX11_pattern 31 = .ok (.getfield 43, 3) := by decide +kernel
theorem dX11_pattern_34 : decode cX11_pattern 34 = .ok (.getfield 112, 3) := by decide +kernel
theorem dX11_pattern_37 : decode cX11_pattern 37 = .ok (.putfield 75, 3) := by decide +kernel
theorem dX11_pattern_40 : decode cX11_pattern 40 = .ok (.iload_n 2, 1) := by decide +kernel
theorem dX11_pattern_41 : decode cX11_pattern 41 = .ok (.ifCond .ne 14, 3) := by decide +kernel
theorem dX11_pattern_55 : decode cX11_pattern 55 = .ok (.aload_n 0, 1) := by decide +kernel
theorem dX11_pattern_56 : decode cX11_pattern 56 = .ok (.getfield 20, 3) := by decide +kernel
theorem dX11_pattern_59 : decode cX11_pattern 59 = .ok (.iload_n 1, 1) := by decide +kernel
theorem dX11_pattern_60 : decode cX11_pattern 60 = .ok (.aload_n 0, 1) := by decide +kernel
theorem dX11_pattern_61 : decode cX11_pattern 61 = .ok (.getfield 43, 3) := by decide +kernel
theorem dX11_pattern_64 : decode cX11_pattern 64 = .ok (.aload_n 0, 1) := by decide +kernel
theorem dX11_pattern_65 : decode cX11_pattern 65 = .ok (.getfield 20, 3) := by decide +kernel
theorem dX11_pattern_68 : decode cX11_pattern 68 = .ok (.iload_n 1, 1) := by decide +kernel
theorem dX11_pattern_69 : decode cX11_pattern 69 = .ok (.aaload, 1) := by decide +kernel
theorem dX11_pattern_70 : decode cX11_pattern 70 = .ok (.invokevirtual 116, 3) := by decide +kernel
theorem dX11_pattern_73 : decode cX11_pattern 73 = .ok (.aastore, 1) := by decide +kernel
theorem dX11_pattern_74 : decode cX11_pattern 74 = .ok (.aload_n 0, 1) := by decide +kernel
theorem dX11_pattern_75 : decode cX11_pattern 75 = .ok (.getfield 20, 3) := by decide +kernel
theorem dX11_pattern_78 : decode cX11_pattern 78 = .ok (.iload_n 1, 1) := by decide +kernel
theorem dX11_pattern_79 : decode cX11_pattern 79 = .ok (.aaload, 1) := by decide +kernel
theorem dX11_pattern_80 : decode cX11_pattern 80 = .ok (.iconst 1, 1) := by decide +kernel
theorem dX11_pattern_81 : decode cX11_pattern 81 = .ok (.putfield 120, 3) := by decide +kernel
theorem dX11_pattern_84 : decode cX11_pattern 84 = .ok (.aload_n 0, 1) := by decide +kernel
theorem dX11_pattern_85 : decode cX11_pattern 85 = .ok (.iload_n 1, 1) := by decide +kernel
theorem dX11_pattern_86 : decode cX11_pattern 86 = .ok (.invokevirtual 124, 3) := by decide +kernel
theorem dX11_pattern_89 : decode cX11_pattern 89 = .ok (.aload_n 0, 1) := by decide +kernel
theorem dX11_pattern_90 : decode cX11_pattern 90 = .ok (.getfield 20, 3) := by decide +kernel
theorem dX11_pattern_93 : decode cX11_pattern 93 = .ok (.iload_n 1, 1) := by decide +kernel
theorem dX11_pattern_94 : decode cX11_pattern 94 = .ok (.aaload, 1) := by decide +kernel
theorem dX11_pattern_95 : decode cX11_pattern 95 = .ok (.getfield 127, 3) := by decide +kernel
theorem dX11_pattern_98 : decode cX11_pattern 98 = .ok (.ireturn, 1) := by decide +kernel
theorem dX11_patternIn_0 : decode cX11_patternIn 0 = .ok (.iload_n 1, 1) := by decide +kernel
theorem dX11_patternIn_1 : decode cX11_patternIn 1 = .ok (.invokestatic 102, 3) := by decide +kernel
theorem dX11_patternIn_4 : decode cX11_patternIn 4 = .ok (.ifCond .ne 5, 3) := by decide +kernel
theorem dX11_patternIn_7 : decode cX11_patternIn 7 = .ok (.aconst_null, 1) := by decide +kernel
theorem dX11_patternIn_8 : decode cX11_patternIn 8 = .ok (.areturn, 1) := by decide +kernel
theorem dX11_patternIn_9 : decode cX11_patternIn 9 = .ok (.aload_n 0, 1) := by decide +kernel
theorem dX11_patternIn_10 : decode cX11_patternIn 10 = .ok (.getfield 20, 3) := by decide +kernel
theorem dX11_patternIn_13 : decode cX11_patternIn 13 = .ok (.iload_n 1, 1) := by decide +kernel
theorem dX11_patternIn_14 : decode cX11_patternIn 14 = .ok (.aaload, 1) := by decide +kernel
theorem dX11_patternIn_15 : decode cX11_patternIn 15 = .ok (.getfield 120, 3) := by decide +kernel
theorem dX11_patternIn_18 : decode cX11_patternIn 18 = .ok (.ifCond .ne 10, 3) := by decide +kernel
theorem dX11_patternIn_21 : decode cX11_patternIn 21 = .ok (.aload_n 0, 1) := by decide +kernel
theorem dX11_patternIn_22 : decode cX11_patternIn 22 = .ok (.iconst 2, 1) := by decide +kernel
theorem dX11_patternIn_23 : decode cX11_patternIn 23 = .ok (.putfield 146, 3) := by decide +kernel
theorem dX11_patternIn_26 : decode cX11_patternIn 26 = .ok (.aconst_null, 1) := by decide +kernel
theorem dX11_patternIn_27 : decode cX11_patternIn 27 = .ok (.areturn, 1) := by decide +kernel
theorem dX11_patternsThere_0 : decode cX11_patternsThere 0 = .ok (.iconst 0, 1) := by decide +kernel
theorem dX11_patternsThere_1 : decode cX11_patternsThere 1 = .ok (.istore_n 1, 1) := by decide +kernel
theorem dX11_patternsThere_2 : decode cX11_patternsThere 2 = .ok (.iconst 0, 1) := by decide +kernel
theorem dX11_patternsThere_3 : decode cX11_patternsThere 3 = .ok (.istore_n 2, 1) := by decide +kernel
theorem dX11_patternsThere_4 : decode cX11_patternsThere 4 = .ok (.iload_n 2, 1) := by decide +kernel
theorem dX11_patternsThere_5 : decode cX11_patternsThere 5 = .ok (.aload_n 0, 1) := by decide +kernel
theorem dX11_patternsThere_6 : decode cX11_patternsThere 6 = .ok (.getfield 20, 3) := by decide +kernel
theorem dX11_patternsThere_9 : decode cX11_patternsThere 9 = .ok (.arraylength, 1) := by decide +kernel
theorem dX11_patternsThere_10 : decode cX11_patternsThere 10 = .ok (.if_icmp .ge 29, 3) := by decide +kernel
theorem dX11_patternsThere_13 : decode cX11_patternsThere 13 = .ok (.iload_n 1, 1) := by decide +kernel
theorem dX11_patternsThere_14 : decode cX11_patternsThere 14 = .ok (.aload_n 0, 1) := by decide +kernel
theorem dX11_patternsThere_15 : decode cX11_patternsThere 15 = .ok (.getfield 20, 3) := by decide +kernel
theorem dX11_patternsThere_18 : decode cX11_patternsThere 18 = .ok (.iload_n 2, 1) := by decide +kernel
theorem dX11_patternsThere_19 : decode cX11_patternsThere 19 = .ok (.aaload, 1) := by decide +kernel
theorem dX11_patternsThere_20 : decode cX11_patternsThere 20 = .ok (.getfield 120, 3) := by decide +kernel
theorem dX11_patternsThere_23 : decode cX11_patternsThere 23 = .ok (.ifCond .eq 7, 3) := by decide +kernel
theorem dX11_patternsThere_30 : decode cX11_patternsThere 30 = .ok (.iconst 0, 1) := by decide +kernel
theorem dX11_patternsThere_31 : decode cX11_patternsThere 31 = .ok (.iadd, 1) := by decide +kernel
theorem dX11_patternsThere_32 : decode cX11_patternsThere 32 = .ok (.istore_n 1, 1) := by decide +kernel
theorem dX11_patternsThere_33 : decode cX11_patternsThere 33 = .ok (.iinc 2 1, 3) := by decide +kernel
theorem dX11_patternsThere_36 : decode cX11_patternsThere 36 = .ok (.goto (-32), 3) := by decide +kernel
theorem dX11_patternsThere_39 : decode cX11_patternsThere 39 = .ok (.iload_n 1, 1) := by decide +kernel
theorem dX11_patternsThere_40 : decode cX11_patternsThere 40 = .ok (.ireturn, 1) := by decide +kernel
theorem dX11_place_0 : decode cX11_place 0 = .ok (.aload_n 0, 1) := by decide +kernel
theorem dX11_place_1 : decode cX11_place 1 = .ok (.getfield 75, 3) := by decide +kernel
theorem dX11_place_4 : decode cX11_place 4 = .ok (.ireturn, 1) := by decide +kernel
theorem dX11_prefix_0 : decode cX11_prefix 0 = .ok (.aload_n 0, 1) := by decide +kernel
theorem dX11_prefix_1 : decode cX11_prefix 1 = .ok (.iload_n 1, 1) := by decide +kernel
theorem dX11_prefix_2 : decode cX11_prefix 2 = .ok (.invokevirtual 128, 3) := by decide +kernel
theorem dX11_prefix_5 : decode cX11_prefix 5 = .ok (.astore 4, 2) := by decide +kernel
theorem dX11_prefix_7 : decode cX11_prefix 7 = .ok (.aload 4, 2) := by decide +kernel
theorem dX11_prefix_9 : decode cX11_prefix 9 = .ok (.ifnonnull 6, 3) := by decide +kernel
theorem dX11_prefix_12 : decode cX11_prefix 12 = .ok (.bipush (-2), 2) := by decide +kernel
theorem dX11_prefix_14 : decode cX11_prefix 14 = .ok (.ireturn, 1) := by decide +kernel
theorem dX11_print_0 : decode cX11_print 0 = .ok (.aload_n 0, 1) := by decide +kernel
theorem dX11_print_1 : decode cX11_print 1 = .ok (.iload_n 1, 1) := by decide +kernel
theorem dX11_print_2 : decode cX11_print 2 = .ok (.invokevirtual 128, 3) := by decide +kernel
theorem dX11_print_5 : decode cX11_print 5 = .ok (.astore_n 2, 1) := by decide +kernel
theorem dX11_print_6 : decode cX11_print 6 = .ok (.aload_n 2, 1) := by decide +kernel
theorem dX11_print_7 : decode cX11_print 7 = .ok (.ifnonnull 6, 3) := by decide +kernel
theorem dX11_print_10 : decode cX11_print 10 = .ok (.bipush (-2), 2) := by decide +kernel
theorem dX11_print_12 : decode cX11_print 12 = .ok (.ireturn, 1) := by decide +kernel
theorem dX11_refusalOfSubject_0 : decode cX11_refusalOfSubject 0 = .ok (.iload_n 1, 1) := by decide +kernel
theorem dX11_refusalOfSubject_1 : decode cX11_refusalOfSubject 1 = .ok (.invokestatic 202, 3) := by decide +kernel
theorem dX11_refusalOfSubject_4 : decode cX11_refusalOfSubject 4 = .ok (.ifCond .ne 6, 3) := by decide +kernel
