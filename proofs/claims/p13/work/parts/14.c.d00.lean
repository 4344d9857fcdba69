theorem dX11_all_0 : decode cX11_all 0 = .ok (.aload_n 0, 1) := by decide +kernel
theorem dX11_all_1 : decode cX11_all 1 = .ok (.iload_n 1, 1) := by decide +kernel
theorem dX11_all_2 : decode cX11_all 2 = .ok (.invokevirtual 128, 3) := by decide +kernel
theorem dX11_all_5 : decode cX11_all 5 = .ok (.astore 4, 2) := by decide +kernel
theorem dX11_all_7 : decode cX11_all 7 = .ok (.aload 4, 2) := by decide +kernel
theorem dX11_all_9 : decode cX11_all 9 = .ok (.ifnonnull 6, 3) := by decide +kernel
theorem dX11_all_12 : decode cX11_all 12 = .ok (.bipush (-2), 2) := by decide +kernel
theorem dX11_all_14 : decode cX11_all 14 = .ok (.ireturn, 1) := by decide +kernel
theorem dX11_all_15 : decode cX11_all 15 = .ok (.aload_n 0, 1) := by decide +kernel
theorem dX11_all_16 : decode cX11_all 16 = .ok (.iload_n 2, 1) := by decide +kernel
theorem dX11_all_17 : decode cX11_all 17 = .ok (.invokevirtual 209, 3) := by decide +kernel
theorem dX11_all_20 : decode cX11_all 20 = .ok (.astore 5, 2) := by decide +kernel
theorem dX11_all_22 : decode cX11_all 22 = .ok (.aload 5, 2) := by decide +kernel
theorem dX11_all_24 : decode cX11_all 24 = .ok (.ifnonnull 9, 3) := by decide +kernel
theorem dX11_all_27 : decode cX11_all 27 = .ok (.aload_n 0, 1) := by decide +kernel
theorem dX11_all_28 : decode cX11_all 28 = .ok (.iload_n 2, 1) := by decide +kernel
theorem dX11_all_29 : decode cX11_all 29 = .ok (.invokevirtual 213, 3) := by decide +kernel
theorem dX11_all_32 : decode cX11_all 32 = .ok (.ireturn, 1) := by decide +kernel
theorem dX11_all_33 : decode cX11_all 33 = .ok (.iload_n 3, 1) := by decide +kernel
theorem dX11_all_34 : decode cX11_all 34 = .ok (.invokestatic 225, 3) := by decide +kernel
theorem dX11_all_37 : decode cX11_all 37 = .ok (.ifCond .ne 6, 3) := by decide +kernel
theorem dX11_all_40 : decode cX11_all 40 = .ok (.bipush (-4), 2) := by decide +kernel
theorem dX11_all_42 : decode cX11_all 42 = .ok (.ireturn, 1) := by decide +kernel
theorem dX11_all_43 : decode cX11_all 43 = .ok (.aload 4, 2) := by decide +kernel
theorem dX11_all_45 : decode cX11_all 45 = .ok (.iload_n 3, 1) := by decide +kernel
theorem dX11_all_46 : decode cX11_all 46 = .ok (.invokestatic 231, 3) := by decide +kernel
theorem dX11_all_49 : decode cX11_all 49 = .ok (.istore 6, 2) := by decide +kernel
theorem dX11_all_51 : decode cX11_all 51 = .ok (.iload 6, 2) := by decide +kernel
theorem dX11_all_53 : decode cX11_all 53 = .ok (.ifCond .eq 6, 3) := by decide +kernel
theorem dX11_all_56 : decode cX11_all 56 = .ok (.iload 6, 2) := by decide +kernel
theorem dX11_all_58 : decode cX11_all 58 = .ok (.ireturn, 1) := by decide +kernel
theorem dX11_all_59 : decode cX11_all 59 = .ok (.aload_n 0, 1) := by decide +kernel
theorem dX11_all_60 : decode cX11_all 60 = .ok (.aload 4, 2) := by decide +kernel
theorem dX11_all_62 : decode cX11_all 62 = .ok (.aload 5, 2) := by decide +kernel
theorem dX11_all_64 : decode cX11_all 64 = .ok (.iload_n 3, 1) := by decide +kernel
theorem dX11_all_65 : decode cX11_all 65 = .ok (.iconst 0, 1) := by decide +kernel
theorem dX11_all_66 : decode cX11_all 66 = .ok (.invokevirtual 265, 3) := by decide +kernel
theorem dX11_all_69 : decode cX11_all 69 = .ok (.istore 7, 2) := by decide +kernel
theorem dX11_all_71 : decode cX11_all 71 = .ok (.iload 7, 2) := by decide +kernel
theorem dX11_all_73 : decode cX11_all 73 = .ok (.ifCond .lt 8, 3) := by decide +kernel
theorem dX11_all_76 : decode cX11_all 76 = .ok (.aload_n 0, 1) := by decide +kernel
theorem dX11_all_77 : decode cX11_all 77 = .ok (.iconst 1, 1) := by decide +kernel
theorem dX11_all_78 : decode cX11_all 78 = .ok (.invokevirtual 174, 3) := by decide +kernel
theorem dX11_all_81 : decode cX11_all 81 = .ok (.iload 7, 2) := by decide +kernel
theorem dX11_all_83 : decode cX11_all 83 = .ok (.ireturn, 1) := by decide +kernel
theorem dX11_draftFinds_0 : decode cX11_draftFinds 0 = .ok (.aload_n 0, 1) := by decide +kernel
theorem dX11_draftFinds_1 : decode cX11_draftFinds 1 = .ok (.getfield 31, 3) := by decide +kernel
theorem dX11_draftFinds_4 : decode cX11_draftFinds 4 = .ok (.invokevirtual 109, 3) := by decide +kernel
theorem dX11_draftFinds_7 : decode cX11_draftFinds 7 = .ok (.iconst 0, 1) := by decide +kernel
theorem dX11_draftFinds_8 : decode cX11_draftFinds 8 = .ok (.istore 5, 2) := by decide +kernel
theorem dX11_draftFinds_10 : decode cX11_draftFinds 10 = .ok (.iconst 0, 1) := by decide +kernel
theorem dX11_draftFinds_11 : decode cX11_draftFinds 11 = .ok (.istore 6, 2) := by decide +kernel
theorem dX11_draftFinds_13 : decode cX11_draftFinds 13 = .ok (.iconst 0, 1) := by decide +kernel
theorem dX11_draftFinds_14 : decode cX11_draftFinds 14 = .ok (.istore 7, 2) := by decide +kernel
theorem dX11_draftFinds_16 : decode cX11_draftFinds 16 = .ok (.iload 7, 2) := by decide +kernel
theorem dX11_draftFinds_18 : decode cX11_draftFinds 18 = .ok (.aload_n 2, 1) := by decide +kernel
theorem dX11_draftFinds_19 : decode cX11_draftFinds 19 = .ok (.getfield 96, 3) := by decide +kernel
theorem dX11_draftFinds_22 : decode cX11_draftFinds 22 = .ok (.if_icmp .gt 135, 3) := by decide +kernel
theorem dX11_draftFinds_25 : decode cX11_draftFinds 25 = .ok (.aload_n 0, 1) := by decide +kernel
theorem dX11_draftFinds_26 : decode cX11_draftFinds 26 = .ok (.aload_n 1, 1) := by decide +kernel
theorem dX11_draftFinds_27 : decode cX11_draftFinds 27 = .ok (.aload_n 2, 1) := by decide +kernel
theorem dX11_draftFinds_28 : decode cX11_draftFinds 28 = .ok (.iload 7, 2) := by decide +kernel
theorem dX11_draftFinds_30 : decode cX11_draftFinds 30 = .ok (.iload_n 3, 1) := by decide +kernel
theorem dX11_draftFinds_31 : decode cX11_draftFinds 31 = .ok (.sipush 3000, 3) := by decide +kernel
theorem dX11_draftFinds_34 : decode cX11_draftFinds 34 = .ok (.iconst 0, 1) := by decide +kernel
theorem dX11_draftFinds_35 : decode cX11_draftFinds 35 = .ok (.invokevirtual 235, 3) := by decide +kernel
theorem dX11_draftFinds_38 : decode cX11_draftFinds 38 = .ok (.istore 8, 2) := by decide +kernel
theorem dX11_draftFinds_40 : decode cX11_draftFinds 40 = .ok (.iload 8, 2) := by decide +kernel
theorem dX11_draftFinds_42 : decode cX11_draftFinds 42 = .ok (.bipush (-8), 2) := by decide +kernel
theorem dX11_draftFinds_44 : decode cX11_draftFinds 44 = .ok (.if_icmp .ne 6, 3) := by decide +kernel
theorem dX11_draftFinds_47 : decode cX11_draftFinds 47 = .ok (.bipush (-8), 2) := by decide +kernel
theorem dX11_draftFinds_49 : decode cX11_draftFinds 49 = .ok (.ireturn, 1) := by decide +kernel
theorem dX11_draftFinds_50 : decode cX11_draftFinds 50 = .ok (.iload 8, 2) := by decide +kernel
theorem dX11_draftFinds_52 : decode cX11_draftFinds 52 = .ok (.iconst 1, 1) := by decide +kernel
theorem dX11_draftFinds_53 : decode cX11_draftFinds 53 = .ok (.if_icmp .eq 6, 3) := by decide +kernel
theorem dX11_draftFinds_56 : decode cX11_draftFinds 56 = .ok (.goto 101, 3) := by decide +kernel
theorem dX11_draftFinds_59 : decode cX11_draftFinds 59 = .ok (.iinc 5 1, 3) := by decide +kernel
theorem dX11_draftFinds_62 : decode cX11_draftFinds 62 = .ok (.aload_n 0, 1) := by decide +kernel
theorem dX11_draftFinds_63 : decode cX11_draftFinds 63 = .ok (.getfield 34, 3) := by decide +kernel
theorem dX11_draftFinds_66 : decode cX11_draftFinds 66 = .ok (.iconst 0, 1) := by decide +kernel
theorem dX11_draftFinds_67 : decode cX11_draftFinds 67 = .ok (.invokevirtual 222, 3) := by decide +kernel
theorem dX11_draftFinds_70 : decode cX11_draftFinds 70 = .ok (.istore 9, 2) := by decide +kernel
theorem dX11_draftFinds_72 : decode cX11_draftFinds 72 = .ok (.aload_n 0, 1) := by decide +kernel
theorem dX11_draftFinds_73 : decode cX11_draftFinds 73 = .ok (.getfield 34, 3) := by decide +kernel
theorem dX11_draftFinds_76 : decode cX11_draftFinds 76 = .ok (.iconst 1, 1) := by decide +kernel
theorem dX11_draftFinds_77 : decode cX11_draftFinds 77 = .ok (.invokevirtual 222, 3) := by decide +kernel
theorem dX11_draftFinds_80 : decode cX11_draftFinds 80 = .ok (.istore 10, 2) := by decide +kernel
theorem dX11_draftFinds_82 : decode cX11_draftFinds 82 = .ok (.iload 4, 2) := by decide +kernel
theorem dX11_draftFinds_84 : decode cX11_draftFinds 84 = .ok (.ifCond .eq 23, 3) := by decide +kernel
theorem dX11_draftFinds_87 : decode cX11_draftFinds 87 = .ok (.aload_n 0, 1) := by decide +kernel
theorem dX11_draftFinds_88 : decode cX11_draftFinds 88 = .ok (.getfield 31, 3) := by decide +kernel
theorem dX11_draftFinds_91 : decode cX11_draftFinds 91 = .ok (.aload_n 2, 1) := by decide +kernel
theorem dX11_draftFinds_92 : decode cX11_draftFinds 92 = .ok (.iload 6, 2) := by decide +kernel
theorem dX11_draftFinds_94 : decode cX11_draftFinds 94 = .ok (.iload 9, 2) := by decide +kernel
theorem dX11_draftFinds_96 : decode cX11_draftFinds 96 = .ok (.invokevirtual 343, 3) := by decide +kernel
theorem dX11_draftFinds_99 : decode cX11_draftFinds 99 = .ok (.aload_n 0, 1) := by decide +kernel
theorem dX11_draftFinds_100 : decode cX11_draftFinds 100 = .ok (.aload_n 2, 1) := by decide +kernel
theorem dX11_draftFinds_101 : decode cX11_draftFinds 101 = .ok (.invokevirtual 347, 3) := by decide +kernel
theorem dX11_draftFinds_104 : decode cX11_draftFinds 104 = .ok (.goto 21, 3) := by decide +kernel
theorem dX11_draftFinds_107 : decode cX11_draftFinds 107 = .ok (.aload_n 0, 1) := by decide +kernel
theorem dX11_draftFinds_108 : decode cX11_draftFinds 108 = .ok (.getfield 31, 3) := by decide +kernel
theorem dX11_draftFinds_111 : decode cX11_draftFinds 111 = .ok (.iload 9, 2) := by decide +kernel
theorem dX11_draftFinds_113 : decode cX11_draftFinds 113 = .ok (.invokevirtual 99, 3) := by decide +kernel
theorem dX11_draftFinds_116 : decode cX11_draftFinds 116 = .ok (.aload_n 0, 1) := by decide +kernel
theorem dX11_draftFinds_117 : decode cX11_draftFinds 117 = .ok (.getfield 31, 3) := by decide +kernel
theorem dX11_draftFinds_120 : decode cX11_draftFinds 120 = .ok (.iload 10, 2) := by decide +kernel
theorem dX11_draftFinds_122 : decode cX11_draftFinds 122 = .ok (.invokevirtual 99, 3) := by decide +kernel
theorem dX11_draftFinds_125 : decode cX11_draftFinds 125 = .ok (.iload 10, 2) := by decide +kernel
theorem dX11_draftFinds_127 : decode cX11_draftFinds 127 = .ok (.istore 6, 2) := by decide +kernel
theorem dX11_draftFinds_129 : decode cX11_draftFinds 129 = .ok (.iload 10, 2) := by decide +kernel
theorem dX11_draftFinds_131 : decode cX11_draftFinds 131 = .ok (.iload 9, 2) := by decide +kernel
theorem dX11_draftFinds_133 : decode cX11_draftFinds 133 = .ok (.if_icmp .le 8, 3) := by decide +kernel
theorem dX11_draftFinds_136 : decode cX11_draftFinds 136 = .ok (.iload 10, 2) := by decide +kernel
theorem dX11_draftFinds_138 : decode cX11_draftFinds 138 = .ok (.goto 7, 3) := by decide +kernel
theorem dX11_draftFinds_141 : decode cX11_draftFinds 141 = .ok (.iload 10, 2) := by decide +kernel
theorem dX11_draftFinds_143 : decode cX11_draftFinds 143 = .ok (.iconst 1, 1) := by decide +kernel
theorem dX11_draftFinds_144 : decode cX11_draftFinds 144 = .ok (.iadd, 1) := by decide +kernel
theorem dX11_draftFinds_145 : decode cX11_draftFinds 145 = .ok (.iload 7, 2) := by decide +kernel
theorem dX11_draftFinds_147 : decode cX11_draftFinds 147 = .ok (.iconst 1, 1) := by decide +kernel
theorem dX11_draftFinds_148 : decode cX11_draftFinds 148 = .ok (.iadd, 1) := by decide +kernel
theorem dX11_draftFinds_149 : decode cX11_draftFinds 149 = .ok (.invokestatic 350, 3) := by decide +kernel
theorem dX11_draftFinds_152 : decode cX11_draftFinds 152 = .ok (.istore 7, 2) := by decide +kernel
theorem dX11_draftFinds_154 : decode cX11_draftFinds 154 = .ok (.goto (-138), 3) := by decide +kernel
theorem dX11_draftFinds_157 : decode cX11_draftFinds 157 = .ok (.iload 4, 2) := by decide +kernel
theorem dX11_draftFinds_159 : decode cX11_draftFinds 159 = .ok (.ifCond .eq 17, 3) := by decide +kernel
theorem dX11_draftFinds_162 : decode cX11_draftFinds 162 = .ok (.aload_n 0, 1) := by decide +kernel
theorem dX11_draftFinds_163 : decode cX11_draftFinds 163 = .ok (.getfield 31, 3) := by decide +kernel
theorem dX11_draftFinds_166 : decode cX11_draftFinds 166 = .ok (.aload_n 2, 1) := by decide +kernel
theorem dX11_draftFinds_167 : decode cX11_draftFinds 167 = .ok (.iload 6, 2) := by decide +kernel
theorem dX11_draftFinds_169 : decode cX11_draftFinds 169 = .ok (.aload_n 2, 1) := by decide +kernel
theorem dX11_draftFinds_170 : decode cX11_draftFinds 170 = .ok (.getfield 96, 3) := by decide +kernel
theorem dX11_draftFinds_173 : decode cX11_draftFinds 173 = .ok (.invokevirtual 343, 3) := by decide +kernel
theorem dX11_draftFinds_176 : decode cX11_draftFinds 176 = .ok (.iload 5, 2) := by decide +kernel
theorem dX11_draftFinds_178 : decode cX11_draftFinds 178 = .ok (.ireturn, 1) := by decide +kernel
theorem dX11_find_0 : decode cX11_find 0 = .ok (.aload_n 0, 1) := by decide +kernel
theorem dX11_find_1 : decode cX11_find 1 = .ok (.iload_n 1, 1) := by decide +kernel
theorem dX11_find_2 : decode cX11_find 2 = .ok (.invokevirtual 128, 3) := by decide +kernel
theorem dX11_find_5 : decode cX11_find 5 = .ok (.astore 6, 2) := by decide +kernel
theorem dX11_find_7 : decode cX11_find 7 = .ok (.aload 6, 2) := by decide +kernel
theorem dX11_find_9 : decode cX11_find 9 = .ok (.ifnonnull 6, 3) := by decide +kernel
theorem dX11_find_12 : decode cX11_find 12 = .ok (.bipush (-2), 2) := by decide +kernel
theorem dX11_find_14 : decode cX11_find 14 = .ok (.ireturn, 1) := by decide +kernel
theorem dX11_find_15 : decode cX11_find 15 = .ok (.aload_n 0, 1) := by decide +kernel
theorem dX11_find_16 : decode cX11_find 16 = .ok (.iload_n 2, 1) := by decide +kernel
theorem dX11_find_17 : decode cX11_find 17 = .ok (.invokevirtual 209, 3) := by decide +kernel
theorem dX11_find_20 : decode cX11_find 20 = .ok (.astore 7, 2) := by decide +kernel
theorem dX11_find_22 : decode cX11_find 22 = .ok (.aload 7, 2) := by decide +kernel
theorem dX11_find_24 : decode cX11_find 24 = .ok (.ifnonnull 9, 3) := by decide +kernel
theorem dX11_find_27 : decode cX11_find 27 = .ok (.aload_n 0, 1) := by decide +kernel
theorem dX11_find_28 : decode cX11_find 28 = .ok (.iload_n 2, 1) := by decide +kernel
theorem dX11_find_29 : decode cX11_find 29 = .ok (.invokevirtual 213, 3) := by decide +kernel
theorem dX11_find_32 : decode cX11_find 32 = .ok (.ireturn, 1) := by decide +kernel
theorem dX11_find_33 : decode cX11_find 33 = .ok (.iload_n 3, 1) := by decide +kernel
theorem dX11_find_34 : decode cX11_find 34 = .ok (.ifCond .lt 33, 3) := by decide +kernel
theorem dX11_find_37 : decode cX11_find 37 = .ok (.iload_n 3, 1) := by decide +kernel
theorem dX11_find_38 : decode cX11_find 38 = .ok (.aload 7, 2) := by decide +kernel
theorem dX11_find_40 : decode cX11_find 40 = .ok (.getfield 96, 3) := by decide +kernel
theorem dX11_find_43 : decode cX11_find 43 = .ok (.if_icmp .gt 24, 3) := by decide +kernel
theorem dX11_find_46 : decode cX11_find 46 = .ok (.iload 4, 2) := by decide +kernel
theorem dX11_find_48 : decode cX11_find 48 = .ok (.invokestatic 225, 3) := by decide +kernel
theorem dX11_find_51 : decode cX11_find 51 = .ok (.ifCond .eq 16, 3) := by decide +kernel
theorem dX11_find_54 : decode cX11_find 54 = .ok (.iload 4, 2) := by decide +kernel
theorem dX11_find_56 : decode cX11_find 56 = .ok (.ifCond .ne 14, 3) := by decide +kernel
theorem dX11_find_59 : decode cX11_find 59 = .ok (.iload 5, 2) := by decide +kernel
theorem dX11_find_61 : decode cX11_find 61 = .ok (.invokestatic 228, 3) := by decide +kernel
theorem dX11_find_64 : decode cX11_find 64 = .ok (.ifCond .ne 6, 3) := by decide +kernel
theorem dX11_find_67 : decode cX11_find 67 = .ok (.bipush (-4), 2) := by decide +kernel
theorem dX11_find_69 : decode cX11_find 69 = .ok (.ireturn, 1) := by decide +kernel
theorem dX11_find_70 : decode cX11_find 70 = .ok (.aload 6, 2) := by decide +kernel
theorem dX11_find_72 : decode cX11_find 72 = .ok (.iload 4, 2) := by decide +kernel
theorem dX11_find_74 : decode cX11_find 74 = .ok (.invokestatic 231, 3) := by decide +kernel
theorem dX11_find_77 : decode cX11_find 77 = .ok (.istore 8, 2) := by decide +kernel
theorem dX11_find_79 : decode cX11_find 79 = .ok (.iload 8, 2) := by decide +kernel
theorem dX11_find_81 : decode cX11_find 81 = .ok (.ifCond .eq 6, 3) := by decide +kernel
theorem dX11_find_84 : decode cX11_find 84 = .ok (.iload 8, 2) := by decide +kernel
theorem dX11_find_86 : decode cX11_find 86 = .ok (.ireturn, 1) := by decide +kernel
theorem dX11_find_87 : decode cX11_find 87 = .ok (.aload_n 0, 1) := by decide +kernel
theorem dX11_find_88 : decode cX11_find 88 = .ok (.aload 6, 2) := by decide +kernel
theorem dX11_find_90 : decode cX11_find 90 = .ok (.aload 7, 2) := by decide +kernel
theorem dX11_find_92 : decode cX11_find 92 = .ok (.iload_n 3, 1) := by decide +kernel
theorem dX11_find_93 : decode cX11_find 93 = .ok (.iload 4, 2) := by decide +kernel
theorem dX11_find_95 : decode cX11_find 95 = .ok (.iload 5, 2) := by decide +kernel
theorem dX11_find_97 : decode cX11_find 97 = .ok (.iconst 0, 1) := by decide +kernel
theorem dX11_find_98 : decode cX11_find 98 = .ok (.invokevirtual 235, 3) := by decide +kernel
theorem dX11_find_101 : decode cX11_find 101 = .ok (.istore 9, 2) := by decide +kernel
theorem dX11_find_103 : decode cX11_find 103 = .ok (.iload 9, 2) := by decide +kernel
theorem dX11_find_105 : decode cX11_find 105 = .ok (.iconst 2, 1) := by decide +kernel
theorem dX11_find_106 : decode cX11_find 106 = .ok (.if_icmp .ne 13, 3) := by decide +kernel
theorem dX11_find_109 : decode cX11_find 109 = .ok (.aload_n 0, 1) := by decide +kernel
theorem dX11_find_110 : decode cX11_find 110 = .ok (.iload_n 1, 1) := by decide +kernel
theorem dX11_find_111 : decode cX11_find 111 = .ok (.putfield 79, 3) := by decide +kernel
theorem dX11_find_114 : decode cX11_find 114 = .ok (.aload_n 0, 1) := by decide +kernel
theorem dX11_find_115 : decode cX11_find 115 = .ok (.iload_n 2, 1) := by decide +kernel
theorem dX11_find_116 : decode cX11_find 116 = .ok (.putfield 82, 3) := by decide +kernel
theorem dX11_find_119 : decode cX11_find 119 = .ok (.aload_n 0, 1) := by decide +kernel
theorem dX11_find_120 : decode cX11_find 120 = .ok (.iload 9, 2) := by decide +kernel
theorem dX11_find_122 : decode cX11_find 122 = .ok (.invokevirtual 239, 3) := by decide +kernel
theorem dX11_find_125 : decode cX11_find 125 = .ok (.ireturn, 1) := by decide +kernel
theorem dX11_first_0 : decode cX11_first 0 = .ok (.iload_n 1, 1) := by decide +kernel
theorem dX11_first_1 : decode cX11_first 1 = .ok (.iconst 1, 1) := by decide +kernel
theorem dX11_first_2 : decode cX11_first 2 = .ok (.if_icmp .lt 17, 3) := by decide +kernel
theorem dX11_first_5 : decode cX11_first 5 = .ok (.iload_n 1, 1) := by decide +kernel
theorem dX11_first_6 : decode cX11_first 6 = .ok (.bipush 64, 2) := by decide +kernel
theorem dX11_first_8 : decode cX11_first 8 = .ok (.if_icmp .ge 11, 3) := by decide +kernel
theorem dX11_first_11 : decode cX11_first 11 = .ok (.aload_n 0, 1) := by decide +kernel
theorem dX11_first_12 : decode cX11_first 12 = .ok (.iload_n 1, 1) := by decide +kernel
theorem dX11_first_13 : decode cX11_first 13 = .ok (.invokevirtual 273, 3) := by decide +kernel
theorem dX11_first_16 : decode cX11_first 16 = .ok (.ifCond .ne 6, 3) := by decide +kernel
theorem dX11_first_19 : decode cX11_first 19 = .ok (.bipush (-2), 2) := by decide +kernel
theorem dX11_first_21 : decode cX11_first 21 = .ok (.ireturn, 1) := by decide +kernel
theorem dX11_first_22 : decode cX11_first 22 = .ok (.aload_n 0, 1) := by decide +kernel
theorem dX11_first_23 : decode cX11_first 23 = .ok (.iload_n 2, 1) := by decide +kernel
theorem dX11_first_24 : decode cX11_first 24 = .ok (.invokevirtual 209, 3) := by decide +kernel
theorem dX11_first_27 : decode cX11_first 27 = .ok (.astore 5, 2) := by decide +kernel
theorem dX11_first_29 : decode cX11_first 29 = .ok (.aload 5, 2) := by decide +kernel
theorem dX11_first_31 : decode cX11_first 31 = .ok (.ifnonnull 9, 3) := by decide +kernel
theorem dX11_first_34 : decode cX11_first 34 = .ok (.aload_n 0, 1) := by decide +kernel
theorem dX11_first_35 : decode cX11_first 35 = .ok (.iload_n 2, 1) := by decide +kernel
theorem dX11_first_36 : decode cX11_first 36 = .ok (.invokevirtual 213, 3) := by decide +kernel
theorem dX11_first_39 : decode cX11_first 39 = .ok (.ireturn, 1) := by decide +kernel
theorem dX11_first_40 : decode cX11_first 40 = .ok (.iload_n 3, 1) := by decide +kernel
theorem dX11_first_41 : decode cX11_first 41 = .ok (.ifCond .lt 20, 3) := by decide +kernel
theorem dX11_first_44 : decode cX11_first 44 = .ok (.iload_n 3, 1) := by decide +kernel
theorem dX11_first_45 : decode cX11_first 45 = .ok (.aload 5, 2) := by decide +kernel
theorem dX11_first_47 : decode cX11_first 47 = .ok (.getfield 96, 3) := by decide +kernel
theorem dX11_first_50 : decode cX11_first 50 = .ok (.if_icmp .gt 11, 3) := by decide +kernel
theorem dX11_first_53 : decode cX11_first 53 = .ok (.iload 4, 2) := by decide +kernel
theorem dX11_first_55 : decode cX11_first 55 = .ok (.invokestatic 225, 3) := by decide +kernel
theorem dX11_first_58 : decode cX11_first 58 = .ok (.ifCond .ne 6, 3) := by decide +kernel
theorem dX11_first_61 : decode cX11_first 61 = .ok (.bipush (-4), 2) := by decide +kernel
theorem dX11_first_63 : decode cX11_first 63 = .ok (.ireturn, 1) := by decide +kernel
theorem dX11_first_64 : decode cX11_first 64 = .ok (.aload_n 0, 1) := by decide +kernel
theorem dX11_first_65 : decode cX11_first 65 = .ok (.iload_n 1, 1) := by decide +kernel
theorem dX11_first_66 : decode cX11_first 66 = .ok (.iload 4, 2) := by decide +kernel
theorem dX11_first_68 : decode cX11_first 68 = .ok (.invokevirtual 276, 3) := by decide +kernel
theorem dX11_first_71 : decode cX11_first 71 = .ok (.istore 6, 2) := by decide +kernel
theorem dX11_first_73 : decode cX11_first 73 = .ok (.iload 6, 2) := by decide +kernel
theorem dX11_first_75 : decode cX11_first 75 = .ok (.ifCond .eq 8, 3) := by decide +kernel
theorem dX11_first_78 : decode cX11_first 78 = .ok (.iload 6, 2) := by decide +kernel
theorem dX11_first_80 : decode cX11_first 80 = .ok (.goto 13, 3) := by decide +kernel
theorem dX11_first_83 : decode cX11_first 83 = .ok (.aload_n 0, 1) := by decide +kernel
theorem dX11_first_84 : decode cX11_first 84 = .ok (.iload_n 1, 1) := by decide +kernel
theorem dX11_first_85 : decode cX11_first 85 = .ok (.aload 5, 2) := by decide +kernel
theorem dX11_first_87 : decode cX11_first 87 = .ok (.iload_n 3, 1) := by decide +kernel
theorem dX11_first_88 : decode cX11_first 88 = .ok (.iload 4, 2) := by decide +kernel
theorem dX11_first_90 : decode cX11_first 90 = .ok (.invokevirtual 279, 3) := by decide +kernel
theorem dX11_first_93 : decode cX11_first 93 = .ok (.ireturn, 1) := by decide +kernel
theorem dX11_goOn_0 : decode cX11_goOn 0 = .ok (.iload_n 1, 1) := by decide +kernel
theorem dX11_goOn_1 : decode cX11_goOn 1 = .ok (.invokestatic 228, 3) := by decide +kernel
theorem dX11_goOn_4 : decode cX11_goOn 4 = .ok (.ifCond .ne 6, 3) := by decide +kernel
theorem dX11_goOn_7 : decode cX11_goOn 7 = .ok (.bipush (-4), 2) := by decide +kernel
theorem dX11_goOn_9 : decode cX11_goOn 9 = .ok (.ireturn, 1) := by decide +kernel
theorem dX11_goOn_10 : decode cX11_goOn 10 = .ok (.aload_n 0, 1) := by decide +kernel
theorem dX11_goOn_11 : decode cX11_goOn 11 = .ok (.getfield 79, 3) := by decide +kernel
theorem dX11_goOn_14 : decode cX11_goOn 14 = .ok (.iconst (-1), 1) := by decide +kernel
theorem dX11_goOn_15 : decode cX11_goOn 15 = .ok (.if_icmp .ne 6, 3) := by decide +kernel
theorem dX11_goOn_18 : decode cX11_goOn 18 = .ok (.bipush (-5), 2) := by decide +kernel
theorem dX11_goOn_20 : decode cX11_goOn 20 = .ok (.ireturn, 1) := by decide +kernel
theorem dX11_goOn_21 : decode cX11_goOn 21 = .ok (.aload_n 0, 1) := by decide +kernel
theorem dX11_goOn_22 : decode cX11_goOn 22 = .ok (.getfield 57, 3) := by decide +kernel
theorem dX11_goOn_25 : decode cX11_goOn 25 = .ok (.iload_n 1, 1) := by decide +kernel
theorem dX11_goOn_26 : decode cX11_goOn 26 = .ok (.aload_n 0, 1) := by decide +kernel
theorem dX11_goOn_27 : decode cX11_goOn 27 = .ok (.getfield 34, 3) := by decide +kernel
theorem dX11_goOn_30 : decode cX11_goOn 30 = .ok (.invokevirtual 242, 3) := by decide +kernel
theorem dX11_goOn_33 : decode cX11_goOn 33 = .ok (.istore_n 2, 1) := by decide +kernel
theorem dX11_goOn_34 : decode cX11_goOn 34 = .ok (.aload_n 0, 1) := by decide +kernel
theorem dX11_goOn_35 : decode cX11_goOn 35 = .ok (.aload_n 0, 1) := by decide +kernel
theorem dX11_goOn_36 : decode cX11_goOn 36 = .ok (.getfield 57, 3) := by decide +kernel
theorem dX11_goOn_39 : decode cX11_goOn 39 = .ok (.getfield 246, 3) := by decide +kernel
theorem dX11_goOn_42 : decode cX11_goOn 42 = .ok (.putfield 249, 3) := by decide +kernel
theorem dX11_goOn_45 : decode cX11_goOn 45 = .ok (.iload_n 2, 1) := by decide +kernel
theorem dX11_goOn_46 : decode cX11_goOn 46 = .ok (.iconst 2, 1) := by decide +kernel
theorem dX11_goOn_47 : decode cX11_goOn 47 = .ok (.if_icmp .eq 7, 3) := by decide +kernel
theorem dX11_goOn_50 : decode cX11_goOn 50 = .ok (.aload_n 0, 1) := by decide +kernel
theorem dX11_goOn_51 : decode cX11_goOn 51 = .ok (.invokevirtual 252, 3) := by decide +kernel
theorem dX11_goOn_54 : decode cX11_goOn 54 = .ok (.aload_n 0, 1) := by decide +kernel
theorem dX11_goOn_55 : decode cX11_goOn 55 = .ok (.iload_n 2, 1) := by decide +kernel
theorem dX11_goOn_56 : decode cX11_goOn 56 = .ok (.invokevirtual 239, 3) := by decide +kernel
theorem dX11_goOn_59 : decode cX11_goOn 59 = .ok (.ireturn, 1) := by decide +kernel
theorem dX11_replace_0 : decode cX11_replace 0 = .ok (.aload_n 0, 1) := by decide +kernel
theorem dX11_replace_1 : decode cX11_replace 1 = .ok (.iload_n 1, 1) := by decide +kernel
theorem dX11_replace_2 : decode cX11_replace 2 = .ok (.invokevirtual 128, 3) := by decide +kernel
theorem dX11_replace_5 : decode cX11_replace 5 = .ok (.astore 4, 2) := by decide +kernel
theorem dX11_replace_7 : decode cX11_replace 7 = .ok (.aload 4, 2) := by decide +kernel
theorem dX11_replace_9 : decode cX11_replace 9 = .ok (.ifnonnull 6, 3) := by decide +kernel
theorem dX11_replace_12 : decode cX11_replace 12 = .ok (.bipush (-2), 2) := by decide +kernel
theorem dX11_replace_14 : decode cX11_replace 14 = .ok (.ireturn, 1) := by decide +kernel
theorem dX11_replace_15 : decode cX11_replace 15 = .ok (.aload_n 0, 1) := by decide +kernel
theorem dX11_replace_16 : decode cX11_replace 16 = .ok (.iload_n 2, 1) := by decide +kernel
theorem dX11_replace_17 : decode cX11_replace 17 = .ok (.invokevirtual 209, 3) := by decide +kernel
theorem dX11_replace_20 : decode cX11_replace 20 = .ok (.astore 5, 2) := by decide +kernel
theorem dX11_replace_22 : decode cX11_replace 22 = .ok (.aload 5, 2) := by decide +kernel
theorem dX11_replace_24 : decode cX11_replace 24 = .ok (.ifnonnull 9, 3) := by decide +kernel
theorem dX11_replace_27 : decode cX11_replace 27 = .ok (.aload_n 0, 1) := by decide +kernel
theorem dX11_replace_28 : decode cX11_replace 28 = .ok (.iload_n 2, 1) := by decide +kernel
theorem dX11_replace_29 : decode cX11_replace 29 = .ok (.invokevirtual 213, 3) := by decide +kernel
theorem dX11_replace_32 : decode cX11_replace 32 = .ok (.ireturn, 1) := by decide +kernel
theorem dX11_replace_33 : decode cX11_replace 33 = .ok (.iload_n 3, 1) := by decide +kernel
theorem dX11_replace_34 : decode cX11_replace 34 = .ok (.invokestatic 225, 3) := by decide +kernel
theorem dX11_replace_37 : decode cX11_replace 37 = .ok (.ifCond .ne 6, 3) := by decide +kernel
theorem dX11_replace_40 : decode cX11_replace 40 = .ok (.bipush (-4), 2) := by decide +kernel
theorem dX11_replace_42 : decode cX11_replace 42 = .ok (.ireturn, 1) := by decide +kernel
theorem dX11_replace_43 : decode cX11_replace 43 = .ok (.aload_n 0, 1) := by decide +kernel
theorem dX11_replace_44 : decode cX11_replace 44 = .ok (.aload 4, 2) := by decide +kernel
theorem dX11_replace_46 : decode cX11_replace 46 = .ok (.invokevirtual 269, 3) := by decide +kernel
theorem dX11_replace_49 : decode cX11_replace 49 = .ok (.ifCond .ne 6, 3) := by decide +kernel
theorem dX11_replace_52 : decode cX11_replace 52 = .ok (.bipush (-5), 2) := by decide +kernel
theorem dX11_replace_54 : decode cX11_replace 54 = .ok (.ireturn, 1) := by decide +kernel
theorem dX11_replace_55 : decode cX11_replace 55 = .ok (.aload 4, 2) := by decide +kernel
theorem dX11_replace_57 : decode cX11_replace 57 = .ok (.iload_n 3, 1) := by decide +kernel
theorem dX11_replace_58 : decode cX11_replace 58 = .ok (.invokestatic 231, 3) := by decide +kernel
theorem dX11_replace_61 : decode cX11_replace 61 = .ok (.istore 6, 2) := by decide +kernel
theorem dX11_replace_63 : decode cX11_replace 63 = .ok (.iload 6, 2) := by decide +kernel
theorem dX11_replace_65 : decode cX11_replace 65 = .ok (.ifCond .eq 6, 3) := by decide +kernel
theorem dX11_replace_68 : decode cX11_replace 68 = .ok (.iload 6, 2) := by decide +kernel
theorem dX11_replace_70 : decode cX11_replace 70 = .ok (.ireturn, 1) := by decide +kernel
theorem dX11_replace_71 : decode cX11_replace 71 = .ok (.aload_n 0, 1) := by decide +kernel
theorem dX11_replace_72 : decode cX11_replace 72 = .ok (.aload 4, 2) := by decide +kernel
theorem dX11_replace_74 : decode cX11_replace 74 = .ok (.aload 5, 2) := by decide +kernel
theorem dX11_replace_76 : decode cX11_replace 76 = .ok (.iload_n 3, 1) := by decide +kernel
theorem dX11_replace_77 : decode cX11_replace 77 = .ok (.iconst 1, 1) := by decide +kernel
theorem dX11_replace_78 : decode cX11_replace 78 = .ok (.invokevirtual 265, 3) := by decide +kernel
theorem dX11_replace_81 : decode cX11_replace 81 = .ok (.bipush (-8), 2) := by decide +kernel
theorem dX11_replace_83 : decode cX11_replace 83 = .ok (.if_icmp .ne 6, 3) := by decide +kernel
theorem dX11_replace_86 : decode cX11_replace 86 = .ok (.bipush (-8), 2) := by decide +kernel
theorem dX11_replace_88 : decode cX11_replace 88 = .ok (.ireturn, 1) := by decide +kernel
theorem dX11_replace_89 : decode cX11_replace 89 = .ok (.aload_n 0, 1) := by decide +kernel
theorem dX11_replace_90 : decode cX11_replace 90 = .ok (.getfield 31, 3) := by decide +kernel
theorem dX11_replace_93 : decode cX11_replace 93 = .ok (.getfield 171, 3) := by decide +kernel
theorem dX11_replace_96 : decode cX11_replace 96 = .ok (.ifCond .eq 11, 3) := by decide +kernel
theorem dX11_replace_99 : decode cX11_replace 99 = .ok (.aload_n 0, 1) := by decide +kernel
theorem dX11_replace_100 : decode cX11_replace 100 = .ok (.iconst 4, 1) := by decide +kernel
theorem dX11_replace_101 : decode cX11_replace 101 = .ok (.putfield 146, 3) := by decide +kernel
theorem dX11_replace_104 : decode cX11_replace 104 = .ok (.bipush (-9), 2) := by decide +kernel
theorem dX11_replace_106 : decode cX11_replace 106 = .ok (.ireturn, 1) := by decide +kernel
theorem dX11_replace_107 : decode cX11_replace 107 = .ok (.aload_n 0, 1) := by decide +kernel
theorem dX11_replace_108 : decode cX11_replace 108 = .ok (.getfield 14, 3) := by decide +kernel
theorem dX11_replace_111 : decode cX11_replace 111 = .ok (.invokevirtual 109, 3) := by decide +kernel
theorem dX11_replace_114 : decode cX11_replace 114 = .ok (.aload_n 0, 1) := by decide +kernel
theorem dX11_replace_115 : decode cX11_replace 115 = .ok (.iconst 0, 1) := by decide +kernel
theorem dX11_replace_116 : decode cX11_replace 116 = .ok (.invokevirtual 174, 3) := by decide +kernel
theorem dX11_replace_119 : decode cX11_replace 119 = .ok (.aload_n 0, 1) := by decide +kernel
theorem dX11_replace_120 : decode cX11_replace 120 = .ok (.getfield 28, 3) := by decide +kernel
theorem dX11_replace_123 : decode cX11_replace 123 = .ok (.getfield 96, 3) := by decide +kernel
theorem dX11_replace_126 : decode cX11_replace 126 = .ok (.ireturn, 1) := by decide +kernel
theorem dX11_search_0 : decode cX11_search 0 = .ok (.aload_n 0, 1) := by decide +kernel
theorem dX11_search_1 : decode cX11_search 1 = .ok (.invokevirtual 252, 3) := by decide +kernel
theorem dX11_search_4 : decode cX11_search 4 = .ok (.aload_n 0, 1) := by decide +kernel
theorem dX11_search_5 : decode cX11_search 5 = .ok (.iconst 0, 1) := by decide +kernel
theorem dX11_search_6 : decode cX11_search 6 = .ok (.putfield 249, 3) := by decide +kernel
theorem dX11_search_9 : decode cX11_search 9 = .ok (.iload 4, 2) := by decide +kernel
theorem dX11_search_11 : decode cX11_search 11 = .ok (.ifCond .eq 28, 3) := by decide +kernel
theorem dX11_search_14 : decode cX11_search 14 = .ok (.aload_n 0, 1) := by decide +kernel
theorem dX11_search_15 : decode cX11_search 15 = .ok (.getfield 64, 3) := by decide +kernel
theorem dX11_search_18 : decode cX11_search 18 = .ok (.aload_n 1, 1) := by decide +kernel
theorem dX11_search_19 : decode cX11_search 19 = .ok (.aload_n 2, 1) := by decide +kernel
theorem dX11_search_20 : decode cX11_search 20 = .ok (.iload_n 3, 1) := by decide +kernel
theorem dX11_search_21 : decode cX11_search 21 = .ok (.iload 6, 2) := by decide +kernel
theorem dX11_search_23 : decode cX11_search 23 = .ok (.aload_n 0, 1) := by decide +kernel
theorem dX11_search_24 : decode cX11_search 24 = .ok (.getfield 34, 3) := by decide +kernel
theorem dX11_search_27 : decode cX11_search 27 = .ok (.invokevirtual 335, 3) := by decide +kernel
theorem dX11_search_30 : decode cX11_search 30 = .ok (.ifCond .eq 7, 3) := by decide +kernel
theorem dX11_search_33 : decode cX11_search 33 = .ok (.iconst 1, 1) := by decide +kernel
theorem dX11_search_34 : decode cX11_search 34 = .ok (.goto 4, 3) := by decide +kernel
theorem dX11_search_37 : decode cX11_search 37 = .ok (.iconst 0, 1) := by decide +kernel
theorem dX11_search_38 : decode cX11_search 38 = .ok (.ireturn, 1) := by decide +kernel
theorem dX11_search_39 : decode cX11_search 39 = .ok (.aload_n 0, 1) := by decide +kernel
theorem dX11_search_40 : decode cX11_search 40 = .ok (.getfield 57, 3) := by decide +kernel
theorem dX11_search_43 : decode cX11_search 43 = .ok (.aload_n 1, 1) := by decide +kernel
theorem dX11_search_44 : decode cX11_search 44 = .ok (.aload_n 2, 1) := by decide +kernel
theorem dX11_search_45 : decode cX11_search 45 = .ok (.iload_n 3, 1) := by decide +kernel
theorem dX11_search_46 : decode cX11_search 46 = .ok (.iload 6, 2) := by decide +kernel
theorem dX11_search_48 : decode cX11_search 48 = .ok (.invokevirtual 339, 3) := by decide +kernel
theorem dX11_search_51 : decode cX11_search 51 = .ok (.aload_n 0, 1) := by decide +kernel
theorem dX11_search_52 : decode cX11_search 52 = .ok (.getfield 57, 3) := by decide +kernel
theorem dX11_search_55 : decode cX11_search 55 = .ok (.iload 5, 2) := by decide +kernel
theorem dX11_search_57 : decode cX11_search 57 = .ok (.aload_n 0, 1) := by decide +kernel
theorem dX11_search_58 : decode cX11_search 58 = .ok (.getfield 34, 3) := by decide +kernel
theorem dX11_search_61 : decode cX11_search 61 = .ok (.invokevirtual 242, 3) := by decide +kernel
theorem dX11_search_64 : decode cX11_search 64 = .ok (.istore 7, 2) := by decide +kernel
theorem dX11_search_66 : decode cX11_search 66 = .ok (.aload_n 0, 1) := by decide +kernel
theorem dX11_search_67 : decode cX11_search 67 = .ok (.aload_n 0, 1) := by decide +kernel
theorem dX11_search_68 : decode cX11_search 68 = .ok (.getfield 57, 3) := by decide +kernel
theorem dX11_search_71 : decode cX11_search 71 = .ok (.getfield 246, 3) := by decide +kernel
theorem dX11_search_74 : decode cX11_search 74 = .ok (.putfield 249, 3) := by decide +kernel
theorem dX11_search_77 : decode cX11_search 77 = .ok (.iload 7, 2) := by decide +kernel
theorem dX11_search_79 : decode cX11_search 79 = .ok (.ireturn, 1) := by decide +kernel
theorem dX11_searchSlots_0 : decode cX11_searchSlots 0 = .ok (.iconst (-1), 1) := by decide +kernel
theorem dX11_searchSlots_1 : decode cX11_searchSlots 1 = .ok (.istore 5, 2) := by decide +kernel
theorem dX11_searchSlots_3 : decode cX11_searchSlots 3 = .ok (.aload_n 2, 1) := by decide +kernel
theorem dX11_searchSlots_4 : decode cX11_searchSlots 4 = .ok (.getfield 96, 3) := by decide +kernel
theorem dX11_searchSlots_7 : decode cX11_searchSlots 7 = .ok (.iconst 1, 1) := by decide +kernel
theorem dX11_searchSlots_8 : decode cX11_searchSlots 8 = .ok (.iadd, 1) := by decide +kernel
theorem dX11_searchSlots_9 : decode cX11_searchSlots 9 = .ok (.istore 6, 2) := by decide +kernel
theorem dX11_searchSlots_11 : decode cX11_searchSlots 11 = .ok (.iconst 0, 1) := by decide +kernel
theorem dX11_searchSlots_12 : decode cX11_searchSlots 12 = .ok (.istore 7, 2) := by decide +kernel
theorem dX11_searchSlots_14 : decode cX11_searchSlots 14 = .ok (.iload 7, 2) := by decide +kernel
theorem dX11_searchSlots_16 : decode cX11_searchSlots 16 = .ok (.aload_n 0, 1) := by decide +kernel
theorem dX11_searchSlots_17 : decode cX11_searchSlots 17 = .ok (.getfield 20, 3) := by decide +kernel
theorem dX11_searchSlots_20 : decode cX11_searchSlots 20 = .ok (.arraylength, 1) := by decide +kernel
theorem dX11_searchSlots_21 : decode cX11_searchSlots 21 = .ok (.if_icmp .ge 85, 3) := by decide +kernel
theorem dX11_searchSlots_24 : decode cX11_searchSlots 24 = .ok (.iload_n 1, 1) := by decide +kernel
theorem dX11_searchSlots_25 : decode cX11_searchSlots 25 = .ok (.iload 7, 2) := by decide +kernel
theorem dX11_searchSlots_27 : decode cX11_searchSlots 27 = .ok (.invokestatic 361, 3) := by decide +kernel
theorem dX11_searchSlots_30 : decode cX11_searchSlots 30 = .ok (.ifCond .ne 6, 3) := by decide +kernel
theorem dX11_searchSlots_33 : decode cX11_searchSlots 33 = .ok (.goto 67, 3) := by decide +kernel
theorem dX11_searchSlots_36 : decode cX11_searchSlots 36 = .ok (.aload_n 0, 1) := by decide +kernel
theorem dX11_searchSlots_37 : decode cX11_searchSlots 37 = .ok (.aload_n 0, 1) := by decide +kernel
theorem dX11_searchSlots_38 : decode cX11_searchSlots 38 = .ok (.getfield 20, 3) := by decide +kernel
theorem dX11_searchSlots_41 : decode cX11_searchSlots 41 = .ok (.iload 7, 2) := by decide +kernel
theorem dX11_searchSlots_43 : decode cX11_searchSlots 43 = .ok (.aaload, 1) := by decide +kernel
theorem dX11_searchSlots_44 : decode cX11_searchSlots 44 = .ok (.aload_n 2, 1) := by decide +kernel
theorem dX11_searchSlots_45 : decode cX11_searchSlots 45 = .ok (.iload_n 3, 1) := by decide +kernel
theorem dX11_searchSlots_46 : decode cX11_searchSlots 46 = .ok (.iload 4, 2) := by decide +kernel
theorem dX11_searchSlots_48 : decode cX11_searchSlots 48 = .ok (.sipush 3000, 3) := by decide +kernel
theorem dX11_searchSlots_51 : decode cX11_searchSlots 51 = .ok (.iconst 0, 1) := by decide +kernel
theorem dX11_searchSlots_52 : decode cX11_searchSlots 52 = .ok (.invokevirtual 235, 3) := by decide +kernel
theorem dX11_searchSlots_55 : decode cX11_searchSlots 55 = .ok (.istore 8, 2) := by decide +kernel
theorem dX11_searchSlots_57 : decode cX11_searchSlots 57 = .ok (.iload 8, 2) := by decide +kernel
theorem dX11_searchSlots_59 : decode cX11_searchSlots 59 = .ok (.bipush (-8), 2) := by decide +kernel
theorem dX11_searchSlots_61 : decode cX11_searchSlots 61 = .ok (.if_icmp .ne 6, 3) := by decide +kernel
theorem dX11_searchSlots_64 : decode cX11_searchSlots 64 = .ok (.bipush (-8), 2) := by decide +kernel
theorem dX11_searchSlots_66 : decode cX11_searchSlots 66 = .ok (.ireturn, 1) := by decide +kernel
theorem dX11_searchSlots_67 : decode cX11_searchSlots 67 = .ok (.iload 8, 2) := by decide +kernel
theorem dX11_searchSlots_69 : decode cX11_searchSlots 69 = .ok (.iconst 1, 1) := by decide +kernel
theorem dX11_searchSlots_70 : decode cX11_searchSlots 70 = .ok (.if_icmp .ne 30, 3) := by decide +kernel
theorem dX11_searchSlots_73 : decode cX11_searchSlots 73 = .ok (.aload_n 0, 1) := by decide +kernel
theorem dX11_searchSlots_74 : decode cX11_searchSlots 74 = .ok (.getfield 34, 3) := by decide +kernel
theorem dX11_searchSlots_77 : decode cX11_searchSlots 77 = .ok (.iconst 0, 1) := by decide +kernel
theorem dX11_searchSlots_78 : decode cX11_searchSlots 78 = .ok (.invokevirtual 222, 3) := by decide +kernel
theorem dX11_searchSlots_81 : decode cX11_searchSlots 81 = .ok (.iload 6, 2) := by decide +kernel
theorem dX11_searchSlots_83 : decode cX11_searchSlots 83 = .ok (.if_icmp .ge 17, 3) := by decide +kernel
theorem dX11_searchSlots_86 : decode cX11_searchSlots 86 = .ok (.iload 7, 2) := by decide +kernel
theorem dX11_searchSlots_88 : decode cX11_searchSlots 88 = .ok (.istore 5, 2) := by decide +kernel
theorem dX11_searchSlots_90 : decode cX11_searchSlots 90 = .ok (.aload_n 0, 1) := by decide +kernel
theorem dX11_searchSlots_91 : decode cX11_searchSlots 91 = .ok (.getfield 34, 3) := by decide +kernel
theorem dX11_searchSlots_94 : decode cX11_searchSlots 94 = .ok (.iconst 0, 1) := by decide +kernel
theorem dX11_searchSlots_95 : decode cX11_searchSlots 95 = .ok (.invokevirtual 222, 3) := by decide +kernel
theorem dX11_searchSlots_98 : decode cX11_searchSlots 98 = .ok (.istore 6, 2) := by decide +kernel
theorem dX11_searchSlots_100 : decode cX11_searchSlots 100 = .ok (.iinc 7 1, 3) := by decide +kernel
theorem dX11_searchSlots_103 : decode cX11_searchSlots 103 = .ok (.goto (-89), 3) := by decide +kernel
theorem dX11_searchSlots_106 : decode cX11_searchSlots 106 = .ok (.iload 5, 2) := by decide +kernel
theorem dX11_searchSlots_108 : decode cX11_searchSlots 108 = .ok (.ireturn, 1) := by decide +kernel
theorem dX11_whole_0 : decode cX11_whole 0 = .ok (.aload_n 0, 1) := by decide +kernel
theorem dX11_whole_1 : decode cX11_whole 1 = .ok (.iload_n 1, 1) := by decide +kernel
theorem dX11_whole_2 : decode cX11_whole 2 = .ok (.invokevirtual 128, 3) := by decide +kernel
theorem dX11_whole_5 : decode cX11_whole 5 = .ok (.astore 4, 2) := by decide +kernel
theorem dX11_whole_7 : decode cX11_whole 7 = .ok (.aload 4, 2) := by decide +kernel
theorem dX11_whole_9 : decode cX11_whole 9 = .ok (.ifnonnull 6, 3) := by decide +kernel
theorem dX11_whole_12 : decode cX11_whole 12 = .ok (.bipush (-2), 2) := by decide +kernel
