theorem dX11_whole_14 : decode cX11_whole 14 = .ok (.ireturn, 1) := by decide +kernel
theorem dX11_whole_15 : decode cX11_whole 15 = .ok (.aload_n 0, 1) := by decide +kernel
theorem dX11_whole_16 : decode cX11_whole 16 = .ok (.iload_n 2, 1) := by decide +kernel
theorem dX11_whole_17 : decode cX11_whole 17 = .ok (.invokevirtual 209, 3) := by decide +kernel
theorem dX11_whole_20 : decode cX11_whole 20 = .ok (.astore 5, 2) := by decide +kernel
theorem dX11_whole_22 : decode cX11_whole 22 = .ok (.aload 5, 2) := by decide +kernel
theorem dX11_whole_24 : decode cX11_whole 24 = .ok (.ifnonnull 9, 3) := by decide +kernel
theorem dX11_whole_27 : decode cX11_whole 27 = .ok (.aload_n 0, 1) := by decide +kernel
theorem dX11_whole_28 : decode cX11_whole 28 = .ok (.iload_n 2, 1) := by decide +kernel
theorem dX11_whole_29 : decode cX11_whole 29 = .ok (.invokevirtual 213, 3) := by decide +kernel
theorem dX11_whole_32 : decode cX11_whole 32 = .ok (.ireturn, 1) := by decide +kernel
theorem dX11_whole_33 : decode cX11_whole 33 = .ok (.iload_n 3, 1) := by decide +kernel
theorem dX11_whole_34 : decode cX11_whole 34 = .ok (.invokestatic 225, 3) := by decide +kernel
theorem dX11_whole_37 : decode cX11_whole 37 = .ok (.ifCond .ne 6, 3) := by decide +kernel
theorem dX11_whole_40 : decode cX11_whole 40 = .ok (.bipush (-4), 2) := by decide +kernel
theorem dX11_whole_42 : decode cX11_whole 42 = .ok (.ireturn, 1) := by decide +kernel
theorem dX11_whole_43 : decode cX11_whole 43 = .ok (.aload 4, 2) := by decide +kernel
theorem dX11_whole_45 : decode cX11_whole 45 = .ok (.iload_n 3, 1) := by decide +kernel
theorem dX11_whole_46 : decode cX11_whole 46 = .ok (.invokestatic 231, 3) := by decide +kernel
theorem dX11_whole_49 : decode cX11_whole 49 = .ok (.istore 6, 2) := by decide +kernel
theorem dX11_whole_51 : decode cX11_whole 51 = .ok (.iload 6, 2) := by decide +kernel
theorem dX11_whole_53 : decode cX11_whole 53 = .ok (.ifCond .eq 8, 3) := by decide +kernel
theorem dX11_whole_56 : decode cX11_whole 56 = .ok (.iload 6, 2) := by decide +kernel
theorem dX11_whole_58 : decode cX11_whole 58 = .ok (.goto 21, 3) := by decide +kernel
theorem dX11_whole_61 : decode cX11_whole 61 = .ok (.aload_n 0, 1) := by decide +kernel
theorem dX11_whole_62 : decode cX11_whole 62 = .ok (.aload_n 0, 1) := by decide +kernel
theorem dX11_whole_63 : decode cX11_whole 63 = .ok (.aload 4, 2) := by decide +kernel
theorem dX11_whole_65 : decode cX11_whole 65 = .ok (.aload 5, 2) := by decide +kernel
theorem dX11_whole_67 : decode cX11_whole 67 = .ok (.iconst 0, 1) := by decide +kernel
theorem dX11_whole_68 : decode cX11_whole 68 = .ok (.iload_n 3, 1) := by decide +kernel
theorem dX11_whole_69 : decode cX11_whole 69 = .ok (.sipush 3000, 3) := by decide +kernel
theorem dX11_whole_72 : decode cX11_whole 72 = .ok (.iconst 1, 1) := by decide +kernel
theorem dX11_whole_73 : decode cX11_whole 73 = .ok (.invokevirtual 235, 3) := by decide +kernel
theorem dX11_whole_76 : decode cX11_whole 76 = .ok (.invokevirtual 239, 3) := by decide +kernel
theorem dX11_whole_79 : decode cX11_whole 79 = .ok (.ireturn, 1) := by decide +kernel
theorem dX1_comeToLoop_0 : decode cX1_comeToLoop 0 = .ok (.aload_n 0, 1) := by decide +kernel
theorem dX1_comeToLoop_1 : decode cX1_comeToLoop 1 = .ok (.aload_n 0, 1) := by decide +kernel
theorem dX1_comeToLoop_2 : decode cX1_comeToLoop 2 = .ok (.getfield 68, 3) := by decide +kernel
theorem dX1_comeToLoop_5 : decode cX1_comeToLoop 5 = .ok (.invokevirtual 204, 3) := by decide +kernel
theorem dX1_comeToLoop_8 : decode cX1_comeToLoop 8 = .ok (.sipush 128, 3) := by decide +kernel
theorem dX1_comeToLoop_11 : decode cX1_comeToLoop 11 = .ok (.idiv, 1) := by decide +kernel
theorem dX1_comeToLoop_12 : decode cX1_comeToLoop 12 = .ok (.istore_n 1, 1) := by decide +kernel
theorem dX1_comeToLoop_13 : decode cX1_comeToLoop 13 = .ok (.aload_n 0, 1) := by decide +kernel
theorem dX1_comeToLoop_14 : decode cX1_comeToLoop 14 = .ok (.getfield 14, 3) := by decide +kernel
theorem dX1_comeToLoop_17 : decode cX1_comeToLoop 17 = .ok (.aload_n 0, 1) := by decide +kernel
theorem dX1_comeToLoop_18 : decode cX1_comeToLoop 18 = .ok (.getfield 68, 3) := by decide +kernel
theorem dX1_comeToLoop_21 : decode cX1_comeToLoop 21 = .ok (.invokevirtual 207, 3) := by decide +kernel
theorem dX1_comeToLoop_24 : decode cX1_comeToLoop 24 = .ok (.iconst (-1), 1) := by decide +kernel
theorem dX1_comeToLoop_25 : decode cX1_comeToLoop 25 = .ok (.if_icmp .eq 18, 3) := by decide +kernel
theorem dX1_comeToLoop_28 : decode cX1_comeToLoop 28 = .ok (.iload_n 1, 1) := by decide +kernel
theorem dX1_comeToLoop_29 : decode cX1_comeToLoop 29 = .ok (.aload_n 0, 1) := by decide +kernel
theorem dX1_comeToLoop_30 : decode cX1_comeToLoop 30 = .ok (.getfield 14, 3) := by decide +kernel
theorem dX1_comeToLoop_33 : decode cX1_comeToLoop 33 = .ok (.aload_n 0, 1) := by decide +kernel
theorem dX1_comeToLoop_34 : decode cX1_comeToLoop 34 = .ok (.getfield 68, 3) := by decide +kernel
theorem dX1_comeToLoop_37 : decode cX1_comeToLoop 37 = .ok (.invokevirtual 207, 3) := by decide +kernel
theorem dX1_comeToLoop_40 : decode cX1_comeToLoop 40 = .ok (.if_icmp .ge 7, 3) := by decide +kernel
theorem dX1_comeToLoop_43 : decode cX1_comeToLoop 43 = .ok (.iconst 1, 1) := by decide +kernel
theorem dX1_comeToLoop_44 : decode cX1_comeToLoop 44 = .ok (.goto 4, 3) := by decide +kernel
theorem dX1_comeToLoop_47 : decode cX1_comeToLoop 47 = .ok (.iconst 0, 1) := by decide +kernel
theorem dX1_comeToLoop_48 : decode cX1_comeToLoop 48 = .ok (.istore_n 2, 1) := by decide +kernel
theorem dX1_comeToLoop_49 : decode cX1_comeToLoop 49 = .ok (.iload_n 1, 1) := by decide +kernel
theorem dX1_comeToLoop_50 : decode cX1_comeToLoop 50 = .ok (.aload_n 0, 1) := by decide +kernel
theorem dX1_comeToLoop_51 : decode cX1_comeToLoop 51 = .ok (.getfield 14, 3) := by decide +kernel
theorem dX1_comeToLoop_54 : decode cX1_comeToLoop 54 = .ok (.aload_n 0, 1) := by decide +kernel
theorem dX1_comeToLoop_55 : decode cX1_comeToLoop 55 = .ok (.getfield 68, 3) := by decide +kernel
theorem dX1_comeToLoop_58 : decode cX1_comeToLoop 58 = .ok (.invokevirtual 210, 3) := by decide +kernel
theorem dX1_comeToLoop_61 : decode cX1_comeToLoop 61 = .ok (.if_icmp .ge 11, 3) := by decide +kernel
theorem dX1_comeToLoop_64 : decode cX1_comeToLoop 64 = .ok (.aload_n 0, 1) := by decide +kernel
theorem dX1_comeToLoop_65 : decode cX1_comeToLoop 65 = .ok (.iconst 4, 1) := by decide +kernel
theorem dX1_comeToLoop_66 : decode cX1_comeToLoop 66 = .ok (.putfield 71, 3) := by decide +kernel
theorem dX1_comeToLoop_69 : decode cX1_comeToLoop 69 = .ok (.goto 59, 3) := by decide +kernel
theorem dX1_comeToLoop_72 : decode cX1_comeToLoop 72 = .ok (.iload_n 2, 1) := by decide +kernel
theorem dX1_comeToLoop_73 : decode cX1_comeToLoop 73 = .ok (.ifCond .ne 10, 3) := by decide +kernel
theorem dX1_comeToLoop_76 : decode cX1_comeToLoop 76 = .ok (.aload_n 0, 1) := by decide +kernel
theorem dX1_comeToLoop_77 : decode cX1_comeToLoop 77 = .ok (.invokevirtual 213, 3) := by decide +kernel
theorem dX1_comeToLoop_80 : decode cX1_comeToLoop 80 = .ok (.goto 48, 3) := by decide +kernel
theorem dX1_comeToLoop_83 : decode cX1_comeToLoop 83 = .ok (.aload_n 0, 1) := by decide +kernel
theorem dX1_comeToLoop_84 : decode cX1_comeToLoop 84 = .ok (.getfield 14, 3) := by decide +kernel
theorem dX1_comeToLoop_87 : decode cX1_comeToLoop 87 = .ok (.aload_n 0, 1) := by decide +kernel
theorem dX1_comeToLoop_88 : decode cX1_comeToLoop 88 = .ok (.getfield 68, 3) := by decide +kernel
theorem dX1_comeToLoop_91 : decode cX1_comeToLoop 91 = .ok (.invokevirtual 181, 3) := by decide +kernel
theorem dX1_comeToLoop_94 : decode cX1_comeToLoop 94 = .ok (.iconst 1, 1) := by decide +kernel
theorem dX1_comeToLoop_95 : decode cX1_comeToLoop 95 = .ok (.if_icmp .ne 19, 3) := by decide +kernel
theorem dX1_comeToLoop_98 : decode cX1_comeToLoop 98 = .ok (.aload_n 0, 1) := by decide +kernel
theorem dX1_comeToLoop_99 : decode cX1_comeToLoop 99 = .ok (.iconst 2, 1) := by decide +kernel
theorem dX1_comeToLoop_100 : decode cX1_comeToLoop 100 = .ok (.aload_n 0, 1) := by decide +kernel
theorem dX1_comeToLoop_101 : decode cX1_comeToLoop 101 = .ok (.getfield 68, 3) := by decide +kernel
theorem dX1_comeToLoop_104 : decode cX1_comeToLoop 104 = .ok (.invokevirtual 198, 3) := by decide +kernel
theorem dX1_comeToLoop_107 : decode cX1_comeToLoop 107 = .ok (.aload_n 0, 1) := by decide +kernel
theorem dX1_comeToLoop_108 : decode cX1_comeToLoop 108 = .ok (.invokevirtual 213, 3) := by decide +kernel
theorem dX1_comeToLoop_111 : decode cX1_comeToLoop 111 = .ok (.goto 17, 3) := by decide +kernel
theorem dX1_comeToLoop_114 : decode cX1_comeToLoop 114 = .ok (.aload_n 0, 1) := by decide +kernel
theorem dX1_comeToLoop_115 : decode cX1_comeToLoop 115 = .ok (.iconst 1, 1) := by decide +kernel
theorem dX1_comeToLoop_116 : decode cX1_comeToLoop 116 = .ok (.aload_n 0, 1) := by decide +kernel
theorem dX1_comeToLoop_117 : decode cX1_comeToLoop 117 = .ok (.getfield 68, 3) := by decide +kernel
theorem dX1_comeToLoop_120 : decode cX1_comeToLoop 120 = .ok (.invokevirtual 198, 3) := by decide +kernel
theorem dX1_comeToLoop_123 : decode cX1_comeToLoop 123 = .ok (.aload_n 0, 1) := by decide +kernel
theorem dX1_comeToLoop_124 : decode cX1_comeToLoop 124 = .ok (.iconst 4, 1) := by decide +kernel
theorem dX1_comeToLoop_125 : decode cX1_comeToLoop 125 = .ok (.putfield 71, 3) := by decide +kernel
theorem dX1_comeToLoop_128 : decode cX1_comeToLoop 128 = .ok (.return_, 1) := by decide +kernel
theorem dX1_enter_0 : decode cX1_enter 0 = .ok (.aload_n 0, 1) := by decide +kernel
theorem dX1_enter_1 : decode cX1_enter 1 = .ok (.getfield 14, 3) := by decide +kernel
theorem dX1_enter_4 : decode cX1_enter 4 = .ok (.aload_n 0, 1) := by decide +kernel
theorem dX1_enter_5 : decode cX1_enter 5 = .ok (.getfield 68, 3) := by decide +kernel
theorem dX1_enter_8 : decode cX1_enter 8 = .ok (.invokevirtual 137, 3) := by decide +kernel
theorem dX1_enter_11 : decode cX1_enter 11 = .ok (.tableswitch 164 0 10 #[57, 57, 57, 71, 85, 164, 99, 124, 145, 131, 131], 57) := by decide +kernel
theorem dX1_enter_68 : decode cX1_enter 68 = .ok (.aload_n 0, 1) := by decide +kernel
theorem dX1_enter_69 : decode cX1_enter 69 = .ok (.invokevirtual 140, 3) := by decide +kernel
theorem dX1_enter_72 : decode cX1_enter 72 = .ok (.ifCond .eq 107, 3) := by decide +kernel
theorem dX1_enter_75 : decode cX1_enter 75 = .ok (.aload_n 0, 1) := by decide +kernel
theorem dX1_enter_76 : decode cX1_enter 76 = .ok (.invokevirtual 144, 3) := by decide +kernel
theorem dX1_enter_79 : decode cX1_enter 79 = .ok (.goto 100, 3) := by decide +kernel
theorem dX1_enter_82 : decode cX1_enter 82 = .ok (.aload_n 0, 1) := by decide +kernel
theorem dX1_enter_83 : decode cX1_enter 83 = .ok (.invokevirtual 140, 3) := by decide +kernel
theorem dX1_enter_86 : decode cX1_enter 86 = .ok (.ifCond .eq 93, 3) := by decide +kernel
theorem dX1_enter_89 : decode cX1_enter 89 = .ok (.aload_n 0, 1) := by decide +kernel
theorem dX1_enter_90 : decode cX1_enter 90 = .ok (.invokevirtual 147, 3) := by decide +kernel
theorem dX1_enter_93 : decode cX1_enter 93 = .ok (.goto 86, 3) := by decide +kernel
theorem dX1_enter_96 : decode cX1_enter 96 = .ok (.aload_n 0, 1) := by decide +kernel
theorem dX1_enter_97 : decode cX1_enter 97 = .ok (.invokevirtual 140, 3) := by decide +kernel
theorem dX1_enter_100 : decode cX1_enter 100 = .ok (.ifCond .eq 79, 3) := by decide +kernel
theorem dX1_enter_103 : decode cX1_enter 103 = .ok (.aload_n 0, 1) := by decide +kernel
theorem dX1_enter_104 : decode cX1_enter 104 = .ok (.invokevirtual 150, 3) := by decide +kernel
theorem dX1_enter_107 : decode cX1_enter 107 = .ok (.goto 72, 3) := by decide +kernel
theorem dX1_enter_110 : decode cX1_enter 110 = .ok (.aload_n 0, 1) := by decide +kernel
theorem dX1_enter_111 : decode cX1_enter 111 = .ok (.invokevirtual 140, 3) := by decide +kernel
theorem dX1_enter_114 : decode cX1_enter 114 = .ok (.ifCond .eq 65, 3) := by decide +kernel
theorem dX1_enter_117 : decode cX1_enter 117 = .ok (.aload_n 0, 1) := by decide +kernel
theorem dX1_enter_118 : decode cX1_enter 118 = .ok (.aload_n 0, 1) := by decide +kernel
theorem dX1_enter_119 : decode cX1_enter 119 = .ok (.getfield 14, 3) := by decide +kernel
theorem dX1_enter_122 : decode cX1_enter 122 = .ok (.aload_n 0, 1) := by decide +kernel
theorem dX1_enter_123 : decode cX1_enter 123 = .ok (.getfield 68, 3) := by decide +kernel
theorem dX1_enter_126 : decode cX1_enter 126 = .ok (.invokevirtual 153, 3) := by decide +kernel
theorem dX1_enter_129 : decode cX1_enter 129 = .ok (.invokevirtual 156, 3) := by decide +kernel
theorem dX1_enter_132 : decode cX1_enter 132 = .ok (.goto 47, 3) := by decide +kernel
theorem dX1_enter_135 : decode cX1_enter 135 = .ok (.aload_n 0, 1) := by decide +kernel
theorem dX1_enter_136 : decode cX1_enter 136 = .ok (.invokevirtual 159, 3) := by decide +kernel
theorem dX1_enter_139 : decode cX1_enter 139 = .ok (.goto 40, 3) := by decide +kernel
theorem dX1_enter_142 : decode cX1_enter 142 = .ok (.aload_n 0, 1) := by decide +kernel
theorem dX1_enter_143 : decode cX1_enter 143 = .ok (.invokevirtual 140, 3) := by decide +kernel
theorem dX1_enter_146 : decode cX1_enter 146 = .ok (.ifCond .eq 33, 3) := by decide +kernel
theorem dX1_enter_149 : decode cX1_enter 149 = .ok (.aload_n 0, 1) := by decide +kernel
theorem dX1_enter_150 : decode cX1_enter 150 = .ok (.invokevirtual 162, 3) := by decide +kernel
theorem dX1_enter_153 : decode cX1_enter 153 = .ok (.goto 26, 3) := by decide +kernel
theorem dX1_enter_156 : decode cX1_enter 156 = .ok (.aload_n 0, 1) := by decide +kernel
theorem dX1_enter_157 : decode cX1_enter 157 = .ok (.aload_n 0, 1) := by decide +kernel
theorem dX1_enter_158 : decode cX1_enter 158 = .ok (.getfield 68, 3) := by decide +kernel
theorem dX1_enter_161 : decode cX1_enter 161 = .ok (.aload_n 0, 1) := by decide +kernel
theorem dX1_enter_162 : decode cX1_enter 162 = .ok (.getfield 65, 3) := by decide +kernel
theorem dX1_enter_165 : decode cX1_enter 165 = .ok (.invokevirtual 165, 3) := by decide +kernel
theorem dX1_enter_168 : decode cX1_enter 168 = .ok (.aload_n 0, 1) := by decide +kernel
theorem dX1_enter_169 : decode cX1_enter 169 = .ok (.invokevirtual 168, 3) := by decide +kernel
theorem dX1_enter_172 : decode cX1_enter 172 = .ok (.goto 7, 3) := by decide +kernel
theorem dX1_enter_175 : decode cX1_enter 175 = .ok (.aload_n 0, 1) := by decide +kernel
theorem dX1_enter_176 : decode cX1_enter 176 = .ok (.invokevirtual 168, 3) := by decide +kernel
theorem dX1_enter_179 : decode cX1_enter 179 = .ok (.return_, 1) := by decide +kernel
theorem dX1_enterCut_0 : decode cX1_enterCut 0 = .ok (.aload_n 0, 1) := by decide +kernel
theorem dX1_enterCut_1 : decode cX1_enterCut 1 = .ok (.invokevirtual 201, 3) := by decide +kernel
theorem dX1_enterCut_4 : decode cX1_enterCut 4 = .ok (.aload_n 0, 1) := by decide +kernel
theorem dX1_enterCut_5 : decode cX1_enterCut 5 = .ok (.invokevirtual 219, 3) := by decide +kernel
theorem dX1_enterCut_8 : decode cX1_enterCut 8 = .ok (.ifCond .eq 9, 3) := by decide +kernel
theorem dX1_enterCut_11 : decode cX1_enterCut 11 = .ok (.aload_n 0, 1) := by decide +kernel
theorem dX1_enterCut_12 : decode cX1_enterCut 12 = .ok (.iconst 5, 1) := by decide +kernel
theorem dX1_enterCut_13 : decode cX1_enterCut 13 = .ok (.putfield 71, 3) := by decide +kernel
theorem dX1_enterCut_16 : decode cX1_enterCut 16 = .ok (.return_, 1) := by decide +kernel
theorem dX1_enterCut_17 : decode cX1_enterCut 17 = .ok (.aload_n 0, 1) := by decide +kernel
theorem dX1_enterCut_18 : decode cX1_enterCut 18 = .ok (.getfield 14, 3) := by decide +kernel
theorem dX1_enterCut_21 : decode cX1_enterCut 21 = .ok (.aload_n 0, 1) := by decide +kernel
theorem dX1_enterCut_22 : decode cX1_enterCut 22 = .ok (.getfield 68, 3) := by decide +kernel
theorem dX1_enterCut_25 : decode cX1_enterCut 25 = .ok (.invokevirtual 137, 3) := by decide +kernel
theorem dX1_enterCut_28 : decode cX1_enterCut 28 = .ok (.bipush 9, 2) := by decide +kernel
theorem dX1_enterCut_30 : decode cX1_enterCut 30 = .ok (.if_icmp .ne 27, 3) := by decide +kernel
theorem dX1_enterCut_33 : decode cX1_enterCut 33 = .ok (.aload_n 0, 1) := by decide +kernel
theorem dX1_enterCut_34 : decode cX1_enterCut 34 = .ok (.getfield 14, 3) := by decide +kernel
theorem dX1_enterCut_37 : decode cX1_enterCut 37 = .ok (.aload_n 0, 1) := by decide +kernel
theorem dX1_enterCut_38 : decode cX1_enterCut 38 = .ok (.getfield 68, 3) := by decide +kernel
theorem dX1_enterCut_41 : decode cX1_enterCut 41 = .ok (.invokevirtual 181, 3) := by decide +kernel
theorem dX1_enterCut_44 : decode cX1_enterCut 44 = .ok (.iconst 1, 1) := by decide +kernel
theorem dX1_enterCut_45 : decode cX1_enterCut 45 = .ok (.if_icmp .ne 12, 3) := by decide +kernel
theorem dX1_enterCut_48 : decode cX1_enterCut 48 = .ok (.aload_n 0, 1) := by decide +kernel
theorem dX1_enterCut_49 : decode cX1_enterCut 49 = .ok (.iconst 3, 1) := by decide +kernel
theorem dX1_enterCut_50 : decode cX1_enterCut 50 = .ok (.aload_n 0, 1) := by decide +kernel
theorem dX1_enterCut_51 : decode cX1_enterCut 51 = .ok (.getfield 68, 3) := by decide +kernel
theorem dX1_enterCut_54 : decode cX1_enterCut 54 = .ok (.invokevirtual 198, 3) := by decide +kernel
theorem dX1_enterCut_57 : decode cX1_enterCut 57 = .ok (.aload_n 0, 1) := by decide +kernel
theorem dX1_enterCut_58 : decode cX1_enterCut 58 = .ok (.invokevirtual 168, 3) := by decide +kernel
theorem dX1_enterCut_61 : decode cX1_enterCut 61 = .ok (.return_, 1) := by decide +kernel
theorem dX1_enterLoop_0 : decode cX1_enterLoop 0 = .ok (.aload_n 0, 1) := by decide +kernel
theorem dX1_enterLoop_1 : decode cX1_enterLoop 1 = .ok (.getfield 14, 3) := by decide +kernel
theorem dX1_enterLoop_4 : decode cX1_enterLoop 4 = .ok (.aload_n 0, 1) := by decide +kernel
theorem dX1_enterLoop_5 : decode cX1_enterLoop 5 = .ok (.getfield 68, 3) := by decide +kernel
theorem dX1_enterLoop_8 : decode cX1_enterLoop 8 = .ok (.invokevirtual 181, 3) := by decide +kernel
theorem dX1_enterLoop_11 : decode cX1_enterLoop 11 = .ok (.iconst 2, 1) := by decide +kernel
theorem dX1_enterLoop_12 : decode cX1_enterLoop 12 = .ok (.if_icmp .ne 15, 3) := by decide +kernel
theorem dX1_enterLoop_15 : decode cX1_enterLoop 15 = .ok (.aload_n 0, 1) := by decide +kernel
theorem dX1_enterLoop_16 : decode cX1_enterLoop 16 = .ok (.invokevirtual 140, 3) := by decide +kernel
theorem dX1_enterLoop_19 : decode cX1_enterLoop 19 = .ok (.ifCond .ne 4, 3) := by decide +kernel
theorem dX1_enterLoop_22 : decode cX1_enterLoop 22 = .ok (.return_, 1) := by decide +kernel
theorem dX1_enterLoop_23 : decode cX1_enterLoop 23 = .ok (.aload_n 0, 1) := by decide +kernel
theorem dX1_enterLoop_24 : decode cX1_enterLoop 24 = .ok (.invokevirtual 201, 3) := by decide +kernel
theorem dX1_enterLoop_27 : decode cX1_enterLoop 27 = .ok (.aload_n 0, 1) := by decide +kernel
theorem dX1_enterLoop_28 : decode cX1_enterLoop 28 = .ok (.aload_n 0, 1) := by decide +kernel
theorem dX1_enterLoop_29 : decode cX1_enterLoop 29 = .ok (.getfield 68, 3) := by decide +kernel
theorem dX1_enterLoop_32 : decode cX1_enterLoop 32 = .ok (.iconst 0, 1) := by decide +kernel
theorem dX1_enterLoop_33 : decode cX1_enterLoop 33 = .ok (.invokevirtual 165, 3) := by decide +kernel
theorem dX1_enterLoop_36 : decode cX1_enterLoop 36 = .ok (.aload_n 0, 1) := by decide +kernel
theorem dX1_enterLoop_37 : decode cX1_enterLoop 37 = .ok (.iconst 3, 1) := by decide +kernel
theorem dX1_enterLoop_38 : decode cX1_enterLoop 38 = .ok (.putfield 71, 3) := by decide +kernel
theorem dX1_enterLoop_41 : decode cX1_enterLoop 41 = .ok (.return_, 1) := by decide +kernel
theorem dX1_enterRow_0 : decode cX1_enterRow 0 = .ok (.aload_n 0, 1) := by decide +kernel
theorem dX1_enterRow_1 : decode cX1_enterRow 1 = .ok (.getfield 14, 3) := by decide +kernel
theorem dX1_enterRow_4 : decode cX1_enterRow 4 = .ok (.iload_n 1, 1) := by decide +kernel
theorem dX1_enterRow_5 : decode cX1_enterRow 5 = .ok (.invokevirtual 195, 3) := by decide +kernel
theorem dX1_enterRow_8 : decode cX1_enterRow 8 = .ok (.istore_n 2, 1) := by decide +kernel
theorem dX1_enterRow_9 : decode cX1_enterRow 9 = .ok (.iload_n 2, 1) := by decide +kernel
theorem dX1_enterRow_10 : decode cX1_enterRow 10 = .ok (.iconst (-1), 1) := by decide +kernel
theorem dX1_enterRow_11 : decode cX1_enterRow 11 = .ok (.if_icmp .eq 9, 3) := by decide +kernel
theorem dX1_enterRow_14 : decode cX1_enterRow 14 = .ok (.aload_n 0, 1) := by decide +kernel
theorem dX1_enterRow_15 : decode cX1_enterRow 15 = .ok (.iconst 0, 1) := by decide +kernel
theorem dX1_enterRow_16 : decode cX1_enterRow 16 = .ok (.iload_n 2, 1) := by decide +kernel
theorem dX1_enterRow_17 : decode cX1_enterRow 17 = .ok (.invokevirtual 198, 3) := by decide +kernel
theorem dX1_enterRow_20 : decode cX1_enterRow 20 = .ok (.aload_n 0, 1) := by decide +kernel
theorem dX1_enterRow_21 : decode cX1_enterRow 21 = .ok (.iload_n 1, 1) := by decide +kernel
theorem dX1_enterRow_22 : decode cX1_enterRow 22 = .ok (.putfield 68, 3) := by decide +kernel
theorem dX1_enterRow_25 : decode cX1_enterRow 25 = .ok (.aload_n 0, 1) := by decide +kernel
theorem dX1_enterRow_26 : decode cX1_enterRow 26 = .ok (.iconst 0, 1) := by decide +kernel
theorem dX1_enterRow_27 : decode cX1_enterRow 27 = .ok (.putfield 71, 3) := by decide +kernel
theorem dX1_enterRow_30 : decode cX1_enterRow 30 = .ok (.return_, 1) := by decide +kernel
theorem dX1_goBack_0 : decode cX1_goBack 0 = .ok (.aload_n 0, 1) := by decide +kernel
theorem dX1_goBack_1 : decode cX1_goBack 1 = .ok (.getfield 74, 3) := by decide +kernel
theorem dX1_goBack_4 : decode cX1_goBack 4 = .ok (.aload_n 0, 1) := by decide +kernel
theorem dX1_goBack_5 : decode cX1_goBack 5 = .ok (.getfield 42, 3) := by decide +kernel
theorem dX1_goBack_8 : decode cX1_goBack 8 = .ok (.arraylength, 1) := by decide +kernel
theorem dX1_goBack_9 : decode cX1_goBack 9 = .ok (.if_icmp .gt 23, 3) := by decide +kernel
theorem dX1_goBack_12 : decode cX1_goBack 12 = .ok (.aload_n 0, 1) := by decide +kernel
theorem dX1_goBack_13 : decode cX1_goBack 13 = .ok (.getfield 74, 3) := by decide +kernel
theorem dX1_goBack_16 : decode cX1_goBack 16 = .ok (.aload_n 0, 1) := by decide +kernel
theorem dX1_goBack_17 : decode cX1_goBack 17 = .ok (.getfield 45, 3) := by decide +kernel
theorem dX1_goBack_20 : decode cX1_goBack 20 = .ok (.arraylength, 1) := by decide +kernel
theorem dX1_goBack_21 : decode cX1_goBack 21 = .ok (.if_icmp .gt 11, 3) := by decide +kernel
theorem dX1_goBack_24 : decode cX1_goBack 24 = .ok (.aload_n 0, 1) := by decide +kernel
theorem dX1_goBack_25 : decode cX1_goBack 25 = .ok (.getfield 74, 3) := by decide +kernel
theorem dX1_goBack_28 : decode cX1_goBack 28 = .ok (.iconst 1, 1) := by decide +kernel
theorem dX1_goBack_29 : decode cX1_goBack 29 = .ok (.if_icmp .ge 8, 3) := by decide +kernel
theorem dX1_goBack_32 : decode cX1_goBack 32 = .ok (.aload_n 0, 1) := by decide +kernel
theorem dX1_goBack_33 : decode cX1_goBack 33 = .ok (.invokevirtual 240, 3) := by decide +kernel
theorem dX1_goBack_36 : decode cX1_goBack 36 = .ok (.return_, 1) := by decide +kernel
theorem dX1_goBack_37 : decode cX1_goBack 37 = .ok (.aload_n 0, 1) := by decide +kernel
theorem dX1_goBack_38 : decode cX1_goBack 38 = .ok (.dup, 1) := by decide +kernel
theorem dX1_goBack_39 : decode cX1_goBack 39 = .ok (.getfield 74, 3) := by decide +kernel
theorem dX1_goBack_42 : decode cX1_goBack 42 = .ok (.iconst 1, 1) := by decide +kernel
theorem dX1_goBack_43 : decode cX1_goBack 43 = .ok (.isub, 1) := by decide +kernel
theorem dX1_goBack_44 : decode cX1_goBack 44 = .ok (.putfield 74, 3) := by decide +kernel
theorem dX1_goBack_47 : decode cX1_goBack 47 = .ok (.aload_n 0, 1) := by decide +kernel
theorem dX1_goBack_48 : decode cX1_goBack 48 = .ok (.getfield 42, 3) := by decide +kernel
theorem dX1_goBack_51 : decode cX1_goBack 51 = .ok (.aload_n 0, 1) := by decide +kernel
theorem dX1_goBack_52 : decode cX1_goBack 52 = .ok (.getfield 74, 3) := by decide +kernel
theorem dX1_goBack_55 : decode cX1_goBack 55 = .ok (.iaload, 1) := by decide +kernel
theorem dX1_goBack_56 : decode cX1_goBack 56 = .ok (.istore_n 1, 1) := by decide +kernel
theorem dX1_goBack_57 : decode cX1_goBack 57 = .ok (.aload_n 0, 1) := by decide +kernel
theorem dX1_goBack_58 : decode cX1_goBack 58 = .ok (.aload_n 0, 1) := by decide +kernel
theorem dX1_goBack_59 : decode cX1_goBack 59 = .ok (.getfield 45, 3) := by decide +kernel
theorem dX1_goBack_62 : decode cX1_goBack 62 = .ok (.aload_n 0, 1) := by decide +kernel
theorem dX1_goBack_63 : decode cX1_goBack 63 = .ok (.getfield 74, 3) := by decide +kernel
theorem dX1_goBack_66 : decode cX1_goBack 66 = .ok (.iaload, 1) := by decide +kernel
theorem dX1_goBack_67 : decode cX1_goBack 67 = .ok (.invokevirtual 243, 3) := by decide +kernel
theorem dX1_goBack_70 : decode cX1_goBack 70 = .ok (.aload_n 0, 1) := by decide +kernel
theorem dX1_goBack_71 : decode cX1_goBack 71 = .ok (.iload_n 1, 1) := by decide +kernel
theorem dX1_goBack_72 : decode cX1_goBack 72 = .ok (.sipush 128, 3) := by decide +kernel
theorem dX1_goBack_75 : decode cX1_goBack 75 = .ok (.irem, 1) := by decide +kernel
theorem dX1_goBack_76 : decode cX1_goBack 76 = .ok (.putfield 65, 3) := by decide +kernel
theorem dX1_goBack_79 : decode cX1_goBack 79 = .ok (.aload_n 0, 1) := by decide +kernel
theorem dX1_goBack_80 : decode cX1_goBack 80 = .ok (.iload_n 1, 1) := by decide +kernel
theorem dX1_goBack_81 : decode cX1_goBack 81 = .ok (.sipush 128, 3) := by decide +kernel
theorem dX1_goBack_84 : decode cX1_goBack 84 = .ok (.idiv, 1) := by decide +kernel
theorem dX1_goBack_85 : decode cX1_goBack 85 = .ok (.iconst 4, 1) := by decide +kernel
theorem dX1_goBack_86 : decode cX1_goBack 86 = .ok (.idiv, 1) := by decide +kernel
theorem dX1_goBack_87 : decode cX1_goBack 87 = .ok (.putfield 68, 3) := by decide +kernel
theorem dX1_goBack_90 : decode cX1_goBack 90 = .ok (.iload_n 1, 1) := by decide +kernel
theorem dX1_goBack_91 : decode cX1_goBack 91 = .ok (.sipush 128, 3) := by decide +kernel
theorem dX1_goBack_94 : decode cX1_goBack 94 = .ok (.idiv, 1) := by decide +kernel
theorem dX1_goBack_95 : decode cX1_goBack 95 = .ok (.iconst 4, 1) := by decide +kernel
theorem dX1_goBack_96 : decode cX1_goBack 96 = .ok (.irem, 1) := by decide +kernel
theorem dX1_goBack_97 : decode cX1_goBack 97 = .ok (.tableswitch 53 0 2 #[27, 38, 45], 27) := by decide +kernel
theorem dX1_goBack_124 : decode cX1_goBack 124 = .ok (.aload_n 0, 1) := by decide +kernel
theorem dX1_goBack_125 : decode cX1_goBack 125 = .ok (.aload_n 0, 1) := by decide +kernel
theorem dX1_goBack_126 : decode cX1_goBack 126 = .ok (.getfield 68, 3) := by decide +kernel
theorem dX1_goBack_129 : decode cX1_goBack 129 = .ok (.invokevirtual 156, 3) := by decide +kernel
theorem dX1_goBack_132 : decode cX1_goBack 132 = .ok (.goto 22, 3) := by decide +kernel
theorem dX1_goBack_135 : decode cX1_goBack 135 = .ok (.aload_n 0, 1) := by decide +kernel
theorem dX1_goBack_136 : decode cX1_goBack 136 = .ok (.invokevirtual 213, 3) := by decide +kernel
theorem dX1_goBack_139 : decode cX1_goBack 139 = .ok (.goto 15, 3) := by decide +kernel
theorem dX1_goBack_142 : decode cX1_goBack 142 = .ok (.aload_n 0, 1) := by decide +kernel
theorem dX1_goBack_143 : decode cX1_goBack 143 = .ok (.iconst 4, 1) := by decide +kernel
theorem dX1_goBack_144 : decode cX1_goBack 144 = .ok (.putfield 71, 3) := by decide +kernel
theorem dX1_goBack_147 : decode cX1_goBack 147 = .ok (.goto 7, 3) := by decide +kernel
theorem dX1_goBack_150 : decode cX1_goBack 150 = .ok (.aload_n 0, 1) := by decide +kernel
theorem dX1_goBack_151 : decode cX1_goBack 151 = .ok (.invokevirtual 246, 3) := by decide +kernel
theorem dX1_goBack_154 : decode cX1_goBack 154 = .ok (.return_, 1) := by decide +kernel
theorem dX1_keepChoice_0 : decode cX1_keepChoice 0 = .ok (.aload_n 0, 1) := by decide +kernel
theorem dX1_keepChoice_1 : decode cX1_keepChoice 1 = .ok (.getfield 74, 3) := by decide +kernel
theorem dX1_keepChoice_4 : decode cX1_keepChoice 4 = .ok (.aload_n 0, 1) := by decide +kernel
theorem dX1_keepChoice_5 : decode cX1_keepChoice 5 = .ok (.getfield 42, 3) := by decide +kernel
theorem dX1_keepChoice_8 : decode cX1_keepChoice 8 = .ok (.arraylength, 1) := by decide +kernel
theorem dX1_keepChoice_9 : decode cX1_keepChoice 9 = .ok (.if_icmp .lt 47, 3) := by decide +kernel
theorem dX1_keepChoice_12 : decode cX1_keepChoice 12 = .ok (.aload_n 0, 1) := by decide +kernel
theorem dX1_keepChoice_13 : decode cX1_keepChoice 13 = .ok (.getfield 42, 3) := by decide +kernel
theorem dX1_keepChoice_16 : decode cX1_keepChoice 16 = .ok (.arraylength, 1) := by decide +kernel
theorem dX1_keepChoice_17 : decode cX1_keepChoice 17 = .ok (.ldc 249, 2) := by decide +kernel
theorem dX1_keepChoice_19 : decode cX1_keepChoice 19 = .ok (.if_icmp .ge 37, 3) := by decide +kernel
theorem dX1_keepChoice_22 : decode cX1_keepChoice 22 = .ok (.aload_n 0, 1) := by decide +kernel
theorem dX1_keepChoice_23 : decode cX1_keepChoice 23 = .ok (.aload_n 0, 1) := by decide +kernel
theorem dX1_keepChoice_24 : decode cX1_keepChoice 24 = .ok (.getfield 42, 3) := by decide +kernel
theorem dX1_keepChoice_27 : decode cX1_keepChoice 27 = .ok (.aload_n 0, 1) := by decide +kernel
theorem dX1_keepChoice_28 : decode cX1_keepChoice 28 = .ok (.getfield 42, 3) := by decide +kernel
theorem dX1_keepChoice_31 : decode cX1_keepChoice 31 = .ok (.arraylength, 1) := by decide +kernel
theorem dX1_keepChoice_32 : decode cX1_keepChoice 32 = .ok (.iconst 2, 1) := by decide +kernel
theorem dX1_keepChoice_33 : decode cX1_keepChoice 33 = .ok (.imul, 1) := by decide +kernel
theorem dX1_keepChoice_34 : decode cX1_keepChoice 34 = .ok (.invokestatic 250, 3) := by decide +kernel
theorem dX1_keepChoice_37 : decode cX1_keepChoice 37 = .ok (.putfield 42, 3) := by decide +kernel
theorem dX1_keepChoice_40 : decode cX1_keepChoice 40 = .ok (.aload_n 0, 1) := by decide +kernel
theorem dX1_keepChoice_41 : decode cX1_keepChoice 41 = .ok (.aload_n 0, 1) := by decide +kernel
theorem dX1_keepChoice_42 : decode cX1_keepChoice 42 = .ok (.getfield 45, 3) := by decide +kernel
theorem dX1_keepChoice_45 : decode cX1_keepChoice 45 = .ok (.aload_n 0, 1) := by decide +kernel
theorem dX1_keepChoice_46 : decode cX1_keepChoice 46 = .ok (.getfield 42, 3) := by decide +kernel
theorem dX1_keepChoice_49 : decode cX1_keepChoice 49 = .ok (.arraylength, 1) := by decide +kernel
theorem dX1_keepChoice_50 : decode cX1_keepChoice 50 = .ok (.invokestatic 250, 3) := by decide +kernel
theorem dX1_keepChoice_53 : decode cX1_keepChoice 53 = .ok (.putfield 45, 3) := by decide +kernel
theorem dX1_keepChoice_56 : decode cX1_keepChoice 56 = .ok (.aload_n 0, 1) := by decide +kernel
theorem dX1_keepChoice_57 : decode cX1_keepChoice 57 = .ok (.getfield 74, 3) := by decide +kernel
theorem dX1_keepChoice_60 : decode cX1_keepChoice 60 = .ok (.ifCond .lt 73, 3) := by decide +kernel
theorem dX1_keepChoice_63 : decode cX1_keepChoice 63 = .ok (.aload_n 0, 1) := by decide +kernel
theorem dX1_keepChoice_64 : decode cX1_keepChoice 64 = .ok (.getfield 74, 3) := by decide +kernel
theorem dX1_keepChoice_67 : decode cX1_keepChoice 67 = .ok (.aload_n 0, 1) := by decide +kernel
theorem dX1_keepChoice_68 : decode cX1_keepChoice 68 = .ok (.getfield 42, 3) := by decide +kernel
theorem dX1_keepChoice_71 : decode cX1_keepChoice 71 = .ok (.arraylength, 1) := by decide +kernel
theorem dX1_keepChoice_72 : decode cX1_keepChoice 72 = .ok (.if_icmp .ge 61, 3) := by decide +kernel
theorem dX1_keepChoice_75 : decode cX1_keepChoice 75 = .ok (.aload_n 0, 1) := by decide +kernel
theorem dX1_keepChoice_76 : decode cX1_keepChoice 76 = .ok (.getfield 74, 3) := by decide +kernel
theorem dX1_keepChoice_79 : decode cX1_keepChoice 79 = .ok (.aload_n 0, 1) := by decide +kernel
theorem dX1_keepChoice_80 : decode cX1_keepChoice 80 = .ok (.getfield 45, 3) := by decide +kernel
theorem dX1_keepChoice_83 : decode cX1_keepChoice 83 = .ok (.arraylength, 1) := by decide +kernel
theorem dX1_keepChoice_84 : decode cX1_keepChoice 84 = .ok (.if_icmp .ge 49, 3) := by decide +kernel
theorem dX1_keepChoice_87 : decode cX1_keepChoice 87 = .ok (.aload_n 0, 1) := by decide +kernel
theorem dX1_keepChoice_88 : decode cX1_keepChoice 88 = .ok (.getfield 42, 3) := by decide +kernel
theorem dX1_keepChoice_91 : decode cX1_keepChoice 91 = .ok (.aload_n 0, 1) := by decide +kernel
theorem dX1_keepChoice_92 : decode cX1_keepChoice 92 = .ok (.getfield 74, 3) := by decide +kernel
theorem dX1_keepChoice_95 : decode cX1_keepChoice 95 = .ok (.iload_n 2, 1) := by decide +kernel
theorem dX1_keepChoice_96 : decode cX1_keepChoice 96 = .ok (.iconst 4, 1) := by decide +kernel
theorem dX1_keepChoice_97 : decode cX1_keepChoice 97 = .ok (.imul, 1) := by decide +kernel
theorem dX1_keepChoice_98 : decode cX1_keepChoice 98 = .ok (.iload_n 1, 1) := by decide +kernel
theorem dX1_keepChoice_99 : decode cX1_keepChoice 99 = .ok (.iadd, 1) := by decide +kernel
theorem dX1_keepChoice_100 : decode cX1_keepChoice 100 = .ok (.sipush 128, 3) := by decide +kernel
theorem dX1_keepChoice_103 : decode cX1_keepChoice 103 = .ok (.imul, 1) := by decide +kernel
theorem dX1_keepChoice_104 : decode cX1_keepChoice 104 = .ok (.aload_n 0, 1) := by decide +kernel
theorem dX1_keepChoice_105 : decode cX1_keepChoice 105 = .ok (.getfield 65, 3) := by decide +kernel
theorem dX1_keepChoice_108 : decode cX1_keepChoice 108 = .ok (.iadd, 1) := by decide +kernel
theorem dX1_keepChoice_109 : decode cX1_keepChoice 109 = .ok (.iastore, 1) := by decide +kernel
theorem dX1_keepChoice_110 : decode cX1_keepChoice 110 = .ok (.aload_n 0, 1) := by decide +kernel
theorem dX1_keepChoice_111 : decode cX1_keepChoice 111 = .ok (.getfield 45, 3) := by decide +kernel
theorem dX1_keepChoice_114 : decode cX1_keepChoice 114 = .ok (.aload_n 0, 1) := by decide +kernel
theorem dX1_keepChoice_115 : decode cX1_keepChoice 115 = .ok (.getfield 74, 3) := by decide +kernel
theorem dX1_keepChoice_118 : decode cX1_keepChoice 118 = .ok (.aload_n 0, 1) := by decide +kernel
theorem dX1_keepChoice_119 : decode cX1_keepChoice 119 = .ok (.getfield 77, 3) := by decide +kernel
theorem dX1_keepChoice_122 : decode cX1_keepChoice 122 = .ok (.iastore, 1) := by decide +kernel
theorem dX1_keepChoice_123 : decode cX1_keepChoice 123 = .ok (.aload_n 0, 1) := by decide +kernel
theorem dX1_keepChoice_124 : decode cX1_keepChoice 124 = .ok (.dup, 1) := by decide +kernel
theorem dX1_keepChoice_125 : decode cX1_keepChoice 125 = .ok (.getfield 74, 3) := by decide +kernel
theorem dX1_keepChoice_128 : decode cX1_keepChoice 128 = .ok (.iconst 1, 1) := by decide +kernel
theorem dX1_keepChoice_129 : decode cX1_keepChoice 129 = .ok (.iadd, 1) := by decide +kernel
theorem dX1_keepChoice_130 : decode cX1_keepChoice 130 = .ok (.putfield 74, 3) := by decide +kernel
theorem dX1_keepChoice_133 : decode cX1_keepChoice 133 = .ok (.return_, 1) := by decide +kernel
theorem dX1_leave_0 : decode cX1_leave 0 = .ok (.aload_n 0, 1) := by decide +kernel
theorem dX1_leave_1 : decode cX1_leave 1 = .ok (.getfield 68, 3) := by decide +kernel
theorem dX1_leave_4 : decode cX1_leave 4 = .ok (.istore_n 1, 1) := by decide +kernel
theorem dX1_leave_5 : decode cX1_leave 5 = .ok (.aload_n 0, 1) := by decide +kernel
theorem dX1_leave_6 : decode cX1_leave 6 = .ok (.getfield 14, 3) := by decide +kernel
theorem dX1_leave_9 : decode cX1_leave 9 = .ok (.iload_n 1, 1) := by decide +kernel
theorem dX1_leave_10 : decode cX1_leave 10 = .ok (.invokevirtual 225, 3) := by decide +kernel
theorem dX1_leave_13 : decode cX1_leave 13 = .ok (.istore_n 2, 1) := by decide +kernel
theorem dX1_leave_14 : decode cX1_leave 14 = .ok (.iload_n 2, 1) := by decide +kernel
theorem dX1_leave_15 : decode cX1_leave 15 = .ok (.iconst (-1), 1) := by decide +kernel
theorem dX1_leave_16 : decode cX1_leave 16 = .ok (.if_icmp .ne 8, 3) := by decide +kernel
theorem dX1_leave_19 : decode cX1_leave 19 = .ok (.aload_n 0, 1) := by decide +kernel
theorem dX1_leave_20 : decode cX1_leave 20 = .ok (.invokevirtual 228, 3) := by decide +kernel
theorem dX1_leave_23 : decode cX1_leave 23 = .ok (.return_, 1) := by decide +kernel
theorem dX1_leave_24 : decode cX1_leave 24 = .ok (.aload_n 0, 1) := by decide +kernel
theorem dX1_leave_25 : decode cX1_leave 25 = .ok (.iload_n 2, 1) := by decide +kernel
theorem dX1_leave_26 : decode cX1_leave 26 = .ok (.putfield 68, 3) := by decide +kernel
theorem dX1_leave_29 : decode cX1_leave 29 = .ok (.aload_n 0, 1) := by decide +kernel
theorem dX1_leave_30 : decode cX1_leave 30 = .ok (.getfield 14, 3) := by decide +kernel
theorem dX1_leave_33 : decode cX1_leave 33 = .ok (.iload_n 2, 1) := by decide +kernel
theorem dX1_leave_34 : decode cX1_leave 34 = .ok (.invokevirtual 137, 3) := by decide +kernel
theorem dX1_leave_37 : decode cX1_leave 37 = .ok (.tableswitch 103 5 10 #[39, 103, 47, 54, 89, 96], 39) := by decide +kernel
theorem dX1_leave_76 : decode cX1_leave 76 = .ok (.aload_n 0, 1) := by decide +kernel
theorem dX1_leave_77 : decode cX1_leave 77 = .ok (.iload_n 1, 1) := by decide +kernel
theorem dX1_leave_78 : decode cX1_leave 78 = .ok (.invokevirtual 231, 3) := by decide +kernel
theorem dX1_leave_81 : decode cX1_leave 81 = .ok (.goto 59, 3) := by decide +kernel
theorem dX1_leave_84 : decode cX1_leave 84 = .ok (.aload_n 0, 1) := by decide +kernel
theorem dX1_leave_85 : decode cX1_leave 85 = .ok (.invokevirtual 234, 3) := by decide +kernel
theorem dX1_leave_88 : decode cX1_leave 88 = .ok (.goto 52, 3) := by decide +kernel
theorem dX1_leave_91 : decode cX1_leave 91 = .ok (.aload_n 0, 1) := by decide +kernel
theorem dX1_leave_92 : decode cX1_leave 92 = .ok (.sipush 256, 3) := by decide +kernel
theorem dX1_leave_95 : decode cX1_leave 95 = .ok (.aload_n 0, 1) := by decide +kernel
theorem dX1_leave_96 : decode cX1_leave 96 = .ok (.getfield 14, 3) := by decide +kernel
theorem dX1_leave_99 : decode cX1_leave 99 = .ok (.iload_n 2, 1) := by decide +kernel
theorem dX1_leave_100 : decode cX1_leave 100 = .ok (.invokevirtual 181, 3) := by decide +kernel
theorem dX1_leave_103 : decode cX1_leave 103 = .ok (.iadd, 1) := by decide +kernel
theorem dX1_leave_104 : decode cX1_leave 104 = .ok (.aload_n 0, 1) := by decide +kernel
theorem dX1_leave_105 : decode cX1_leave 105 = .ok (.iload_n 2, 1) := by decide +kernel
theorem dX1_leave_106 : decode cX1_leave 106 = .ok (.invokevirtual 204, 3) := by decide +kernel
theorem dX1_leave_109 : decode cX1_leave 109 = .ok (.sipush 128, 3) := by decide +kernel
theorem dX1_leave_112 : decode cX1_leave 112 = .ok (.imul, 1) := by decide +kernel
theorem dX1_leave_113 : decode cX1_leave 113 = .ok (.aload_n 0, 1) := by decide +kernel
theorem dX1_leave_114 : decode cX1_leave 114 = .ok (.getfield 65, 3) := by decide +kernel
theorem dX1_leave_117 : decode cX1_leave 117 = .ok (.iadd, 1) := by decide +kernel
theorem dX1_leave_118 : decode cX1_leave 118 = .ok (.iconst 1, 1) := by decide +kernel
theorem dX1_leave_119 : decode cX1_leave 119 = .ok (.iadd, 1) := by decide +kernel
theorem dX1_leave_120 : decode cX1_leave 120 = .ok (.invokevirtual 165, 3) := by decide +kernel
theorem dX1_leave_123 : decode cX1_leave 123 = .ok (.goto 17, 3) := by decide +kernel
theorem dX1_leave_126 : decode cX1_leave 126 = .ok (.aload_n 0, 1) := by decide +kernel
theorem dX1_leave_127 : decode cX1_leave 127 = .ok (.invokevirtual 237, 3) := by decide +kernel
theorem dX1_leave_130 : decode cX1_leave 130 = .ok (.goto 10, 3) := by decide +kernel
theorem dX1_leave_133 : decode cX1_leave 133 = .ok (.aload_n 0, 1) := by decide +kernel
theorem dX1_leave_134 : decode cX1_leave 134 = .ok (.invokevirtual 216, 3) := by decide +kernel
theorem dX1_leave_137 : decode cX1_leave 137 = .ok (.goto 3, 3) := by decide +kernel
theorem dX1_leave_140 : decode cX1_leave 140 = .ok (.return_, 1) := by decide +kernel
theorem dX1_proceed_0 : decode cX1_proceed 0 = .ok (.aload_n 0, 1) := by decide +kernel
theorem dX1_proceed_1 : decode cX1_proceed 1 = .ok (.sipush 3000, 3) := by decide +kernel
theorem dX1_proceed_4 : decode cX1_proceed 4 = .ok (.aload_n 0, 1) := by decide +kernel
theorem dX1_proceed_5 : decode cX1_proceed 5 = .ok (.getfield 55, 3) := by decide +kernel
theorem dX1_proceed_8 : decode cX1_proceed 8 = .ok (.iload_n 1, 1) := by decide +kernel
theorem dX1_proceed_9 : decode cX1_proceed 9 = .ok (.iadd, 1) := by decide +kernel
theorem dX1_proceed_10 : decode cX1_proceed 10 = .ok (.invokestatic 86, 3) := by decide +kernel
theorem dX1_proceed_13 : decode cX1_proceed 13 = .ok (.putfield 92, 3) := by decide +kernel
theorem dX1_proceed_16 : decode cX1_proceed 16 = .ok (.aload_n 0, 1) := by decide +kernel
theorem dX1_proceed_17 : decode cX1_proceed 17 = .ok (.iconst 0, 1) := by decide +kernel
theorem dX1_proceed_18 : decode cX1_proceed 18 = .ok (.putfield 95, 3) := by decide +kernel
theorem dX1_proceed_21 : decode cX1_proceed 21 = .ok (.iconst 0, 1) := by decide +kernel
theorem dX1_proceed_22 : decode cX1_proceed 22 = .ok (.istore_n 3, 1) := by decide +kernel
theorem dX1_proceed_23 : decode cX1_proceed 23 = .ok (.iload_n 3, 1) := by decide +kernel
theorem dX1_proceed_24 : decode cX1_proceed 24 = .ok (.ldc 98, 2) := by decide +kernel
theorem dX1_proceed_26 : decode cX1_proceed 26 = .ok (.if_icmp .ge 99, 3) := by decide +kernel
theorem dX1_proceed_29 : decode cX1_proceed 29 = .ok (.aload_n 0, 1) := by decide +kernel
theorem dX1_proceed_30 : decode cX1_proceed 30 = .ok (.getfield 95, 3) := by decide +kernel
theorem dX1_proceed_33 : decode cX1_proceed 33 = .ok (.ifCond .ne 92, 3) := by decide +kernel
theorem dX1_proceed_36 : decode cX1_proceed 36 = .ok (.aload_n 0, 1) := by decide +kernel
theorem dX1_proceed_37 : decode cX1_proceed 37 = .ok (.getfield 71, 3) := by decide +kernel
theorem dX1_proceed_40 : decode cX1_proceed 40 = .ok (.tableswitch 75 0 5 #[40, 47, 75, 54, 61, 68], 40) := by decide +kernel
theorem dX1_proceed_80 : decode cX1_proceed 80 = .ok (.aload_n 0, 1) := by decide +kernel
