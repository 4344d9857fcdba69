theorem dX9_reach_101 : decode cX9_reach 101 = .ok (.if_icmp .ge 18, 3) := by decide +kernel
theorem dX9_reach_104 : decode cX9_reach 104 = .ok (.lload_n 2, 1) := by decide +kernel
theorem dX9_reach_105 : decode cX9_reach 105 = .ok (.lconst 1, 1) := by decide +kernel
theorem dX9_reach_106 : decode cX9_reach 106 = .ok (.aload_n 0, 1) := by decide +kernel
theorem dX9_reach_107 : decode cX9_reach 107 = .ok (.getfield 18, 3) := by decide +kernel
theorem dX9_reach_110 : decode cX9_reach 110 = .ok (.iload 5, 2) := by decide +kernel
theorem dX9_reach_112 : decode cX9_reach 112 = .ok (.iaload, 1) := by decide +kernel
theorem dX9_reach_113 : decode cX9_reach 113 = .ok (.lshl, 1) := by decide +kernel
theorem dX9_reach_114 : decode cX9_reach 114 = .ok (.lor, 1) := by decide +kernel
theorem dX9_reach_115 : decode cX9_reach 115 = .ok (.lstore_n 2, 1) := by decide +kernel
theorem dX9_reach_116 : decode cX9_reach 116 = .ok (.goto 55, 3) := by decide +kernel
theorem dX9_reach_119 : decode cX9_reach 119 = .ok (.iload 6, 2) := by decide +kernel
theorem dX9_reach_121 : decode cX9_reach 121 = .ok (.bipush 6, 2) := by decide +kernel
theorem dX9_reach_123 : decode cX9_reach 123 = .ok (.if_icmp .ne 12, 3) := by decide +kernel
theorem dX9_reach_126 : decode cX9_reach 126 = .ok (.lload_n 2, 1) := by decide +kernel
theorem dX9_reach_127 : decode cX9_reach 127 = .ok (.ldc2_w 124, 3) := by decide +kernel
theorem dX9_reach_130 : decode cX9_reach 130 = .ok (.lor, 1) := by decide +kernel
theorem dX9_reach_131 : decode cX9_reach 131 = .ok (.lstore_n 2, 1) := by decide +kernel
theorem dX9_reach_132 : decode cX9_reach 132 = .ok (.goto 39, 3) := by decide +kernel
theorem dX9_reach_135 : decode cX9_reach 135 = .ok (.aload_n 0, 1) := by decide +kernel
theorem dX9_reach_136 : decode cX9_reach 136 = .ok (.iload 6, 2) := by decide +kernel
theorem dX9_reach_138 : decode cX9_reach 138 = .ok (.iconst 4, 1) := by decide +kernel
theorem dX9_reach_139 : decode cX9_reach 139 = .ok (.if_icmp .ne 15, 3) := by decide +kernel
theorem dX9_reach_142 : decode cX9_reach 142 = .ok (.aload_n 0, 1) := by decide +kernel
theorem dX9_reach_143 : decode cX9_reach 143 = .ok (.getfield 12, 3) := by decide +kernel
theorem dX9_reach_146 : decode cX9_reach 146 = .ok (.iload 5, 2) := by decide +kernel
theorem dX9_reach_148 : decode cX9_reach 148 = .ok (.invokevirtual 126, 3) := by decide +kernel
theorem dX9_reach_151 : decode cX9_reach 151 = .ok (.goto 4, 3) := by decide +kernel
theorem dX9_reach_154 : decode cX9_reach 154 = .ok (.iconst (-1), 1) := by decide +kernel
theorem dX9_reach_155 : decode cX9_reach 155 = .ok (.invokevirtual 120, 3) := by decide +kernel
theorem dX9_reach_158 : decode cX9_reach 158 = .ok (.aload_n 0, 1) := by decide +kernel
theorem dX9_reach_159 : decode cX9_reach 159 = .ok (.aload_n 0, 1) := by decide +kernel
theorem dX9_reach_160 : decode cX9_reach 160 = .ok (.getfield 12, 3) := by decide +kernel
theorem dX9_reach_163 : decode cX9_reach 163 = .ok (.iload 5, 2) := by decide +kernel
theorem dX9_reach_165 : decode cX9_reach 165 = .ok (.invokevirtual 82, 3) := by decide +kernel
theorem dX9_reach_168 : decode cX9_reach 168 = .ok (.invokevirtual 120, 3) := by decide +kernel
theorem dX9_reach_171 : decode cX9_reach 171 = .ok (.iinc 4 1, 3) := by decide +kernel
theorem dX9_reach_174 : decode cX9_reach 174 = .ok (.goto (-149), 3) := by decide +kernel
theorem dX9_reach_177 : decode cX9_reach 177 = .ok (.lload_n 2, 1) := by decide +kernel
theorem dX9_reach_178 : decode cX9_reach 178 = .ok (.lreturn, 1) := by decide +kernel
theorem dX9_refine_0 : decode cX9_refine 0 = .ok (.iconst 0, 1) := by decide +kernel
theorem dX9_refine_1 : decode cX9_refine 1 = .ok (.istore_n 1, 1) := by decide +kernel
theorem dX9_refine_2 : decode cX9_refine 2 = .ok (.iconst 0, 1) := by decide +kernel
theorem dX9_refine_3 : decode cX9_refine 3 = .ok (.istore_n 2, 1) := by decide +kernel
theorem dX9_refine_4 : decode cX9_refine 4 = .ok (.iload_n 2, 1) := by decide +kernel
theorem dX9_refine_5 : decode cX9_refine 5 = .ok (.aload_n 0, 1) := by decide +kernel
theorem dX9_refine_6 : decode cX9_refine 6 = .ok (.getfield 96, 3) := by decide +kernel
theorem dX9_refine_9 : decode cX9_refine 9 = .ok (.if_icmp .ge 65, 3) := by decide +kernel
theorem dX9_refine_12 : decode cX9_refine 12 = .ok (.iconst 0, 1) := by decide +kernel
theorem dX9_refine_13 : decode cX9_refine 13 = .ok (.istore_n 3, 1) := by decide +kernel
theorem dX9_refine_14 : decode cX9_refine 14 = .ok (.iload_n 3, 1) := by decide +kernel
theorem dX9_refine_15 : decode cX9_refine 15 = .ok (.iload_n 2, 1) := by decide +kernel
theorem dX9_refine_16 : decode cX9_refine 16 = .ok (.if_icmp .ge 18, 3) := by decide +kernel
theorem dX9_refine_19 : decode cX9_refine 19 = .ok (.aload_n 0, 1) := by decide +kernel
theorem dX9_refine_20 : decode cX9_refine 20 = .ok (.iload_n 3, 1) := by decide +kernel
theorem dX9_refine_21 : decode cX9_refine 21 = .ok (.iload_n 2, 1) := by decide +kernel
theorem dX9_refine_22 : decode cX9_refine 22 = .ok (.invokevirtual 168, 3) := by decide +kernel
theorem dX9_refine_25 : decode cX9_refine 25 = .ok (.ifCond .ne 9, 3) := by decide +kernel
theorem dX9_refine_28 : decode cX9_refine 28 = .ok (.iinc 3 1, 3) := by decide +kernel
theorem dX9_refine_31 : decode cX9_refine 31 = .ok (.goto (-17), 3) := by decide +kernel
theorem dX9_refine_34 : decode cX9_refine 34 = .ok (.aload_n 0, 1) := by decide +kernel
theorem dX9_refine_35 : decode cX9_refine 35 = .ok (.getfield 54, 3) := by decide +kernel
theorem dX9_refine_38 : decode cX9_refine 38 = .ok (.iload_n 2, 1) := by decide +kernel
theorem dX9_refine_39 : decode cX9_refine 39 = .ok (.iload_n 3, 1) := by decide +kernel
theorem dX9_refine_40 : decode cX9_refine 40 = .ok (.iload_n 2, 1) := by decide +kernel
theorem dX9_refine_41 : decode cX9_refine 41 = .ok (.if_icmp .ge 12, 3) := by decide +kernel
theorem dX9_refine_44 : decode cX9_refine 44 = .ok (.aload_n 0, 1) := by decide +kernel
theorem dX9_refine_45 : decode cX9_refine 45 = .ok (.getfield 54, 3) := by decide +kernel
theorem dX9_refine_48 : decode cX9_refine 48 = .ok (.iload_n 3, 1) := by decide +kernel
theorem dX9_refine_49 : decode cX9_refine 49 = .ok (.iaload, 1) := by decide +kernel
theorem dX9_refine_50 : decode cX9_refine 50 = .ok (.goto 4, 3) := by decide +kernel
theorem dX9_refine_53 : decode cX9_refine 53 = .ok (.iload_n 1, 1) := by decide +kernel
theorem dX9_refine_54 : decode cX9_refine 54 = .ok (.iastore, 1) := by decide +kernel
theorem dX9_refine_55 : decode cX9_refine 55 = .ok (.iload_n 1, 1) := by decide +kernel
theorem dX9_refine_56 : decode cX9_refine 56 = .ok (.iload_n 3, 1) := by decide +kernel
theorem dX9_refine_57 : decode cX9_refine 57 = .ok (.iload_n 2, 1) := by decide +kernel
theorem dX9_refine_58 : decode cX9_refine 58 = .ok (.if_icmp .ge 7, 3) := by decide +kernel
theorem dX9_refine_61 : decode cX9_refine 61 = .ok (.iconst 0, 1) := by decide +kernel
theorem dX9_refine_62 : decode cX9_refine 62 = .ok (.goto 4, 3) := by decide +kernel
theorem dX9_refine_65 : decode cX9_refine 65 = .ok (.iconst 1, 1) := by decide +kernel
theorem dX9_refine_66 : decode cX9_refine 66 = .ok (.iadd, 1) := by decide +kernel
theorem dX9_refine_67 : decode cX9_refine 67 = .ok (.istore_n 1, 1) := by decide +kernel
theorem dX9_refine_68 : decode cX9_refine 68 = .ok (.iinc 2 1, 3) := by decide +kernel
theorem dX9_refine_71 : decode cX9_refine 71 = .ok (.goto (-67), 3) := by decide +kernel
theorem dX9_refine_74 : decode cX9_refine 74 = .ok (.iload_n 1, 1) := by decide +kernel
theorem dX9_refine_75 : decode cX9_refine 75 = .ok (.ireturn, 1) := by decide +kernel
theorem dX9_stateOf_0 : decode cX9_stateOf 0 = .ok (.iconst 1, 1) := by decide +kernel
theorem dX9_stateOf_1 : decode cX9_stateOf 1 = .ok (.istore_n 3, 1) := by decide +kernel
theorem dX9_stateOf_2 : decode cX9_stateOf 2 = .ok (.iload_n 3, 1) := by decide +kernel
theorem dX9_stateOf_3 : decode cX9_stateOf 3 = .ok (.aload_n 0, 1) := by decide +kernel
theorem dX9_stateOf_4 : decode cX9_stateOf 4 = .ok (.getfield 96, 3) := by decide +kernel
theorem dX9_stateOf_7 : decode cX9_stateOf 7 = .ok (.if_icmp .ge 28, 3) := by decide +kernel
theorem dX9_stateOf_10 : decode cX9_stateOf 10 = .ok (.iload_n 3, 1) := by decide +kernel
theorem dX9_stateOf_11 : decode cX9_stateOf 11 = .ok (.bipush 60, 2) := by decide +kernel
theorem dX9_stateOf_13 : decode cX9_stateOf 13 = .ok (.if_icmp .ge 22, 3) := by decide +kernel
theorem dX9_stateOf_16 : decode cX9_stateOf 16 = .ok (.aload_n 0, 1) := by decide +kernel
theorem dX9_stateOf_17 : decode cX9_stateOf 17 = .ok (.getfield 38, 3) := by decide +kernel
theorem dX9_stateOf_20 : decode cX9_stateOf 20 = .ok (.iload_n 3, 1) := by decide +kernel
theorem dX9_stateOf_21 : decode cX9_stateOf 21 = .ok (.laload, 1) := by decide +kernel
theorem dX9_stateOf_22 : decode cX9_stateOf 22 = .ok (.lload_n 1, 1) := by decide +kernel
theorem dX9_stateOf_23 : decode cX9_stateOf 23 = .ok (.lcmp, 1) := by decide +kernel
theorem dX9_stateOf_24 : decode cX9_stateOf 24 = .ok (.ifCond .ne 5, 3) := by decide +kernel
theorem dX9_stateOf_27 : decode cX9_stateOf 27 = .ok (.iload_n 3, 1) := by decide +kernel
theorem dX9_stateOf_28 : decode cX9_stateOf 28 = .ok (.ireturn, 1) := by decide +kernel
theorem dX9_stateOf_29 : decode cX9_stateOf 29 = .ok (.iinc 3 1, 3) := by decide +kernel
theorem dX9_stateOf_32 : decode cX9_stateOf 32 = .ok (.goto (-30), 3) := by decide +kernel
theorem dX9_stateOf_35 : decode cX9_stateOf 35 = .ok (.aload_n 0, 1) := by decide +kernel
theorem dX9_stateOf_36 : decode cX9_stateOf 36 = .ok (.getfield 96, 3) := by decide +kernel
theorem dX9_stateOf_39 : decode cX9_stateOf 39 = .ok (.bipush 60, 2) := by decide +kernel
theorem dX9_stateOf_41 : decode cX9_stateOf 41 = .ok (.if_icmp .lt 5, 3) := by decide +kernel
theorem dX9_stateOf_44 : decode cX9_stateOf 44 = .ok (.iconst (-1), 1) := by decide +kernel
theorem dX9_stateOf_45 : decode cX9_stateOf 45 = .ok (.ireturn, 1) := by decide +kernel
theorem dX9_stateOf_46 : decode cX9_stateOf 46 = .ok (.aload_n 0, 1) := by decide +kernel
theorem dX9_stateOf_47 : decode cX9_stateOf 47 = .ok (.getfield 38, 3) := by decide +kernel
theorem dX9_stateOf_50 : decode cX9_stateOf 50 = .ok (.aload_n 0, 1) := by decide +kernel
theorem dX9_stateOf_51 : decode cX9_stateOf 51 = .ok (.getfield 96, 3) := by decide +kernel
theorem dX9_stateOf_54 : decode cX9_stateOf 54 = .ok (.lload_n 1, 1) := by decide +kernel
theorem dX9_stateOf_55 : decode cX9_stateOf 55 = .ok (.lastore, 1) := by decide +kernel
theorem dX9_stateOf_56 : decode cX9_stateOf 56 = .ok (.aload_n 0, 1) := by decide +kernel
theorem dX9_stateOf_57 : decode cX9_stateOf 57 = .ok (.getfield 41, 3) := by decide +kernel
theorem dX9_stateOf_60 : decode cX9_stateOf 60 = .ok (.aload_n 0, 1) := by decide +kernel
theorem dX9_stateOf_61 : decode cX9_stateOf 61 = .ok (.getfield 96, 3) := by decide +kernel
theorem dX9_stateOf_64 : decode cX9_stateOf 64 = .ok (.aload_n 0, 1) := by decide +kernel
theorem dX9_stateOf_65 : decode cX9_stateOf 65 = .ok (.lload_n 1, 1) := by decide +kernel
theorem dX9_stateOf_66 : decode cX9_stateOf 66 = .ok (.invokevirtual 133, 3) := by decide +kernel
theorem dX9_stateOf_69 : decode cX9_stateOf 69 = .ok (.lastore, 1) := by decide +kernel
theorem dX9_stateOf_70 : decode cX9_stateOf 70 = .ok (.aload_n 0, 1) := by decide +kernel
theorem dX9_stateOf_71 : decode cX9_stateOf 71 = .ok (.dup, 1) := by decide +kernel
theorem dX9_stateOf_72 : decode cX9_stateOf 72 = .ok (.getfield 96, 3) := by decide +kernel
theorem dX9_stateOf_75 : decode cX9_stateOf 75 = .ok (.iconst 1, 1) := by decide +kernel
theorem dX9_stateOf_76 : decode cX9_stateOf 76 = .ok (.iadd, 1) := by decide +kernel
theorem dX9_stateOf_77 : decode cX9_stateOf 77 = .ok (.putfield 96, 3) := by decide +kernel
theorem dX9_stateOf_80 : decode cX9_stateOf 80 = .ok (.aload_n 0, 1) := by decide +kernel
theorem dX9_stateOf_81 : decode cX9_stateOf 81 = .ok (.getfield 96, 3) := by decide +kernel
theorem dX9_stateOf_84 : decode cX9_stateOf 84 = .ok (.iconst 1, 1) := by decide +kernel
theorem dX9_stateOf_85 : decode cX9_stateOf 85 = .ok (.isub, 1) := by decide +kernel
theorem dX9_stateOf_86 : decode cX9_stateOf 86 = .ok (.ireturn, 1) := by decide +kernel
theorem dX9_staysTogether_0 : decode cX9_staysTogether 0 = .ok (.aload_n 0, 1) := by decide +kernel
theorem dX9_staysTogether_1 : decode cX9_staysTogether 1 = .ok (.iload_n 1, 1) := by decide +kernel
theorem dX9_staysTogether_2 : decode cX9_staysTogether 2 = .ok (.invokevirtual 171, 3) := by decide +kernel
theorem dX9_staysTogether_5 : decode cX9_staysTogether 5 = .ok (.aload_n 0, 1) := by decide +kernel
theorem dX9_staysTogether_6 : decode cX9_staysTogether 6 = .ok (.iload_n 2, 1) := by decide +kernel
theorem dX9_staysTogether_7 : decode cX9_staysTogether 7 = .ok (.invokevirtual 171, 3) := by decide +kernel
theorem dX9_staysTogether_10 : decode cX9_staysTogether 10 = .ok (.if_icmp .eq 5, 3) := by decide +kernel
theorem dX9_staysTogether_13 : decode cX9_staysTogether 13 = .ok (.iconst 0, 1) := by decide +kernel
theorem dX9_staysTogether_14 : decode cX9_staysTogether 14 = .ok (.ireturn, 1) := by decide +kernel
theorem dX9_staysTogether_15 : decode cX9_staysTogether 15 = .ok (.iconst 0, 1) := by decide +kernel
theorem dX9_staysTogether_16 : decode cX9_staysTogether 16 = .ok (.istore_n 3, 1) := by decide +kernel
theorem dX9_staysTogether_17 : decode cX9_staysTogether 17 = .ok (.iload_n 3, 1) := by decide +kernel
theorem dX9_staysTogether_18 : decode cX9_staysTogether 18 = .ok (.aload_n 0, 1) := by decide +kernel
theorem dX9_staysTogether_19 : decode cX9_staysTogether 19 = .ok (.getfield 73, 3) := by decide +kernel
theorem dX9_staysTogether_22 : decode cX9_staysTogether 22 = .ok (.if_icmp .ge 34, 3) := by decide +kernel
theorem dX9_staysTogether_25 : decode cX9_staysTogether 25 = .ok (.aload_n 0, 1) := by decide +kernel
theorem dX9_staysTogether_26 : decode cX9_staysTogether 26 = .ok (.aload_n 0, 1) := by decide +kernel
theorem dX9_staysTogether_27 : decode cX9_staysTogether 27 = .ok (.iload_n 1, 1) := by decide +kernel
theorem dX9_staysTogether_28 : decode cX9_staysTogether 28 = .ok (.iload_n 3, 1) := by decide +kernel
theorem dX9_staysTogether_29 : decode cX9_staysTogether 29 = .ok (.invokevirtual 149, 3) := by decide +kernel
theorem dX9_staysTogether_32 : decode cX9_staysTogether 32 = .ok (.invokevirtual 171, 3) := by decide +kernel
theorem dX9_staysTogether_35 : decode cX9_staysTogether 35 = .ok (.aload_n 0, 1) := by decide +kernel
theorem dX9_staysTogether_36 : decode cX9_staysTogether 36 = .ok (.aload_n 0, 1) := by decide +kernel
theorem dX9_staysTogether_37 : decode cX9_staysTogether 37 = .ok (.iload_n 2, 1) := by decide +kernel
theorem dX9_staysTogether_38 : decode cX9_staysTogether 38 = .ok (.iload_n 3, 1) := by decide +kernel
theorem dX9_staysTogether_39 : decode cX9_staysTogether 39 = .ok (.invokevirtual 149, 3) := by decide +kernel
theorem dX9_staysTogether_42 : decode cX9_staysTogether 42 = .ok (.invokevirtual 171, 3) := by decide +kernel
theorem dX9_staysTogether_45 : decode cX9_staysTogether 45 = .ok (.if_icmp .eq 5, 3) := by decide +kernel
theorem dX9_staysTogether_48 : decode cX9_staysTogether 48 = .ok (.iconst 0, 1) := by decide +kernel
theorem dX9_staysTogether_49 : decode cX9_staysTogether 49 = .ok (.ireturn, 1) := by decide +kernel
theorem dX9_staysTogether_50 : decode cX9_staysTogether 50 = .ok (.iinc 3 1, 3) := by decide +kernel
theorem dX9_staysTogether_53 : decode cX9_staysTogether 53 = .ok (.goto (-36), 3) := by decide +kernel
theorem dX9_staysTogether_56 : decode cX9_staysTogether 56 = .ok (.iconst 1, 1) := by decide +kernel
theorem dX9_staysTogether_57 : decode cX9_staysTogether 57 = .ok (.ireturn, 1) := by decide +kernel
theorem dX9_takersOf_0 : decode cX9_takersOf 0 = .ok (.lconst 0, 1) := by decide +kernel
theorem dX9_takersOf_1 : decode cX9_takersOf 1 = .ok (.lstore_n 2, 1) := by decide +kernel
theorem dX9_takersOf_2 : decode cX9_takersOf 2 = .ok (.iconst 0, 1) := by decide +kernel
theorem dX9_takersOf_3 : decode cX9_takersOf 3 = .ok (.istore 4, 2) := by decide +kernel
theorem dX9_takersOf_5 : decode cX9_takersOf 5 = .ok (.iload 4, 2) := by decide +kernel
theorem dX9_takersOf_7 : decode cX9_takersOf 7 = .ok (.aload_n 0, 1) := by decide +kernel
theorem dX9_takersOf_8 : decode cX9_takersOf 8 = .ok (.getfield 79, 3) := by decide +kernel
theorem dX9_takersOf_11 : decode cX9_takersOf 11 = .ok (.if_icmp .ge 34, 3) := by decide +kernel
theorem dX9_takersOf_14 : decode cX9_takersOf 14 = .ok (.aload_n 0, 1) := by decide +kernel
theorem dX9_takersOf_15 : decode cX9_takersOf 15 = .ok (.getfield 12, 3) := by decide +kernel
theorem dX9_takersOf_18 : decode cX9_takersOf 18 = .ok (.aload_n 0, 1) := by decide +kernel
theorem dX9_takersOf_19 : decode cX9_takersOf 19 = .ok (.getfield 22, 3) := by decide +kernel
theorem dX9_takersOf_22 : decode cX9_takersOf 22 = .ok (.iload 4, 2) := by decide +kernel
theorem dX9_takersOf_24 : decode cX9_takersOf 24 = .ok (.iaload, 1) := by decide +kernel
theorem dX9_takersOf_25 : decode cX9_takersOf 25 = .ok (.iload_n 1, 1) := by decide +kernel
theorem dX9_takersOf_26 : decode cX9_takersOf 26 = .ok (.invokevirtual 110, 3) := by decide +kernel
theorem dX9_takersOf_29 : decode cX9_takersOf 29 = .ok (.ifCond .eq 10, 3) := by decide +kernel
theorem dX9_takersOf_32 : decode cX9_takersOf 32 = .ok (.lload_n 2, 1) := by decide +kernel
theorem dX9_takersOf_33 : decode cX9_takersOf 33 = .ok (.lconst 1, 1) := by decide +kernel
theorem dX9_takersOf_34 : decode cX9_takersOf 34 = .ok (.iload 4, 2) := by decide +kernel
theorem dX9_takersOf_36 : decode cX9_takersOf 36 = .ok (.lshl, 1) := by decide +kernel
theorem dX9_takersOf_37 : decode cX9_takersOf 37 = .ok (.lor, 1) := by decide +kernel
theorem dX9_takersOf_38 : decode cX9_takersOf 38 = .ok (.lstore_n 2, 1) := by decide +kernel
theorem dX9_takersOf_39 : decode cX9_takersOf 39 = .ok (.iinc 4 1, 3) := by decide +kernel
theorem dX9_takersOf_42 : decode cX9_takersOf 42 = .ok (.goto (-37), 3) := by decide +kernel
theorem dX9_takersOf_45 : decode cX9_takersOf 45 = .ok (.lload_n 2, 1) := by decide +kernel
theorem dX9_takersOf_46 : decode cX9_takersOf 46 = .ok (.lreturn, 1) := by decide +kernel
