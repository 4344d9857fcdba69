theorem dX1_proceed_81 : decode cX1_proceed 81 = .ok (.invokevirtual 99, 3) := by decide +kernel
theorem dX1_proceed_84 : decode cX1_proceed 84 = .ok (.goto 35, 3) := by decide +kernel
theorem dX1_proceed_87 : decode cX1_proceed 87 = .ok (.aload_n 0, 1) := by decide +kernel
theorem dX1_proceed_88 : decode cX1_proceed 88 = .ok (.invokevirtual 102, 3) := by decide +kernel
theorem dX1_proceed_91 : decode cX1_proceed 91 = .ok (.goto 28, 3) := by decide +kernel
theorem dX1_proceed_94 : decode cX1_proceed 94 = .ok (.aload_n 0, 1) := by decide +kernel
theorem dX1_proceed_95 : decode cX1_proceed 95 = .ok (.invokevirtual 105, 3) := by decide +kernel
theorem dX1_proceed_98 : decode cX1_proceed 98 = .ok (.goto 21, 3) := by decide +kernel
theorem dX1_proceed_101 : decode cX1_proceed 101 = .ok (.aload_n 0, 1) := by decide +kernel
theorem dX1_proceed_102 : decode cX1_proceed 102 = .ok (.invokevirtual 108, 3) := by decide +kernel
theorem dX1_proceed_105 : decode cX1_proceed 105 = .ok (.goto 14, 3) := by decide +kernel
theorem dX1_proceed_108 : decode cX1_proceed 108 = .ok (.aload_n 0, 1) := by decide +kernel
theorem dX1_proceed_109 : decode cX1_proceed 109 = .ok (.invokevirtual 111, 3) := by decide +kernel
theorem dX1_proceed_112 : decode cX1_proceed 112 = .ok (.goto 7, 3) := by decide +kernel
theorem dX1_proceed_115 : decode cX1_proceed 115 = .ok (.aload_n 0, 1) := by decide +kernel
theorem dX1_proceed_116 : decode cX1_proceed 116 = .ok (.invokevirtual 114, 3) := by decide +kernel
theorem dX1_proceed_119 : decode cX1_proceed 119 = .ok (.iinc 3 1, 3) := by decide +kernel
theorem dX1_proceed_122 : decode cX1_proceed 122 = .ok (.goto (-99), 3) := by decide +kernel
theorem dX1_proceed_125 : decode cX1_proceed 125 = .ok (.aload_n 0, 1) := by decide +kernel
theorem dX1_proceed_126 : decode cX1_proceed 126 = .ok (.getfield 95, 3) := by decide +kernel
theorem dX1_proceed_129 : decode cX1_proceed 129 = .ok (.iconst 3, 1) := by decide +kernel
theorem dX1_proceed_130 : decode cX1_proceed 130 = .ok (.if_icmp .ne 20, 3) := by decide +kernel
theorem dX1_proceed_133 : decode cX1_proceed 133 = .ok (.aload_n 0, 1) := by decide +kernel
theorem dX1_proceed_134 : decode cX1_proceed 134 = .ok (.getfield 55, 3) := by decide +kernel
theorem dX1_proceed_137 : decode cX1_proceed 137 = .ok (.sipush 3000, 3) := by decide +kernel
theorem dX1_proceed_140 : decode cX1_proceed 140 = .ok (.if_icmp .lt 8, 3) := by decide +kernel
theorem dX1_proceed_143 : decode cX1_proceed 143 = .ok (.bipush (-8), 2) := by decide +kernel
theorem dX1_proceed_145 : decode cX1_proceed 145 = .ok (.goto 4, 3) := by decide +kernel
theorem dX1_proceed_148 : decode cX1_proceed 148 = .ok (.iconst 2, 1) := by decide +kernel
theorem dX1_proceed_149 : decode cX1_proceed 149 = .ok (.ireturn, 1) := by decide +kernel
theorem dX1_proceed_150 : decode cX1_proceed 150 = .ok (.aload_n 0, 1) := by decide +kernel
theorem dX1_proceed_151 : decode cX1_proceed 151 = .ok (.getfield 95, 3) := by decide +kernel
theorem dX1_proceed_154 : decode cX1_proceed 154 = .ok (.iconst 1, 1) := by decide +kernel
theorem dX1_proceed_155 : decode cX1_proceed 155 = .ok (.if_icmp .eq 5, 3) := by decide +kernel
theorem dX1_proceed_158 : decode cX1_proceed 158 = .ok (.iconst 0, 1) := by decide +kernel
theorem dX1_proceed_159 : decode cX1_proceed 159 = .ok (.ireturn, 1) := by decide +kernel
theorem dX1_proceed_160 : decode cX1_proceed 160 = .ok (.aload_n 0, 1) := by decide +kernel
theorem dX1_proceed_161 : decode cX1_proceed 161 = .ok (.aload_n 2, 1) := by decide +kernel
theorem dX1_proceed_162 : decode cX1_proceed 162 = .ok (.invokevirtual 117, 3) := by decide +kernel
theorem dX1_proceed_165 : decode cX1_proceed 165 = .ok (.iconst 1, 1) := by decide +kernel
theorem dX1_proceed_166 : decode cX1_proceed 166 = .ok (.ireturn, 1) := by decide +kernel
theorem dX1_setCell_0 : decode cX1_setCell 0 = .ok (.iload_n 1, 1) := by decide +kernel
theorem dX1_setCell_1 : decode cX1_setCell 1 = .ok (.ifCond .lt 12, 3) := by decide +kernel
theorem dX1_setCell_4 : decode cX1_setCell 4 = .ok (.iload_n 1, 1) := by decide +kernel
theorem dX1_setCell_5 : decode cX1_setCell 5 = .ok (.aload_n 0, 1) := by decide +kernel
theorem dX1_setCell_6 : decode cX1_setCell 6 = .ok (.getfield 29, 3) := by decide +kernel
theorem dX1_setCell_9 : decode cX1_setCell 9 = .ok (.arraylength, 1) := by decide +kernel
theorem dX1_setCell_10 : decode cX1_setCell 10 = .ok (.if_icmp .lt 4, 3) := by decide +kernel
theorem dX1_setCell_13 : decode cX1_setCell 13 = .ok (.return_, 1) := by decide +kernel
theorem dX1_setCell_14 : decode cX1_setCell 14 = .ok (.aload_n 0, 1) := by decide +kernel
theorem dX1_setCell_15 : decode cX1_setCell 15 = .ok (.getfield 77, 3) := by decide +kernel
theorem dX1_setCell_18 : decode cX1_setCell 18 = .ok (.aload_n 0, 1) := by decide +kernel
theorem dX1_setCell_19 : decode cX1_setCell 19 = .ok (.getfield 48, 3) := by decide +kernel
theorem dX1_setCell_22 : decode cX1_setCell 22 = .ok (.arraylength, 1) := by decide +kernel
theorem dX1_setCell_23 : decode cX1_setCell 23 = .ok (.if_icmp .lt 31, 3) := by decide +kernel
theorem dX1_setCell_26 : decode cX1_setCell 26 = .ok (.aload_n 0, 1) := by decide +kernel
theorem dX1_setCell_27 : decode cX1_setCell 27 = .ok (.getfield 48, 3) := by decide +kernel
theorem dX1_setCell_30 : decode cX1_setCell 30 = .ok (.arraylength, 1) := by decide +kernel
theorem dX1_setCell_31 : decode cX1_setCell 31 = .ok (.ldc 249, 2) := by decide +kernel
theorem dX1_setCell_33 : decode cX1_setCell 33 = .ok (.if_icmp .ge 21, 3) := by decide +kernel
theorem dX1_setCell_36 : decode cX1_setCell 36 = .ok (.aload_n 0, 1) := by decide +kernel
theorem dX1_setCell_37 : decode cX1_setCell 37 = .ok (.aload_n 0, 1) := by decide +kernel
theorem dX1_setCell_38 : decode cX1_setCell 38 = .ok (.getfield 48, 3) := by decide +kernel
theorem dX1_setCell_41 : decode cX1_setCell 41 = .ok (.aload_n 0, 1) := by decide +kernel
theorem dX1_setCell_42 : decode cX1_setCell 42 = .ok (.getfield 48, 3) := by decide +kernel
theorem dX1_setCell_45 : decode cX1_setCell 45 = .ok (.arraylength, 1) := by decide +kernel
theorem dX1_setCell_46 : decode cX1_setCell 46 = .ok (.iconst 2, 1) := by decide +kernel
theorem dX1_setCell_47 : decode cX1_setCell 47 = .ok (.imul, 1) := by decide +kernel
theorem dX1_setCell_48 : decode cX1_setCell 48 = .ok (.invokestatic 250, 3) := by decide +kernel
theorem dX1_setCell_51 : decode cX1_setCell 51 = .ok (.putfield 48, 3) := by decide +kernel
theorem dX1_setCell_54 : decode cX1_setCell 54 = .ok (.aload_n 0, 1) := by decide +kernel
theorem dX1_setCell_55 : decode cX1_setCell 55 = .ok (.getfield 77, 3) := by decide +kernel
theorem dX1_setCell_58 : decode cX1_setCell 58 = .ok (.ifCond .lt 45, 3) := by decide +kernel
theorem dX1_setCell_61 : decode cX1_setCell 61 = .ok (.aload_n 0, 1) := by decide +kernel
theorem dX1_setCell_62 : decode cX1_setCell 62 = .ok (.getfield 77, 3) := by decide +kernel
theorem dX1_setCell_65 : decode cX1_setCell 65 = .ok (.aload_n 0, 1) := by decide +kernel
theorem dX1_setCell_66 : decode cX1_setCell 66 = .ok (.getfield 48, 3) := by decide +kernel
theorem dX1_setCell_69 : decode cX1_setCell 69 = .ok (.arraylength, 1) := by decide +kernel
theorem dX1_setCell_70 : decode cX1_setCell 70 = .ok (.if_icmp .ge 33, 3) := by decide +kernel
theorem dX1_setCell_73 : decode cX1_setCell 73 = .ok (.aload_n 0, 1) := by decide +kernel
theorem dX1_setCell_74 : decode cX1_setCell 74 = .ok (.getfield 48, 3) := by decide +kernel
theorem dX1_setCell_77 : decode cX1_setCell 77 = .ok (.aload_n 0, 1) := by decide +kernel
theorem dX1_setCell_78 : decode cX1_setCell 78 = .ok (.getfield 77, 3) := by decide +kernel
theorem dX1_setCell_81 : decode cX1_setCell 81 = .ok (.iload_n 1, 1) := by decide +kernel
theorem dX1_setCell_82 : decode cX1_setCell 82 = .ok (.ldc 254, 2) := by decide +kernel
theorem dX1_setCell_84 : decode cX1_setCell 84 = .ok (.imul, 1) := by decide +kernel
theorem dX1_setCell_85 : decode cX1_setCell 85 = .ok (.aload_n 0, 1) := by decide +kernel
theorem dX1_setCell_86 : decode cX1_setCell 86 = .ok (.getfield 29, 3) := by decide +kernel
theorem dX1_setCell_89 : decode cX1_setCell 89 = .ok (.iload_n 1, 1) := by decide +kernel
theorem dX1_setCell_90 : decode cX1_setCell 90 = .ok (.iaload, 1) := by decide +kernel
theorem dX1_setCell_91 : decode cX1_setCell 91 = .ok (.iadd, 1) := by decide +kernel
theorem dX1_setCell_92 : decode cX1_setCell 92 = .ok (.iastore, 1) := by decide +kernel
theorem dX1_setCell_93 : decode cX1_setCell 93 = .ok (.aload_n 0, 1) := by decide +kernel
theorem dX1_setCell_94 : decode cX1_setCell 94 = .ok (.dup, 1) := by decide +kernel
theorem dX1_setCell_95 : decode cX1_setCell 95 = .ok (.getfield 77, 3) := by decide +kernel
theorem dX1_setCell_98 : decode cX1_setCell 98 = .ok (.iconst 1, 1) := by decide +kernel
theorem dX1_setCell_99 : decode cX1_setCell 99 = .ok (.iadd, 1) := by decide +kernel
theorem dX1_setCell_100 : decode cX1_setCell 100 = .ok (.putfield 77, 3) := by decide +kernel
theorem dX1_setCell_103 : decode cX1_setCell 103 = .ok (.aload_n 0, 1) := by decide +kernel
theorem dX1_setCell_104 : decode cX1_setCell 104 = .ok (.getfield 29, 3) := by decide +kernel
theorem dX1_setCell_107 : decode cX1_setCell 107 = .ok (.iload_n 1, 1) := by decide +kernel
theorem dX1_setCell_108 : decode cX1_setCell 108 = .ok (.iload_n 2, 1) := by decide +kernel
theorem dX1_setCell_109 : decode cX1_setCell 109 = .ok (.iastore, 1) := by decide +kernel
theorem dX1_setCell_110 : decode cX1_setCell 110 = .ok (.return_, 1) := by decide +kernel
theorem dX1_tryFrom_0 : decode cX1_tryFrom 0 = .ok (.aload_n 0, 1) := by decide +kernel
theorem dX1_tryFrom_1 : decode cX1_tryFrom 1 = .ok (.invokevirtual 140, 3) := by decide +kernel
theorem dX1_tryFrom_4 : decode cX1_tryFrom 4 = .ok (.ifCond .eq 50, 3) := by decide +kernel
theorem dX1_tryFrom_7 : decode cX1_tryFrom 7 = .ok (.aload_n 0, 1) := by decide +kernel
theorem dX1_tryFrom_8 : decode cX1_tryFrom 8 = .ok (.iconst 3, 1) := by decide +kernel
theorem dX1_tryFrom_9 : decode cX1_tryFrom 9 = .ok (.aload_n 0, 1) := by decide +kernel
theorem dX1_tryFrom_10 : decode cX1_tryFrom 10 = .ok (.getfield 68, 3) := by decide +kernel
theorem dX1_tryFrom_13 : decode cX1_tryFrom 13 = .ok (.invokevirtual 198, 3) := by decide +kernel
theorem dX1_tryFrom_16 : decode cX1_tryFrom 16 = .ok (.aload_n 0, 1) := by decide +kernel
theorem dX1_tryFrom_17 : decode cX1_tryFrom 17 = .ok (.aload_n 0, 1) := by decide +kernel
theorem dX1_tryFrom_18 : decode cX1_tryFrom 18 = .ok (.getfield 68, 3) := by decide +kernel
theorem dX1_tryFrom_21 : decode cX1_tryFrom 21 = .ok (.ifCond .lt 25, 3) := by decide +kernel
theorem dX1_tryFrom_24 : decode cX1_tryFrom 24 = .ok (.aload_n 0, 1) := by decide +kernel
theorem dX1_tryFrom_25 : decode cX1_tryFrom 25 = .ok (.getfield 68, 3) := by decide +kernel
theorem dX1_tryFrom_28 : decode cX1_tryFrom 28 = .ok (.sipush 256, 3) := by decide +kernel
theorem dX1_tryFrom_31 : decode cX1_tryFrom 31 = .ok (.if_icmp .ge 15, 3) := by decide +kernel
theorem dX1_tryFrom_34 : decode cX1_tryFrom 34 = .ok (.aload_n 0, 1) := by decide +kernel
theorem dX1_tryFrom_35 : decode cX1_tryFrom 35 = .ok (.getfield 39, 3) := by decide +kernel
theorem dX1_tryFrom_38 : decode cX1_tryFrom 38 = .ok (.aload_n 0, 1) := by decide +kernel
theorem dX1_tryFrom_39 : decode cX1_tryFrom 39 = .ok (.getfield 68, 3) := by decide +kernel
theorem dX1_tryFrom_42 : decode cX1_tryFrom 42 = .ok (.iaload, 1) := by decide +kernel
theorem dX1_tryFrom_43 : decode cX1_tryFrom 43 = .ok (.goto 4, 3) := by decide +kernel
theorem dX1_tryFrom_46 : decode cX1_tryFrom 46 = .ok (.iconst 0, 1) := by decide +kernel
theorem dX1_tryFrom_47 : decode cX1_tryFrom 47 = .ok (.putfield 65, 3) := by decide +kernel
theorem dX1_tryFrom_50 : decode cX1_tryFrom 50 = .ok (.aload_n 0, 1) := by decide +kernel
theorem dX1_tryFrom_51 : decode cX1_tryFrom 51 = .ok (.invokevirtual 168, 3) := by decide +kernel
theorem dX1_tryFrom_54 : decode cX1_tryFrom 54 = .ok (.return_, 1) := by decide +kernel
theorem dX1_turn_0 : decode cX1_turn 0 = .ok (.aload_n 0, 1) := by decide +kernel
theorem dX1_turn_1 : decode cX1_turn 1 = .ok (.invokevirtual 140, 3) := by decide +kernel
theorem dX1_turn_4 : decode cX1_turn 4 = .ok (.ifCond .eq 40, 3) := by decide +kernel
theorem dX1_turn_7 : decode cX1_turn 7 = .ok (.aload_n 0, 1) := by decide +kernel
theorem dX1_turn_8 : decode cX1_turn 8 = .ok (.aload_n 0, 1) := by decide +kernel
theorem dX1_turn_9 : decode cX1_turn 9 = .ok (.getfield 68, 3) := by decide +kernel
theorem dX1_turn_12 : decode cX1_turn 12 = .ok (.invokevirtual 204, 3) := by decide +kernel
theorem dX1_turn_15 : decode cX1_turn 15 = .ok (.sipush 128, 3) := by decide +kernel
theorem dX1_turn_18 : decode cX1_turn 18 = .ok (.idiv, 1) := by decide +kernel
theorem dX1_turn_19 : decode cX1_turn 19 = .ok (.iconst 1, 1) := by decide +kernel
theorem dX1_turn_20 : decode cX1_turn 20 = .ok (.iadd, 1) := by decide +kernel
theorem dX1_turn_21 : decode cX1_turn 21 = .ok (.istore_n 1, 1) := by decide +kernel
theorem dX1_turn_22 : decode cX1_turn 22 = .ok (.aload_n 0, 1) := by decide +kernel
theorem dX1_turn_23 : decode cX1_turn 23 = .ok (.aload_n 0, 1) := by decide +kernel
theorem dX1_turn_24 : decode cX1_turn 24 = .ok (.getfield 68, 3) := by decide +kernel
theorem dX1_turn_27 : decode cX1_turn 27 = .ok (.iload_n 1, 1) := by decide +kernel
theorem dX1_turn_28 : decode cX1_turn 28 = .ok (.sipush 128, 3) := by decide +kernel
theorem dX1_turn_31 : decode cX1_turn 31 = .ok (.imul, 1) := by decide +kernel
theorem dX1_turn_32 : decode cX1_turn 32 = .ok (.aload_n 0, 1) := by decide +kernel
theorem dX1_turn_33 : decode cX1_turn 33 = .ok (.getfield 65, 3) := by decide +kernel
theorem dX1_turn_36 : decode cX1_turn 36 = .ok (.iadd, 1) := by decide +kernel
theorem dX1_turn_37 : decode cX1_turn 37 = .ok (.invokevirtual 165, 3) := by decide +kernel
theorem dX1_turn_40 : decode cX1_turn 40 = .ok (.aload_n 0, 1) := by decide +kernel
theorem dX1_turn_41 : decode cX1_turn 41 = .ok (.invokevirtual 168, 3) := by decide +kernel
theorem dX1_turn_44 : decode cX1_turn 44 = .ok (.return_, 1) := by decide +kernel
