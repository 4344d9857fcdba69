theorem dX10_maybeEmpty_75 : decode cX10_maybeEmpty 75 = .ok (.ifCond .eq 7, 3) := by decide +kernel
theorem dX10_maybeEmpty_78 : decode cX10_maybeEmpty 78 = .ok (.iconst 1, 1) := by decide +kernel
theorem dX10_maybeEmpty_79 : decode cX10_maybeEmpty 79 = .ok (.goto 4, 3) := by decide +kernel
theorem dX10_maybeEmpty_82 : decode cX10_maybeEmpty 82 = .ok (.iconst 0, 1) := by decide +kernel
theorem dX10_maybeEmpty_83 : decode cX10_maybeEmpty 83 = .ok (.ireturn, 1) := by decide +kernel
theorem dX10_maybeEmpty_84 : decode cX10_maybeEmpty 84 = .ok (.iload_n 2, 1) := by decide +kernel
theorem dX10_maybeEmpty_85 : decode cX10_maybeEmpty 85 = .ok (.ireturn, 1) := by decide +kernel
theorem dX10_measure_0 : decode cX10_measure 0 = .ok (.iconst 0, 1) := by decide +kernel
theorem dX10_measure_1 : decode cX10_measure 1 = .ok (.istore_n 1, 1) := by decide +kernel
theorem dX10_measure_2 : decode cX10_measure 2 = .ok (.aload_n 0, 1) := by decide +kernel
theorem dX10_measure_3 : decode cX10_measure 3 = .ok (.iload_n 1, 1) := by decide +kernel
theorem dX10_measure_4 : decode cX10_measure 4 = .ok (.invokevirtual 91, 3) := by decide +kernel
theorem dX10_measure_7 : decode cX10_measure 7 = .ok (.ifCond .eq 62, 3) := by decide +kernel
theorem dX10_measure_10 : decode cX10_measure 10 = .ok (.aload_n 0, 1) := by decide +kernel
theorem dX10_measure_11 : decode cX10_measure 11 = .ok (.getfield 55, 3) := by decide +kernel
theorem dX10_measure_14 : decode cX10_measure 14 = .ok (.iload_n 1, 1) := by decide +kernel
theorem dX10_measure_15 : decode cX10_measure 15 = .ok (.aload_n 0, 1) := by decide +kernel
theorem dX10_measure_16 : decode cX10_measure 16 = .ok (.aload_n 0, 1) := by decide +kernel
theorem dX10_measure_17 : decode cX10_measure 17 = .ok (.getfield 21, 3) := by decide +kernel
theorem dX10_measure_20 : decode cX10_measure 20 = .ok (.iload_n 1, 1) := by decide +kernel
theorem dX10_measure_21 : decode cX10_measure 21 = .ok (.iaload, 1) := by decide +kernel
theorem dX10_measure_22 : decode cX10_measure 22 = .ok (.invokevirtual 98, 3) := by decide +kernel
theorem dX10_measure_25 : decode cX10_measure 25 = .ok (.ifCond .ne 32, 3) := by decide +kernel
theorem dX10_measure_28 : decode cX10_measure 28 = .ok (.aload_n 0, 1) := by decide +kernel
theorem dX10_measure_29 : decode cX10_measure 29 = .ok (.aload_n 0, 1) := by decide +kernel
theorem dX10_measure_30 : decode cX10_measure 30 = .ok (.getfield 21, 3) := by decide +kernel
theorem dX10_measure_33 : decode cX10_measure 33 = .ok (.iload_n 1, 1) := by decide +kernel
theorem dX10_measure_34 : decode cX10_measure 34 = .ok (.iaload, 1) := by decide +kernel
theorem dX10_measure_35 : decode cX10_measure 35 = .ok (.invokevirtual 91, 3) := by decide +kernel
theorem dX10_measure_38 : decode cX10_measure 38 = .ok (.ifCond .eq 23, 3) := by decide +kernel
theorem dX10_measure_41 : decode cX10_measure 41 = .ok (.aload_n 0, 1) := by decide +kernel
theorem dX10_measure_42 : decode cX10_measure 42 = .ok (.getfield 15, 3) := by decide +kernel
theorem dX10_measure_45 : decode cX10_measure 45 = .ok (.aload_n 0, 1) := by decide +kernel
theorem dX10_measure_46 : decode cX10_measure 46 = .ok (.getfield 21, 3) := by decide +kernel
theorem dX10_measure_49 : decode cX10_measure 49 = .ok (.iload_n 1, 1) := by decide +kernel
theorem dX10_measure_50 : decode cX10_measure 50 = .ok (.iaload, 1) := by decide +kernel
theorem dX10_measure_51 : decode cX10_measure 51 = .ok (.iaload, 1) := by decide +kernel
theorem dX10_measure_52 : decode cX10_measure 52 = .ok (.bipush 11, 2) := by decide +kernel
theorem dX10_measure_54 : decode cX10_measure 54 = .ok (.if_icmp .ne 7, 3) := by decide +kernel
theorem dX10_measure_57 : decode cX10_measure 57 = .ok (.iconst 1, 1) := by decide +kernel
theorem dX10_measure_58 : decode cX10_measure 58 = .ok (.goto 4, 3) := by decide +kernel
theorem dX10_measure_61 : decode cX10_measure 61 = .ok (.iconst 0, 1) := by decide +kernel
theorem dX10_measure_62 : decode cX10_measure 62 = .ok (.bastore, 1) := by decide +kernel
theorem dX10_measure_63 : decode cX10_measure 63 = .ok (.iinc 1 1, 3) := by decide +kernel
theorem dX10_measure_66 : decode cX10_measure 66 = .ok (.goto (-64), 3) := by decide +kernel
theorem dX10_measure_69 : decode cX10_measure 69 = .ok (.aload_n 0, 1) := by decide +kernel
theorem dX10_measure_70 : decode cX10_measure 70 = .ok (.getfield 71, 3) := by decide +kernel
theorem dX10_measure_73 : decode cX10_measure 73 = .ok (.iconst 1, 1) := by decide +kernel
theorem dX10_measure_74 : decode cX10_measure 74 = .ok (.isub, 1) := by decide +kernel
theorem dX10_measure_75 : decode cX10_measure 75 = .ok (.istore_n 1, 1) := by decide +kernel
theorem dX10_measure_76 : decode cX10_measure 76 = .ok (.aload_n 0, 1) := by decide +kernel
theorem dX10_measure_77 : decode cX10_measure 77 = .ok (.iload_n 1, 1) := by decide +kernel
theorem dX10_measure_78 : decode cX10_measure 78 = .ok (.invokevirtual 91, 3) := by decide +kernel
theorem dX10_measure_81 : decode cX10_measure 81 = .ok (.ifCond .eq 14, 3) := by decide +kernel
theorem dX10_measure_84 : decode cX10_measure 84 = .ok (.aload_n 0, 1) := by decide +kernel
theorem dX10_measure_85 : decode cX10_measure 85 = .ok (.iload_n 1, 1) := by decide +kernel
theorem dX10_measure_86 : decode cX10_measure 86 = .ok (.invokevirtual 101, 3) := by decide +kernel
theorem dX10_measure_89 : decode cX10_measure 89 = .ok (.iinc 1 (-1), 3) := by decide +kernel
theorem dX10_measure_92 : decode cX10_measure 92 = .ok (.goto (-16), 3) := by decide +kernel
theorem dX10_measure_95 : decode cX10_measure 95 = .ok (.return_, 1) := by decide +kernel
theorem dX10_measureNode_0 : decode cX10_measureNode 0 = .ok (.aload_n 0, 1) := by decide +kernel
theorem dX10_measureNode_1 : decode cX10_measureNode 1 = .ok (.iload_n 1, 1) := by decide +kernel
theorem dX10_measureNode_2 : decode cX10_measureNode 2 = .ok (.invokevirtual 91, 3) := by decide +kernel
theorem dX10_measureNode_5 : decode cX10_measureNode 5 = .ok (.ifCond .ne 4, 3) := by decide +kernel
theorem dX10_measureNode_8 : decode cX10_measureNode 8 = .ok (.return_, 1) := by decide +kernel
theorem dX10_measureNode_9 : decode cX10_measureNode 9 = .ok (.iconst 0, 1) := by decide +kernel
theorem dX10_measureNode_10 : decode cX10_measureNode 10 = .ok (.istore_n 2, 1) := by decide +kernel
theorem dX10_measureNode_11 : decode cX10_measureNode 11 = .ok (.iconst 0, 1) := by decide +kernel
theorem dX10_measureNode_12 : decode cX10_measureNode 12 = .ok (.istore_n 3, 1) := by decide +kernel
theorem dX10_measureNode_13 : decode cX10_measureNode 13 = .ok (.iconst 1, 1) := by decide +kernel
theorem dX10_measureNode_14 : decode cX10_measureNode 14 = .ok (.istore 4, 2) := by decide +kernel
theorem dX10_measureNode_16 : decode cX10_measureNode 16 = .ok (.iconst 0, 1) := by decide +kernel
theorem dX10_measureNode_17 : decode cX10_measureNode 17 = .ok (.istore 5, 2) := by decide +kernel
theorem dX10_measureNode_19 : decode cX10_measureNode 19 = .ok (.aload_n 0, 1) := by decide +kernel
theorem dX10_measureNode_20 : decode cX10_measureNode 20 = .ok (.iload_n 1, 1) := by decide +kernel
theorem dX10_measureNode_21 : decode cX10_measureNode 21 = .ok (.invokevirtual 105, 3) := by decide +kernel
theorem dX10_measureNode_24 : decode cX10_measureNode 24 = .ok (.istore 6, 2) := by decide +kernel
theorem dX10_measureNode_26 : decode cX10_measureNode 26 = .ok (.aload_n 0, 1) := by decide +kernel
theorem dX10_measureNode_27 : decode cX10_measureNode 27 = .ok (.iload 6, 2) := by decide +kernel
theorem dX10_measureNode_29 : decode cX10_measureNode 29 = .ok (.invokevirtual 91, 3) := by decide +kernel
theorem dX10_measureNode_32 : decode cX10_measureNode 32 = .ok (.ifCond .eq 58, 3) := by decide +kernel
theorem dX10_measureNode_35 : decode cX10_measureNode 35 = .ok (.iload_n 2, 1) := by decide +kernel
theorem dX10_measureNode_36 : decode cX10_measureNode 36 = .ok (.aload_n 0, 1) := by decide +kernel
theorem dX10_measureNode_37 : decode cX10_measureNode 37 = .ok (.getfield 45, 3) := by decide +kernel
theorem dX10_measureNode_40 : decode cX10_measureNode 40 = .ok (.iload 6, 2) := by decide +kernel
theorem dX10_measureNode_42 : decode cX10_measureNode 42 = .ok (.iaload, 1) := by decide +kernel
theorem dX10_measureNode_43 : decode cX10_measureNode 43 = .ok (.iadd, 1) := by decide +kernel
theorem dX10_measureNode_44 : decode cX10_measureNode 44 = .ok (.istore_n 2, 1) := by decide +kernel
theorem dX10_measureNode_45 : decode cX10_measureNode 45 = .ok (.iload_n 3, 1) := by decide +kernel
theorem dX10_measureNode_46 : decode cX10_measureNode 46 = .ok (.aload_n 0, 1) := by decide +kernel
theorem dX10_measureNode_47 : decode cX10_measureNode 47 = .ok (.getfield 48, 3) := by decide +kernel
theorem dX10_measureNode_50 : decode cX10_measureNode 50 = .ok (.iload 6, 2) := by decide +kernel
theorem dX10_measureNode_52 : decode cX10_measureNode 52 = .ok (.iaload, 1) := by decide +kernel
theorem dX10_measureNode_53 : decode cX10_measureNode 53 = .ok (.iadd, 1) := by decide +kernel
theorem dX10_measureNode_54 : decode cX10_measureNode 54 = .ok (.istore_n 3, 1) := by decide +kernel
theorem dX10_measureNode_55 : decode cX10_measureNode 55 = .ok (.iload 4, 2) := by decide +kernel
theorem dX10_measureNode_57 : decode cX10_measureNode 57 = .ok (.aload_n 0, 1) := by decide +kernel
theorem dX10_measureNode_58 : decode cX10_measureNode 58 = .ok (.getfield 51, 3) := by decide +kernel
theorem dX10_measureNode_61 : decode cX10_measureNode 61 = .ok (.iload 6, 2) := by decide +kernel
theorem dX10_measureNode_63 : decode cX10_measureNode 63 = .ok (.baload, 1) := by decide +kernel
theorem dX10_measureNode_64 : decode cX10_measureNode 64 = .ok (.iand, 1) := by decide +kernel
theorem dX10_measureNode_65 : decode cX10_measureNode 65 = .ok (.istore 4, 2) := by decide +kernel
theorem dX10_measureNode_67 : decode cX10_measureNode 67 = .ok (.iload 5, 2) := by decide +kernel
theorem dX10_measureNode_69 : decode cX10_measureNode 69 = .ok (.aload_n 0, 1) := by decide +kernel
theorem dX10_measureNode_70 : decode cX10_measureNode 70 = .ok (.getfield 51, 3) := by decide +kernel
theorem dX10_measureNode_73 : decode cX10_measureNode 73 = .ok (.iload 6, 2) := by decide +kernel
theorem dX10_measureNode_75 : decode cX10_measureNode 75 = .ok (.baload, 1) := by decide +kernel
theorem dX10_measureNode_76 : decode cX10_measureNode 76 = .ok (.ior, 1) := by decide +kernel
theorem dX10_measureNode_77 : decode cX10_measureNode 77 = .ok (.istore 5, 2) := by decide +kernel
theorem dX10_measureNode_79 : decode cX10_measureNode 79 = .ok (.aload_n 0, 1) := by decide +kernel
theorem dX10_measureNode_80 : decode cX10_measureNode 80 = .ok (.iload 6, 2) := by decide +kernel
theorem dX10_measureNode_82 : decode cX10_measureNode 82 = .ok (.invokevirtual 108, 3) := by decide +kernel
theorem dX10_measureNode_85 : decode cX10_measureNode 85 = .ok (.istore 6, 2) := by decide +kernel
theorem dX10_measureNode_87 : decode cX10_measureNode 87 = .ok (.goto (-61), 3) := by decide +kernel
theorem dX10_measureNode_90 : decode cX10_measureNode 90 = .ok (.aload_n 0, 1) := by decide +kernel
theorem dX10_measureNode_91 : decode cX10_measureNode 91 = .ok (.iload_n 1, 1) := by decide +kernel
theorem dX10_measureNode_92 : decode cX10_measureNode 92 = .ok (.invokevirtual 111, 3) := by decide +kernel
theorem dX10_measureNode_95 : decode cX10_measureNode 95 = .ok (.istore 6, 2) := by decide +kernel
theorem dX10_measureNode_97 : decode cX10_measureNode 97 = .ok (.aload_n 0, 1) := by decide +kernel
theorem dX10_measureNode_98 : decode cX10_measureNode 98 = .ok (.getfield 45, 3) := by decide +kernel
theorem dX10_measureNode_101 : decode cX10_measureNode 101 = .ok (.iload_n 1, 1) := by decide +kernel
theorem dX10_measureNode_102 : decode cX10_measureNode 102 = .ok (.sipush 20000, 3) := by decide +kernel
theorem dX10_measureNode_105 : decode cX10_measureNode 105 = .ok (.iconst 1, 1) := by decide +kernel
theorem dX10_measureNode_106 : decode cX10_measureNode 106 = .ok (.iload 6, 2) := by decide +kernel
theorem dX10_measureNode_108 : decode cX10_measureNode 108 = .ok (.iload_n 2, 1) := by decide +kernel
theorem dX10_measureNode_109 : decode cX10_measureNode 109 = .ok (.imul, 1) := by decide +kernel
theorem dX10_measureNode_110 : decode cX10_measureNode 110 = .ok (.iadd, 1) := by decide +kernel
theorem dX10_measureNode_111 : decode cX10_measureNode 111 = .ok (.invokestatic 114, 3) := by decide +kernel
theorem dX10_measureNode_114 : decode cX10_measureNode 114 = .ok (.iastore, 1) := by decide +kernel
theorem dX10_measureNode_115 : decode cX10_measureNode 115 = .ok (.aload_n 0, 1) := by decide +kernel
theorem dX10_measureNode_116 : decode cX10_measureNode 116 = .ok (.getfield 48, 3) := by decide +kernel
theorem dX10_measureNode_119 : decode cX10_measureNode 119 = .ok (.iload_n 1, 1) := by decide +kernel
theorem dX10_measureNode_120 : decode cX10_measureNode 120 = .ok (.aload_n 0, 1) := by decide +kernel
theorem dX10_measureNode_121 : decode cX10_measureNode 121 = .ok (.iload_n 1, 1) := by decide +kernel
theorem dX10_measureNode_122 : decode cX10_measureNode 122 = .ok (.invokevirtual 117, 3) := by decide +kernel
theorem dX10_measureNode_125 : decode cX10_measureNode 125 = .ok (.ifCond .eq 7, 3) := by decide +kernel
theorem dX10_measureNode_128 : decode cX10_measureNode 128 = .ok (.iconst 1, 1) := by decide +kernel
theorem dX10_measureNode_129 : decode cX10_measureNode 129 = .ok (.goto 13, 3) := by decide +kernel
theorem dX10_measureNode_132 : decode cX10_measureNode 132 = .ok (.sipush 20000, 3) := by decide +kernel
theorem dX10_measureNode_135 : decode cX10_measureNode 135 = .ok (.iload 6, 2) := by decide +kernel
theorem dX10_measureNode_137 : decode cX10_measureNode 137 = .ok (.iload_n 3, 1) := by decide +kernel
theorem dX10_measureNode_138 : decode cX10_measureNode 138 = .ok (.imul, 1) := by decide +kernel
theorem dX10_measureNode_139 : decode cX10_measureNode 139 = .ok (.invokestatic 114, 3) := by decide +kernel
theorem dX10_measureNode_142 : decode cX10_measureNode 142 = .ok (.iastore, 1) := by decide +kernel
theorem dX10_measureNode_143 : decode cX10_measureNode 143 = .ok (.aload_n 0, 1) := by decide +kernel
theorem dX10_measureNode_144 : decode cX10_measureNode 144 = .ok (.getfield 51, 3) := by decide +kernel
theorem dX10_measureNode_147 : decode cX10_measureNode 147 = .ok (.iload_n 1, 1) := by decide +kernel
theorem dX10_measureNode_148 : decode cX10_measureNode 148 = .ok (.aload_n 0, 1) := by decide +kernel
theorem dX10_measureNode_149 : decode cX10_measureNode 149 = .ok (.iload_n 1, 1) := by decide +kernel
theorem dX10_measureNode_150 : decode cX10_measureNode 150 = .ok (.iload 4, 2) := by decide +kernel
theorem dX10_measureNode_152 : decode cX10_measureNode 152 = .ok (.iload 5, 2) := by decide +kernel
theorem dX10_measureNode_154 : decode cX10_measureNode 154 = .ok (.invokevirtual 120, 3) := by decide +kernel
theorem dX10_measureNode_157 : decode cX10_measureNode 157 = .ok (.bastore, 1) := by decide +kernel
theorem dX10_measureNode_158 : decode cX10_measureNode 158 = .ok (.return_, 1) := by decide +kernel
theorem dX10_nextOf_0 : decode cX10_nextOf 0 = .ok (.iload_n 1, 1) := by decide +kernel
theorem dX10_nextOf_1 : decode cX10_nextOf 1 = .ok (.ifCond .lt 20, 3) := by decide +kernel
theorem dX10_nextOf_4 : decode cX10_nextOf 4 = .ok (.iload_n 1, 1) := by decide +kernel
theorem dX10_nextOf_5 : decode cX10_nextOf 5 = .ok (.aload_n 0, 1) := by decide +kernel
theorem dX10_nextOf_6 : decode cX10_nextOf 6 = .ok (.getfield 71, 3) := by decide +kernel
theorem dX10_nextOf_9 : decode cX10_nextOf 9 = .ok (.if_icmp .ge 12, 3) := by decide +kernel
theorem dX10_nextOf_12 : decode cX10_nextOf 12 = .ok (.aload_n 0, 1) := by decide +kernel
theorem dX10_nextOf_13 : decode cX10_nextOf 13 = .ok (.getfield 21, 3) := by decide +kernel
theorem dX10_nextOf_16 : decode cX10_nextOf 16 = .ok (.iload_n 1, 1) := by decide +kernel
theorem dX10_nextOf_17 : decode cX10_nextOf 17 = .ok (.iaload, 1) := by decide +kernel
theorem dX10_nextOf_18 : decode cX10_nextOf 18 = .ok (.goto 4, 3) := by decide +kernel
theorem dX10_nextOf_21 : decode cX10_nextOf 21 = .ok (.iconst (-1), 1) := by decide +kernel
theorem dX10_nextOf_22 : decode cX10_nextOf 22 = .ok (.istore_n 2, 1) := by decide +kernel
theorem dX10_nextOf_23 : decode cX10_nextOf 23 = .ok (.iload_n 2, 1) := by decide +kernel
theorem dX10_nextOf_24 : decode cX10_nextOf 24 = .ok (.ifCond .lt 35, 3) := by decide +kernel
theorem dX10_nextOf_27 : decode cX10_nextOf 27 = .ok (.iload_n 2, 1) := by decide +kernel
theorem dX10_nextOf_28 : decode cX10_nextOf 28 = .ok (.aload_n 0, 1) := by decide +kernel
theorem dX10_nextOf_29 : decode cX10_nextOf 29 = .ok (.getfield 71, 3) := by decide +kernel
theorem dX10_nextOf_32 : decode cX10_nextOf 32 = .ok (.if_icmp .ge 27, 3) := by decide +kernel
theorem dX10_nextOf_35 : decode cX10_nextOf 35 = .ok (.aload_n 0, 1) := by decide +kernel
theorem dX10_nextOf_36 : decode cX10_nextOf 36 = .ok (.getfield 24, 3) := by decide +kernel
theorem dX10_nextOf_39 : decode cX10_nextOf 39 = .ok (.iload_n 1, 1) := by decide +kernel
theorem dX10_nextOf_40 : decode cX10_nextOf 40 = .ok (.iaload, 1) := by decide +kernel
theorem dX10_nextOf_41 : decode cX10_nextOf 41 = .ok (.aload_n 0, 1) := by decide +kernel
theorem dX10_nextOf_42 : decode cX10_nextOf 42 = .ok (.getfield 24, 3) := by decide +kernel
theorem dX10_nextOf_45 : decode cX10_nextOf 45 = .ok (.iload_n 2, 1) := by decide +kernel
theorem dX10_nextOf_46 : decode cX10_nextOf 46 = .ok (.iaload, 1) := by decide +kernel
theorem dX10_nextOf_47 : decode cX10_nextOf 47 = .ok (.if_icmp .ge 12, 3) := by decide +kernel
theorem dX10_nextOf_50 : decode cX10_nextOf 50 = .ok (.aload_n 0, 1) := by decide +kernel
theorem dX10_nextOf_51 : decode cX10_nextOf 51 = .ok (.getfield 24, 3) := by decide +kernel
theorem dX10_nextOf_54 : decode cX10_nextOf 54 = .ok (.iload_n 1, 1) := by decide +kernel
theorem dX10_nextOf_55 : decode cX10_nextOf 55 = .ok (.iaload, 1) := by decide +kernel
theorem dX10_nextOf_56 : decode cX10_nextOf 56 = .ok (.goto 4, 3) := by decide +kernel
theorem dX10_nextOf_59 : decode cX10_nextOf 59 = .ok (.iconst (-1), 1) := by decide +kernel
theorem dX10_nextOf_60 : decode cX10_nextOf 60 = .ok (.ireturn, 1) := by decide +kernel
theorem dX10_nodeAlike_0 : decode cX10_nodeAlike 0 = .ok (.aload_n 0, 1) := by decide +kernel
theorem dX10_nodeAlike_1 : decode cX10_nodeAlike 1 = .ok (.iload_n 1, 1) := by decide +kernel
theorem dX10_nodeAlike_2 : decode cX10_nodeAlike 2 = .ok (.invokevirtual 81, 3) := by decide +kernel
theorem dX10_nodeAlike_5 : decode cX10_nodeAlike 5 = .ok (.aload_n 0, 1) := by decide +kernel
theorem dX10_nodeAlike_6 : decode cX10_nodeAlike 6 = .ok (.iload_n 2, 1) := by decide +kernel
theorem dX10_nodeAlike_7 : decode cX10_nodeAlike 7 = .ok (.invokevirtual 81, 3) := by decide +kernel
theorem dX10_nodeAlike_10 : decode cX10_nodeAlike 10 = .ok (.if_icmp .ne 16, 3) := by decide +kernel
theorem dX10_nodeAlike_13 : decode cX10_nodeAlike 13 = .ok (.aload_n 0, 1) := by decide +kernel
theorem dX10_nodeAlike_14 : decode cX10_nodeAlike 14 = .ok (.iload_n 1, 1) := by decide +kernel
theorem dX10_nodeAlike_15 : decode cX10_nodeAlike 15 = .ok (.invokevirtual 124, 3) := by decide +kernel
theorem dX10_nodeAlike_18 : decode cX10_nodeAlike 18 = .ok (.aload_n 0, 1) := by decide +kernel
theorem dX10_nodeAlike_19 : decode cX10_nodeAlike 19 = .ok (.iload_n 2, 1) := by decide +kernel
theorem dX10_nodeAlike_20 : decode cX10_nodeAlike 20 = .ok (.invokevirtual 124, 3) := by decide +kernel
theorem dX10_nodeAlike_23 : decode cX10_nodeAlike 23 = .ok (.if_icmp .eq 5, 3) := by decide +kernel
theorem dX10_nodeAlike_26 : decode cX10_nodeAlike 26 = .ok (.iconst 0, 1) := by decide +kernel
theorem dX10_nodeAlike_27 : decode cX10_nodeAlike 27 = .ok (.ireturn, 1) := by decide +kernel
theorem dX10_nodeAlike_28 : decode cX10_nodeAlike 28 = .ok (.aload_n 0, 1) := by decide +kernel
theorem dX10_nodeAlike_29 : decode cX10_nodeAlike 29 = .ok (.iload_n 1, 1) := by decide +kernel
theorem dX10_nodeAlike_30 : decode cX10_nodeAlike 30 = .ok (.invokevirtual 81, 3) := by decide +kernel
theorem dX10_nodeAlike_33 : decode cX10_nodeAlike 33 = .ok (.lookupswitch 127 #[(2, 35), (7, 63), (8, 108)], 35) := by decide +kernel
theorem dX10_nodeAlike_68 : decode cX10_nodeAlike 68 = .ok (.aload_n 0, 1) := by decide +kernel
theorem dX10_nodeAlike_69 : decode cX10_nodeAlike 69 = .ok (.iload_n 1, 1) := by decide +kernel
theorem dX10_nodeAlike_70 : decode cX10_nodeAlike 70 = .ok (.invokevirtual 130, 3) := by decide +kernel
theorem dX10_nodeAlike_73 : decode cX10_nodeAlike 73 = .ok (.aload_n 0, 1) := by decide +kernel
theorem dX10_nodeAlike_74 : decode cX10_nodeAlike 74 = .ok (.iload_n 2, 1) := by decide +kernel
theorem dX10_nodeAlike_75 : decode cX10_nodeAlike 75 = .ok (.invokevirtual 130, 3) := by decide +kernel
theorem dX10_nodeAlike_78 : decode cX10_nodeAlike 78 = .ok (.if_icmp .ne 16, 3) := by decide +kernel
theorem dX10_nodeAlike_81 : decode cX10_nodeAlike 81 = .ok (.aload_n 0, 1) := by decide +kernel
theorem dX10_nodeAlike_82 : decode cX10_nodeAlike 82 = .ok (.iload_n 1, 1) := by decide +kernel
theorem dX10_nodeAlike_83 : decode cX10_nodeAlike 83 = .ok (.iload_n 2, 1) := by decide +kernel
theorem dX10_nodeAlike_84 : decode cX10_nodeAlike 84 = .ok (.invokevirtual 188, 3) := by decide +kernel
theorem dX10_nodeAlike_87 : decode cX10_nodeAlike 87 = .ok (.ifCond .eq 7, 3) := by decide +kernel
theorem dX10_nodeAlike_90 : decode cX10_nodeAlike 90 = .ok (.iconst 1, 1) := by decide +kernel
theorem dX10_nodeAlike_91 : decode cX10_nodeAlike 91 = .ok (.goto 4, 3) := by decide +kernel
theorem dX10_nodeAlike_94 : decode cX10_nodeAlike 94 = .ok (.iconst 0, 1) := by decide +kernel
theorem dX10_nodeAlike_95 : decode cX10_nodeAlike 95 = .ok (.ireturn, 1) := by decide +kernel
theorem dX10_nodeAlike_96 : decode cX10_nodeAlike 96 = .ok (.aload_n 0, 1) := by decide +kernel
theorem dX10_nodeAlike_97 : decode cX10_nodeAlike 97 = .ok (.iload_n 1, 1) := by decide +kernel
theorem dX10_nodeAlike_98 : decode cX10_nodeAlike 98 = .ok (.invokevirtual 130, 3) := by decide +kernel
theorem dX10_nodeAlike_101 : decode cX10_nodeAlike 101 = .ok (.aload_n 0, 1) := by decide +kernel
theorem dX10_nodeAlike_102 : decode cX10_nodeAlike 102 = .ok (.iload_n 2, 1) := by decide +kernel
theorem dX10_nodeAlike_103 : decode cX10_nodeAlike 103 = .ok (.invokevirtual 130, 3) := by decide +kernel
theorem dX10_nodeAlike_106 : decode cX10_nodeAlike 106 = .ok (.if_icmp .ne 33, 3) := by decide +kernel
theorem dX10_nodeAlike_109 : decode cX10_nodeAlike 109 = .ok (.aload_n 0, 1) := by decide +kernel
theorem dX10_nodeAlike_110 : decode cX10_nodeAlike 110 = .ok (.iload_n 1, 1) := by decide +kernel
theorem dX10_nodeAlike_111 : decode cX10_nodeAlike 111 = .ok (.invokevirtual 95, 3) := by decide +kernel
theorem dX10_nodeAlike_114 : decode cX10_nodeAlike 114 = .ok (.aload_n 0, 1) := by decide +kernel
theorem dX10_nodeAlike_115 : decode cX10_nodeAlike 115 = .ok (.iload_n 2, 1) := by decide +kernel
theorem dX10_nodeAlike_116 : decode cX10_nodeAlike 116 = .ok (.invokevirtual 95, 3) := by decide +kernel
theorem dX10_nodeAlike_119 : decode cX10_nodeAlike 119 = .ok (.if_icmp .ne 20, 3) := by decide +kernel
theorem dX10_nodeAlike_122 : decode cX10_nodeAlike 122 = .ok (.aload_n 0, 1) := by decide +kernel
theorem dX10_nodeAlike_123 : decode cX10_nodeAlike 123 = .ok (.iload_n 1, 1) := by decide +kernel
theorem dX10_nodeAlike_124 : decode cX10_nodeAlike 124 = .ok (.invokevirtual 85, 3) := by decide +kernel
theorem dX10_nodeAlike_127 : decode cX10_nodeAlike 127 = .ok (.aload_n 0, 1) := by decide +kernel
theorem dX10_nodeAlike_128 : decode cX10_nodeAlike 128 = .ok (.iload_n 2, 1) := by decide +kernel
theorem dX10_nodeAlike_129 : decode cX10_nodeAlike 129 = .ok (.invokevirtual 85, 3) := by decide +kernel
theorem dX10_nodeAlike_132 : decode cX10_nodeAlike 132 = .ok (.if_icmp .ne 7, 3) := by decide +kernel
theorem dX10_nodeAlike_135 : decode cX10_nodeAlike 135 = .ok (.iconst 1, 1) := by decide +kernel
theorem dX10_nodeAlike_136 : decode cX10_nodeAlike 136 = .ok (.goto 4, 3) := by decide +kernel
theorem dX10_nodeAlike_139 : decode cX10_nodeAlike 139 = .ok (.iconst 0, 1) := by decide +kernel
theorem dX10_nodeAlike_140 : decode cX10_nodeAlike 140 = .ok (.ireturn, 1) := by decide +kernel
theorem dX10_nodeAlike_141 : decode cX10_nodeAlike 141 = .ok (.aload_n 0, 1) := by decide +kernel
theorem dX10_nodeAlike_142 : decode cX10_nodeAlike 142 = .ok (.iload_n 1, 1) := by decide +kernel
theorem dX10_nodeAlike_143 : decode cX10_nodeAlike 143 = .ok (.invokevirtual 95, 3) := by decide +kernel
theorem dX10_nodeAlike_146 : decode cX10_nodeAlike 146 = .ok (.aload_n 0, 1) := by decide +kernel
theorem dX10_nodeAlike_147 : decode cX10_nodeAlike 147 = .ok (.iload_n 2, 1) := by decide +kernel
theorem dX10_nodeAlike_148 : decode cX10_nodeAlike 148 = .ok (.invokevirtual 95, 3) := by decide +kernel
theorem dX10_nodeAlike_151 : decode cX10_nodeAlike 151 = .ok (.if_icmp .ne 7, 3) := by decide +kernel
theorem dX10_nodeAlike_154 : decode cX10_nodeAlike 154 = .ok (.iconst 1, 1) := by decide +kernel
theorem dX10_nodeAlike_155 : decode cX10_nodeAlike 155 = .ok (.goto 4, 3) := by decide +kernel
theorem dX10_nodeAlike_158 : decode cX10_nodeAlike 158 = .ok (.iconst 0, 1) := by decide +kernel
theorem dX10_nodeAlike_159 : decode cX10_nodeAlike 159 = .ok (.ireturn, 1) := by decide +kernel
theorem dX10_nodeAlike_160 : decode cX10_nodeAlike 160 = .ok (.aload_n 0, 1) := by decide +kernel
theorem dX10_nodeAlike_161 : decode cX10_nodeAlike 161 = .ok (.iload_n 1, 1) := by decide +kernel
theorem dX10_nodeAlike_162 : decode cX10_nodeAlike 162 = .ok (.invokevirtual 130, 3) := by decide +kernel
theorem dX10_nodeAlike_165 : decode cX10_nodeAlike 165 = .ok (.aload_n 0, 1) := by decide +kernel
theorem dX10_nodeAlike_166 : decode cX10_nodeAlike 166 = .ok (.iload_n 2, 1) := by decide +kernel
theorem dX10_nodeAlike_167 : decode cX10_nodeAlike 167 = .ok (.invokevirtual 130, 3) := by decide +kernel
theorem dX10_nodeAlike_170 : decode cX10_nodeAlike 170 = .ok (.if_icmp .ne 7, 3) := by decide +kernel
theorem dX10_nodeAlike_173 : decode cX10_nodeAlike 173 = .ok (.iconst 1, 1) := by decide +kernel
theorem dX10_nodeAlike_174 : decode cX10_nodeAlike 174 = .ok (.goto 4, 3) := by decide +kernel
theorem dX10_nodeAlike_177 : decode cX10_nodeAlike 177 = .ok (.iconst 0, 1) := by decide +kernel
theorem dX10_nodeAlike_178 : decode cX10_nodeAlike 178 = .ok (.ireturn, 1) := by decide +kernel
theorem dX10_outermostEndless_0 : decode cX10_outermostEndless 0 = .ok (.iconst (-1), 1) := by decide +kernel
theorem dX10_outermostEndless_1 : decode cX10_outermostEndless 1 = .ok (.istore_n 2, 1) := by decide +kernel
theorem dX10_outermostEndless_2 : decode cX10_outermostEndless 2 = .ok (.aload_n 0, 1) := by decide +kernel
theorem dX10_outermostEndless_3 : decode cX10_outermostEndless 3 = .ok (.iload_n 1, 1) := by decide +kernel
theorem dX10_outermostEndless_4 : decode cX10_outermostEndless 4 = .ok (.invokevirtual 170, 3) := by decide +kernel
theorem dX10_outermostEndless_7 : decode cX10_outermostEndless 7 = .ok (.istore_n 3, 1) := by decide +kernel
theorem dX10_outermostEndless_8 : decode cX10_outermostEndless 8 = .ok (.aload_n 0, 1) := by decide +kernel
theorem dX10_outermostEndless_9 : decode cX10_outermostEndless 9 = .ok (.iload_n 3, 1) := by decide +kernel
theorem dX10_outermostEndless_10 : decode cX10_outermostEndless 10 = .ok (.invokevirtual 91, 3) := by decide +kernel
theorem dX10_outermostEndless_13 : decode cX10_outermostEndless 13 = .ok (.ifCond .eq 35, 3) := by decide +kernel
theorem dX10_outermostEndless_16 : decode cX10_outermostEndless 16 = .ok (.aload_n 0, 1) := by decide +kernel
theorem dX10_outermostEndless_17 : decode cX10_outermostEndless 17 = .ok (.iload_n 3, 1) := by decide +kernel
theorem dX10_outermostEndless_18 : decode cX10_outermostEndless 18 = .ok (.invokevirtual 164, 3) := by decide +kernel
theorem dX10_outermostEndless_21 : decode cX10_outermostEndless 21 = .ok (.ifCond .eq 17, 3) := by decide +kernel
theorem dX10_outermostEndless_24 : decode cX10_outermostEndless 24 = .ok (.aload_n 0, 1) := by decide +kernel
theorem dX10_outermostEndless_25 : decode cX10_outermostEndless 25 = .ok (.aload_n 0, 1) := by decide +kernel
theorem dX10_outermostEndless_26 : decode cX10_outermostEndless 26 = .ok (.iload_n 3, 1) := by decide +kernel
theorem dX10_outermostEndless_27 : decode cX10_outermostEndless 27 = .ok (.invokevirtual 105, 3) := by decide +kernel
theorem dX10_outermostEndless_30 : decode cX10_outermostEndless 30 = .ok (.invokevirtual 149, 3) := by decide +kernel
theorem dX10_outermostEndless_33 : decode cX10_outermostEndless 33 = .ok (.ifCond .eq 5, 3) := by decide +kernel
theorem dX10_outermostEndless_36 : decode cX10_outermostEndless 36 = .ok (.iload_n 3, 1) := by decide +kernel
theorem dX10_outermostEndless_37 : decode cX10_outermostEndless 37 = .ok (.istore_n 2, 1) := by decide +kernel
theorem dX10_outermostEndless_38 : decode cX10_outermostEndless 38 = .ok (.aload_n 0, 1) := by decide +kernel
theorem dX10_outermostEndless_39 : decode cX10_outermostEndless 39 = .ok (.getfield 21, 3) := by decide +kernel
theorem dX10_outermostEndless_42 : decode cX10_outermostEndless 42 = .ok (.iload_n 3, 1) := by decide +kernel
theorem dX10_outermostEndless_43 : decode cX10_outermostEndless 43 = .ok (.iaload, 1) := by decide +kernel
theorem dX10_outermostEndless_44 : decode cX10_outermostEndless 44 = .ok (.istore_n 3, 1) := by decide +kernel
theorem dX10_outermostEndless_45 : decode cX10_outermostEndless 45 = .ok (.goto (-37), 3) := by decide +kernel
theorem dX10_outermostEndless_48 : decode cX10_outermostEndless 48 = .ok (.iload_n 2, 1) := by decide +kernel
theorem dX10_outermostEndless_49 : decode cX10_outermostEndless 49 = .ok (.ireturn, 1) := by decide +kernel
theorem dX10_partBegin_0 : decode cX10_partBegin 0 = .ok (.aload_n 0, 1) := by decide +kernel
theorem dX10_partBegin_1 : decode cX10_partBegin 1 = .ok (.iload_n 1, 1) := by decide +kernel
theorem dX10_partBegin_2 : decode cX10_partBegin 2 = .ok (.invokevirtual 95, 3) := by decide +kernel
theorem dX10_partBegin_5 : decode cX10_partBegin 5 = .ok (.iload_n 2, 1) := by decide +kernel
theorem dX10_partBegin_6 : decode cX10_partBegin 6 = .ok (.iadd, 1) := by decide +kernel
theorem dX10_partBegin_7 : decode cX10_partBegin 7 = .ok (.istore_n 3, 1) := by decide +kernel
theorem dX10_partBegin_8 : decode cX10_partBegin 8 = .ok (.iload_n 3, 1) := by decide +kernel
theorem dX10_partBegin_9 : decode cX10_partBegin 9 = .ok (.ifCond .lt 20, 3) := by decide +kernel
theorem dX10_partBegin_12 : decode cX10_partBegin 12 = .ok (.iload_n 3, 1) := by decide +kernel
theorem dX10_partBegin_13 : decode cX10_partBegin 13 = .ok (.aload_n 0, 1) := by decide +kernel
theorem dX10_partBegin_14 : decode cX10_partBegin 14 = .ok (.getfield 78, 3) := by decide +kernel
theorem dX10_partBegin_17 : decode cX10_partBegin 17 = .ok (.if_icmp .ge 12, 3) := by decide +kernel
theorem dX10_partBegin_20 : decode cX10_partBegin 20 = .ok (.aload_n 0, 1) := by decide +kernel
theorem dX10_partBegin_21 : decode cX10_partBegin 21 = .ok (.getfield 61, 3) := by decide +kernel
theorem dX10_partBegin_24 : decode cX10_partBegin 24 = .ok (.iload_n 3, 1) := by decide +kernel
theorem dX10_partBegin_25 : decode cX10_partBegin 25 = .ok (.iaload, 1) := by decide +kernel
theorem dX10_partBegin_26 : decode cX10_partBegin 26 = .ok (.goto 4, 3) := by decide +kernel
theorem dX10_partBegin_29 : decode cX10_partBegin 29 = .ok (.iconst 0, 1) := by decide +kernel
theorem dX10_partBegin_30 : decode cX10_partBegin 30 = .ok (.ireturn, 1) := by decide +kernel
theorem dX10_partEnd_0 : decode cX10_partEnd 0 = .ok (.aload_n 0, 1) := by decide +kernel
theorem dX10_partEnd_1 : decode cX10_partEnd 1 = .ok (.iload_n 1, 1) := by decide +kernel
theorem dX10_partEnd_2 : decode cX10_partEnd 2 = .ok (.invokevirtual 95, 3) := by decide +kernel
theorem dX10_partEnd_5 : decode cX10_partEnd 5 = .ok (.iload_n 2, 1) := by decide +kernel
theorem dX10_partEnd_6 : decode cX10_partEnd 6 = .ok (.iadd, 1) := by decide +kernel
theorem dX10_partEnd_7 : decode cX10_partEnd 7 = .ok (.istore_n 3, 1) := by decide +kernel
theorem dX10_partEnd_8 : decode cX10_partEnd 8 = .ok (.iload_n 3, 1) := by decide +kernel
theorem dX10_partEnd_9 : decode cX10_partEnd 9 = .ok (.ifCond .lt 20, 3) := by decide +kernel
theorem dX10_partEnd_12 : decode cX10_partEnd 12 = .ok (.iload_n 3, 1) := by decide +kernel
theorem dX10_partEnd_13 : decode cX10_partEnd 13 = .ok (.aload_n 0, 1) := by decide +kernel
theorem dX10_partEnd_14 : decode cX10_partEnd 14 = .ok (.getfield 78, 3) := by decide +kernel
theorem dX10_partEnd_17 : decode cX10_partEnd 17 = .ok (.if_icmp .ge 12, 3) := by decide +kernel
theorem dX10_partEnd_20 : decode cX10_partEnd 20 = .ok (.aload_n 0, 1) := by decide +kernel
theorem dX10_partEnd_21 : decode cX10_partEnd 21 = .ok (.getfield 64, 3) := by decide +kernel
theorem dX10_partEnd_24 : decode cX10_partEnd 24 = .ok (.iload_n 3, 1) := by decide +kernel
theorem dX10_partEnd_25 : decode cX10_partEnd 25 = .ok (.iaload, 1) := by decide +kernel
theorem dX10_partEnd_26 : decode cX10_partEnd 26 = .ok (.goto 4, 3) := by decide +kernel
theorem dX10_partEnd_29 : decode cX10_partEnd 29 = .ok (.iconst 0, 1) := by decide +kernel
theorem dX10_partEnd_30 : decode cX10_partEnd 30 = .ok (.ireturn, 1) := by decide +kernel
theorem dX10_partsOf_0 : decode cX10_partsOf 0 = .ok (.iload_n 1, 1) := by decide +kernel
theorem dX10_partsOf_1 : decode cX10_partsOf 1 = .ok (.ifCond .lt 11, 3) := by decide +kernel
theorem dX10_partsOf_4 : decode cX10_partsOf 4 = .ok (.iload_n 1, 1) := by decide +kernel
theorem dX10_partsOf_5 : decode cX10_partsOf 5 = .ok (.aload_n 0, 1) := by decide +kernel
theorem dX10_partsOf_6 : decode cX10_partsOf 6 = .ok (.getfield 71, 3) := by decide +kernel
theorem dX10_partsOf_9 : decode cX10_partsOf 9 = .ok (.if_icmp .lt 5, 3) := by decide +kernel
theorem dX10_partsOf_12 : decode cX10_partsOf 12 = .ok (.iconst 0, 1) := by decide +kernel
theorem dX10_partsOf_13 : decode cX10_partsOf 13 = .ok (.ireturn, 1) := by decide +kernel
theorem dX10_partsOf_14 : decode cX10_partsOf 14 = .ok (.aload_n 0, 1) := by decide +kernel
theorem dX10_partsOf_15 : decode cX10_partsOf 15 = .ok (.getfield 15, 3) := by decide +kernel
theorem dX10_partsOf_18 : decode cX10_partsOf 18 = .ok (.iload_n 1, 1) := by decide +kernel
theorem dX10_partsOf_19 : decode cX10_partsOf 19 = .ok (.iaload, 1) := by decide +kernel
theorem dX10_partsOf_20 : decode cX10_partsOf 20 = .ok (.iconst 2, 1) := by decide +kernel
theorem dX10_partsOf_21 : decode cX10_partsOf 21 = .ok (.if_icmp .ne 12, 3) := by decide +kernel
theorem dX10_partsOf_24 : decode cX10_partsOf 24 = .ok (.aload_n 0, 1) := by decide +kernel
theorem dX10_partsOf_25 : decode cX10_partsOf 25 = .ok (.getfield 42, 3) := by decide +kernel
theorem dX10_partsOf_28 : decode cX10_partsOf 28 = .ok (.iload_n 1, 1) := by decide +kernel
theorem dX10_partsOf_29 : decode cX10_partsOf 29 = .ok (.iaload, 1) := by decide +kernel
theorem dX10_partsOf_30 : decode cX10_partsOf 30 = .ok (.goto 9, 3) := by decide +kernel
theorem dX10_partsOf_33 : decode cX10_partsOf 33 = .ok (.aload_n 0, 1) := by decide +kernel
theorem dX10_partsOf_34 : decode cX10_partsOf 34 = .ok (.getfield 33, 3) := by decide +kernel
theorem dX10_partsOf_37 : decode cX10_partsOf 37 = .ok (.iload_n 1, 1) := by decide +kernel
theorem dX10_partsOf_38 : decode cX10_partsOf 38 = .ok (.iaload, 1) := by decide +kernel
theorem dX10_partsOf_39 : decode cX10_partsOf 39 = .ok (.ireturn, 1) := by decide +kernel
theorem dX10_printAlike_0 : decode cX10_printAlike 0 = .ok (.aload_n 0, 1) := by decide +kernel
theorem dX10_printAlike_1 : decode cX10_printAlike 1 = .ok (.iload_n 1, 1) := by decide +kernel
theorem dX10_printAlike_2 : decode cX10_printAlike 2 = .ok (.invokevirtual 182, 3) := by decide +kernel
theorem dX10_printAlike_5 : decode cX10_printAlike 5 = .ok (.iload_n 1, 1) := by decide +kernel
theorem dX10_printAlike_6 : decode cX10_printAlike 6 = .ok (.isub, 1) := by decide +kernel
theorem dX10_printAlike_7 : decode cX10_printAlike 7 = .ok (.istore_n 3, 1) := by decide +kernel
theorem dX10_printAlike_8 : decode cX10_printAlike 8 = .ok (.iload_n 3, 1) := by decide +kernel
theorem dX10_printAlike_9 : decode cX10_printAlike 9 = .ok (.aload_n 0, 1) := by decide +kernel
theorem dX10_printAlike_10 : decode cX10_printAlike 10 = .ok (.iload_n 2, 1) := by decide +kernel
theorem dX10_printAlike_11 : decode cX10_printAlike 11 = .ok (.invokevirtual 182, 3) := by decide +kernel
theorem dX10_printAlike_14 : decode cX10_printAlike 14 = .ok (.iload_n 2, 1) := by decide +kernel
theorem dX10_printAlike_15 : decode cX10_printAlike 15 = .ok (.isub, 1) := by decide +kernel
theorem dX10_printAlike_16 : decode cX10_printAlike 16 = .ok (.if_icmp .eq 5, 3) := by decide +kernel
theorem dX10_printAlike_19 : decode cX10_printAlike 19 = .ok (.iconst 0, 1) := by decide +kernel
theorem dX10_printAlike_20 : decode cX10_printAlike 20 = .ok (.ireturn, 1) := by decide +kernel
theorem dX10_printAlike_21 : decode cX10_printAlike 21 = .ok (.iconst 0, 1) := by decide +kernel
theorem dX10_printAlike_22 : decode cX10_printAlike 22 = .ok (.istore 4, 2) := by decide +kernel
theorem dX10_printAlike_24 : decode cX10_printAlike 24 = .ok (.iload 4, 2) := by decide +kernel
theorem dX10_printAlike_26 : decode cX10_printAlike 26 = .ok (.iload_n 3, 1) := by decide +kernel
theorem dX10_printAlike_27 : decode cX10_printAlike 27 = .ok (.if_icmp .ge 26, 3) := by decide +kernel
theorem dX10_printAlike_30 : decode cX10_printAlike 30 = .ok (.aload_n 0, 1) := by decide +kernel
theorem dX10_printAlike_31 : decode cX10_printAlike 31 = .ok (.iload_n 1, 1) := by decide +kernel
theorem dX10_printAlike_32 : decode cX10_printAlike 32 = .ok (.iload 4, 2) := by decide +kernel
theorem dX10_printAlike_34 : decode cX10_printAlike 34 = .ok (.iadd, 1) := by decide +kernel
theorem dX10_printAlike_35 : decode cX10_printAlike 35 = .ok (.iload_n 2, 1) := by decide +kernel
theorem dX10_printAlike_36 : decode cX10_printAlike 36 = .ok (.iload 4, 2) := by decide +kernel
theorem dX10_printAlike_38 : decode cX10_printAlike 38 = .ok (.iadd, 1) := by decide +kernel
theorem dX10_printAlike_39 : decode cX10_printAlike 39 = .ok (.invokevirtual 185, 3) := by decide +kernel
theorem dX10_printAlike_42 : decode cX10_printAlike 42 = .ok (.ifCond .ne 5, 3) := by decide +kernel
theorem dX10_printAlike_45 : decode cX10_printAlike 45 = .ok (.iconst 0, 1) := by decide +kernel
theorem dX10_printAlike_46 : decode cX10_printAlike 46 = .ok (.ireturn, 1) := by decide +kernel
theorem dX10_printAlike_47 : decode cX10_printAlike 47 = .ok (.iinc 4 1, 3) := by decide +kernel
theorem dX10_printAlike_50 : decode cX10_printAlike 50 = .ok (.goto (-26), 3) := by decide +kernel
theorem dX10_printAlike_53 : decode cX10_printAlike 53 = .ok (.iconst 1, 1) := by decide +kernel
theorem dX10_printAlike_54 : decode cX10_printAlike 54 = .ok (.ireturn, 1) := by decide +kernel
theorem dX10_rangeCount_0 : decode cX10_rangeCount 0 = .ok (.aload_n 0, 1) := by decide +kernel
theorem dX10_rangeCount_1 : decode cX10_rangeCount 1 = .ok (.getfield 78, 3) := by decide +kernel
theorem dX10_rangeCount_4 : decode cX10_rangeCount 4 = .ok (.ireturn, 1) := by decide +kernel
theorem dX10_reset_0 : decode cX10_reset 0 = .ok (.aload_n 0, 1) := by decide +kernel
theorem dX10_reset_1 : decode cX10_reset 1 = .ok (.iconst 0, 1) := by decide +kernel
theorem dX10_reset_2 : decode cX10_reset 2 = .ok (.putfield 67, 3) := by decide +kernel
theorem dX10_reset_5 : decode cX10_reset 5 = .ok (.aload_n 0, 1) := by decide +kernel
theorem dX10_reset_6 : decode cX10_reset 6 = .ok (.iconst 0, 1) := by decide +kernel
theorem dX10_reset_7 : decode cX10_reset 7 = .ok (.putfield 71, 3) := by decide +kernel
theorem dX10_reset_10 : decode cX10_reset 10 = .ok (.aload_n 0, 1) := by decide +kernel
theorem dX10_reset_11 : decode cX10_reset 11 = .ok (.iconst 0, 1) := by decide +kernel
theorem dX10_reset_12 : decode cX10_reset 12 = .ok (.putfield 75, 3) := by decide +kernel
theorem dX10_reset_15 : decode cX10_reset 15 = .ok (.aload_n 0, 1) := by decide +kernel
theorem dX10_reset_16 : decode cX10_reset 16 = .ok (.iconst 0, 1) := by decide +kernel
theorem dX10_reset_17 : decode cX10_reset 17 = .ok (.putfield 78, 3) := by decide +kernel
theorem dX10_reset_20 : decode cX10_reset 20 = .ok (.return_, 1) := by decide +kernel
theorem dX10_rowBegins_0 : decode cX10_rowBegins 0 = .ok (.aload_n 0, 1) := by decide +kernel
theorem dX10_rowBegins_1 : decode cX10_rowBegins 1 = .ok (.iload_n 1, 1) := by decide +kernel
theorem dX10_rowBegins_2 : decode cX10_rowBegins 2 = .ok (.invokevirtual 105, 3) := by decide +kernel
theorem dX10_rowBegins_5 : decode cX10_rowBegins 5 = .ok (.istore_n 2, 1) := by decide +kernel
theorem dX10_rowBegins_6 : decode cX10_rowBegins 6 = .ok (.aload_n 0, 1) := by decide +kernel
theorem dX10_rowBegins_7 : decode cX10_rowBegins 7 = .ok (.iload_n 2, 1) := by decide +kernel
theorem dX10_rowBegins_8 : decode cX10_rowBegins 8 = .ok (.invokevirtual 91, 3) := by decide +kernel
theorem dX10_rowBegins_11 : decode cX10_rowBegins 11 = .ok (.ifCond .eq 37, 3) := by decide +kernel
theorem dX10_rowBegins_14 : decode cX10_rowBegins 14 = .ok (.aload_n 0, 1) := by decide +kernel
theorem dX10_rowBegins_15 : decode cX10_rowBegins 15 = .ok (.getfield 58, 3) := by decide +kernel
theorem dX10_rowBegins_18 : decode cX10_rowBegins 18 = .ok (.iload_n 2, 1) := by decide +kernel
theorem dX10_rowBegins_19 : decode cX10_rowBegins 19 = .ok (.baload, 1) := by decide +kernel
theorem dX10_rowBegins_20 : decode cX10_rowBegins 20 = .ok (.ifCond .ne 12, 3) := by decide +kernel
theorem dX10_rowBegins_23 : decode cX10_rowBegins 23 = .ok (.aload_n 0, 1) := by decide +kernel
theorem dX10_rowBegins_24 : decode cX10_rowBegins 24 = .ok (.getfield 51, 3) := by decide +kernel
theorem dX10_rowBegins_27 : decode cX10_rowBegins 27 = .ok (.iload_n 2, 1) := by decide +kernel
theorem dX10_rowBegins_28 : decode cX10_rowBegins 28 = .ok (.baload, 1) := by decide +kernel
theorem dX10_rowBegins_29 : decode cX10_rowBegins 29 = .ok (.ifCond .ne 10, 3) := by decide +kernel
theorem dX10_rowBegins_32 : decode cX10_rowBegins 32 = .ok (.aload_n 0, 1) := by decide +kernel
theorem dX10_rowBegins_33 : decode cX10_rowBegins 33 = .ok (.getfield 58, 3) := by decide +kernel
theorem dX10_rowBegins_36 : decode cX10_rowBegins 36 = .ok (.iload_n 2, 1) := by decide +kernel
theorem dX10_rowBegins_37 : decode cX10_rowBegins 37 = .ok (.baload, 1) := by decide +kernel
theorem dX10_rowBegins_38 : decode cX10_rowBegins 38 = .ok (.ireturn, 1) := by decide +kernel
theorem dX10_rowBegins_39 : decode cX10_rowBegins 39 = .ok (.aload_n 0, 1) := by decide +kernel
theorem dX10_rowBegins_40 : decode cX10_rowBegins 40 = .ok (.iload_n 2, 1) := by decide +kernel
theorem dX10_rowBegins_41 : decode cX10_rowBegins 41 = .ok (.invokevirtual 108, 3) := by decide +kernel
theorem dX10_rowBegins_44 : decode cX10_rowBegins 44 = .ok (.istore_n 2, 1) := by decide +kernel
theorem dX10_rowBegins_45 : decode cX10_rowBegins 45 = .ok (.goto (-39), 3) := by decide +kernel
theorem dX10_rowBegins_48 : decode cX10_rowBegins 48 = .ok (.iconst 0, 1) := by decide +kernel
theorem dX10_rowBegins_49 : decode cX10_rowBegins 49 = .ok (.ireturn, 1) := by decide +kernel
theorem dX10_sameParts_0 : decode cX10_sameParts 0 = .ok (.iconst 0, 1) := by decide +kernel
theorem dX10_sameParts_1 : decode cX10_sameParts 1 = .ok (.istore_n 3, 1) := by decide +kernel
theorem dX10_sameParts_2 : decode cX10_sameParts 2 = .ok (.iload_n 3, 1) := by decide +kernel
theorem dX10_sameParts_3 : decode cX10_sameParts 3 = .ok (.aload_n 0, 1) := by decide +kernel
theorem dX10_sameParts_4 : decode cX10_sameParts 4 = .ok (.iload_n 1, 1) := by decide +kernel
