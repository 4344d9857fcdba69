theorem dX1_undo_19 : decode cX1_undo 19 = .ok (.aload_n 0, 1) := by decide +kernel
theorem dX1_undo_20 : decode cX1_undo 20 = .ok (.getfield 48, 3) := by decide +kernel
theorem dX1_undo_23 : decode cX1_undo 23 = .ok (.arraylength, 1) := by decide +kernel
theorem dX1_undo_24 : decode cX1_undo 24 = .ok (.if_icmp .gt 60, 3) := by decide +kernel
theorem dX1_undo_27 : decode cX1_undo 27 = .ok (.aload_n 0, 1) := by decide +kernel
theorem dX1_undo_28 : decode cX1_undo 28 = .ok (.dup, 1) := by decide +kernel
theorem dX1_undo_29 : decode cX1_undo 29 = .ok (.getfield 77, 3) := by decide +kernel
theorem dX1_undo_32 : decode cX1_undo 32 = .ok (.iconst 1, 1) := by decide +kernel
theorem dX1_undo_33 : decode cX1_undo 33 = .ok (.isub, 1) := by decide +kernel
theorem dX1_undo_34 : decode cX1_undo 34 = .ok (.putfield 77, 3) := by decide +kernel
theorem dX1_undo_37 : decode cX1_undo 37 = .ok (.aload_n 0, 1) := by decide +kernel
theorem dX1_undo_38 : decode cX1_undo 38 = .ok (.getfield 48, 3) := by decide +kernel
theorem dX1_undo_41 : decode cX1_undo 41 = .ok (.aload_n 0, 1) := by decide +kernel
theorem dX1_undo_42 : decode cX1_undo 42 = .ok (.getfield 77, 3) := by decide +kernel
theorem dX1_undo_45 : decode cX1_undo 45 = .ok (.iaload, 1) := by decide +kernel
theorem dX1_undo_46 : decode cX1_undo 46 = .ok (.ldc 254, 2) := by decide +kernel
theorem dX1_undo_48 : decode cX1_undo 48 = .ok (.idiv, 1) := by decide +kernel
theorem dX1_undo_49 : decode cX1_undo 49 = .ok (.istore_n 2, 1) := by decide +kernel
theorem dX1_undo_50 : decode cX1_undo 50 = .ok (.iload_n 2, 1) := by decide +kernel
theorem dX1_undo_51 : decode cX1_undo 51 = .ok (.ifCond .lt 30, 3) := by decide +kernel
theorem dX1_undo_54 : decode cX1_undo 54 = .ok (.iload_n 2, 1) := by decide +kernel
theorem dX1_undo_55 : decode cX1_undo 55 = .ok (.aload_n 0, 1) := by decide +kernel
theorem dX1_undo_56 : decode cX1_undo 56 = .ok (.getfield 29, 3) := by decide +kernel
theorem dX1_undo_59 : decode cX1_undo 59 = .ok (.arraylength, 1) := by decide +kernel
theorem dX1_undo_60 : decode cX1_undo 60 = .ok (.if_icmp .ge 21, 3) := by decide +kernel
theorem dX1_undo_63 : decode cX1_undo 63 = .ok (.aload_n 0, 1) := by decide +kernel
theorem dX1_undo_64 : decode cX1_undo 64 = .ok (.getfield 29, 3) := by decide +kernel
theorem dX1_undo_67 : decode cX1_undo 67 = .ok (.iload_n 2, 1) := by decide +kernel
theorem dX1_undo_68 : decode cX1_undo 68 = .ok (.aload_n 0, 1) := by decide +kernel
theorem dX1_undo_69 : decode cX1_undo 69 = .ok (.getfield 48, 3) := by decide +kernel
theorem dX1_undo_72 : decode cX1_undo 72 = .ok (.aload_n 0, 1) := by decide +kernel
theorem dX1_undo_73 : decode cX1_undo 73 = .ok (.getfield 77, 3) := by decide +kernel
theorem dX1_undo_76 : decode cX1_undo 76 = .ok (.iaload, 1) := by decide +kernel
theorem dX1_undo_77 : decode cX1_undo 77 = .ok (.ldc 254, 2) := by decide +kernel
theorem dX1_undo_79 : decode cX1_undo 79 = .ok (.irem, 1) := by decide +kernel
theorem dX1_undo_80 : decode cX1_undo 80 = .ok (.iastore, 1) := by decide +kernel
theorem dX1_undo_81 : decode cX1_undo 81 = .ok (.goto (-81), 3) := by decide +kernel
theorem dX1_undo_84 : decode cX1_undo 84 = .ok (.return_, 1) := by decide +kernel
theorem dX2_begin_0 : decode cX2_begin 0 = .ok (.aload_n 0, 1) := by decide +kernel
theorem dX2_begin_1 : decode cX2_begin 1 = .ok (.iload_n 1, 1) := by decide +kernel
theorem dX2_begin_2 : decode cX2_begin 2 = .ok (.putfield 9, 3) := by decide +kernel
theorem dX2_begin_5 : decode cX2_begin 5 = .ok (.aload_n 0, 1) := by decide +kernel
theorem dX2_begin_6 : decode cX2_begin 6 = .ok (.iload_n 2, 1) := by decide +kernel
theorem dX2_begin_7 : decode cX2_begin 7 = .ok (.putfield 15, 3) := by decide +kernel
theorem dX2_begin_10 : decode cX2_begin 10 = .ok (.aload_n 0, 1) := by decide +kernel
theorem dX2_begin_11 : decode cX2_begin 11 = .ok (.iload_n 3, 1) := by decide +kernel
theorem dX2_begin_12 : decode cX2_begin 12 = .ok (.putfield 18, 3) := by decide +kernel
theorem dX2_begin_15 : decode cX2_begin 15 = .ok (.aload_n 0, 1) := by decide +kernel
theorem dX2_begin_16 : decode cX2_begin 16 = .ok (.iconst (-1), 1) := by decide +kernel
theorem dX2_begin_17 : decode cX2_begin 17 = .ok (.putfield 21, 3) := by decide +kernel
theorem dX2_begin_20 : decode cX2_begin 20 = .ok (.aload_n 0, 1) := by decide +kernel
theorem dX2_begin_21 : decode cX2_begin 21 = .ok (.iconst (-1), 1) := by decide +kernel
theorem dX2_begin_22 : decode cX2_begin 22 = .ok (.putfield 24, 3) := by decide +kernel
theorem dX2_begin_25 : decode cX2_begin 25 = .ok (.aload_n 0, 1) := by decide +kernel
theorem dX2_begin_26 : decode cX2_begin 26 = .ok (.iconst 0, 1) := by decide +kernel
theorem dX2_begin_27 : decode cX2_begin 27 = .ok (.putfield 27, 3) := by decide +kernel
theorem dX2_begin_30 : decode cX2_begin 30 = .ok (.aload_n 0, 1) := by decide +kernel
theorem dX2_begin_31 : decode cX2_begin 31 = .ok (.invokevirtual 30, 3) := by decide +kernel
theorem dX2_begin_34 : decode cX2_begin 34 = .ok (.return_, 1) := by decide +kernel
theorem dX2_beginRow_0 : decode cX2_beginRow 0 = .ok (.aload_n 0, 1) := by decide +kernel
theorem dX2_beginRow_1 : decode cX2_beginRow 1 = .ok (.iconst (-1), 1) := by decide +kernel
theorem dX2_beginRow_2 : decode cX2_beginRow 2 = .ok (.putfield 33, 3) := by decide +kernel
theorem dX2_beginRow_5 : decode cX2_beginRow 5 = .ok (.aload_n 0, 1) := by decide +kernel
theorem dX2_beginRow_6 : decode cX2_beginRow 6 = .ok (.iconst 0, 1) := by decide +kernel
theorem dX2_beginRow_7 : decode cX2_beginRow 7 = .ok (.putfield 36, 3) := by decide +kernel
theorem dX2_beginRow_10 : decode cX2_beginRow 10 = .ok (.aload_n 0, 1) := by decide +kernel
theorem dX2_beginRow_11 : decode cX2_beginRow 11 = .ok (.iconst (-1), 1) := by decide +kernel
theorem dX2_beginRow_12 : decode cX2_beginRow 12 = .ok (.putfield 40, 3) := by decide +kernel
theorem dX2_beginRow_15 : decode cX2_beginRow 15 = .ok (.aload_n 0, 1) := by decide +kernel
theorem dX2_beginRow_16 : decode cX2_beginRow 16 = .ok (.iconst (-1), 1) := by decide +kernel
theorem dX2_beginRow_17 : decode cX2_beginRow 17 = .ok (.putfield 43, 3) := by decide +kernel
theorem dX2_beginRow_20 : decode cX2_beginRow 20 = .ok (.aload_n 0, 1) := by decide +kernel
theorem dX2_beginRow_21 : decode cX2_beginRow 21 = .ok (.iconst 0, 1) := by decide +kernel
theorem dX2_beginRow_22 : decode cX2_beginRow 22 = .ok (.putfield 46, 3) := by decide +kernel
theorem dX2_beginRow_25 : decode cX2_beginRow 25 = .ok (.return_, 1) := by decide +kernel
theorem dX3_cellAt_0 : decode cX3_cellAt 0 = .ok (.iload_n 1, 1) := by decide +kernel
theorem dX3_cellAt_1 : decode cX3_cellAt 1 = .ok (.ifCond .lt 18, 3) := by decide +kernel
theorem dX3_cellAt_4 : decode cX3_cellAt 4 = .ok (.iload_n 1, 1) := by decide +kernel
theorem dX3_cellAt_5 : decode cX3_cellAt 5 = .ok (.bipush 20, 2) := by decide +kernel
theorem dX3_cellAt_7 : decode cX3_cellAt 7 = .ok (.if_icmp .ge 12, 3) := by decide +kernel
theorem dX3_cellAt_10 : decode cX3_cellAt 10 = .ok (.aload_n 0, 1) := by decide +kernel
theorem dX3_cellAt_11 : decode cX3_cellAt 11 = .ok (.getfield 50, 3) := by decide +kernel
theorem dX3_cellAt_14 : decode cX3_cellAt 14 = .ok (.iload_n 1, 1) := by decide +kernel
theorem dX3_cellAt_15 : decode cX3_cellAt 15 = .ok (.iaload, 1) := by decide +kernel
theorem dX3_cellAt_16 : decode cX3_cellAt 16 = .ok (.goto 4, 3) := by decide +kernel
theorem dX3_cellAt_19 : decode cX3_cellAt 19 = .ok (.iconst (-1), 1) := by decide +kernel
theorem dX3_cellAt_20 : decode cX3_cellAt 20 = .ok (.ireturn, 1) := by decide +kernel
theorem dX3_exchangeLists_0 : decode cX3_exchangeLists 0 = .ok (.aload_n 0, 1) := by decide +kernel
theorem dX3_exchangeLists_1 : decode cX3_exchangeLists 1 = .ok (.getfield 31, 3) := by decide +kernel
theorem dX3_exchangeLists_4 : decode cX3_exchangeLists 4 = .ok (.astore_n 1, 1) := by decide +kernel
theorem dX3_exchangeLists_5 : decode cX3_exchangeLists 5 = .ok (.aload_n 0, 1) := by decide +kernel
theorem dX3_exchangeLists_6 : decode cX3_exchangeLists 6 = .ok (.getfield 35, 3) := by decide +kernel
theorem dX3_exchangeLists_9 : decode cX3_exchangeLists 9 = .ok (.astore_n 2, 1) := by decide +kernel
theorem dX3_exchangeLists_10 : decode cX3_exchangeLists 10 = .ok (.aload_n 0, 1) := by decide +kernel
theorem dX3_exchangeLists_11 : decode cX3_exchangeLists 11 = .ok (.aload_n 0, 1) := by decide +kernel
theorem dX3_exchangeLists_12 : decode cX3_exchangeLists 12 = .ok (.getfield 38, 3) := by decide +kernel
theorem dX3_exchangeLists_15 : decode cX3_exchangeLists 15 = .ok (.putfield 31, 3) := by decide +kernel
theorem dX3_exchangeLists_18 : decode cX3_exchangeLists 18 = .ok (.aload_n 0, 1) := by decide +kernel
theorem dX3_exchangeLists_19 : decode cX3_exchangeLists 19 = .ok (.aload_n 0, 1) := by decide +kernel
theorem dX3_exchangeLists_20 : decode cX3_exchangeLists 20 = .ok (.getfield 41, 3) := by decide +kernel
theorem dX3_exchangeLists_23 : decode cX3_exchangeLists 23 = .ok (.putfield 35, 3) := by decide +kernel
theorem dX3_exchangeLists_26 : decode cX3_exchangeLists 26 = .ok (.aload_n 0, 1) := by decide +kernel
theorem dX3_exchangeLists_27 : decode cX3_exchangeLists 27 = .ok (.aload_n 0, 1) := by decide +kernel
theorem dX3_exchangeLists_28 : decode cX3_exchangeLists 28 = .ok (.getfield 78, 3) := by decide +kernel
theorem dX3_exchangeLists_31 : decode cX3_exchangeLists 31 = .ok (.putfield 106, 3) := by decide +kernel
theorem dX3_exchangeLists_34 : decode cX3_exchangeLists 34 = .ok (.aload_n 0, 1) := by decide +kernel
theorem dX3_exchangeLists_35 : decode cX3_exchangeLists 35 = .ok (.aload_n 1, 1) := by decide +kernel
theorem dX3_exchangeLists_36 : decode cX3_exchangeLists 36 = .ok (.putfield 38, 3) := by decide +kernel
theorem dX3_exchangeLists_39 : decode cX3_exchangeLists 39 = .ok (.aload_n 0, 1) := by decide +kernel
theorem dX3_exchangeLists_40 : decode cX3_exchangeLists 40 = .ok (.aload_n 2, 1) := by decide +kernel
theorem dX3_exchangeLists_41 : decode cX3_exchangeLists 41 = .ok (.putfield 41, 3) := by decide +kernel
theorem dX3_exchangeLists_44 : decode cX3_exchangeLists 44 = .ok (.aload_n 0, 1) := by decide +kernel
theorem dX3_exchangeLists_45 : decode cX3_exchangeLists 45 = .ok (.iconst 0, 1) := by decide +kernel
theorem dX3_exchangeLists_46 : decode cX3_exchangeLists 46 = .ok (.putfield 78, 3) := by decide +kernel
theorem dX3_exchangeLists_49 : decode cX3_exchangeLists 49 = .ok (.aload_n 0, 1) := by decide +kernel
theorem dX3_exchangeLists_50 : decode cX3_exchangeLists 50 = .ok (.dup, 1) := by decide +kernel
theorem dX3_exchangeLists_51 : decode cX3_exchangeLists 51 = .ok (.getfield 81, 3) := by decide +kernel
theorem dX3_exchangeLists_54 : decode cX3_exchangeLists 54 = .ok (.iconst 1, 1) := by decide +kernel
theorem dX3_exchangeLists_55 : decode cX3_exchangeLists 55 = .ok (.iadd, 1) := by decide +kernel
theorem dX3_exchangeLists_56 : decode cX3_exchangeLists 56 = .ok (.putfield 81, 3) := by decide +kernel
theorem dX3_exchangeLists_59 : decode cX3_exchangeLists 59 = .ok (.return_, 1) := by decide +kernel
theorem dX3_goAlong_0 : decode cX3_goAlong 0 = .ok (.iconst 0, 1) := by decide +kernel
theorem dX3_goAlong_1 : decode cX3_goAlong 1 = .ok (.istore 4, 2) := by decide +kernel
theorem dX3_goAlong_3 : decode cX3_goAlong 3 = .ok (.iload 4, 2) := by decide +kernel
theorem dX3_goAlong_5 : decode cX3_goAlong 5 = .ok (.aload_n 0, 1) := by decide +kernel
theorem dX3_goAlong_6 : decode cX3_goAlong 6 = .ok (.getfield 106, 3) := by decide +kernel
theorem dX3_goAlong_9 : decode cX3_goAlong 9 = .ok (.if_icmp .ge 147, 3) := by decide +kernel
theorem dX3_goAlong_12 : decode cX3_goAlong 12 = .ok (.iload 4, 2) := by decide +kernel
theorem dX3_goAlong_14 : decode cX3_goAlong 14 = .ok (.sipush 256, 3) := by decide +kernel
theorem dX3_goAlong_17 : decode cX3_goAlong 17 = .ok (.if_icmp .ge 139, 3) := by decide +kernel
theorem dX3_goAlong_20 : decode cX3_goAlong 20 = .ok (.aload_n 0, 1) := by decide +kernel
theorem dX3_goAlong_21 : decode cX3_goAlong 21 = .ok (.getfield 31, 3) := by decide +kernel
theorem dX3_goAlong_24 : decode cX3_goAlong 24 = .ok (.iload 4, 2) := by decide +kernel
theorem dX3_goAlong_26 : decode cX3_goAlong 26 = .ok (.iaload, 1) := by decide +kernel
theorem dX3_goAlong_27 : decode cX3_goAlong 27 = .ok (.istore 5, 2) := by decide +kernel
theorem dX3_goAlong_29 : decode cX3_goAlong 29 = .ok (.aload_n 0, 1) := by decide +kernel
theorem dX3_goAlong_30 : decode cX3_goAlong 30 = .ok (.getfield 35, 3) := by decide +kernel
theorem dX3_goAlong_33 : decode cX3_goAlong 33 = .ok (.iload 4, 2) := by decide +kernel
theorem dX3_goAlong_35 : decode cX3_goAlong 35 = .ok (.bipush 20, 2) := by decide +kernel
theorem dX3_goAlong_37 : decode cX3_goAlong 37 = .ok (.imul, 1) := by decide +kernel
theorem dX3_goAlong_38 : decode cX3_goAlong 38 = .ok (.aload_n 0, 1) := by decide +kernel
theorem dX3_goAlong_39 : decode cX3_goAlong 39 = .ok (.getfield 50, 3) := by decide +kernel
theorem dX3_goAlong_42 : decode cX3_goAlong 42 = .ok (.iconst 0, 1) := by decide +kernel
theorem dX3_goAlong_43 : decode cX3_goAlong 43 = .ok (.bipush 20, 2) := by decide +kernel
theorem dX3_goAlong_45 : decode cX3_goAlong 45 = .ok (.invokestatic 117, 3) := by decide +kernel
theorem dX3_goAlong_48 : decode cX3_goAlong 48 = .ok (.aload_n 0, 1) := by decide +kernel
theorem dX3_goAlong_49 : decode cX3_goAlong 49 = .ok (.getfield 14, 3) := by decide +kernel
theorem dX3_goAlong_52 : decode cX3_goAlong 52 = .ok (.iload 5, 2) := by decide +kernel
theorem dX3_goAlong_54 : decode cX3_goAlong 54 = .ok (.invokevirtual 123, 3) := by decide +kernel
theorem dX3_goAlong_57 : decode cX3_goAlong 57 = .ok (.bipush 6, 2) := by decide +kernel
theorem dX3_goAlong_59 : decode cX3_goAlong 59 = .ok (.if_icmp .eq 62, 3) := by decide +kernel
theorem dX3_goAlong_62 : decode cX3_goAlong 62 = .ok (.iload_n 1, 1) := by decide +kernel
theorem dX3_goAlong_63 : decode cX3_goAlong 63 = .ok (.aload_n 0, 1) := by decide +kernel
theorem dX3_goAlong_64 : decode cX3_goAlong 64 = .ok (.getfield 23, 3) := by decide +kernel
theorem dX3_goAlong_67 : decode cX3_goAlong 67 = .ok (.getfield 84, 3) := by decide +kernel
theorem dX3_goAlong_70 : decode cX3_goAlong 70 = .ok (.if_icmp .ge 80, 3) := by decide +kernel
theorem dX3_goAlong_73 : decode cX3_goAlong 73 = .ok (.aload_n 0, 1) := by decide +kernel
theorem dX3_goAlong_74 : decode cX3_goAlong 74 = .ok (.getfield 14, 3) := by decide +kernel
theorem dX3_goAlong_77 : decode cX3_goAlong 77 = .ok (.iload 5, 2) := by decide +kernel
theorem dX3_goAlong_79 : decode cX3_goAlong 79 = .ok (.aload_n 0, 1) := by decide +kernel
theorem dX3_goAlong_80 : decode cX3_goAlong 80 = .ok (.getfield 23, 3) := by decide +kernel
theorem dX3_goAlong_83 : decode cX3_goAlong 83 = .ok (.iload_n 1, 1) := by decide +kernel
theorem dX3_goAlong_84 : decode cX3_goAlong 84 = .ok (.invokevirtual 127, 3) := by decide +kernel
theorem dX3_goAlong_87 : decode cX3_goAlong 87 = .ok (.invokevirtual 130, 3) := by decide +kernel
theorem dX3_goAlong_90 : decode cX3_goAlong 90 = .ok (.ifCond .eq 60, 3) := by decide +kernel
theorem dX3_goAlong_93 : decode cX3_goAlong 93 = .ok (.aload_n 0, 1) := by decide +kernel
theorem dX3_goAlong_94 : decode cX3_goAlong 94 = .ok (.aload_n 0, 1) := by decide +kernel
theorem dX3_goAlong_95 : decode cX3_goAlong 95 = .ok (.getfield 14, 3) := by decide +kernel
theorem dX3_goAlong_98 : decode cX3_goAlong 98 = .ok (.iload 5, 2) := by decide +kernel
theorem dX3_goAlong_100 : decode cX3_goAlong 100 = .ok (.invokevirtual 134, 3) := by decide +kernel
theorem dX3_goAlong_103 : decode cX3_goAlong 103 = .ok (.aload_n 0, 1) := by decide +kernel
theorem dX3_goAlong_104 : decode cX3_goAlong 104 = .ok (.getfield 14, 3) := by decide +kernel
theorem dX3_goAlong_107 : decode cX3_goAlong 107 = .ok (.iload 5, 2) := by decide +kernel
theorem dX3_goAlong_109 : decode cX3_goAlong 109 = .ok (.invokevirtual 137, 3) := by decide +kernel
theorem dX3_goAlong_112 : decode cX3_goAlong 112 = .ok (.iload_n 1, 1) := by decide +kernel
theorem dX3_goAlong_113 : decode cX3_goAlong 113 = .ok (.iconst 1, 1) := by decide +kernel
theorem dX3_goAlong_114 : decode cX3_goAlong 114 = .ok (.iadd, 1) := by decide +kernel
theorem dX3_goAlong_115 : decode cX3_goAlong 115 = .ok (.invokevirtual 99, 3) := by decide +kernel
theorem dX3_goAlong_118 : decode cX3_goAlong 118 = .ok (.goto 32, 3) := by decide +kernel
theorem dX3_goAlong_121 : decode cX3_goAlong 121 = .ok (.iload_n 2, 1) := by decide +kernel
theorem dX3_goAlong_122 : decode cX3_goAlong 122 = .ok (.ifCond .eq 14, 3) := by decide +kernel
theorem dX3_goAlong_125 : decode cX3_goAlong 125 = .ok (.iload_n 1, 1) := by decide +kernel
theorem dX3_goAlong_126 : decode cX3_goAlong 126 = .ok (.aload_n 0, 1) := by decide +kernel
theorem dX3_goAlong_127 : decode cX3_goAlong 127 = .ok (.getfield 23, 3) := by decide +kernel
theorem dX3_goAlong_130 : decode cX3_goAlong 130 = .ok (.getfield 84, 3) := by decide +kernel
theorem dX3_goAlong_133 : decode cX3_goAlong 133 = .ok (.if_icmp .ne 17, 3) := by decide +kernel
theorem dX3_goAlong_136 : decode cX3_goAlong 136 = .ok (.aload_n 0, 1) := by decide +kernel
theorem dX3_goAlong_137 : decode cX3_goAlong 137 = .ok (.getfield 50, 3) := by decide +kernel
theorem dX3_goAlong_140 : decode cX3_goAlong 140 = .ok (.iconst 1, 1) := by decide +kernel
theorem dX3_goAlong_141 : decode cX3_goAlong 141 = .ok (.iload_n 1, 1) := by decide +kernel
theorem dX3_goAlong_142 : decode cX3_goAlong 142 = .ok (.iastore, 1) := by decide +kernel
theorem dX3_goAlong_143 : decode cX3_goAlong 143 = .ok (.aload_n 0, 1) := by decide +kernel
theorem dX3_goAlong_144 : decode cX3_goAlong 144 = .ok (.aload_n 3, 1) := by decide +kernel
theorem dX3_goAlong_145 : decode cX3_goAlong 145 = .ok (.invokevirtual 140, 3) := by decide +kernel
theorem dX3_goAlong_148 : decode cX3_goAlong 148 = .ok (.iconst 1, 1) := by decide +kernel
theorem dX3_goAlong_149 : decode cX3_goAlong 149 = .ok (.ireturn, 1) := by decide +kernel
theorem dX3_goAlong_150 : decode cX3_goAlong 150 = .ok (.iinc 4 1, 3) := by decide +kernel
theorem dX3_goAlong_153 : decode cX3_goAlong 153 = .ok (.goto (-150), 3) := by decide +kernel
theorem dX3_goAlong_156 : decode cX3_goAlong 156 = .ok (.iconst 0, 1) := by decide +kernel
theorem dX3_goAlong_157 : decode cX3_goAlong 157 = .ok (.ireturn, 1) := by decide +kernel
theorem dX3_isNew_0 : decode cX3_isNew 0 = .ok (.iload_n 1, 1) := by decide +kernel
theorem dX3_isNew_1 : decode cX3_isNew 1 = .ok (.ifCond .lt 23, 3) := by decide +kernel
theorem dX3_isNew_4 : decode cX3_isNew 4 = .ok (.iload_n 1, 1) := by decide +kernel
theorem dX3_isNew_5 : decode cX3_isNew 5 = .ok (.sipush 5632, 3) := by decide +kernel
theorem dX3_isNew_8 : decode cX3_isNew 8 = .ok (.if_icmp .ge 16, 3) := by decide +kernel
theorem dX3_isNew_11 : decode cX3_isNew 11 = .ok (.aload_n 0, 1) := by decide +kernel
theorem dX3_isNew_12 : decode cX3_isNew 12 = .ok (.getfield 44, 3) := by decide +kernel
theorem dX3_isNew_15 : decode cX3_isNew 15 = .ok (.iload_n 1, 1) := by decide +kernel
theorem dX3_isNew_16 : decode cX3_isNew 16 = .ok (.iaload, 1) := by decide +kernel
theorem dX3_isNew_17 : decode cX3_isNew 17 = .ok (.aload_n 0, 1) := by decide +kernel
theorem dX3_isNew_18 : decode cX3_isNew 18 = .ok (.getfield 81, 3) := by decide +kernel
theorem dX3_isNew_21 : decode cX3_isNew 21 = .ok (.if_icmp .ne 5, 3) := by decide +kernel
theorem dX3_isNew_24 : decode cX3_isNew 24 = .ok (.iconst 0, 1) := by decide +kernel
theorem dX3_isNew_25 : decode cX3_isNew 25 = .ok (.ireturn, 1) := by decide +kernel
theorem dX3_isNew_26 : decode cX3_isNew 26 = .ok (.aload_n 0, 1) := by decide +kernel
theorem dX3_isNew_27 : decode cX3_isNew 27 = .ok (.getfield 44, 3) := by decide +kernel
theorem dX3_isNew_30 : decode cX3_isNew 30 = .ok (.iload_n 1, 1) := by decide +kernel
theorem dX3_isNew_31 : decode cX3_isNew 31 = .ok (.aload_n 0, 1) := by decide +kernel
theorem dX3_isNew_32 : decode cX3_isNew 32 = .ok (.getfield 81, 3) := by decide +kernel
theorem dX3_isNew_35 : decode cX3_isNew 35 = .ok (.iastore, 1) := by decide +kernel
theorem dX3_isNew_36 : decode cX3_isNew 36 = .ok (.iconst 1, 1) := by decide +kernel
theorem dX3_isNew_37 : decode cX3_isNew 37 = .ok (.ireturn, 1) := by decide +kernel
theorem dX3_markEdges_0 : decode cX3_markEdges 0 = .ok (.iconst 0, 1) := by decide +kernel
theorem dX3_markEdges_1 : decode cX3_markEdges 1 = .ok (.istore_n 2, 1) := by decide +kernel
theorem dX3_markEdges_2 : decode cX3_markEdges 2 = .ok (.iload_n 2, 1) := by decide +kernel
theorem dX3_markEdges_3 : decode cX3_markEdges 3 = .ok (.aload_n 0, 1) := by decide +kernel
theorem dX3_markEdges_4 : decode cX3_markEdges 4 = .ok (.getfield 27, 3) := by decide +kernel
theorem dX3_markEdges_7 : decode cX3_markEdges 7 = .ok (.arraylength, 1) := by decide +kernel
theorem dX3_markEdges_8 : decode cX3_markEdges 8 = .ok (.if_icmp .ge 24, 3) := by decide +kernel
theorem dX3_markEdges_11 : decode cX3_markEdges 11 = .ok (.aload_n 0, 1) := by decide +kernel
theorem dX3_markEdges_12 : decode cX3_markEdges 12 = .ok (.getfield 27, 3) := by decide +kernel
theorem dX3_markEdges_15 : decode cX3_markEdges 15 = .ok (.iload_n 2, 1) := by decide +kernel
theorem dX3_markEdges_16 : decode cX3_markEdges 16 = .ok (.iload_n 2, 1) := by decide +kernel
theorem dX3_markEdges_17 : decode cX3_markEdges 17 = .ok (.aload_n 0, 1) := by decide +kernel
theorem dX3_markEdges_18 : decode cX3_markEdges 18 = .ok (.getfield 23, 3) := by decide +kernel
theorem dX3_markEdges_21 : decode cX3_markEdges 21 = .ok (.iload_n 1, 1) := by decide +kernel
theorem dX3_markEdges_22 : decode cX3_markEdges 22 = .ok (.invokestatic 113, 3) := by decide +kernel
theorem dX3_markEdges_25 : decode cX3_markEdges 25 = .ok (.bastore, 1) := by decide +kernel
theorem dX3_markEdges_26 : decode cX3_markEdges 26 = .ok (.iinc 2 1, 3) := by decide +kernel
theorem dX3_markEdges_29 : decode cX3_markEdges 29 = .ok (.goto (-27), 3) := by decide +kernel
theorem dX3_markEdges_32 : decode cX3_markEdges 32 = .ok (.return_, 1) := by decide +kernel
theorem dX3_push_0 : decode cX3_push 0 = .ok (.aload_n 0, 1) := by decide +kernel
theorem dX3_push_1 : decode cX3_push 1 = .ok (.getfield 150, 3) := by decide +kernel
theorem dX3_push_4 : decode cX3_push 4 = .ok (.ifCond .lt 43, 3) := by decide +kernel
theorem dX3_push_7 : decode cX3_push 7 = .ok (.aload_n 0, 1) := by decide +kernel
theorem dX3_push_8 : decode cX3_push 8 = .ok (.getfield 150, 3) := by decide +kernel
theorem dX3_push_11 : decode cX3_push 11 = .ok (.sipush 11266, 3) := by decide +kernel
theorem dX3_push_14 : decode cX3_push 14 = .ok (.if_icmp .ge 33, 3) := by decide +kernel
theorem dX3_push_17 : decode cX3_push 17 = .ok (.aload_n 0, 1) := by decide +kernel
theorem dX3_push_18 : decode cX3_push 18 = .ok (.getfield 53, 3) := by decide +kernel
theorem dX3_push_21 : decode cX3_push 21 = .ok (.aload_n 0, 1) := by decide +kernel
theorem dX3_push_22 : decode cX3_push 22 = .ok (.getfield 150, 3) := by decide +kernel
theorem dX3_push_25 : decode cX3_push 25 = .ok (.iload_n 1, 1) := by decide +kernel
theorem dX3_push_26 : decode cX3_push 26 = .ok (.iastore, 1) := by decide +kernel
theorem dX3_push_27 : decode cX3_push 27 = .ok (.aload_n 0, 1) := by decide +kernel
theorem dX3_push_28 : decode cX3_push 28 = .ok (.getfield 56, 3) := by decide +kernel
theorem dX3_push_31 : decode cX3_push 31 = .ok (.aload_n 0, 1) := by decide +kernel
theorem dX3_push_32 : decode cX3_push 32 = .ok (.getfield 150, 3) := by decide +kernel
theorem dX3_push_35 : decode cX3_push 35 = .ok (.iload_n 2, 1) := by decide +kernel
theorem dX3_push_36 : decode cX3_push 36 = .ok (.iastore, 1) := by decide +kernel
theorem dX3_push_37 : decode cX3_push 37 = .ok (.aload_n 0, 1) := by decide +kernel
theorem dX3_push_38 : decode cX3_push 38 = .ok (.dup, 1) := by decide +kernel
theorem dX3_push_39 : decode cX3_push 39 = .ok (.getfield 150, 3) := by decide +kernel
theorem dX3_push_42 : decode cX3_push 42 = .ok (.iconst 1, 1) := by decide +kernel
theorem dX3_push_43 : decode cX3_push 43 = .ok (.iadd, 1) := by decide +kernel
theorem dX3_push_44 : decode cX3_push 44 = .ok (.putfield 150, 3) := by decide +kernel
theorem dX3_push_47 : decode cX3_push 47 = .ok (.return_, 1) := by decide +kernel
theorem dX3_run_0 : decode cX3_run 0 = .ok (.aload_n 0, 1) := by decide +kernel
theorem dX3_run_1 : decode cX3_run 1 = .ok (.getfield 14, 3) := by decide +kernel
theorem dX3_run_4 : decode cX3_run 4 = .ok (.aload_n 1, 1) := by decide +kernel
theorem dX3_run_5 : decode cX3_run 5 = .ok (.invokevirtual 59, 3) := by decide +kernel
theorem dX3_run_8 : decode cX3_run 8 = .ok (.aload_n 0, 1) := by decide +kernel
theorem dX3_run_9 : decode cX3_run 9 = .ok (.aload_n 2, 1) := by decide +kernel
theorem dX3_run_10 : decode cX3_run 10 = .ok (.putfield 23, 3) := by decide +kernel
theorem dX3_run_13 : decode cX3_run 13 = .ok (.aload_n 0, 1) := by decide +kernel
theorem dX3_run_14 : decode cX3_run 14 = .ok (.bipush 20, 2) := by decide +kernel
theorem dX3_run_16 : decode cX3_run 16 = .ok (.iconst 2, 1) := by decide +kernel
theorem dX3_run_17 : decode cX3_run 17 = .ok (.aload_n 1, 1) := by decide +kernel
theorem dX3_run_18 : decode cX3_run 18 = .ok (.getfield 63, 3) := by decide +kernel
theorem dX3_run_21 : decode cX3_run 21 = .ok (.imul, 1) := by decide +kernel
theorem dX3_run_22 : decode cX3_run 22 = .ok (.iconst 2, 1) := by decide +kernel
theorem dX3_run_23 : decode cX3_run 23 = .ok (.iadd, 1) := by decide +kernel
theorem dX3_run_24 : decode cX3_run 24 = .ok (.invokestatic 69, 3) := by decide +kernel
theorem dX3_run_27 : decode cX3_run 27 = .ok (.putfield 75, 3) := by decide +kernel
theorem dX3_run_30 : decode cX3_run 30 = .ok (.aload_n 0, 1) := by decide +kernel
theorem dX3_run_31 : decode cX3_run 31 = .ok (.iconst 0, 1) := by decide +kernel
theorem dX3_run_32 : decode cX3_run 32 = .ok (.putfield 78, 3) := by decide +kernel
theorem dX3_run_35 : decode cX3_run 35 = .ok (.aload_n 0, 1) := by decide +kernel
theorem dX3_run_36 : decode cX3_run 36 = .ok (.dup, 1) := by decide +kernel
theorem dX3_run_37 : decode cX3_run 37 = .ok (.getfield 81, 3) := by decide +kernel
theorem dX3_run_40 : decode cX3_run 40 = .ok (.iconst 1, 1) := by decide +kernel
theorem dX3_run_41 : decode cX3_run 41 = .ok (.iadd, 1) := by decide +kernel
theorem dX3_run_42 : decode cX3_run 42 = .ok (.putfield 81, 3) := by decide +kernel
theorem dX3_run_45 : decode cX3_run 45 = .ok (.iconst 0, 1) := by decide +kernel
theorem dX3_run_46 : decode cX3_run 46 = .ok (.istore 6, 2) := by decide +kernel
theorem dX3_run_48 : decode cX3_run 48 = .ok (.iload_n 3, 1) := by decide +kernel
theorem dX3_run_49 : decode cX3_run 49 = .ok (.istore 7, 2) := by decide +kernel
theorem dX3_run_51 : decode cX3_run 51 = .ok (.iload 7, 2) := by decide +kernel
theorem dX3_run_53 : decode cX3_run 53 = .ok (.aload_n 0, 1) := by decide +kernel
theorem dX3_run_54 : decode cX3_run 54 = .ok (.getfield 23, 3) := by decide +kernel
theorem dX3_run_57 : decode cX3_run 57 = .ok (.getfield 84, 3) := by decide +kernel
theorem dX3_run_60 : decode cX3_run 60 = .ok (.if_icmp .gt 108, 3) := by decide +kernel
theorem dX3_run_63 : decode cX3_run 63 = .ok (.iload 6, 2) := by decide +kernel
theorem dX3_run_65 : decode cX3_run 65 = .ok (.ifCond .ne 50, 3) := by decide +kernel
theorem dX3_run_68 : decode cX3_run 68 = .ok (.iload 7, 2) := by decide +kernel
theorem dX3_run_70 : decode cX3_run 70 = .ok (.iload_n 3, 1) := by decide +kernel
theorem dX3_run_71 : decode cX3_run 71 = .ok (.if_icmp .eq 8, 3) := by decide +kernel
theorem dX3_run_74 : decode cX3_run 74 = .ok (.iload 4, 2) := by decide +kernel
theorem dX3_run_76 : decode cX3_run 76 = .ok (.ifCond .ne 39, 3) := by decide +kernel
theorem dX3_run_79 : decode cX3_run 79 = .ok (.aload_n 0, 1) := by decide +kernel
theorem dX3_run_80 : decode cX3_run 80 = .ok (.getfield 50, 3) := by decide +kernel
theorem dX3_run_83 : decode cX3_run 83 = .ok (.iconst (-1), 1) := by decide +kernel
theorem dX3_run_84 : decode cX3_run 84 = .ok (.invokestatic 87, 3) := by decide +kernel
theorem dX3_run_87 : decode cX3_run 87 = .ok (.aload_n 0, 1) := by decide +kernel
theorem dX3_run_88 : decode cX3_run 88 = .ok (.getfield 50, 3) := by decide +kernel
theorem dX3_run_91 : decode cX3_run 91 = .ok (.iconst 0, 1) := by decide +kernel
theorem dX3_run_92 : decode cX3_run 92 = .ok (.iload 7, 2) := by decide +kernel
theorem dX3_run_94 : decode cX3_run 94 = .ok (.iastore, 1) := by decide +kernel
theorem dX3_run_95 : decode cX3_run 95 = .ok (.aload_n 0, 1) := by decide +kernel
theorem dX3_run_96 : decode cX3_run 96 = .ok (.iload 7, 2) := by decide +kernel
theorem dX3_run_98 : decode cX3_run 98 = .ok (.invokevirtual 93, 3) := by decide +kernel
theorem dX3_run_101 : decode cX3_run 101 = .ok (.aload_n 0, 1) := by decide +kernel
theorem dX3_run_102 : decode cX3_run 102 = .ok (.aload_n 0, 1) := by decide +kernel
theorem dX3_run_103 : decode cX3_run 103 = .ok (.getfield 14, 3) := by decide +kernel
theorem dX3_run_106 : decode cX3_run 106 = .ok (.getfield 96, 3) := by decide +kernel
theorem dX3_run_109 : decode cX3_run 109 = .ok (.iconst 0, 1) := by decide +kernel
theorem dX3_run_110 : decode cX3_run 110 = .ok (.iload 7, 2) := by decide +kernel
theorem dX3_run_112 : decode cX3_run 112 = .ok (.invokevirtual 99, 3) := by decide +kernel
theorem dX3_run_115 : decode cX3_run 115 = .ok (.aload_n 0, 1) := by decide +kernel
theorem dX3_run_116 : decode cX3_run 116 = .ok (.invokevirtual 103, 3) := by decide +kernel
theorem dX3_run_119 : decode cX3_run 119 = .ok (.aload_n 0, 1) := by decide +kernel
theorem dX3_run_120 : decode cX3_run 120 = .ok (.getfield 106, 3) := by decide +kernel
theorem dX3_run_123 : decode cX3_run 123 = .ok (.ifCond .ne 16, 3) := by decide +kernel
theorem dX3_run_126 : decode cX3_run 126 = .ok (.iload 6, 2) := by decide +kernel
theorem dX3_run_128 : decode cX3_run 128 = .ok (.ifCond .ne 40, 3) := by decide +kernel
theorem dX3_run_131 : decode cX3_run 131 = .ok (.iload 4, 2) := by decide +kernel
theorem dX3_run_133 : decode cX3_run 133 = .ok (.ifCond .eq 6, 3) := by decide +kernel
theorem dX3_run_136 : decode cX3_run 136 = .ok (.goto 32, 3) := by decide +kernel
theorem dX3_run_139 : decode cX3_run 139 = .ok (.aload_n 0, 1) := by decide +kernel
theorem dX3_run_140 : decode cX3_run 140 = .ok (.iload 7, 2) := by decide +kernel
theorem dX3_run_142 : decode cX3_run 142 = .ok (.iconst 1, 1) := by decide +kernel
theorem dX3_run_143 : decode cX3_run 143 = .ok (.iadd, 1) := by decide +kernel
theorem dX3_run_144 : decode cX3_run 144 = .ok (.invokevirtual 93, 3) := by decide +kernel
theorem dX3_run_147 : decode cX3_run 147 = .ok (.iload 6, 2) := by decide +kernel
theorem dX3_run_149 : decode cX3_run 149 = .ok (.aload_n 0, 1) := by decide +kernel
theorem dX3_run_150 : decode cX3_run 150 = .ok (.iload 7, 2) := by decide +kernel
theorem dX3_run_152 : decode cX3_run 152 = .ok (.iload 4, 2) := by decide +kernel
theorem dX3_run_154 : decode cX3_run 154 = .ok (.aload 5, 2) := by decide +kernel
theorem dX3_run_156 : decode cX3_run 156 = .ok (.invokevirtual 109, 3) := by decide +kernel
theorem dX3_run_159 : decode cX3_run 159 = .ok (.ior, 1) := by decide +kernel
theorem dX3_run_160 : decode cX3_run 160 = .ok (.istore 6, 2) := by decide +kernel
theorem dX3_run_162 : decode cX3_run 162 = .ok (.iinc 7 1, 3) := by decide +kernel
theorem dX3_run_165 : decode cX3_run 165 = .ok (.goto (-114), 3) := by decide +kernel
theorem dX3_run_168 : decode cX3_run 168 = .ok (.iload 6, 2) := by decide +kernel
theorem dX3_run_170 : decode cX3_run 170 = .ok (.ireturn, 1) := by decide +kernel
theorem dX3_setCell_0 : decode cX3_setCell 0 = .ok (.iload_n 1, 1) := by decide +kernel
theorem dX3_setCell_1 : decode cX3_setCell 1 = .ok (.ifCond .lt 16, 3) := by decide +kernel
theorem dX3_setCell_4 : decode cX3_setCell 4 = .ok (.iload_n 1, 1) := by decide +kernel
theorem dX3_setCell_5 : decode cX3_setCell 5 = .ok (.bipush 20, 2) := by decide +kernel
theorem dX3_setCell_7 : decode cX3_setCell 7 = .ok (.if_icmp .ge 10, 3) := by decide +kernel
theorem dX3_setCell_10 : decode cX3_setCell 10 = .ok (.aload_n 0, 1) := by decide +kernel
theorem dX3_setCell_11 : decode cX3_setCell 11 = .ok (.getfield 50, 3) := by decide +kernel
theorem dX3_setCell_14 : decode cX3_setCell 14 = .ok (.iload_n 1, 1) := by decide +kernel
theorem dX3_setCell_15 : decode cX3_setCell 15 = .ok (.iload_n 2, 1) := by decide +kernel
theorem dX3_setCell_16 : decode cX3_setCell 16 = .ok (.iastore, 1) := by decide +kernel
theorem dX3_setCell_17 : decode cX3_setCell 17 = .ok (.return_, 1) := by decide +kernel
theorem dX3_spread_0 : decode cX3_spread 0 = .ok (.aload_n 0, 1) := by decide +kernel
theorem dX3_spread_1 : decode cX3_spread 1 = .ok (.iconst 0, 1) := by decide +kernel
theorem dX3_spread_2 : decode cX3_spread 2 = .ok (.putfield 150, 3) := by decide +kernel
theorem dX3_spread_5 : decode cX3_spread 5 = .ok (.aload_n 0, 1) := by decide +kernel
theorem dX3_spread_6 : decode cX3_spread 6 = .ok (.iload_n 1, 1) := by decide +kernel
theorem dX3_spread_7 : decode cX3_spread 7 = .ok (.iload_n 2, 1) := by decide +kernel
theorem dX3_spread_8 : decode cX3_spread 8 = .ok (.invokevirtual 153, 3) := by decide +kernel
theorem dX3_spread_11 : decode cX3_spread 11 = .ok (.iconst 0, 1) := by decide +kernel
theorem dX3_spread_12 : decode cX3_spread 12 = .ok (.istore 4, 2) := by decide +kernel
theorem dX3_spread_14 : decode cX3_spread 14 = .ok (.iload 4, 2) := by decide +kernel
theorem dX3_spread_16 : decode cX3_spread 16 = .ok (.sipush 11266, 3) := by decide +kernel
theorem dX3_spread_19 : decode cX3_spread 19 = .ok (.if_icmp .ge 100, 3) := by decide +kernel
theorem dX3_spread_22 : decode cX3_spread 22 = .ok (.aload_n 0, 1) := by decide +kernel
theorem dX3_spread_23 : decode cX3_spread 23 = .ok (.getfield 150, 3) := by decide +kernel
theorem dX3_spread_26 : decode cX3_spread 26 = .ok (.ifCond .le 93, 3) := by decide +kernel
theorem dX3_spread_29 : decode cX3_spread 29 = .ok (.aload_n 0, 1) := by decide +kernel
theorem dX3_spread_30 : decode cX3_spread 30 = .ok (.getfield 150, 3) := by decide +kernel
theorem dX3_spread_33 : decode cX3_spread 33 = .ok (.sipush 11266, 3) := by decide +kernel
theorem dX3_spread_36 : decode cX3_spread 36 = .ok (.if_icmp .gt 83, 3) := by decide +kernel
theorem dX3_spread_39 : decode cX3_spread 39 = .ok (.aload_n 0, 1) := by decide +kernel
theorem dX3_spread_40 : decode cX3_spread 40 = .ok (.dup, 1) := by decide +kernel
theorem dX3_spread_41 : decode cX3_spread 41 = .ok (.getfield 150, 3) := by decide +kernel
theorem dX3_spread_44 : decode cX3_spread 44 = .ok (.iconst 1, 1) := by decide +kernel
theorem dX3_spread_45 : decode cX3_spread 45 = .ok (.isub, 1) := by decide +kernel
theorem dX3_spread_46 : decode cX3_spread 46 = .ok (.putfield 150, 3) := by decide +kernel
theorem dX3_spread_49 : decode cX3_spread 49 = .ok (.aload_n 0, 1) := by decide +kernel
theorem dX3_spread_50 : decode cX3_spread 50 = .ok (.getfield 53, 3) := by decide +kernel
theorem dX3_spread_53 : decode cX3_spread 53 = .ok (.aload_n 0, 1) := by decide +kernel
theorem dX3_spread_54 : decode cX3_spread 54 = .ok (.getfield 150, 3) := by decide +kernel
theorem dX3_spread_57 : decode cX3_spread 57 = .ok (.iaload, 1) := by decide +kernel
theorem dX3_spread_58 : decode cX3_spread 58 = .ok (.istore 5, 2) := by decide +kernel
theorem dX3_spread_60 : decode cX3_spread 60 = .ok (.aload_n 0, 1) := by decide +kernel
theorem dX3_spread_61 : decode cX3_spread 61 = .ok (.getfield 56, 3) := by decide +kernel
theorem dX3_spread_64 : decode cX3_spread 64 = .ok (.aload_n 0, 1) := by decide +kernel
theorem dX3_spread_65 : decode cX3_spread 65 = .ok (.getfield 150, 3) := by decide +kernel
theorem dX3_spread_68 : decode cX3_spread 68 = .ok (.iaload, 1) := by decide +kernel
theorem dX3_spread_69 : decode cX3_spread 69 = .ok (.istore 6, 2) := by decide +kernel
theorem dX3_spread_71 : decode cX3_spread 71 = .ok (.iload 5, 2) := by decide +kernel
theorem dX3_spread_73 : decode cX3_spread 73 = .ok (.ifCond .ge 16, 3) := by decide +kernel
theorem dX3_spread_76 : decode cX3_spread 76 = .ok (.aload_n 0, 1) := by decide +kernel
theorem dX3_spread_77 : decode cX3_spread 77 = .ok (.iconst (-1), 1) := by decide +kernel
theorem dX3_spread_78 : decode cX3_spread 78 = .ok (.iload 5, 2) := by decide +kernel
theorem dX3_spread_80 : decode cX3_spread 80 = .ok (.isub, 1) := by decide +kernel
theorem dX3_spread_81 : decode cX3_spread 81 = .ok (.iload 6, 2) := by decide +kernel
theorem dX3_spread_83 : decode cX3_spread 83 = .ok (.invokevirtual 157, 3) := by decide +kernel
theorem dX3_spread_86 : decode cX3_spread 86 = .ok (.goto 27, 3) := by decide +kernel
theorem dX3_spread_89 : decode cX3_spread 89 = .ok (.aload_n 0, 1) := by decide +kernel
theorem dX3_spread_90 : decode cX3_spread 90 = .ok (.iload 5, 2) := by decide +kernel
theorem dX3_spread_92 : decode cX3_spread 92 = .ok (.bipush 11, 2) := by decide +kernel
theorem dX3_spread_94 : decode cX3_spread 94 = .ok (.imul, 1) := by decide +kernel
theorem dX3_spread_95 : decode cX3_spread 95 = .ok (.iload 6, 2) := by decide +kernel
theorem dX3_spread_97 : decode cX3_spread 97 = .ok (.iadd, 1) := by decide +kernel
theorem dX3_spread_98 : decode cX3_spread 98 = .ok (.invokevirtual 160, 3) := by decide +kernel
theorem dX3_spread_101 : decode cX3_spread 101 = .ok (.ifCond .eq 12, 3) := by decide +kernel
theorem dX3_spread_104 : decode cX3_spread 104 = .ok (.aload_n 0, 1) := by decide +kernel
theorem dX3_spread_105 : decode cX3_spread 105 = .ok (.iload 5, 2) := by decide +kernel
theorem dX3_spread_107 : decode cX3_spread 107 = .ok (.iload 6, 2) := by decide +kernel
theorem dX3_spread_109 : decode cX3_spread 109 = .ok (.iload_n 3, 1) := by decide +kernel
theorem dX3_spread_110 : decode cX3_spread 110 = .ok (.invokevirtual 164, 3) := by decide +kernel
theorem dX3_spread_113 : decode cX3_spread 113 = .ok (.iinc 4 1, 3) := by decide +kernel
theorem dX3_spread_116 : decode cX3_spread 116 = .ok (.goto (-102), 3) := by decide +kernel
theorem dX3_spread_119 : decode cX3_spread 119 = .ok (.return_, 1) := by decide +kernel
theorem dX3_spreadOne_0 : decode cX3_spreadOne 0 = .ok (.aload_n 0, 1) := by decide +kernel
theorem dX3_spreadOne_1 : decode cX3_spreadOne 1 = .ok (.getfield 14, 3) := by decide +kernel
theorem dX3_spreadOne_4 : decode cX3_spreadOne 4 = .ok (.iload_n 1, 1) := by decide +kernel
theorem dX3_spreadOne_5 : decode cX3_spreadOne 5 = .ok (.invokevirtual 134, 3) := by decide +kernel
theorem dX3_spreadOne_8 : decode cX3_spreadOne 8 = .ok (.istore 4, 2) := by decide +kernel
theorem dX3_spreadOne_10 : decode cX3_spreadOne 10 = .ok (.aload_n 0, 1) := by decide +kernel
theorem dX3_spreadOne_11 : decode cX3_spreadOne 11 = .ok (.getfield 14, 3) := by decide +kernel
theorem dX3_spreadOne_14 : decode cX3_spreadOne 14 = .ok (.iload_n 1, 1) := by decide +kernel
theorem dX3_spreadOne_15 : decode cX3_spreadOne 15 = .ok (.invokevirtual 123, 3) := by decide +kernel
theorem dX3_spreadOne_18 : decode cX3_spreadOne 18 = .ok (.tableswitch 187 1 5 #[34, 126, 126, 79, 102], 34) := by decide +kernel
theorem dX3_spreadOne_52 : decode cX3_spreadOne 52 = .ok (.aload_n 0, 1) := by decide +kernel
theorem dX3_spreadOne_53 : decode cX3_spreadOne 53 = .ok (.getfield 14, 3) := by decide +kernel
theorem dX3_spreadOne_56 : decode cX3_spreadOne 56 = .ok (.iload_n 1, 1) := by decide +kernel
theorem dX3_spreadOne_57 : decode cX3_spreadOne 57 = .ok (.invokevirtual 167, 3) := by decide +kernel
theorem dX3_spreadOne_60 : decode cX3_spreadOne 60 = .ok (.istore 5, 2) := by decide +kernel
theorem dX3_spreadOne_62 : decode cX3_spreadOne 62 = .ok (.iload 5, 2) := by decide +kernel
theorem dX3_spreadOne_64 : decode cX3_spreadOne 64 = .ok (.ifCond .lt 146, 3) := by decide +kernel
theorem dX3_spreadOne_67 : decode cX3_spreadOne 67 = .ok (.iload 5, 2) := by decide +kernel
theorem dX3_spreadOne_69 : decode cX3_spreadOne 69 = .ok (.aload_n 0, 1) := by decide +kernel
theorem dX3_spreadOne_70 : decode cX3_spreadOne 70 = .ok (.getfield 27, 3) := by decide +kernel
theorem dX3_spreadOne_73 : decode cX3_spreadOne 73 = .ok (.arraylength, 1) := by decide +kernel
theorem dX3_spreadOne_74 : decode cX3_spreadOne 74 = .ok (.if_icmp .ge 136, 3) := by decide +kernel
