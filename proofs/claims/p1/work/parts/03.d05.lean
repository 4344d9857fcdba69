theorem dX12_pattern_14 : decode cX12_pattern 14 = .ok (.bipush (-2), 2) := by decide +kernel
theorem dX12_pattern_16 : decode cX12_pattern 16 = .ok (.ireturn, 1) := by decide +kernel
theorem dX12_pattern_17 : decode cX12_pattern 17 = .ok (.aload_n 0, 1) := by decide +kernel
theorem dX12_pattern_18 : decode cX12_pattern 18 = .ok (.invokevirtual 443, 3) := by decide +kernel
theorem dX12_pattern_21 : decode cX12_pattern 21 = .ok (.istore_n 2, 1) := by decide +kernel
theorem dX12_pattern_22 : decode cX12_pattern 22 = .ok (.aload_n 0, 1) := by decide +kernel
theorem dX12_pattern_23 : decode cX12_pattern 23 = .ok (.iconst 0, 1) := by decide +kernel
theorem dX12_pattern_24 : decode cX12_pattern 24 = .ok (.putfield 317, 3) := by decide +kernel
theorem dX12_pattern_27 : decode cX12_pattern 27 = .ok (.aload_n 0, 1) := by decide +kernel
theorem dX12_pattern_28 : decode cX12_pattern 28 = .ok (.aload_n 0, 1) := by decide +kernel
theorem dX12_pattern_29 : decode cX12_pattern 29 = .ok (.getfield 320, 3) := by decide +kernel
theorem dX12_pattern_32 : decode cX12_pattern 32 = .ok (.ifCond .le 10, 3) := by decide +kernel
theorem dX12_pattern_42 : decode cX12_pattern 42 = .ok (.iconst (-1), 1) := by decide +kernel
theorem dX12_pattern_43 : decode cX12_pattern 43 = .ok (.putfield 28, 3) := by decide +kernel
theorem dX12_pattern_46 : decode cX12_pattern 46 = .ok (.aload_n 0, 1) := by decide +kernel
theorem dX12_pattern_47 : decode cX12_pattern 47 = .ok (.getfield 320, 3) := by decide +kernel
theorem dX12_pattern_50 : decode cX12_pattern 50 = .ok (.ifCond .le 11, 3) := by decide +kernel
theorem dX12_pattern_61 : decode cX12_pattern 61 = .ok (.aload_n 0, 1) := by decide +kernel
theorem dX12_pattern_62 : decode cX12_pattern 62 = .ok (.iload_n 1, 1) := by decide +kernel
theorem dX12_pattern_63 : decode cX12_pattern 63 = .ok (.iload_n 2, 1) := by decide +kernel
theorem dX12_pattern_64 : decode cX12_pattern 64 = .ok (.invokevirtual 446, 3) := by decide +kernel
theorem dX12_pattern_67 : decode cX12_pattern 67 = .ok (.aload_n 0, 1) := by decide +kernel
theorem dX12_pattern_68 : decode cX12_pattern 68 = .ok (.aload_n 0, 1) := by decide +kernel
theorem dX12_pattern_69 : decode cX12_pattern 69 = .ok (.getfield 449, 3) := by decide +kernel
theorem dX12_pattern_72 : decode cX12_pattern 72 = .ok (.ifCond .eq 15, 3) := by decide +kernel
theorem dX12_pattern_87 : decode cX12_pattern 87 = .ok (.iconst 0, 1) := by decide +kernel
theorem dX12_pattern_88 : decode cX12_pattern 88 = .ok (.putfield 449, 3) := by decide +kernel
theorem dX12_pattern_91 : decode cX12_pattern 91 = .ok (.aload_n 0, 1) := by decide +kernel
theorem dX12_pattern_92 : decode cX12_pattern 92 = .ok (.getfield 35, 3) := by decide +kernel
theorem dX12_pattern_95 : decode cX12_pattern 95 = .ok (.iload_n 1, 1) := by decide +kernel
theorem dX12_pattern_96 : decode cX12_pattern 96 = .ok (.iaload, 1) := by decide +kernel
theorem dX12_pattern_97 : decode cX12_pattern 97 = .ok (.ireturn, 1) := by decide +kernel
theorem dX12_place_0 : decode cX12_place 0 = .ok (.aload_n 0, 1) := by decide +kernel
theorem dX12_place_1 : decode cX12_place 1 = .ok (.iconst 0, 1) := by decide +kernel
theorem dX12_place_2 : decode cX12_place 2 = .ok (.putfield 1, 3) := by decide +kernel
theorem dX12_place_5 : decode cX12_place 5 = .ok (.aload_n 0, 1) := by decide +kernel
theorem dX12_place_6 : decode cX12_place 6 = .ok (.getfield 28, 3) := by decide +kernel
theorem dX12_place_9 : decode cX12_place 9 = .ok (.ireturn, 1) := by decide +kernel
theorem dX12_prefix_0 : decode cX12_prefix 0 = .ok (.aload_n 0, 1) := by decide +kernel
theorem dX12_prefix_1 : decode cX12_prefix 1 = .ok (.iconst 0, 1) := by decide +kernel
theorem dX12_prefix_2 : decode cX12_prefix 2 = .ok (.putfield 1, 3) := by decide +kernel
theorem dX12_prefix_5 : decode cX12_prefix 5 = .ok (.aload_n 0, 1) := by decide +kernel
theorem dX12_prefix_6 : decode cX12_prefix 6 = .ok (.iload_n 1, 1) := by decide +kernel
theorem dX12_prefix_7 : decode cX12_prefix 7 = .ok (.iload_n 2, 1) := by decide +kernel
theorem dX12_prefix_8 : decode cX12_prefix 8 = .ok (.invokevirtual 687, 3) := by decide +kernel
theorem dX12_prefix_11 : decode cX12_prefix 11 = .ok (.istore 4, 2) := by decide +kernel
theorem dX12_prefix_13 : decode cX12_prefix 13 = .ok (.iload 4, 2) := by decide +kernel
theorem dX12_prefix_15 : decode cX12_prefix 15 = .ok (.ifCond .eq 6, 3) := by decide +kernel
theorem dX12_prefix_18 : decode cX12_prefix 18 = .ok (.iload 4, 2) := by decide +kernel
theorem dX12_prefix_20 : decode cX12_prefix 20 = .ok (.ireturn, 1) := by decide +kernel
theorem dX12_print_0 : decode cX12_print 0 = .ok (.aload_n 0, 1) := by decide +kernel
theorem dX12_print_1 : decode cX12_print 1 = .ok (.iconst 0, 1) := by decide +kernel
theorem dX12_print_2 : decode cX12_print 2 = .ok (.putfield 1, 3) := by decide +kernel
theorem dX12_print_5 : decode cX12_print 5 = .ok (.aload_n 0, 1) := by decide +kernel
theorem dX12_print_6 : decode cX12_print 6 = .ok (.iload_n 1, 1) := by decide +kernel
theorem dX12_print_7 : decode cX12_print 7 = .ok (.invokevirtual 459, 3) := by decide +kernel
theorem dX12_print_10 : decode cX12_print 10 = .ok (.ifCond .eq 6, 3) := by decide +kernel
theorem dX12_print_13 : decode cX12_print 13 = .ok (.bipush (-2), 2) := by decide +kernel
theorem dX12_print_15 : decode cX12_print 15 = .ok (.ireturn, 1) := by decide +kernel
theorem dX12_readAll_0 : decode cX12_readAll 0 = .ok (.aload_n 0, 1) := by decide +kernel
theorem dX12_readAll_1 : decode cX12_readAll 1 = .ok (.iconst 0, 1) := by decide +kernel
theorem dX12_readAll_2 : decode cX12_readAll 2 = .ok (.putfield 326, 3) := by decide +kernel
theorem dX12_readAll_5 : decode cX12_readAll 5 = .ok (.aload_n 0, 1) := by decide +kernel
theorem dX12_readAll_6 : decode cX12_readAll 6 = .ok (.iconst 0, 1) := by decide +kernel
theorem dX12_readAll_7 : decode cX12_readAll 7 = .ok (.putfield 396, 3) := by decide +kernel
theorem dX12_readAll_10 : decode cX12_readAll 10 = .ok (.aload_n 0, 1) := by decide +kernel
theorem dX12_readAll_11 : decode cX12_readAll 11 = .ok (.iconst 0, 1) := by decide +kernel
theorem dX12_readAll_12 : decode cX12_readAll 12 = .ok (.putfield 377, 3) := by decide +kernel
theorem dX12_readAll_15 : decode cX12_readAll 15 = .ok (.aload_n 0, 1) := by decide +kernel
theorem dX12_readAll_16 : decode cX12_readAll 16 = .ok (.iconst 0, 1) := by decide +kernel
theorem dX12_readAll_17 : decode cX12_readAll 17 = .ok (.putfield 320, 3) := by decide +kernel
theorem dX12_readAll_20 : decode cX12_readAll 20 = .ok (.aload_n 0, 1) := by decide +kernel
theorem dX12_readAll_21 : decode cX12_readAll 21 = .ok (.iconst 0, 1) := by decide +kernel
theorem dX12_readAll_22 : decode cX12_readAll 22 = .ok (.putfield 362, 3) := by decide +kernel
theorem dX12_readAll_25 : decode cX12_readAll 25 = .ok (.aload_n 0, 1) := by decide +kernel
theorem dX12_readAll_26 : decode cX12_readAll 26 = .ok (.iconst 0, 1) := by decide +kernel
theorem dX12_readAll_27 : decode cX12_readAll 27 = .ok (.putfield 342, 3) := by decide +kernel
theorem dX12_readAll_30 : decode cX12_readAll 30 = .ok (.aload_n 0, 1) := by decide +kernel
theorem dX12_readAll_31 : decode cX12_readAll 31 = .ok (.iconst 0, 1) := by decide +kernel
theorem dX12_readAll_32 : decode cX12_readAll 32 = .ok (.putfield 329, 3) := by decide +kernel
theorem dX12_readAll_35 : decode cX12_readAll 35 = .ok (.aload_n 0, 1) := by decide +kernel
theorem dX12_readAll_36 : decode cX12_readAll 36 = .ok (.iconst 5, 1) := by decide +kernel
theorem dX12_readAll_37 : decode cX12_readAll 37 = .ok (.iconst 0, 1) := by decide +kernel
theorem dX12_readAll_38 : decode cX12_readAll 38 = .ok (.invokevirtual 383, 3) := by decide +kernel
theorem dX12_readAll_41 : decode cX12_readAll 41 = .ok (.aload_n 0, 1) := by decide +kernel
theorem dX12_readAll_42 : decode cX12_readAll 42 = .ok (.getfield 320, 3) := by decide +kernel
theorem dX12_readAll_45 : decode cX12_readAll 45 = .ok (.ifCond .ne 80, 3) := by decide +kernel
theorem dX12_readAll_48 : decode cX12_readAll 48 = .ok (.aload_n 0, 1) := by decide +kernel
theorem dX12_readAll_49 : decode cX12_readAll 49 = .ok (.getfield 362, 3) := by decide +kernel
theorem dX12_readAll_52 : decode cX12_readAll 52 = .ok (.aload_n 0, 1) := by decide +kernel
theorem dX12_readAll_53 : decode cX12_readAll 53 = .ok (.getfield 317, 3) := by decide +kernel
theorem dX12_readAll_56 : decode cX12_readAll 56 = .ok (.if_icmp .ge 69, 3) := by decide +kernel
theorem dX12_readAll_125 : decode cX12_readAll 125 = .ok (.aload_n 0, 1) := by decide +kernel
theorem dX12_readAll_126 : decode cX12_readAll 126 = .ok (.getfield 329, 3) := by decide +kernel
theorem dX12_readAll_129 : decode cX12_readAll 129 = .ok (.ifCond .le 12, 3) := by decide +kernel
theorem dX12_readAll_141 : decode cX12_readAll 141 = .ok (.aload_n 0, 1) := by decide +kernel
theorem dX12_readAll_142 : decode cX12_readAll 142 = .ok (.getfield 320, 3) := by decide +kernel
theorem dX12_readAll_145 : decode cX12_readAll 145 = .ok (.ifCond .ne 10, 3) := by decide +kernel
theorem dX12_readAll_148 : decode cX12_readAll 148 = .ok (.aload_n 0, 1) := by decide +kernel
theorem dX12_readAll_149 : decode cX12_readAll 149 = .ok (.invokevirtual 386, 3) := by decide +kernel
theorem dX12_readAll_152 : decode cX12_readAll 152 = .ok (.goto 4, 3) := by decide +kernel
theorem dX12_readAll_156 : decode cX12_readAll 156 = .ok (.ireturn, 1) := by decide +kernel
theorem dX12_replace_0 : decode cX12_replace 0 = .ok (.aload_n 0, 1) := by decide +kernel
theorem dX12_replace_1 : decode cX12_replace 1 = .ok (.iconst 0, 1) := by decide +kernel
theorem dX12_replace_2 : decode cX12_replace 2 = .ok (.putfield 1, 3) := by decide +kernel
theorem dX12_replace_5 : decode cX12_replace 5 = .ok (.aload_n 0, 1) := by decide +kernel
theorem dX12_replace_6 : decode cX12_replace 6 = .ok (.iload_n 1, 1) := by decide +kernel
theorem dX12_replace_7 : decode cX12_replace 7 = .ok (.iload_n 2, 1) := by decide +kernel
theorem dX12_replace_8 : decode cX12_replace 8 = .ok (.invokevirtual 687, 3) := by decide +kernel
theorem dX12_replace_11 : decode cX12_replace 11 = .ok (.istore 4, 2) := by decide +kernel
theorem dX12_replace_13 : decode cX12_replace 13 = .ok (.iload 4, 2) := by decide +kernel
theorem dX12_replace_15 : decode cX12_replace 15 = .ok (.ifCond .ne 17, 3) := by decide +kernel
theorem dX12_replace_32 : decode cX12_replace 32 = .ok (.iload 4, 2) := by decide +kernel
theorem dX12_replace_34 : decode cX12_replace 34 = .ok (.istore 4, 2) := by decide +kernel
theorem dX12_replace_36 : decode cX12_replace 36 = .ok (.iload 4, 2) := by decide +kernel
theorem dX12_replace_38 : decode cX12_replace 38 = .ok (.ifCond .ne 16, 3) := by decide +kernel
theorem dX12_replace_54 : decode cX12_replace 54 = .ok (.iload 4, 2) := by decide +kernel
theorem dX12_replace_56 : decode cX12_replace 56 = .ok (.istore 4, 2) := by decide +kernel
theorem dX12_replace_58 : decode cX12_replace 58 = .ok (.iload 4, 2) := by decide +kernel
theorem dX12_replace_60 : decode cX12_replace 60 = .ok (.ifCond .ne 12, 3) := by decide +kernel
theorem dX12_replace_72 : decode cX12_replace 72 = .ok (.iload 4, 2) := by decide +kernel
theorem dX12_replace_74 : decode cX12_replace 74 = .ok (.istore 4, 2) := by decide +kernel
theorem dX12_replace_76 : decode cX12_replace 76 = .ok (.iload 4, 2) := by decide +kernel
theorem dX12_replace_78 : decode cX12_replace 78 = .ok (.ifCond .ne 13, 3) := by decide +kernel
theorem dX12_replace_91 : decode cX12_replace 91 = .ok (.iload 4, 2) := by decide +kernel
theorem dX12_replace_93 : decode cX12_replace 93 = .ok (.istore 4, 2) := by decide +kernel
theorem dX12_replace_95 : decode cX12_replace 95 = .ok (.iload 4, 2) := by decide +kernel
theorem dX12_replace_97 : decode cX12_replace 97 = .ok (.ifCond .eq 6, 3) := by decide +kernel
theorem dX12_replace_100 : decode cX12_replace 100 = .ok (.iload 4, 2) := by decide +kernel
theorem dX12_replace_102 : decode cX12_replace 102 = .ok (.ireturn, 1) := by decide +kernel
theorem dX12_risky_0 : decode cX12_risky 0 = .ok (.aload_n 0, 1) := by decide +kernel
theorem dX12_risky_1 : decode cX12_risky 1 = .ok (.iconst 0, 1) := by decide +kernel
theorem dX12_risky_2 : decode cX12_risky 2 = .ok (.putfield 1, 3) := by decide +kernel
theorem dX12_risky_5 : decode cX12_risky 5 = .ok (.aload_n 0, 1) := by decide +kernel
theorem dX12_risky_6 : decode cX12_risky 6 = .ok (.iload_n 1, 1) := by decide +kernel
theorem dX12_risky_7 : decode cX12_risky 7 = .ok (.invokevirtual 459, 3) := by decide +kernel
theorem dX12_risky_10 : decode cX12_risky 10 = .ok (.ifCond .eq 6, 3) := by decide +kernel
theorem dX12_risky_13 : decode cX12_risky 13 = .ok (.bipush (-2), 2) := by decide +kernel
theorem dX12_risky_15 : decode cX12_risky 15 = .ok (.ireturn, 1) := by decide +kernel
theorem dX12_sign_0 : decode cX12_sign 0 = .ok (.aload_n 0, 1) := by decide +kernel
theorem dX12_sign_1 : decode cX12_sign 1 = .ok (.iload_n 1, 1) := by decide +kernel
theorem dX12_sign_2 : decode cX12_sign 2 = .ok (.iconst 0, 1) := by decide +kernel
theorem dX12_sign_3 : decode cX12_sign 3 = .ok (.iconst 3, 1) := by decide +kernel
theorem dX12_sign_4 : decode cX12_sign 4 = .ok (.invokestatic 7, 3) := by decide +kernel
theorem dX12_sign_7 : decode cX12_sign 7 = .ok (.ifCond .ne 7, 3) := by decide +kernel
theorem dX12_sign_10 : decode cX12_sign 10 = .ok (.iconst 2, 1) := by decide +kernel
theorem dX12_sign_11 : decode cX12_sign 11 = .ok (.goto 37, 3) := by decide +kernel
theorem dX12_sign_14 : decode cX12_sign 14 = .ok (.aload_n 0, 1) := by decide +kernel
theorem dX12_sign_15 : decode cX12_sign 15 = .ok (.getfield 171, 3) := by decide +kernel
theorem dX12_sign_18 : decode cX12_sign 18 = .ok (.iload_n 1, 1) := by decide +kernel
theorem dX12_sign_19 : decode cX12_sign 19 = .ok (.baload, 1) := by decide +kernel
theorem dX12_sign_20 : decode cX12_sign 20 = .ok (.ifCond .ne 7, 3) := by decide +kernel
theorem dX12_sign_23 : decode cX12_sign 23 = .ok (.iconst 1, 1) := by decide +kernel
theorem dX12_sign_24 : decode cX12_sign 24 = .ok (.goto 24, 3) := by decide +kernel
theorem dX12_sign_48 : decode cX12_sign 48 = .ok (.putfield 1, 3) := by decide +kernel
theorem dX12_sign_51 : decode cX12_sign 51 = .ok (.aload_n 0, 1) := by decide +kernel
theorem dX12_sign_52 : decode cX12_sign 52 = .ok (.getfield 1, 3) := by decide +kernel
theorem dX12_sign_55 : decode cX12_sign 55 = .ok (.ifCond .ne 18, 3) := by decide +kernel
theorem dX12_sign_73 : decode cX12_sign 73 = .ok (.bipush 32, 2) := by decide +kernel
theorem dX12_sign_75 : decode cX12_sign 75 = .ok (.ireturn, 1) := by decide +kernel
theorem dX12_span_0 : decode cX12_span 0 = .ok (.aload_n 0, 1) := by decide +kernel
theorem dX12_span_1 : decode cX12_span 1 = .ok (.iconst 0, 1) := by decide +kernel
theorem dX12_span_2 : decode cX12_span 2 = .ok (.putfield 1, 3) := by decide +kernel
theorem dX12_span_5 : decode cX12_span 5 = .ok (.aload_n 0, 1) := by decide +kernel
theorem dX12_span_6 : decode cX12_span 6 = .ok (.getfield 664, 3) := by decide +kernel
theorem dX12_span_9 : decode cX12_span 9 = .ok (.ifCond .ne 6, 3) := by decide +kernel
theorem dX12_span_12 : decode cX12_span 12 = .ok (.bipush (-2), 2) := by decide +kernel
theorem dX12_span_14 : decode cX12_span 14 = .ok (.ireturn, 1) := by decide +kernel
theorem dX12_steps_0 : decode cX12_steps 0 = .ok (.aload_n 0, 1) := by decide +kernel
theorem dX12_steps_1 : decode cX12_steps 1 = .ok (.iconst 0, 1) := by decide +kernel
theorem dX12_steps_2 : decode cX12_steps 2 = .ok (.putfield 1, 3) := by decide +kernel
theorem dX12_steps_5 : decode cX12_steps 5 = .ok (.aload_n 0, 1) := by decide +kernel
theorem dX12_steps_6 : decode cX12_steps 6 = .ok (.getfield 583, 3) := by decide +kernel
theorem dX12_steps_9 : decode cX12_steps 9 = .ok (.ireturn, 1) := by decide +kernel
theorem dX12_table_0 : decode cX12_table 0 = .ok (.aload_n 0, 1) := by decide +kernel
theorem dX12_table_1 : decode cX12_table 1 = .ok (.iconst 0, 1) := by decide +kernel
theorem dX12_table_2 : decode cX12_table 2 = .ok (.putfield 1, 3) := by decide +kernel
theorem dX12_table_5 : decode cX12_table 5 = .ok (.aload_n 0, 1) := by decide +kernel
theorem dX12_table_6 : decode cX12_table 6 = .ok (.iload_n 1, 1) := by decide +kernel
theorem dX12_table_7 : decode cX12_table 7 = .ok (.invokevirtual 459, 3) := by decide +kernel
theorem dX12_table_10 : decode cX12_table 10 = .ok (.ifCond .eq 6, 3) := by decide +kernel
theorem dX12_table_13 : decode cX12_table 13 = .ok (.bipush (-2), 2) := by decide +kernel
theorem dX12_table_15 : decode cX12_table 15 = .ok (.ireturn, 1) := by decide +kernel
theorem dX12_thrown_0 : decode cX12_thrown 0 = .ok (.aload_n 0, 1) := by decide +kernel
theorem dX12_thrown_1 : decode cX12_thrown 1 = .ok (.getfield 1, 3) := by decide +kernel
theorem dX12_thrown_4 : decode cX12_thrown 4 = .ok (.ireturn, 1) := by decide +kernel
theorem dX12_told_0 : decode cX12_told 0 = .ok (.aload_n 0, 1) := by decide +kernel
theorem dX12_told_1 : decode cX12_told 1 = .ok (.iconst 0, 1) := by decide +kernel
theorem dX12_told_2 : decode cX12_told 2 = .ok (.putfield 1, 3) := by decide +kernel
theorem dX12_told_5 : decode cX12_told 5 = .ok (.iconst 0, 1) := by decide +kernel
theorem dX12_told_6 : decode cX12_told 6 = .ok (.istore_n 2, 1) := by decide +kernel
theorem dX12_told_7 : decode cX12_told 7 = .ok (.iconst 0, 1) := by decide +kernel
theorem dX12_told_8 : decode cX12_told 8 = .ok (.istore_n 3, 1) := by decide +kernel
theorem dX12_told_9 : decode cX12_told 9 = .ok (.iload_n 3, 1) := by decide +kernel
theorem dX12_told_10 : decode cX12_told 10 = .ok (.bipush 6, 2) := by decide +kernel
theorem dX12_told_12 : decode cX12_told 12 = .ok (.if_icmp .ge 26, 3) := by decide +kernel
theorem dX12_told_15 : decode cX12_told 15 = .ok (.iload_n 2, 1) := by decide +kernel
theorem dX12_told_16 : decode cX12_told 16 = .ok (.aload_n 0, 1) := by decide +kernel
theorem dX12_told_17 : decode cX12_told 17 = .ok (.getfield 31, 3) := by decide +kernel
theorem dX12_told_20 : decode cX12_told 20 = .ok (.iload_n 3, 1) := by decide +kernel
theorem dX12_told_21 : decode cX12_told 21 = .ok (.baload, 1) := by decide +kernel
theorem dX12_told_22 : decode cX12_told 22 = .ok (.ifCond .eq 7, 3) := by decide +kernel
theorem dX12_told_29 : decode cX12_told 29 = .ok (.iconst 0, 1) := by decide +kernel
theorem dX12_told_30 : decode cX12_told 30 = .ok (.iadd, 1) := by decide +kernel
theorem dX12_told_31 : decode cX12_told 31 = .ok (.istore_n 2, 1) := by decide +kernel
theorem dX12_told_32 : decode cX12_told 32 = .ok (.iinc 3 1, 3) := by decide +kernel
theorem dX12_told_35 : decode cX12_told 35 = .ok (.goto (-26), 3) := by decide +kernel
theorem dX12_told_38 : decode cX12_told 38 = .ok (.iconst 0, 1) := by decide +kernel
theorem dX12_told_39 : decode cX12_told 39 = .ok (.istore_n 3, 1) := by decide +kernel
theorem dX12_told_40 : decode cX12_told 40 = .ok (.iconst 0, 1) := by decide +kernel
theorem dX12_told_41 : decode cX12_told 41 = .ok (.istore 4, 2) := by decide +kernel
theorem dX12_told_43 : decode cX12_told 43 = .ok (.iload 4, 2) := by decide +kernel
theorem dX12_told_45 : decode cX12_told 45 = .ok (.iconst 4, 1) := by decide +kernel
theorem dX12_told_46 : decode cX12_told 46 = .ok (.if_icmp .ge 27, 3) := by decide +kernel
theorem dX12_told_49 : decode cX12_told 49 = .ok (.iload_n 3, 1) := by decide +kernel
theorem dX12_told_50 : decode cX12_told 50 = .ok (.aload_n 0, 1) := by decide +kernel
theorem dX12_told_51 : decode cX12_told 51 = .ok (.getfield 171, 3) := by decide +kernel
theorem dX12_told_54 : decode cX12_told 54 = .ok (.iload 4, 2) := by decide +kernel
theorem dX12_told_56 : decode cX12_told 56 = .ok (.baload, 1) := by decide +kernel
theorem dX12_told_57 : decode cX12_told 57 = .ok (.ifCond .eq 7, 3) := by decide +kernel
theorem dX12_told_64 : decode cX12_told 64 = .ok (.iconst 0, 1) := by decide +kernel
theorem dX12_told_65 : decode cX12_told 65 = .ok (.iadd, 1) := by decide +kernel
theorem dX12_told_66 : decode cX12_told 66 = .ok (.istore_n 3, 1) := by decide +kernel
theorem dX12_told_67 : decode cX12_told 67 = .ok (.iinc 4 1, 3) := by decide +kernel
theorem dX12_told_70 : decode cX12_told 70 = .ok (.goto (-27), 3) := by decide +kernel
theorem dX12_told_73 : decode cX12_told 73 = .ok (.iload_n 1, 1) := by decide +kernel
theorem dX12_told_74 : decode cX12_told 74 = .ok (.tableswitch 98 0 6 #[42, 47, 49, 51, 56, 69, 85], 42) := by decide +kernel
theorem dX12_told_116 : decode cX12_told 116 = .ok (.aload_n 0, 1) := by decide +kernel
theorem dX12_told_117 : decode cX12_told 117 = .ok (.getfield 317, 3) := by decide +kernel
theorem dX12_told_120 : decode cX12_told 120 = .ok (.ireturn, 1) := by decide +kernel
theorem dX12_told_121 : decode cX12_told 121 = .ok (.iload_n 2, 1) := by decide +kernel
theorem dX12_told_122 : decode cX12_told 122 = .ok (.ireturn, 1) := by decide +kernel
theorem dX12_told_123 : decode cX12_told 123 = .ok (.iload_n 3, 1) := by decide +kernel
theorem dX12_told_124 : decode cX12_told 124 = .ok (.ireturn, 1) := by decide +kernel
theorem dX12_told_125 : decode cX12_told 125 = .ok (.aload_n 0, 1) := by decide +kernel
theorem dX12_told_126 : decode cX12_told 126 = .ok (.getfield 502, 3) := by decide +kernel
theorem dX12_told_129 : decode cX12_told 129 = .ok (.ireturn, 1) := by decide +kernel
theorem dX12_told_130 : decode cX12_told 130 = .ok (.aload_n 0, 1) := by decide +kernel
theorem dX12_told_131 : decode cX12_told 131 = .ok (.getfield 505, 3) := by decide +kernel
theorem dX12_told_134 : decode cX12_told 134 = .ok (.ifCond .eq 7, 3) := by decide +kernel
theorem dX12_told_141 : decode cX12_told 141 = .ok (.iconst 0, 1) := by decide +kernel
theorem dX12_told_142 : decode cX12_told 142 = .ok (.ireturn, 1) := by decide +kernel
theorem dX12_told_143 : decode cX12_told 143 = .ok (.aload_n 0, 1) := by decide +kernel
theorem dX12_told_144 : decode cX12_told 144 = .ok (.getfield 664, 3) := by decide +kernel
theorem dX12_told_147 : decode cX12_told 147 = .ok (.ifCond .eq 10, 3) := by decide +kernel
theorem dX12_told_157 : decode cX12_told 157 = .ok (.iconst 0, 1) := by decide +kernel
theorem dX12_told_158 : decode cX12_told 158 = .ok (.ireturn, 1) := by decide +kernel
theorem dX12_told_159 : decode cX12_told 159 = .ok (.aload_n 0, 1) := by decide +kernel
theorem dX12_told_160 : decode cX12_told 160 = .ok (.getfield 449, 3) := by decide +kernel
theorem dX12_told_163 : decode cX12_told 163 = .ok (.ifCond .eq 7, 3) := by decide +kernel
theorem dX12_told_170 : decode cX12_told 170 = .ok (.iconst 0, 1) := by decide +kernel
theorem dX12_told_171 : decode cX12_told 171 = .ok (.ireturn, 1) := by decide +kernel
theorem dX12_told_172 : decode cX12_told 172 = .ok (.bipush (-4), 2) := by decide +kernel
theorem dX12_told_174 : decode cX12_told 174 = .ok (.ireturn, 1) := by decide +kernel
theorem dX12_whole_0 : decode cX12_whole 0 = .ok (.aload_n 0, 1) := by decide +kernel
theorem dX12_whole_1 : decode cX12_whole 1 = .ok (.iconst 0, 1) := by decide +kernel
theorem dX12_whole_2 : decode cX12_whole 2 = .ok (.putfield 1, 3) := by decide +kernel
theorem dX12_whole_5 : decode cX12_whole 5 = .ok (.aload_n 0, 1) := by decide +kernel
theorem dX12_whole_6 : decode cX12_whole 6 = .ok (.iload_n 1, 1) := by decide +kernel
theorem dX12_whole_7 : decode cX12_whole 7 = .ok (.iload_n 2, 1) := by decide +kernel
theorem dX12_whole_8 : decode cX12_whole 8 = .ok (.invokevirtual 687, 3) := by decide +kernel
theorem dX12_whole_11 : decode cX12_whole 11 = .ok (.istore 4, 2) := by decide +kernel
theorem dX12_whole_13 : decode cX12_whole 13 = .ok (.iload 4, 2) := by decide +kernel
theorem dX12_whole_15 : decode cX12_whole 15 = .ok (.ifCond .ne 17, 3) := by decide +kernel
theorem dX12_whole_32 : decode cX12_whole 32 = .ok (.iload 4, 2) := by decide +kernel
theorem dX12_whole_34 : decode cX12_whole 34 = .ok (.istore 4, 2) := by decide +kernel
theorem dX12_whole_36 : decode cX12_whole 36 = .ok (.iload 4, 2) := by decide +kernel
theorem dX12_whole_38 : decode cX12_whole 38 = .ok (.ifCond .ne 12, 3) := by decide +kernel
theorem dX12_whole_50 : decode cX12_whole 50 = .ok (.iload 4, 2) := by decide +kernel
theorem dX12_whole_52 : decode cX12_whole 52 = .ok (.istore 4, 2) := by decide +kernel
theorem dX12_whole_54 : decode cX12_whole 54 = .ok (.iload 4, 2) := by decide +kernel
theorem dX12_whole_56 : decode cX12_whole 56 = .ok (.ifCond .eq 6, 3) := by decide +kernel
theorem dX12_whole_59 : decode cX12_whole 59 = .ok (.iload 4, 2) := by decide +kernel
theorem dX12_whole_61 : decode cX12_whole 61 = .ok (.ireturn, 1) := by decide +kernel
theorem dX12_wrongBoth_0 : decode cX12_wrongBoth 0 = .ok (.aload_n 0, 1) := by decide +kernel
theorem dX12_wrongBoth_1 : decode cX12_wrongBoth 1 = .ok (.iload_n 1, 1) := by decide +kernel
theorem dX12_wrongBoth_2 : decode cX12_wrongBoth 2 = .ok (.invokevirtual 459, 3) := by decide +kernel
theorem dX12_wrongBoth_5 : decode cX12_wrongBoth 5 = .ok (.istore_n 3, 1) := by decide +kernel
theorem dX12_wrongBoth_6 : decode cX12_wrongBoth 6 = .ok (.iload_n 3, 1) := by decide +kernel
theorem dX12_wrongBoth_7 : decode cX12_wrongBoth 7 = .ok (.ifCond .eq 7, 3) := by decide +kernel
theorem dX12_wrongBoth_10 : decode cX12_wrongBoth 10 = .ok (.iload_n 3, 1) := by decide +kernel
theorem dX12_wrongBoth_11 : decode cX12_wrongBoth 11 = .ok (.goto 8, 3) := by decide +kernel
theorem dX12_wrongBoth_19 : decode cX12_wrongBoth 19 = .ok (.ireturn, 1) := by decide +kernel
theorem dX12_wrongSlot_0 : decode cX12_wrongSlot 0 = .ok (.iload_n 1, 1) := by decide +kernel
theorem dX12_wrongSlot_1 : decode cX12_wrongSlot 1 = .ok (.iconst 0, 1) := by decide +kernel
theorem dX12_wrongSlot_2 : decode cX12_wrongSlot 2 = .ok (.iconst 5, 1) := by decide +kernel
theorem dX12_wrongSlot_3 : decode cX12_wrongSlot 3 = .ok (.invokestatic 7, 3) := by decide +kernel
theorem dX12_wrongSlot_6 : decode cX12_wrongSlot 6 = .ok (.ifCond .ne 6, 3) := by decide +kernel
theorem dX12_wrongSlot_9 : decode cX12_wrongSlot 9 = .ok (.bipush (-2), 2) := by decide +kernel
theorem dX12_wrongSlot_11 : decode cX12_wrongSlot 11 = .ok (.ireturn, 1) := by decide +kernel
theorem dX12_wrongSlot_12 : decode cX12_wrongSlot 12 = .ok (.aload_n 0, 1) := by decide +kernel
theorem dX12_wrongSlot_13 : decode cX12_wrongSlot 13 = .ok (.getfield 31, 3) := by decide +kernel
theorem dX12_wrongSlot_16 : decode cX12_wrongSlot 16 = .ok (.iload_n 1, 1) := by decide +kernel
theorem dX12_wrongSlot_17 : decode cX12_wrongSlot 17 = .ok (.baload, 1) := by decide +kernel
theorem dX12_wrongSlot_18 : decode cX12_wrongSlot 18 = .ok (.ifCond .ne 11, 3) := by decide +kernel
theorem dX12_wrongSlot_21 : decode cX12_wrongSlot 21 = .ok (.aload_n 0, 1) := by decide +kernel
theorem dX12_wrongSlot_22 : decode cX12_wrongSlot 22 = .ok (.iconst 2, 1) := by decide +kernel
theorem dX12_wrongSlot_23 : decode cX12_wrongSlot 23 = .ok (.putfield 456, 3) := by decide +kernel
theorem dX12_wrongSlot_26 : decode cX12_wrongSlot 26 = .ok (.bipush (-2), 2) := by decide +kernel
theorem dX12_wrongSlot_28 : decode cX12_wrongSlot 28 = .ok (.ireturn, 1) := by decide +kernel
theorem dX12_wrongSubject_0 : decode cX12_wrongSubject 0 = .ok (.iload_n 1, 1) := by decide +kernel
theorem dX12_wrongSubject_1 : decode cX12_wrongSubject 1 = .ok (.iconst 0, 1) := by decide +kernel
theorem dX12_wrongSubject_2 : decode cX12_wrongSubject 2 = .ok (.iconst 3, 1) := by decide +kernel
theorem dX12_wrongSubject_3 : decode cX12_wrongSubject 3 = .ok (.invokestatic 7, 3) := by decide +kernel
theorem dX12_wrongSubject_6 : decode cX12_wrongSubject 6 = .ok (.ifCond .ne 6, 3) := by decide +kernel
theorem dX12_wrongSubject_9 : decode cX12_wrongSubject 9 = .ok (.bipush (-2), 2) := by decide +kernel
theorem dX12_wrongSubject_11 : decode cX12_wrongSubject 11 = .ok (.ireturn, 1) := by decide +kernel
theorem dX12_wrongSubject_12 : decode cX12_wrongSubject 12 = .ok (.aload_n 0, 1) := by decide +kernel
theorem dX12_wrongSubject_13 : decode cX12_wrongSubject 13 = .ok (.getfield 171, 3) := by decide +kernel
theorem dX12_wrongSubject_16 : decode cX12_wrongSubject 16 = .ok (.iload_n 1, 1) := by decide +kernel
theorem dX12_wrongSubject_17 : decode cX12_wrongSubject 17 = .ok (.baload, 1) := by decide +kernel
theorem dX12_wrongSubject_18 : decode cX12_wrongSubject 18 = .ok (.ifCond .ne 11, 3) := by decide +kernel
theorem dX12_wrongSubject_21 : decode cX12_wrongSubject 21 = .ok (.aload_n 0, 1) := by decide +kernel
theorem dX12_wrongSubject_22 : decode cX12_wrongSubject 22 = .ok (.iconst 2, 1) := by decide +kernel
theorem dX12_wrongSubject_23 : decode cX12_wrongSubject 23 = .ok (.putfield 456, 3) := by decide +kernel
theorem dX12_wrongSubject_26 : decode cX12_wrongSubject 26 = .ok (.bipush (-3), 2) := by decide +kernel
theorem dX12_wrongSubject_28 : decode cX12_wrongSubject 28 = .ok (.ireturn, 1) := by decide +kernel
theorem dX1_init_0 : decode cX1_init 0 = .ok (.aload_n 0, 1) := by decide +kernel
theorem dX1_init_1 : decode cX1_init 1 = .ok (.invokespecial 3, 3) := by decide +kernel
theorem dX1_init_4 : decode cX1_init 4 = .ok (.aload_n 0, 1) := by decide +kernel
theorem dX1_init_5 : decode cX1_init 5 = .ok (.new 9, 3) := by decide +kernel
theorem dX1_init_8 : decode cX1_init 8 = .ok (.dup, 1) := by decide +kernel
theorem dX1_init_9 : decode cX1_init 9 = .ok (.iconst 0, 1) := by decide +kernel
theorem dX1_init_10 : decode cX1_init 10 = .ok (.iconst 0, 1) := by decide +kernel
theorem dX1_init_11 : decode cX1_init 11 = .ok (.invokespecial 11, 3) := by decide +kernel
theorem dX1_init_14 : decode cX1_init 14 = .ok (.putfield 14, 3) := by decide +kernel
theorem dX1_init_17 : decode cX1_init 17 = .ok (.aload_n 0, 1) := by decide +kernel
theorem dX1_init_18 : decode cX1_init 18 = .ok (.new 20, 3) := by decide +kernel
theorem dX1_init_21 : decode cX1_init 21 = .ok (.dup, 1) := by decide +kernel
theorem dX1_init_22 : decode cX1_init 22 = .ok (.iconst 0, 1) := by decide +kernel
theorem dX1_init_23 : decode cX1_init 23 = .ok (.invokespecial 22, 3) := by decide +kernel
theorem dX1_init_26 : decode cX1_init 26 = .ok (.putfield 25, 3) := by decide +kernel
theorem dX1_init_29 : decode cX1_init 29 = .ok (.aload_n 0, 1) := by decide +kernel
theorem dX1_init_30 : decode cX1_init 30 = .ok (.sipush 266, 3) := by decide +kernel
theorem dX1_init_33 : decode cX1_init 33 = .ok (.newarray .int, 2) := by decide +kernel
theorem dX1_init_35 : decode cX1_init 35 = .ok (.putfield 29, 3) := by decide +kernel
theorem dX1_init_38 : decode cX1_init 38 = .ok (.aload_n 0, 1) := by decide +kernel
theorem dX1_init_39 : decode cX1_init 39 = .ok (.sipush 256, 3) := by decide +kernel
theorem dX1_init_42 : decode cX1_init 42 = .ok (.newarray .int, 2) := by decide +kernel
theorem dX1_init_44 : decode cX1_init 44 = .ok (.putfield 33, 3) := by decide +kernel
theorem dX1_init_47 : decode cX1_init 47 = .ok (.aload_n 0, 1) := by decide +kernel
theorem dX1_init_48 : decode cX1_init 48 = .ok (.sipush 256, 3) := by decide +kernel
theorem dX1_init_51 : decode cX1_init 51 = .ok (.newarray .int, 2) := by decide +kernel
theorem dX1_init_53 : decode cX1_init 53 = .ok (.putfield 36, 3) := by decide +kernel
theorem dX1_init_56 : decode cX1_init 56 = .ok (.aload_n 0, 1) := by decide +kernel
theorem dX1_init_57 : decode cX1_init 57 = .ok (.sipush 256, 3) := by decide +kernel
theorem dX1_init_60 : decode cX1_init 60 = .ok (.newarray .int, 2) := by decide +kernel
theorem dX1_init_62 : decode cX1_init 62 = .ok (.putfield 39, 3) := by decide +kernel
theorem dX1_init_65 : decode cX1_init 65 = .ok (.aload_n 0, 1) := by decide +kernel
theorem dX1_init_66 : decode cX1_init 66 = .ok (.sipush 1024, 3) := by decide +kernel
theorem dX1_init_69 : decode cX1_init 69 = .ok (.newarray .int, 2) := by decide +kernel
theorem dX1_init_71 : decode cX1_init 71 = .ok (.putfield 42, 3) := by decide +kernel
theorem dX1_init_74 : decode cX1_init 74 = .ok (.aload_n 0, 1) := by decide +kernel
theorem dX1_init_75 : decode cX1_init 75 = .ok (.sipush 1024, 3) := by decide +kernel
theorem dX1_init_78 : decode cX1_init 78 = .ok (.newarray .int, 2) := by decide +kernel
theorem dX1_init_80 : decode cX1_init 80 = .ok (.putfield 45, 3) := by decide +kernel
theorem dX1_init_83 : decode cX1_init 83 = .ok (.aload_n 0, 1) := by decide +kernel
theorem dX1_init_84 : decode cX1_init 84 = .ok (.sipush 1024, 3) := by decide +kernel
theorem dX1_init_87 : decode cX1_init 87 = .ok (.newarray .int, 2) := by decide +kernel
theorem dX1_init_89 : decode cX1_init 89 = .ok (.putfield 48, 3) := by decide +kernel
theorem dX1_init_92 : decode cX1_init 92 = .ok (.return_, 1) := by decide +kernel
theorem dX2_begin_0 : decode cX2_begin 0 = .ok (.aload_n 0, 1) := by decide +kernel
theorem dX2_begin_1 : decode cX2_begin 1 = .ok (.iload_n 1, 1) := by decide +kernel
theorem dX2_begin_2 : decode cX2_begin 2 = .ok (.putfield 9, 3) := by decide +kernel
theorem dX2_begin_5 : decode cX2_begin 5 = .ok (.aload_n 0, 1) := by decide +kernel
theorem dX2_begin_6 : decode cX2_begin 6 = .ok (.iload_n 2, 1) := by decide +kernel
theorem dX2_begin_7 : decode cX2_begin 7 = .ok (.putfield 15, 3) := by decide +kernel
theorem dX2_begin_10 : decode cX2_begin 10 = .ok (.aload_n 0, 1) := by decide +kernel
theorem dX2_begin_11 : decode cX2_begin 11 = .ok (.iload_n 3, 1) := by decide +kernel
theorem dX2_begin_12 : decode cX2_begin 12 = .ok (.putfield 18, 3) := by decide +kernel
theorem dX2_begin_15 : decode cX2_begin 15 = .ok (.aload_n 0, 1) := by decide +kernel
theorem dX2_begin_16 : decode cX2_begin 16 = .ok (.iconst (-1), 1) := by decide +kernel
theorem dX2_begin_17 : decode cX2_begin 17 = .ok (.putfield 21, 3) := by decide +kernel
theorem dX2_begin_20 : decode cX2_begin 20 = .ok (.aload_n 0, 1) := by decide +kernel
theorem dX2_begin_21 : decode cX2_begin 21 = .ok (.iconst (-1), 1) := by decide +kernel
theorem dX2_begin_22 : decode cX2_begin 22 = .ok (.putfield 24, 3) := by decide +kernel
theorem dX2_begin_25 : decode cX2_begin 25 = .ok (.aload_n 0, 1) := by decide +kernel
theorem dX2_begin_26 : decode cX2_begin 26 = .ok (.iconst 0, 1) := by decide +kernel
theorem dX2_begin_27 : decode cX2_begin 27 = .ok (.putfield 27, 3) := by decide +kernel
theorem dX2_begin_30 : decode cX2_begin 30 = .ok (.aload_n 0, 1) := by decide +kernel
theorem dX2_begin_31 : decode cX2_begin 31 = .ok (.invokevirtual 30, 3) := by decide +kernel
theorem dX2_begin_34 : decode cX2_begin 34 = .ok (.return_, 1) := by decide +kernel
theorem dX2_beginRow_0 : decode cX2_beginRow 0 = .ok (.aload_n 0, 1) := by decide +kernel
theorem dX2_beginRow_1 : decode cX2_beginRow 1 = .ok (.iconst (-1), 1) := by decide +kernel
theorem dX2_beginRow_2 : decode cX2_beginRow 2 = .ok (.putfield 33, 3) := by decide +kernel
theorem dX2_beginRow_5 : decode cX2_beginRow 5 = .ok (.aload_n 0, 1) := by decide +kernel
theorem dX2_beginRow_6 : decode cX2_beginRow 6 = .ok (.iconst 0, 1) := by decide +kernel
theorem dX2_beginRow_7 : decode cX2_beginRow 7 = .ok (.putfield 36, 3) := by decide +kernel
theorem dX2_beginRow_10 : decode cX2_beginRow 10 = .ok (.aload_n 0, 1) := by decide +kernel
theorem dX2_beginRow_11 : decode cX2_beginRow 11 = .ok (.iconst (-1), 1) := by decide +kernel
theorem dX2_beginRow_12 : decode cX2_beginRow 12 = .ok (.putfield 40, 3) := by decide +kernel
theorem dX2_beginRow_15 : decode cX2_beginRow 15 = .ok (.aload_n 0, 1) := by decide +kernel
theorem dX2_beginRow_16 : decode cX2_beginRow 16 = .ok (.iconst (-1), 1) := by decide +kernel
theorem dX2_beginRow_17 : decode cX2_beginRow 17 = .ok (.putfield 43, 3) := by decide +kernel
theorem dX2_beginRow_20 : decode cX2_beginRow 20 = .ok (.aload_n 0, 1) := by decide +kernel
theorem dX2_beginRow_21 : decode cX2_beginRow 21 = .ok (.iconst 0, 1) := by decide +kernel
theorem dX2_beginRow_22 : decode cX2_beginRow 22 = .ok (.putfield 46, 3) := by decide +kernel
theorem dX2_beginRow_25 : decode cX2_beginRow 25 = .ok (.return_, 1) := by decide +kernel
theorem dX2_init_0 : decode cX2_init 0 = .ok (.aload_n 0, 1) := by decide +kernel
theorem dX2_init_1 : decode cX2_init 1 = .ok (.invokespecial 3, 3) := by decide +kernel
