theorem dX11_refusalOfSubject_7 : decode cX11_refusalOfSubject 7 = .ok (.bipush (-2), 2) := by decide +kernel
theorem dX11_refusalOfSubject_9 : decode cX11_refusalOfSubject 9 = .ok (.ireturn, 1) := by decide +kernel
theorem dX11_refusalOfSubject_10 : decode cX11_refusalOfSubject 10 = .ok (.aload_n 0, 1) := by decide +kernel
theorem dX11_refusalOfSubject_11 : decode cX11_refusalOfSubject 11 = .ok (.iconst 2, 1) := by decide +kernel
theorem dX11_refusalOfSubject_12 : decode cX11_refusalOfSubject 12 = .ok (.putfield 146, 3) := by decide +kernel
theorem dX11_refusalOfSubject_15 : decode cX11_refusalOfSubject 15 = .ok (.bipush (-3), 2) := by decide +kernel
theorem dX11_refusalOfSubject_17 : decode cX11_refusalOfSubject 17 = .ok (.ireturn, 1) := by decide +kernel
theorem dX11_replace_0 : decode cX11_replace 0 = .ok (.aload_n 0, 1) := by decide +kernel
theorem dX11_replace_1 : decode cX11_replace 1 = .ok (.iload_n 1, 1) := by decide +kernel
theorem dX11_replace_2 : decode cX11_replace 2 = .ok (.invokevirtual 128, 3) := by decide +kernel
theorem dX11_replace_5 : decode cX11_replace 5 = .ok (.astore 4, 2) := by decide +kernel
theorem dX11_replace_7 : decode cX11_replace 7 = .ok (.aload 4, 2) := by decide +kernel
theorem dX11_replace_9 : decode cX11_replace 9 = .ok (.ifnonnull 6, 3) := by decide +kernel
theorem dX11_replace_12 : decode cX11_replace 12 = .ok (.bipush (-2), 2) := by decide +kernel
theorem dX11_replace_14 : decode cX11_replace 14 = .ok (.ireturn, 1) := by decide +kernel
theorem dX11_risky_0 : decode cX11_risky 0 = .ok (.aload_n 0, 1) := by decide +kernel
theorem dX11_risky_1 : decode cX11_risky 1 = .ok (.iload_n 1, 1) := by decide +kernel
theorem dX11_risky_2 : decode cX11_risky 2 = .ok (.invokevirtual 128, 3) := by decide +kernel
theorem dX11_risky_5 : decode cX11_risky 5 = .ok (.astore_n 2, 1) := by decide +kernel
theorem dX11_risky_6 : decode cX11_risky 6 = .ok (.aload_n 2, 1) := by decide +kernel
theorem dX11_risky_7 : decode cX11_risky 7 = .ok (.ifnonnull 6, 3) := by decide +kernel
theorem dX11_risky_10 : decode cX11_risky 10 = .ok (.bipush (-2), 2) := by decide +kernel
theorem dX11_risky_12 : decode cX11_risky 12 = .ok (.ireturn, 1) := by decide +kernel
theorem dX11_span_0 : decode cX11_span 0 = .ok (.aload_n 0, 1) := by decide +kernel
theorem dX11_span_1 : decode cX11_span 1 = .ok (.getfield 37, 3) := by decide +kernel
theorem dX11_span_4 : decode cX11_span 4 = .ok (.getfield 96, 3) := by decide +kernel
theorem dX11_span_7 : decode cX11_span 7 = .ok (.ifCond .ne 6, 3) := by decide +kernel
theorem dX11_span_10 : decode cX11_span 10 = .ok (.bipush (-2), 2) := by decide +kernel
theorem dX11_span_12 : decode cX11_span 12 = .ok (.ireturn, 1) := by decide +kernel
theorem dX11_steps_0 : decode cX11_steps 0 = .ok (.aload_n 0, 1) := by decide +kernel
theorem dX11_steps_1 : decode cX11_steps 1 = .ok (.getfield 249, 3) := by decide +kernel
theorem dX11_steps_4 : decode cX11_steps 4 = .ok (.ireturn, 1) := by decide +kernel
theorem dX11_subjectAt_0 : decode cX11_subjectAt 0 = .ok (.iload_n 1, 1) := by decide +kernel
theorem dX11_subjectAt_1 : decode cX11_subjectAt 1 = .ok (.invokestatic 202, 3) := by decide +kernel
theorem dX11_subjectAt_4 : decode cX11_subjectAt 4 = .ok (.ifCond .eq 24, 3) := by decide +kernel
theorem dX11_subjectAt_7 : decode cX11_subjectAt 7 = .ok (.aload_n 0, 1) := by decide +kernel
theorem dX11_subjectAt_8 : decode cX11_subjectAt 8 = .ok (.getfield 24, 3) := by decide +kernel
theorem dX11_subjectAt_11 : decode cX11_subjectAt 11 = .ok (.iload_n 1, 1) := by decide +kernel
theorem dX11_subjectAt_12 : decode cX11_subjectAt 12 = .ok (.aaload, 1) := by decide +kernel
theorem dX11_subjectAt_13 : decode cX11_subjectAt 13 = .ok (.getfield 205, 3) := by decide +kernel
theorem dX11_subjectAt_16 : decode cX11_subjectAt 16 = .ok (.ifCond .eq 12, 3) := by decide +kernel
theorem dX11_subjectAt_28 : decode cX11_subjectAt 28 = .ok (.aconst_null, 1) := by decide +kernel
theorem dX11_subjectAt_29 : decode cX11_subjectAt 29 = .ok (.areturn, 1) := by decide +kernel
theorem dX11_subjectsThere_0 : decode cX11_subjectsThere 0 = .ok (.iconst 0, 1) := by decide +kernel
theorem dX11_subjectsThere_1 : decode cX11_subjectsThere 1 = .ok (.istore_n 1, 1) := by decide +kernel
theorem dX11_subjectsThere_2 : decode cX11_subjectsThere 2 = .ok (.iconst 0, 1) := by decide +kernel
theorem dX11_subjectsThere_3 : decode cX11_subjectsThere 3 = .ok (.istore_n 2, 1) := by decide +kernel
theorem dX11_subjectsThere_4 : decode cX11_subjectsThere 4 = .ok (.iload_n 2, 1) := by decide +kernel
theorem dX11_subjectsThere_5 : decode cX11_subjectsThere 5 = .ok (.aload_n 0, 1) := by decide +kernel
theorem dX11_subjectsThere_6 : decode cX11_subjectsThere 6 = .ok (.getfield 24, 3) := by decide +kernel
theorem dX11_subjectsThere_9 : decode cX11_subjectsThere 9 = .ok (.arraylength, 1) := by decide +kernel
theorem dX11_subjectsThere_10 : decode cX11_subjectsThere 10 = .ok (.if_icmp .ge 29, 3) := by decide +kernel
theorem dX11_subjectsThere_13 : decode cX11_subjectsThere 13 = .ok (.iload_n 1, 1) := by decide +kernel
theorem dX11_subjectsThere_14 : decode cX11_subjectsThere 14 = .ok (.aload_n 0, 1) := by decide +kernel
theorem dX11_subjectsThere_15 : decode cX11_subjectsThere 15 = .ok (.getfield 24, 3) := by decide +kernel
theorem dX11_subjectsThere_18 : decode cX11_subjectsThere 18 = .ok (.iload_n 2, 1) := by decide +kernel
theorem dX11_subjectsThere_19 : decode cX11_subjectsThere 19 = .ok (.aaload, 1) := by decide +kernel
theorem dX11_subjectsThere_20 : decode cX11_subjectsThere 20 = .ok (.getfield 205, 3) := by decide +kernel
theorem dX11_subjectsThere_23 : decode cX11_subjectsThere 23 = .ok (.ifCond .eq 7, 3) := by decide +kernel
theorem dX11_subjectsThere_30 : decode cX11_subjectsThere 30 = .ok (.iconst 0, 1) := by decide +kernel
theorem dX11_subjectsThere_31 : decode cX11_subjectsThere 31 = .ok (.iadd, 1) := by decide +kernel
theorem dX11_subjectsThere_32 : decode cX11_subjectsThere 32 = .ok (.istore_n 1, 1) := by decide +kernel
theorem dX11_subjectsThere_33 : decode cX11_subjectsThere 33 = .ok (.iinc 2 1, 3) := by decide +kernel
theorem dX11_subjectsThere_36 : decode cX11_subjectsThere 36 = .ok (.goto (-32), 3) := by decide +kernel
theorem dX11_subjectsThere_39 : decode cX11_subjectsThere 39 = .ok (.iload_n 1, 1) := by decide +kernel
theorem dX11_subjectsThere_40 : decode cX11_subjectsThere 40 = .ok (.ireturn, 1) := by decide +kernel
theorem dX11_table_0 : decode cX11_table 0 = .ok (.aload_n 0, 1) := by decide +kernel
theorem dX11_table_1 : decode cX11_table 1 = .ok (.iload_n 1, 1) := by decide +kernel
theorem dX11_table_2 : decode cX11_table 2 = .ok (.invokevirtual 128, 3) := by decide +kernel
theorem dX11_table_5 : decode cX11_table 5 = .ok (.astore_n 2, 1) := by decide +kernel
theorem dX11_table_6 : decode cX11_table 6 = .ok (.aload_n 2, 1) := by decide +kernel
theorem dX11_table_7 : decode cX11_table 7 = .ok (.ifnonnull 6, 3) := by decide +kernel
theorem dX11_table_10 : decode cX11_table 10 = .ok (.bipush (-2), 2) := by decide +kernel
theorem dX11_table_12 : decode cX11_table 12 = .ok (.ireturn, 1) := by decide +kernel
theorem dX11_told_0 : decode cX11_told 0 = .ok (.iload_n 1, 1) := by decide +kernel
theorem dX11_told_1 : decode cX11_told 1 = .ok (.tableswitch 101 0 6 #[43, 51, 56, 61, 69, 82, 87], 43) := by decide +kernel
theorem dX11_told_44 : decode cX11_told 44 = .ok (.aload_n 0, 1) := by decide +kernel
theorem dX11_told_45 : decode cX11_told 45 = .ok (.getfield 14, 3) := by decide +kernel
theorem dX11_told_48 : decode cX11_told 48 = .ok (.getfield 96, 3) := by decide +kernel
theorem dX11_told_51 : decode cX11_told 51 = .ok (.ireturn, 1) := by decide +kernel
theorem dX11_told_52 : decode cX11_told 52 = .ok (.aload_n 0, 1) := by decide +kernel
theorem dX11_told_53 : decode cX11_told 53 = .ok (.invokevirtual 314, 3) := by decide +kernel
theorem dX11_told_56 : decode cX11_told 56 = .ok (.ireturn, 1) := by decide +kernel
theorem dX11_told_57 : decode cX11_told 57 = .ok (.aload_n 0, 1) := by decide +kernel
theorem dX11_told_58 : decode cX11_told 58 = .ok (.invokevirtual 317, 3) := by decide +kernel
theorem dX11_told_61 : decode cX11_told 61 = .ok (.ireturn, 1) := by decide +kernel
theorem dX11_told_62 : decode cX11_told 62 = .ok (.aload_n 0, 1) := by decide +kernel
theorem dX11_told_63 : decode cX11_told 63 = .ok (.getfield 28, 3) := by decide +kernel
theorem dX11_told_66 : decode cX11_told 66 = .ok (.getfield 96, 3) := by decide +kernel
theorem dX11_told_69 : decode cX11_told 69 = .ok (.ireturn, 1) := by decide +kernel
theorem dX11_told_70 : decode cX11_told 70 = .ok (.aload_n 0, 1) := by decide +kernel
theorem dX11_told_71 : decode cX11_told 71 = .ok (.getfield 320, 3) := by decide +kernel
theorem dX11_told_74 : decode cX11_told 74 = .ok (.ifCond .eq 7, 3) := by decide +kernel
theorem dX11_told_81 : decode cX11_told 81 = .ok (.iconst 0, 1) := by decide +kernel
theorem dX11_told_82 : decode cX11_told 82 = .ok (.ireturn, 1) := by decide +kernel
theorem dX11_told_83 : decode cX11_told 83 = .ok (.aload_n 0, 1) := by decide +kernel
theorem dX11_told_84 : decode cX11_told 84 = .ok (.invokevirtual 255, 3) := by decide +kernel
theorem dX11_told_87 : decode cX11_told 87 = .ok (.ireturn, 1) := by decide +kernel
theorem dX11_told_88 : decode cX11_told 88 = .ok (.aload_n 0, 1) := by decide +kernel
theorem dX11_told_89 : decode cX11_told 89 = .ok (.getfield 79, 3) := by decide +kernel
theorem dX11_told_92 : decode cX11_told 92 = .ok (.iconst (-1), 1) := by decide +kernel
theorem dX11_told_93 : decode cX11_told 93 = .ok (.if_icmp .ne 7, 3) := by decide +kernel
theorem dX11_told_96 : decode cX11_told 96 = .ok (.iconst 0, 1) := by decide +kernel
theorem dX11_told_97 : decode cX11_told 97 = .ok (.goto 4, 3) := by decide +kernel
theorem dX11_told_101 : decode cX11_told 101 = .ok (.ireturn, 1) := by decide +kernel
theorem dX11_told_102 : decode cX11_told 102 = .ok (.bipush (-4), 2) := by decide +kernel
theorem dX11_told_104 : decode cX11_told 104 = .ok (.ireturn, 1) := by decide +kernel
theorem dX11_whole_0 : decode cX11_whole 0 = .ok (.aload_n 0, 1) := by decide +kernel
theorem dX11_whole_1 : decode cX11_whole 1 = .ok (.iload_n 1, 1) := by decide +kernel
theorem dX11_whole_2 : decode cX11_whole 2 = .ok (.invokevirtual 128, 3) := by decide +kernel
theorem dX11_whole_5 : decode cX11_whole 5 = .ok (.astore 4, 2) := by decide +kernel
theorem dX11_whole_7 : decode cX11_whole 7 = .ok (.aload 4, 2) := by decide +kernel
theorem dX11_whole_9 : decode cX11_whole 9 = .ok (.ifnonnull 6, 3) := by decide +kernel
theorem dX11_whole_12 : decode cX11_whole 12 = .ok (.bipush (-2), 2) := by decide +kernel
theorem dX11_whole_14 : decode cX11_whole 14 = .ok (.ireturn, 1) := by decide +kernel
theorem dX12_all_0 : decode cX12_all 0 = .ok (.aload_n 0, 1) := by decide +kernel
theorem dX12_all_1 : decode cX12_all 1 = .ok (.iconst 0, 1) := by decide +kernel
theorem dX12_all_2 : decode cX12_all 2 = .ok (.putfield 1, 3) := by decide +kernel
theorem dX12_all_5 : decode cX12_all 5 = .ok (.aload_n 0, 1) := by decide +kernel
theorem dX12_all_6 : decode cX12_all 6 = .ok (.iload_n 1, 1) := by decide +kernel
theorem dX12_all_7 : decode cX12_all 7 = .ok (.iload_n 2, 1) := by decide +kernel
theorem dX12_all_8 : decode cX12_all 8 = .ok (.invokevirtual 687, 3) := by decide +kernel
theorem dX12_all_11 : decode cX12_all 11 = .ok (.istore 4, 2) := by decide +kernel
theorem dX12_all_13 : decode cX12_all 13 = .ok (.iload 4, 2) := by decide +kernel
theorem dX12_all_15 : decode cX12_all 15 = .ok (.ifCond .ne 17, 3) := by decide +kernel
theorem dX12_all_32 : decode cX12_all 32 = .ok (.iload 4, 2) := by decide +kernel
theorem dX12_all_34 : decode cX12_all 34 = .ok (.istore 4, 2) := by decide +kernel
theorem dX12_all_36 : decode cX12_all 36 = .ok (.iload 4, 2) := by decide +kernel
theorem dX12_all_38 : decode cX12_all 38 = .ok (.ifCond .ne 12, 3) := by decide +kernel
theorem dX12_all_50 : decode cX12_all 50 = .ok (.iload 4, 2) := by decide +kernel
theorem dX12_all_52 : decode cX12_all 52 = .ok (.istore 4, 2) := by decide +kernel
theorem dX12_all_54 : decode cX12_all 54 = .ok (.iload 4, 2) := by decide +kernel
theorem dX12_all_56 : decode cX12_all 56 = .ok (.ifCond .ne 13, 3) := by decide +kernel
theorem dX12_all_69 : decode cX12_all 69 = .ok (.iload 4, 2) := by decide +kernel
theorem dX12_all_71 : decode cX12_all 71 = .ok (.istore 4, 2) := by decide +kernel
theorem dX12_all_73 : decode cX12_all 73 = .ok (.iload 4, 2) := by decide +kernel
theorem dX12_all_75 : decode cX12_all 75 = .ok (.ifCond .eq 6, 3) := by decide +kernel
theorem dX12_all_78 : decode cX12_all 78 = .ok (.iload 4, 2) := by decide +kernel
theorem dX12_all_80 : decode cX12_all 80 = .ok (.ireturn, 1) := by decide +kernel
theorem dX12_beginGroup_0 : decode cX12_beginGroup 0 = .ok (.aload_n 0, 1) := by decide +kernel
theorem dX12_beginGroup_1 : decode cX12_beginGroup 1 = .ok (.getfield 119, 3) := by decide +kernel
theorem dX12_beginGroup_4 : decode cX12_beginGroup 4 = .ok (.aload_n 0, 1) := by decide +kernel
theorem dX12_beginGroup_5 : decode cX12_beginGroup 5 = .ok (.getfield 329, 3) := by decide +kernel
theorem dX12_beginGroup_8 : decode cX12_beginGroup 8 = .ok (.iload_n 1, 1) := by decide +kernel
theorem dX12_beginGroup_9 : decode cX12_beginGroup 9 = .ok (.iastore, 1) := by decide +kernel
theorem dX12_beginGroup_10 : decode cX12_beginGroup 10 = .ok (.aload_n 0, 1) := by decide +kernel
theorem dX12_beginGroup_11 : decode cX12_beginGroup 11 = .ok (.getfield 122, 3) := by decide +kernel
theorem dX12_beginGroup_14 : decode cX12_beginGroup 14 = .ok (.aload_n 0, 1) := by decide +kernel
theorem dX12_beginGroup_15 : decode cX12_beginGroup 15 = .ok (.getfield 329, 3) := by decide +kernel
theorem dX12_beginGroup_18 : decode cX12_beginGroup 18 = .ok (.iload_n 2, 1) := by decide +kernel
theorem dX12_beginGroup_19 : decode cX12_beginGroup 19 = .ok (.iastore, 1) := by decide +kernel
theorem dX12_beginGroup_20 : decode cX12_beginGroup 20 = .ok (.aload_n 0, 1) := by decide +kernel
theorem dX12_beginGroup_21 : decode cX12_beginGroup 21 = .ok (.getfield 134, 3) := by decide +kernel
theorem dX12_beginGroup_24 : decode cX12_beginGroup 24 = .ok (.aload_n 0, 1) := by decide +kernel
theorem dX12_beginGroup_25 : decode cX12_beginGroup 25 = .ok (.getfield 329, 3) := by decide +kernel
theorem dX12_beginGroup_28 : decode cX12_beginGroup 28 = .ok (.iconst (-1), 1) := by decide +kernel
theorem dX12_beginGroup_29 : decode cX12_beginGroup 29 = .ok (.iastore, 1) := by decide +kernel
theorem dX12_beginGroup_30 : decode cX12_beginGroup 30 = .ok (.aload_n 0, 1) := by decide +kernel
theorem dX12_beginGroup_31 : decode cX12_beginGroup 31 = .ok (.getfield 137, 3) := by decide +kernel
theorem dX12_beginGroup_34 : decode cX12_beginGroup 34 = .ok (.aload_n 0, 1) := by decide +kernel
theorem dX12_beginGroup_35 : decode cX12_beginGroup 35 = .ok (.getfield 329, 3) := by decide +kernel
theorem dX12_beginGroup_38 : decode cX12_beginGroup 38 = .ok (.iconst (-1), 1) := by decide +kernel
theorem dX12_beginGroup_39 : decode cX12_beginGroup 39 = .ok (.iastore, 1) := by decide +kernel
theorem dX12_beginGroup_40 : decode cX12_beginGroup 40 = .ok (.aload_n 0, 1) := by decide +kernel
theorem dX12_beginGroup_41 : decode cX12_beginGroup 41 = .ok (.getfield 140, 3) := by decide +kernel
theorem dX12_beginGroup_44 : decode cX12_beginGroup 44 = .ok (.aload_n 0, 1) := by decide +kernel
theorem dX12_beginGroup_45 : decode cX12_beginGroup 45 = .ok (.getfield 329, 3) := by decide +kernel
theorem dX12_beginGroup_48 : decode cX12_beginGroup 48 = .ok (.iconst 0, 1) := by decide +kernel
theorem dX12_beginGroup_49 : decode cX12_beginGroup 49 = .ok (.iastore, 1) := by decide +kernel
theorem dX12_beginGroup_50 : decode cX12_beginGroup 50 = .ok (.aload_n 0, 1) := by decide +kernel
theorem dX12_beginGroup_51 : decode cX12_beginGroup 51 = .ok (.invokevirtual 332, 3) := by decide +kernel
theorem dX12_beginGroup_54 : decode cX12_beginGroup 54 = .ok (.return_, 1) := by decide +kernel
theorem dX12_beginRow_0 : decode cX12_beginRow 0 = .ok (.aload_n 0, 1) := by decide +kernel
theorem dX12_beginRow_1 : decode cX12_beginRow 1 = .ok (.getfield 125, 3) := by decide +kernel
theorem dX12_beginRow_4 : decode cX12_beginRow 4 = .ok (.aload_n 0, 1) := by decide +kernel
theorem dX12_beginRow_5 : decode cX12_beginRow 5 = .ok (.getfield 329, 3) := by decide +kernel
theorem dX12_beginRow_8 : decode cX12_beginRow 8 = .ok (.iconst (-1), 1) := by decide +kernel
theorem dX12_beginRow_9 : decode cX12_beginRow 9 = .ok (.iastore, 1) := by decide +kernel
theorem dX12_beginRow_10 : decode cX12_beginRow 10 = .ok (.aload_n 0, 1) := by decide +kernel
theorem dX12_beginRow_11 : decode cX12_beginRow 11 = .ok (.getfield 128, 3) := by decide +kernel
theorem dX12_beginRow_14 : decode cX12_beginRow 14 = .ok (.aload_n 0, 1) := by decide +kernel
theorem dX12_beginRow_15 : decode cX12_beginRow 15 = .ok (.getfield 329, 3) := by decide +kernel
theorem dX12_beginRow_18 : decode cX12_beginRow 18 = .ok (.iconst (-1), 1) := by decide +kernel
theorem dX12_beginRow_19 : decode cX12_beginRow 19 = .ok (.iastore, 1) := by decide +kernel
theorem dX12_beginRow_20 : decode cX12_beginRow 20 = .ok (.aload_n 0, 1) := by decide +kernel
theorem dX12_beginRow_21 : decode cX12_beginRow 21 = .ok (.getfield 131, 3) := by decide +kernel
theorem dX12_beginRow_24 : decode cX12_beginRow 24 = .ok (.aload_n 0, 1) := by decide +kernel
theorem dX12_beginRow_25 : decode cX12_beginRow 25 = .ok (.getfield 329, 3) := by decide +kernel
theorem dX12_beginRow_28 : decode cX12_beginRow 28 = .ok (.iconst 0, 1) := by decide +kernel
theorem dX12_beginRow_29 : decode cX12_beginRow 29 = .ok (.iastore, 1) := by decide +kernel
theorem dX12_beginRow_30 : decode cX12_beginRow 30 = .ok (.return_, 1) := by decide +kernel
theorem dX12_begins_0 : decode cX12_begins 0 = .ok (.aload_n 0, 1) := by decide +kernel
theorem dX12_begins_1 : decode cX12_begins 1 = .ok (.iconst 0, 1) := by decide +kernel
theorem dX12_begins_2 : decode cX12_begins 2 = .ok (.putfield 1, 3) := by decide +kernel
theorem dX12_begins_5 : decode cX12_begins 5 = .ok (.aload_n 0, 1) := by decide +kernel
theorem dX12_begins_6 : decode cX12_begins 6 = .ok (.iload_n 1, 1) := by decide +kernel
theorem dX12_begins_7 : decode cX12_begins 7 = .ok (.invokevirtual 459, 3) := by decide +kernel
theorem dX12_begins_10 : decode cX12_begins 10 = .ok (.ifCond .eq 6, 3) := by decide +kernel
theorem dX12_begins_13 : decode cX12_begins 13 = .ok (.bipush (-2), 2) := by decide +kernel
theorem dX12_begins_15 : decode cX12_begins 15 = .ok (.ireturn, 1) := by decide +kernel
theorem dX12_capped_0 : decode cX12_capped 0 = .ok (.iload_n 0, 1) := by decide +kernel
theorem dX12_capped_1 : decode cX12_capped 1 = .ok (.sipush 20000, 3) := by decide +kernel
theorem dX12_capped_4 : decode cX12_capped 4 = .ok (.if_icmp .le 9, 3) := by decide +kernel
theorem dX12_capped_13 : decode cX12_capped 13 = .ok (.iload_n 0, 1) := by decide +kernel
theorem dX12_capped_14 : decode cX12_capped 14 = .ok (.ireturn, 1) := by decide +kernel
theorem dX12_clear_0 : decode cX12_clear 0 = .ok (.aload_n 0, 1) := by decide +kernel
theorem dX12_clear_1 : decode cX12_clear 1 = .ok (.iconst 0, 1) := by decide +kernel
theorem dX12_clear_2 : decode cX12_clear 2 = .ok (.putfield 1, 3) := by decide +kernel
theorem dX12_clear_5 : decode cX12_clear 5 = .ok (.iconst 0, 1) := by decide +kernel
theorem dX12_clear_6 : decode cX12_clear 6 = .ok (.istore_n 1, 1) := by decide +kernel
theorem dX12_clear_7 : decode cX12_clear 7 = .ok (.iconst 0, 1) := by decide +kernel
theorem dX12_clear_8 : decode cX12_clear 8 = .ok (.istore_n 2, 1) := by decide +kernel
theorem dX12_clear_9 : decode cX12_clear 9 = .ok (.iload_n 2, 1) := by decide +kernel
theorem dX12_clear_10 : decode cX12_clear 10 = .ok (.bipush 6, 2) := by decide +kernel
theorem dX12_clear_12 : decode cX12_clear 12 = .ok (.if_icmp .ge 33, 3) := by decide +kernel
theorem dX12_clear_15 : decode cX12_clear 15 = .ok (.iload_n 1, 1) := by decide +kernel
theorem dX12_clear_16 : decode cX12_clear 16 = .ok (.aload_n 0, 1) := by decide +kernel
theorem dX12_clear_17 : decode cX12_clear 17 = .ok (.getfield 31, 3) := by decide +kernel
theorem dX12_clear_20 : decode cX12_clear 20 = .ok (.iload_n 2, 1) := by decide +kernel
theorem dX12_clear_21 : decode cX12_clear 21 = .ok (.baload, 1) := by decide +kernel
theorem dX12_clear_22 : decode cX12_clear 22 = .ok (.ifCond .eq 7, 3) := by decide +kernel
theorem dX12_clear_29 : decode cX12_clear 29 = .ok (.iconst 0, 1) := by decide +kernel
theorem dX12_clear_30 : decode cX12_clear 30 = .ok (.iadd, 1) := by decide +kernel
theorem dX12_clear_31 : decode cX12_clear 31 = .ok (.istore_n 1, 1) := by decide +kernel
theorem dX12_clear_32 : decode cX12_clear 32 = .ok (.aload_n 0, 1) := by decide +kernel
theorem dX12_clear_33 : decode cX12_clear 33 = .ok (.getfield 31, 3) := by decide +kernel
theorem dX12_clear_36 : decode cX12_clear 36 = .ok (.iload_n 2, 1) := by decide +kernel
theorem dX12_clear_37 : decode cX12_clear 37 = .ok (.iconst 0, 1) := by decide +kernel
theorem dX12_clear_38 : decode cX12_clear 38 = .ok (.bastore, 1) := by decide +kernel
theorem dX12_clear_39 : decode cX12_clear 39 = .ok (.iinc 2 1, 3) := by decide +kernel
theorem dX12_clear_42 : decode cX12_clear 42 = .ok (.goto (-33), 3) := by decide +kernel
theorem dX12_clear_45 : decode cX12_clear 45 = .ok (.iconst 0, 1) := by decide +kernel
theorem dX12_clear_46 : decode cX12_clear 46 = .ok (.istore_n 2, 1) := by decide +kernel
theorem dX12_clear_47 : decode cX12_clear 47 = .ok (.iload_n 2, 1) := by decide +kernel
theorem dX12_clear_48 : decode cX12_clear 48 = .ok (.iconst 4, 1) := by decide +kernel
theorem dX12_clear_49 : decode cX12_clear 49 = .ok (.if_icmp .ge 16, 3) := by decide +kernel
theorem dX12_clear_52 : decode cX12_clear 52 = .ok (.aload_n 0, 1) := by decide +kernel
theorem dX12_clear_53 : decode cX12_clear 53 = .ok (.getfield 171, 3) := by decide +kernel
theorem dX12_clear_56 : decode cX12_clear 56 = .ok (.iload_n 2, 1) := by decide +kernel
theorem dX12_clear_57 : decode cX12_clear 57 = .ok (.iconst 0, 1) := by decide +kernel
theorem dX12_clear_58 : decode cX12_clear 58 = .ok (.bastore, 1) := by decide +kernel
theorem dX12_clear_59 : decode cX12_clear 59 = .ok (.iinc 2 1, 3) := by decide +kernel
theorem dX12_clear_62 : decode cX12_clear 62 = .ok (.goto (-15), 3) := by decide +kernel
theorem dX12_clear_65 : decode cX12_clear 65 = .ok (.aload_n 0, 1) := by decide +kernel
theorem dX12_clear_66 : decode cX12_clear 66 = .ok (.iconst 0, 1) := by decide +kernel
theorem dX12_clear_67 : decode cX12_clear 67 = .ok (.putfield 317, 3) := by decide +kernel
theorem dX12_clear_70 : decode cX12_clear 70 = .ok (.aload_n 0, 1) := by decide +kernel
theorem dX12_clear_71 : decode cX12_clear 71 = .ok (.iconst (-1), 1) := by decide +kernel
theorem dX12_clear_72 : decode cX12_clear 72 = .ok (.putfield 28, 3) := by decide +kernel
theorem dX12_clear_75 : decode cX12_clear 75 = .ok (.aload_n 0, 1) := by decide +kernel
theorem dX12_clear_76 : decode cX12_clear 76 = .ok (.iconst 0, 1) := by decide +kernel
theorem dX12_clear_77 : decode cX12_clear 77 = .ok (.putfield 456, 3) := by decide +kernel
theorem dX12_clear_80 : decode cX12_clear 80 = .ok (.aload_n 0, 1) := by decide +kernel
theorem dX12_clear_81 : decode cX12_clear 81 = .ok (.iconst 0, 1) := by decide +kernel
theorem dX12_clear_82 : decode cX12_clear 82 = .ok (.putfield 583, 3) := by decide +kernel
theorem dX12_clear_85 : decode cX12_clear 85 = .ok (.aload_n 0, 1) := by decide +kernel
theorem dX12_clear_86 : decode cX12_clear 86 = .ok (.iconst 0, 1) := by decide +kernel
theorem dX12_clear_87 : decode cX12_clear 87 = .ok (.putfield 502, 3) := by decide +kernel
theorem dX12_clear_90 : decode cX12_clear 90 = .ok (.aload_n 0, 1) := by decide +kernel
theorem dX12_clear_91 : decode cX12_clear 91 = .ok (.iconst 0, 1) := by decide +kernel
theorem dX12_clear_92 : decode cX12_clear 92 = .ok (.putfield 505, 3) := by decide +kernel
theorem dX12_clear_95 : decode cX12_clear 95 = .ok (.aload_n 0, 1) := by decide +kernel
theorem dX12_clear_96 : decode cX12_clear 96 = .ok (.iconst 0, 1) := by decide +kernel
theorem dX12_clear_97 : decode cX12_clear 97 = .ok (.putfield 664, 3) := by decide +kernel
theorem dX12_clear_100 : decode cX12_clear 100 = .ok (.aload_n 0, 1) := by decide +kernel
theorem dX12_clear_101 : decode cX12_clear 101 = .ok (.iconst 0, 1) := by decide +kernel
theorem dX12_clear_102 : decode cX12_clear 102 = .ok (.putfield 449, 3) := by decide +kernel
theorem dX12_clear_105 : decode cX12_clear 105 = .ok (.iload_n 1, 1) := by decide +kernel
theorem dX12_clear_106 : decode cX12_clear 106 = .ok (.ireturn, 1) := by decide +kernel
theorem dX12_closeChoice_0 : decode cX12_closeChoice 0 = .ok (.aload_n 0, 1) := by decide +kernel
theorem dX12_closeChoice_1 : decode cX12_closeChoice 1 = .ok (.invokevirtual 339, 3) := by decide +kernel
theorem dX12_closeChoice_4 : decode cX12_closeChoice 4 = .ok (.aload_n 0, 1) := by decide +kernel
theorem dX12_closeChoice_5 : decode cX12_closeChoice 5 = .ok (.getfield 140, 3) := by decide +kernel
theorem dX12_closeChoice_8 : decode cX12_closeChoice 8 = .ok (.aload_n 0, 1) := by decide +kernel
theorem dX12_closeChoice_9 : decode cX12_closeChoice 9 = .ok (.getfield 329, 3) := by decide +kernel
theorem dX12_closeChoice_12 : decode cX12_closeChoice 12 = .ok (.iaload, 1) := by decide +kernel
theorem dX12_closeChoice_13 : decode cX12_closeChoice 13 = .ok (.iconst 1, 1) := by decide +kernel
theorem dX12_closeChoice_14 : decode cX12_closeChoice 14 = .ok (.if_icmp .ne 13, 3) := by decide +kernel
theorem dX12_closeChoice_17 : decode cX12_closeChoice 17 = .ok (.aload_n 0, 1) := by decide +kernel
theorem dX12_closeChoice_18 : decode cX12_closeChoice 18 = .ok (.getfield 134, 3) := by decide +kernel
theorem dX12_closeChoice_21 : decode cX12_closeChoice 21 = .ok (.aload_n 0, 1) := by decide +kernel
theorem dX12_closeChoice_22 : decode cX12_closeChoice 22 = .ok (.getfield 329, 3) := by decide +kernel
theorem dX12_closeChoice_25 : decode cX12_closeChoice 25 = .ok (.iaload, 1) := by decide +kernel
theorem dX12_closeChoice_26 : decode cX12_closeChoice 26 = .ok (.ireturn, 1) := by decide +kernel
theorem dX12_closeRow_0 : decode cX12_closeRow 0 = .ok (.aload_n 0, 1) := by decide +kernel
theorem dX12_closeRow_1 : decode cX12_closeRow 1 = .ok (.getfield 125, 3) := by decide +kernel
theorem dX12_closeRow_4 : decode cX12_closeRow 4 = .ok (.aload_n 0, 1) := by decide +kernel
theorem dX12_closeRow_5 : decode cX12_closeRow 5 = .ok (.getfield 329, 3) := by decide +kernel
theorem dX12_closeRow_8 : decode cX12_closeRow 8 = .ok (.iaload, 1) := by decide +kernel
theorem dX12_closeRow_9 : decode cX12_closeRow 9 = .ok (.istore_n 1, 1) := by decide +kernel
theorem dX12_closeRow_10 : decode cX12_closeRow 10 = .ok (.aload_n 0, 1) := by decide +kernel
theorem dX12_closeRow_11 : decode cX12_closeRow 11 = .ok (.getfield 131, 3) := by decide +kernel
theorem dX12_closeRow_14 : decode cX12_closeRow 14 = .ok (.aload_n 0, 1) := by decide +kernel
theorem dX12_closeRow_15 : decode cX12_closeRow 15 = .ok (.getfield 329, 3) := by decide +kernel
theorem dX12_closeRow_18 : decode cX12_closeRow 18 = .ok (.iaload, 1) := by decide +kernel
theorem dX12_closeRow_19 : decode cX12_closeRow 19 = .ok (.iconst 1, 1) := by decide +kernel
theorem dX12_closeRow_20 : decode cX12_closeRow 20 = .ok (.if_icmp .eq 40, 3) := by decide +kernel
theorem dX12_closeRow_23 : decode cX12_closeRow 23 = .ok (.aload_n 0, 1) := by decide +kernel
theorem dX12_closeRow_24 : decode cX12_closeRow 24 = .ok (.iconst 5, 1) := by decide +kernel
theorem dX12_closeRow_25 : decode cX12_closeRow 25 = .ok (.iconst 0, 1) := by decide +kernel
theorem dX12_closeRow_26 : decode cX12_closeRow 26 = .ok (.invokevirtual 335, 3) := by decide +kernel
theorem dX12_closeRow_29 : decode cX12_closeRow 29 = .ok (.istore_n 1, 1) := by decide +kernel
theorem dX12_closeRow_30 : decode cX12_closeRow 30 = .ok (.aload_n 0, 1) := by decide +kernel
theorem dX12_closeRow_31 : decode cX12_closeRow 31 = .ok (.getfield 98, 3) := by decide +kernel
theorem dX12_closeRow_34 : decode cX12_closeRow 34 = .ok (.iload_n 1, 1) := by decide +kernel
theorem dX12_closeRow_35 : decode cX12_closeRow 35 = .ok (.aload_n 0, 1) := by decide +kernel
theorem dX12_closeRow_36 : decode cX12_closeRow 36 = .ok (.getfield 125, 3) := by decide +kernel
theorem dX12_closeRow_39 : decode cX12_closeRow 39 = .ok (.aload_n 0, 1) := by decide +kernel
theorem dX12_closeRow_40 : decode cX12_closeRow 40 = .ok (.getfield 329, 3) := by decide +kernel
theorem dX12_closeRow_43 : decode cX12_closeRow 43 = .ok (.iaload, 1) := by decide +kernel
theorem dX12_closeRow_44 : decode cX12_closeRow 44 = .ok (.iastore, 1) := by decide +kernel
theorem dX12_closeRow_45 : decode cX12_closeRow 45 = .ok (.aload_n 0, 1) := by decide +kernel
theorem dX12_closeRow_46 : decode cX12_closeRow 46 = .ok (.getfield 104, 3) := by decide +kernel
theorem dX12_closeRow_49 : decode cX12_closeRow 49 = .ok (.iload_n 1, 1) := by decide +kernel
theorem dX12_closeRow_50 : decode cX12_closeRow 50 = .ok (.aload_n 0, 1) := by decide +kernel
theorem dX12_closeRow_51 : decode cX12_closeRow 51 = .ok (.getfield 131, 3) := by decide +kernel
theorem dX12_closeRow_54 : decode cX12_closeRow 54 = .ok (.aload_n 0, 1) := by decide +kernel
theorem dX12_closeRow_55 : decode cX12_closeRow 55 = .ok (.getfield 329, 3) := by decide +kernel
theorem dX12_closeRow_58 : decode cX12_closeRow 58 = .ok (.iaload, 1) := by decide +kernel
theorem dX12_closeRow_59 : decode cX12_closeRow 59 = .ok (.iastore, 1) := by decide +kernel
theorem dX12_closeRow_60 : decode cX12_closeRow 60 = .ok (.aload_n 0, 1) := by decide +kernel
theorem dX12_closeRow_61 : decode cX12_closeRow 61 = .ok (.getfield 140, 3) := by decide +kernel
theorem dX12_closeRow_64 : decode cX12_closeRow 64 = .ok (.aload_n 0, 1) := by decide +kernel
theorem dX12_closeRow_65 : decode cX12_closeRow 65 = .ok (.getfield 329, 3) := by decide +kernel
theorem dX12_closeRow_68 : decode cX12_closeRow 68 = .ok (.iaload, 1) := by decide +kernel
theorem dX12_closeRow_69 : decode cX12_closeRow 69 = .ok (.ifCond .ne 16, 3) := by decide +kernel
theorem dX12_closeRow_72 : decode cX12_closeRow 72 = .ok (.aload_n 0, 1) := by decide +kernel
theorem dX12_closeRow_73 : decode cX12_closeRow 73 = .ok (.getfield 134, 3) := by decide +kernel
theorem dX12_closeRow_76 : decode cX12_closeRow 76 = .ok (.aload_n 0, 1) := by decide +kernel
theorem dX12_closeRow_77 : decode cX12_closeRow 77 = .ok (.getfield 329, 3) := by decide +kernel
theorem dX12_closeRow_80 : decode cX12_closeRow 80 = .ok (.iload_n 1, 1) := by decide +kernel
theorem dX12_closeRow_81 : decode cX12_closeRow 81 = .ok (.iastore, 1) := by decide +kernel
theorem dX12_closeRow_82 : decode cX12_closeRow 82 = .ok (.goto 18, 3) := by decide +kernel
theorem dX12_closeRow_100 : decode cX12_closeRow 100 = .ok (.aload_n 0, 1) := by decide +kernel
theorem dX12_closeRow_101 : decode cX12_closeRow 101 = .ok (.getfield 137, 3) := by decide +kernel
theorem dX12_closeRow_104 : decode cX12_closeRow 104 = .ok (.aload_n 0, 1) := by decide +kernel
theorem dX12_closeRow_105 : decode cX12_closeRow 105 = .ok (.getfield 329, 3) := by decide +kernel
theorem dX12_closeRow_108 : decode cX12_closeRow 108 = .ok (.iload_n 1, 1) := by decide +kernel
theorem dX12_closeRow_109 : decode cX12_closeRow 109 = .ok (.iastore, 1) := by decide +kernel
theorem dX12_closeRow_110 : decode cX12_closeRow 110 = .ok (.aload_n 0, 1) := by decide +kernel
theorem dX12_closeRow_111 : decode cX12_closeRow 111 = .ok (.getfield 140, 3) := by decide +kernel
theorem dX12_closeRow_114 : decode cX12_closeRow 114 = .ok (.aload_n 0, 1) := by decide +kernel
theorem dX12_closeRow_115 : decode cX12_closeRow 115 = .ok (.getfield 329, 3) := by decide +kernel
theorem dX12_closeRow_118 : decode cX12_closeRow 118 = .ok (.dup2, 1) := by decide +kernel
theorem dX12_closeRow_119 : decode cX12_closeRow 119 = .ok (.iaload, 1) := by decide +kernel
theorem dX12_closeRow_120 : decode cX12_closeRow 120 = .ok (.iconst 1, 1) := by decide +kernel
theorem dX12_closeRow_121 : decode cX12_closeRow 121 = .ok (.iadd, 1) := by decide +kernel
theorem dX12_closeRow_122 : decode cX12_closeRow 122 = .ok (.iastore, 1) := by decide +kernel
theorem dX12_closeRow_123 : decode cX12_closeRow 123 = .ok (.aload_n 0, 1) := by decide +kernel
theorem dX12_closeRow_124 : decode cX12_closeRow 124 = .ok (.invokevirtual 332, 3) := by decide +kernel
theorem dX12_closeRow_127 : decode cX12_closeRow 127 = .ok (.return_, 1) := by decide +kernel
theorem dX12_compare_0 : decode cX12_compare 0 = .ok (.aload_n 0, 1) := by decide +kernel
theorem dX12_compare_1 : decode cX12_compare 1 = .ok (.iconst 0, 1) := by decide +kernel
theorem dX12_compare_2 : decode cX12_compare 2 = .ok (.putfield 1, 3) := by decide +kernel
theorem dX12_compare_5 : decode cX12_compare 5 = .ok (.aload_n 0, 1) := by decide +kernel
theorem dX12_compare_6 : decode cX12_compare 6 = .ok (.iload_n 1, 1) := by decide +kernel
theorem dX12_compare_7 : decode cX12_compare 7 = .ok (.invokevirtual 459, 3) := by decide +kernel
theorem dX12_compare_10 : decode cX12_compare 10 = .ok (.ifCond .ne 11, 3) := by decide +kernel
theorem dX12_compare_21 : decode cX12_compare 21 = .ok (.bipush (-2), 2) := by decide +kernel
theorem dX12_compare_23 : decode cX12_compare 23 = .ok (.ireturn, 1) := by decide +kernel
theorem dX12_dead_0 : decode cX12_dead 0 = .ok (.aload_n 0, 1) := by decide +kernel
theorem dX12_dead_1 : decode cX12_dead 1 = .ok (.iconst 0, 1) := by decide +kernel
theorem dX12_dead_2 : decode cX12_dead 2 = .ok (.putfield 1, 3) := by decide +kernel
theorem dX12_dead_5 : decode cX12_dead 5 = .ok (.aload_n 0, 1) := by decide +kernel
theorem dX12_dead_6 : decode cX12_dead 6 = .ok (.iload_n 1, 1) := by decide +kernel
theorem dX12_dead_7 : decode cX12_dead 7 = .ok (.invokevirtual 459, 3) := by decide +kernel
theorem dX12_dead_10 : decode cX12_dead 10 = .ok (.ifCond .eq 6, 3) := by decide +kernel
theorem dX12_dead_13 : decode cX12_dead 13 = .ok (.bipush (-2), 2) := by decide +kernel
theorem dX12_dead_15 : decode cX12_dead 15 = .ok (.ireturn, 1) := by decide +kernel
theorem dX12_drop_0 : decode cX12_drop 0 = .ok (.aload_n 0, 1) := by decide +kernel
theorem dX12_drop_1 : decode cX12_drop 1 = .ok (.iconst 0, 1) := by decide +kernel
theorem dX12_drop_2 : decode cX12_drop 2 = .ok (.putfield 1, 3) := by decide +kernel
theorem dX12_drop_5 : decode cX12_drop 5 = .ok (.aload_n 0, 1) := by decide +kernel
theorem dX12_drop_6 : decode cX12_drop 6 = .ok (.iload_n 1, 1) := by decide +kernel
theorem dX12_drop_7 : decode cX12_drop 7 = .ok (.invokevirtual 542, 3) := by decide +kernel
theorem dX12_drop_10 : decode cX12_drop 10 = .ok (.istore_n 2, 1) := by decide +kernel
theorem dX12_drop_11 : decode cX12_drop 11 = .ok (.iload_n 2, 1) := by decide +kernel
theorem dX12_drop_12 : decode cX12_drop 12 = .ok (.ifCond .eq 5, 3) := by decide +kernel
theorem dX12_drop_15 : decode cX12_drop 15 = .ok (.iload_n 2, 1) := by decide +kernel
theorem dX12_drop_16 : decode cX12_drop 16 = .ok (.ireturn, 1) := by decide +kernel
theorem dX12_find_0 : decode cX12_find 0 = .ok (.aload_n 0, 1) := by decide +kernel
theorem dX12_find_1 : decode cX12_find 1 = .ok (.iconst 0, 1) := by decide +kernel
theorem dX12_find_2 : decode cX12_find 2 = .ok (.putfield 1, 3) := by decide +kernel
theorem dX12_find_5 : decode cX12_find 5 = .ok (.aload_n 0, 1) := by decide +kernel
theorem dX12_find_6 : decode cX12_find 6 = .ok (.iload_n 1, 1) := by decide +kernel
theorem dX12_find_7 : decode cX12_find 7 = .ok (.iload_n 2, 1) := by decide +kernel
theorem dX12_find_8 : decode cX12_find 8 = .ok (.invokevirtual 687, 3) := by decide +kernel
theorem dX12_find_11 : decode cX12_find 11 = .ok (.istore 6, 2) := by decide +kernel
theorem dX12_find_13 : decode cX12_find 13 = .ok (.iload 6, 2) := by decide +kernel
theorem dX12_find_15 : decode cX12_find 15 = .ok (.ifCond .eq 6, 3) := by decide +kernel
theorem dX12_find_18 : decode cX12_find 18 = .ok (.iload 6, 2) := by decide +kernel
theorem dX12_find_20 : decode cX12_find 20 = .ok (.ireturn, 1) := by decide +kernel
theorem dX12_finding_0 : decode cX12_finding 0 = .ok (.aload_n 0, 1) := by decide +kernel
theorem dX12_finding_1 : decode cX12_finding 1 = .ok (.iconst 0, 1) := by decide +kernel
theorem dX12_finding_2 : decode cX12_finding 2 = .ok (.putfield 1, 3) := by decide +kernel
theorem dX12_finding_5 : decode cX12_finding 5 = .ok (.aload_n 0, 1) := by decide +kernel
theorem dX12_finding_6 : decode cX12_finding 6 = .ok (.getfield 456, 3) := by decide +kernel
theorem dX12_finding_9 : decode cX12_finding 9 = .ok (.ireturn, 1) := by decide +kernel
theorem dX12_forget_0 : decode cX12_forget 0 = .ok (.aload_n 0, 1) := by decide +kernel
theorem dX12_forget_1 : decode cX12_forget 1 = .ok (.iconst 0, 1) := by decide +kernel
