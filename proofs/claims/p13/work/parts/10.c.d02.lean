theorem dX11_refusalOfSome_71 : decode cX11_refusalOfSome 71 = .ok (.iload_n 3, 1) := by decide +kernel
theorem dX11_refusalOfSome_72 : decode cX11_refusalOfSome 72 = .ok (.ifCond .eq 8, 3) := by decide +kernel
theorem dX11_refusalOfSome_75 : decode cX11_refusalOfSome 75 = .ok (.bipush (-7), 2) := by decide +kernel
theorem dX11_refusalOfSome_77 : decode cX11_refusalOfSome 77 = .ok (.goto 4, 3) := by decide +kernel
theorem dX11_refusalOfSome_80 : decode cX11_refusalOfSome 80 = .ok (.iconst 0, 1) := by decide +kernel
theorem dX11_refusalOfSome_81 : decode cX11_refusalOfSome 81 = .ok (.ireturn, 1) := by decide +kernel
theorem dX11_refusalOfSubject_0 : decode cX11_refusalOfSubject 0 = .ok (.iload_n 1, 1) := by decide +kernel
theorem dX11_refusalOfSubject_1 : decode cX11_refusalOfSubject 1 = .ok (.invokestatic 202, 3) := by decide +kernel
theorem dX11_refusalOfSubject_4 : decode cX11_refusalOfSubject 4 = .ok (.ifCond .ne 6, 3) := by decide +kernel
theorem dX11_refusalOfSubject_7 : decode cX11_refusalOfSubject 7 = .ok (.bipush (-2), 2) := by decide +kernel
theorem dX11_refusalOfSubject_9 : decode cX11_refusalOfSubject 9 = .ok (.ireturn, 1) := by decide +kernel
theorem dX11_refusalOfSubject_10 : decode cX11_refusalOfSubject 10 = .ok (.aload_n 0, 1) := by decide +kernel
theorem dX11_refusalOfSubject_11 : decode cX11_refusalOfSubject 11 = .ok (.iconst 2, 1) := by decide +kernel
theorem dX11_refusalOfSubject_12 : decode cX11_refusalOfSubject 12 = .ok (.putfield 146, 3) := by decide +kernel
theorem dX11_refusalOfSubject_15 : decode cX11_refusalOfSubject 15 = .ok (.bipush (-3), 2) := by decide +kernel
theorem dX11_refusalOfSubject_17 : decode cX11_refusalOfSubject 17 = .ok (.ireturn, 1) := by decide +kernel
theorem dX11_risky_0 : decode cX11_risky 0 = .ok (.aload_n 0, 1) := by decide +kernel
theorem dX11_risky_1 : decode cX11_risky 1 = .ok (.iload_n 1, 1) := by decide +kernel
theorem dX11_risky_2 : decode cX11_risky 2 = .ok (.invokevirtual 128, 3) := by decide +kernel
theorem dX11_risky_5 : decode cX11_risky 5 = .ok (.astore_n 2, 1) := by decide +kernel
theorem dX11_risky_6 : decode cX11_risky 6 = .ok (.aload_n 2, 1) := by decide +kernel
theorem dX11_risky_7 : decode cX11_risky 7 = .ok (.ifnonnull 6, 3) := by decide +kernel
theorem dX11_risky_10 : decode cX11_risky 10 = .ok (.bipush (-2), 2) := by decide +kernel
theorem dX11_risky_12 : decode cX11_risky 12 = .ok (.ireturn, 1) := by decide +kernel
theorem dX11_risky_13 : decode cX11_risky 13 = .ok (.aload_n 0, 1) := by decide +kernel
theorem dX11_risky_14 : decode cX11_risky 14 = .ok (.getfield 71, 3) := by decide +kernel
theorem dX11_risky_17 : decode cX11_risky 17 = .ok (.getfield 185, 3) := by decide +kernel
theorem dX11_risky_20 : decode cX11_risky 20 = .ok (.aload_n 2, 1) := by decide +kernel
theorem dX11_risky_21 : decode cX11_risky 21 = .ok (.aconst_null, 1) := by decide +kernel
theorem dX11_risky_22 : decode cX11_risky 22 = .ok (.invokevirtual 189, 3) := by decide +kernel
theorem dX11_risky_25 : decode cX11_risky 25 = .ok (.aload_n 2, 1) := by decide +kernel
theorem dX11_risky_26 : decode cX11_risky 26 = .ok (.aload_n 0, 1) := by decide +kernel
theorem dX11_risky_27 : decode cX11_risky 27 = .ok (.getfield 71, 3) := by decide +kernel
theorem dX11_risky_30 : decode cX11_risky 30 = .ok (.getfield 185, 3) := by decide +kernel
theorem dX11_risky_33 : decode cX11_risky 33 = .ok (.invokevirtual 195, 3) := by decide +kernel
theorem dX11_risky_36 : decode cX11_risky 36 = .ok (.ireturn, 1) := by decide +kernel
theorem dX11_sortThatTells_0 : decode cX11_sortThatTells 0 = .ok (.iload_n 0, 1) := by decide +kernel
theorem dX11_sortThatTells_1 : decode cX11_sortThatTells 1 = .ok (.tableswitch 53 10 15 #[39, 41, 43, 45, 47, 50], 39) := by decide +kernel
theorem dX11_sortThatTells_40 : decode cX11_sortThatTells 40 = .ok (.iconst 0, 1) := by decide +kernel
theorem dX11_sortThatTells_41 : decode cX11_sortThatTells 41 = .ok (.ireturn, 1) := by decide +kernel
theorem dX11_sortThatTells_42 : decode cX11_sortThatTells 42 = .ok (.iconst 2, 1) := by decide +kernel
theorem dX11_sortThatTells_43 : decode cX11_sortThatTells 43 = .ok (.ireturn, 1) := by decide +kernel
theorem dX11_sortThatTells_44 : decode cX11_sortThatTells 44 = .ok (.iconst 3, 1) := by decide +kernel
theorem dX11_sortThatTells_45 : decode cX11_sortThatTells 45 = .ok (.ireturn, 1) := by decide +kernel
theorem dX11_sortThatTells_46 : decode cX11_sortThatTells 46 = .ok (.iconst 4, 1) := by decide +kernel
theorem dX11_sortThatTells_47 : decode cX11_sortThatTells 47 = .ok (.ireturn, 1) := by decide +kernel
theorem dX11_sortThatTells_48 : decode cX11_sortThatTells 48 = .ok (.bipush 8, 2) := by decide +kernel
theorem dX11_sortThatTells_50 : decode cX11_sortThatTells 50 = .ok (.ireturn, 1) := by decide +kernel
theorem dX11_sortThatTells_51 : decode cX11_sortThatTells 51 = .ok (.bipush 9, 2) := by decide +kernel
theorem dX11_sortThatTells_53 : decode cX11_sortThatTells 53 = .ok (.ireturn, 1) := by decide +kernel
theorem dX11_sortThatTells_54 : decode cX11_sortThatTells 54 = .ok (.bipush 7, 2) := by decide +kernel
theorem dX11_sortThatTells_56 : decode cX11_sortThatTells 56 = .ok (.ireturn, 1) := by decide +kernel
theorem dX11_span_0 : decode cX11_span 0 = .ok (.aload_n 0, 1) := by decide +kernel
theorem dX11_span_1 : decode cX11_span 1 = .ok (.getfield 37, 3) := by decide +kernel
theorem dX11_span_4 : decode cX11_span 4 = .ok (.getfield 96, 3) := by decide +kernel
theorem dX11_span_7 : decode cX11_span 7 = .ok (.ifCond .ne 6, 3) := by decide +kernel
theorem dX11_span_10 : decode cX11_span 10 = .ok (.bipush (-2), 2) := by decide +kernel
theorem dX11_span_12 : decode cX11_span 12 = .ok (.ireturn, 1) := by decide +kernel
theorem dX11_span_13 : decode cX11_span 13 = .ok (.iload_n 1, 1) := by decide +kernel
theorem dX11_span_14 : decode cX11_span 14 = .ok (.ifCond .lt 11, 3) := by decide +kernel
theorem dX11_span_17 : decode cX11_span 17 = .ok (.iload_n 1, 1) := by decide +kernel
theorem dX11_span_18 : decode cX11_span 18 = .ok (.aload_n 0, 1) := by decide +kernel
theorem dX11_span_19 : decode cX11_span 19 = .ok (.invokevirtual 255, 3) := by decide +kernel
theorem dX11_span_22 : decode cX11_span 22 = .ok (.if_icmp .le 11, 3) := by decide +kernel
theorem dX11_span_25 : decode cX11_span 25 = .ok (.aload_n 0, 1) := by decide +kernel
theorem dX11_span_26 : decode cX11_span 26 = .ok (.iconst 1, 1) := by decide +kernel
theorem dX11_span_27 : decode cX11_span 27 = .ok (.putfield 146, 3) := by decide +kernel
theorem dX11_span_30 : decode cX11_span 30 = .ok (.bipush (-4), 2) := by decide +kernel
theorem dX11_span_32 : decode cX11_span 32 = .ok (.ireturn, 1) := by decide +kernel
theorem dX11_span_33 : decode cX11_span 33 = .ok (.aload_n 0, 1) := by decide +kernel
theorem dX11_span_34 : decode cX11_span 34 = .ok (.getfield 37, 3) := by decide +kernel
theorem dX11_span_37 : decode cX11_span 37 = .ok (.iload_n 2, 1) := by decide +kernel
theorem dX11_span_38 : decode cX11_span 38 = .ok (.ifCond .eq 11, 3) := by decide +kernel
theorem dX11_span_41 : decode cX11_span 41 = .ok (.iconst 2, 1) := by decide +kernel
theorem dX11_span_42 : decode cX11_span 42 = .ok (.iload_n 1, 1) := by decide +kernel
theorem dX11_span_43 : decode cX11_span 43 = .ok (.imul, 1) := by decide +kernel
theorem dX11_span_44 : decode cX11_span 44 = .ok (.iconst 1, 1) := by decide +kernel
theorem dX11_span_45 : decode cX11_span 45 = .ok (.iadd, 1) := by decide +kernel
theorem dX11_span_46 : decode cX11_span 46 = .ok (.goto 6, 3) := by decide +kernel
theorem dX11_span_49 : decode cX11_span 49 = .ok (.iconst 2, 1) := by decide +kernel
theorem dX11_span_50 : decode cX11_span 50 = .ok (.iload_n 1, 1) := by decide +kernel
theorem dX11_span_51 : decode cX11_span 51 = .ok (.imul, 1) := by decide +kernel
theorem dX11_span_52 : decode cX11_span 52 = .ok (.invokevirtual 222, 3) := by decide +kernel
theorem dX11_span_55 : decode cX11_span 55 = .ok (.ireturn, 1) := by decide +kernel
theorem dX11_steps_0 : decode cX11_steps 0 = .ok (.aload_n 0, 1) := by decide +kernel
theorem dX11_steps_1 : decode cX11_steps 1 = .ok (.getfield 249, 3) := by decide +kernel
theorem dX11_steps_4 : decode cX11_steps 4 = .ok (.ireturn, 1) := by decide +kernel
theorem dX11_subjectAt_0 : decode cX11_subjectAt 0 = .ok (.iload_n 1, 1) := by decide +kernel
theorem dX11_subjectAt_1 : decode cX11_subjectAt 1 = .ok (.invokestatic 202, 3) := by decide +kernel
theorem dX11_subjectAt_4 : decode cX11_subjectAt 4 = .ok (.ifCond .eq 24, 3) := by decide +kernel
theorem dX11_subjectAt_7 : decode cX11_subjectAt 7 = .ok (.aload_n 0, 1) := by decide +kernel
theorem dX11_subjectAt_8 : decode cX11_subjectAt 8 = .ok (.getfield 24, 3) := by decide +kernel
theorem dX11_subjectAt_11 : decode cX11_subjectAt 11 = .ok (.iload_n 1, 1) := by decide +kernel
theorem dX11_subjectAt_12 : decode cX11_subjectAt 12 = .ok (.aaload, 1) := by decide +kernel
theorem dX11_subjectAt_13 : decode cX11_subjectAt 13 = .ok (.getfield 205, 3) := by decide +kernel
theorem dX11_subjectAt_16 : decode cX11_subjectAt 16 = .ok (.ifCond .eq 12, 3) := by decide +kernel
theorem dX11_subjectAt_19 : decode cX11_subjectAt 19 = .ok (.aload_n 0, 1) := by decide +kernel
theorem dX11_subjectAt_20 : decode cX11_subjectAt 20 = .ok (.getfield 24, 3) := by decide +kernel
theorem dX11_subjectAt_23 : decode cX11_subjectAt 23 = .ok (.iload_n 1, 1) := by decide +kernel
theorem dX11_subjectAt_24 : decode cX11_subjectAt 24 = .ok (.aaload, 1) := by decide +kernel
theorem dX11_subjectAt_25 : decode cX11_subjectAt 25 = .ok (.goto 4, 3) := by decide +kernel
theorem dX11_subjectAt_28 : decode cX11_subjectAt 28 = .ok (.aconst_null, 1) := by decide +kernel
theorem dX11_subjectAt_29 : decode cX11_subjectAt 29 = .ok (.areturn, 1) := by decide +kernel
theorem dX11_subjectsThere_0 : decode cX11_subjectsThere 0 = .ok (.iconst 0, 1) := by decide +kernel
theorem dX11_subjectsThere_1 : decode cX11_subjectsThere 1 = .ok (.istore_n 1, 1) := by decide +kernel
theorem dX11_subjectsThere_2 : decode cX11_subjectsThere 2 = .ok (.iconst 0, 1) := by decide +kernel
theorem dX11_subjectsThere_3 : decode cX11_subjectsThere 3 = .ok (.istore_n 2, 1) := by decide +kernel
theorem dX11_subjectsThere_4 : decode cX11_subjectsThere 4 = .ok (.iload_n 2, 1) := by decide +kernel
theorem dX11_subjectsThere_5 : decode cX11_subjectsThere 5 = .ok (.aload_n 0, 1) := by decide +kernel
theorem dX11_subjectsThere_6 : decode cX11_subjectsThere 6 = .ok (.getfield 24, 3) := by decide +kernel
theorem dX11_subjectsThere_9 : decode cX11_subjectsThere 9 = .ok (.arraylength, 1) := by decide +kernel
theorem dX11_subjectsThere_10 : decode cX11_subjectsThere 10 = .ok (.if_icmp .ge 29, 3) := by decide +kernel
theorem dX11_subjectsThere_13 : decode cX11_subjectsThere 13 = .ok (.iload_n 1, 1) := by decide +kernel
theorem dX11_subjectsThere_14 : decode cX11_subjectsThere 14 = .ok (.aload_n 0, 1) := by decide +kernel
theorem dX11_subjectsThere_15 : decode cX11_subjectsThere 15 = .ok (.getfield 24, 3) := by decide +kernel
theorem dX11_subjectsThere_18 : decode cX11_subjectsThere 18 = .ok (.iload_n 2, 1) := by decide +kernel
theorem dX11_subjectsThere_19 : decode cX11_subjectsThere 19 = .ok (.aaload, 1) := by decide +kernel
theorem dX11_subjectsThere_20 : decode cX11_subjectsThere 20 = .ok (.getfield 205, 3) := by decide +kernel
theorem dX11_subjectsThere_23 : decode cX11_subjectsThere 23 = .ok (.ifCond .eq 7, 3) := by decide +kernel
theorem dX11_subjectsThere_26 : decode cX11_subjectsThere 26 = .ok (.iconst 1, 1) := by decide +kernel
theorem dX11_subjectsThere_27 : decode cX11_subjectsThere 27 = .ok (.goto 4, 3) := by decide +kernel
theorem dX11_subjectsThere_30 : decode cX11_subjectsThere 30 = .ok (.iconst 0, 1) := by decide +kernel
theorem dX11_subjectsThere_31 : decode cX11_subjectsThere 31 = .ok (.iadd, 1) := by decide +kernel
theorem dX11_subjectsThere_32 : decode cX11_subjectsThere 32 = .ok (.istore_n 1, 1) := by decide +kernel
theorem dX11_subjectsThere_33 : decode cX11_subjectsThere 33 = .ok (.iinc 2 1, 3) := by decide +kernel
theorem dX11_subjectsThere_36 : decode cX11_subjectsThere 36 = .ok (.goto (-32), 3) := by decide +kernel
theorem dX11_subjectsThere_39 : decode cX11_subjectsThere 39 = .ok (.iload_n 1, 1) := by decide +kernel
theorem dX11_subjectsThere_40 : decode cX11_subjectsThere 40 = .ok (.ireturn, 1) := by decide +kernel
theorem dX11_table_0 : decode cX11_table 0 = .ok (.aload_n 0, 1) := by decide +kernel
theorem dX11_table_1 : decode cX11_table 1 = .ok (.iload_n 1, 1) := by decide +kernel
theorem dX11_table_2 : decode cX11_table 2 = .ok (.invokevirtual 128, 3) := by decide +kernel
theorem dX11_table_5 : decode cX11_table 5 = .ok (.astore_n 2, 1) := by decide +kernel
theorem dX11_table_6 : decode cX11_table 6 = .ok (.aload_n 2, 1) := by decide +kernel
theorem dX11_table_7 : decode cX11_table 7 = .ok (.ifnonnull 6, 3) := by decide +kernel
theorem dX11_table_10 : decode cX11_table 10 = .ok (.bipush (-2), 2) := by decide +kernel
theorem dX11_table_12 : decode cX11_table 12 = .ok (.ireturn, 1) := by decide +kernel
theorem dX11_table_13 : decode cX11_table 13 = .ok (.aload_n 0, 1) := by decide +kernel
theorem dX11_table_14 : decode cX11_table 14 = .ok (.aload_n 2, 1) := by decide +kernel
theorem dX11_table_15 : decode cX11_table 15 = .ok (.aconst_null, 1) := by decide +kernel
theorem dX11_table_16 : decode cX11_table 16 = .ok (.invokevirtual 283, 3) := by decide +kernel
theorem dX11_table_19 : decode cX11_table 19 = .ok (.istore_n 3, 1) := by decide +kernel
theorem dX11_table_20 : decode cX11_table 20 = .ok (.iload_n 3, 1) := by decide +kernel
theorem dX11_table_21 : decode cX11_table 21 = .ok (.ifCond .eq 7, 3) := by decide +kernel
theorem dX11_table_24 : decode cX11_table 24 = .ok (.iload_n 3, 1) := by decide +kernel
theorem dX11_table_25 : decode cX11_table 25 = .ok (.goto 13, 3) := by decide +kernel
theorem dX11_table_28 : decode cX11_table 28 = .ok (.aload_n 0, 1) := by decide +kernel
theorem dX11_table_29 : decode cX11_table 29 = .ok (.getfield 71, 3) := by decide +kernel
theorem dX11_table_32 : decode cX11_table 32 = .ok (.getfield 291, 3) := by decide +kernel
theorem dX11_table_35 : decode cX11_table 35 = .ok (.getfield 295, 3) := by decide +kernel
theorem dX11_table_38 : decode cX11_table 38 = .ok (.ireturn, 1) := by decide +kernel
theorem dX11_tapeTellsFor_0 : decode cX11_tapeTellsFor 0 = .ok (.iconst 0, 1) := by decide +kernel
theorem dX11_tapeTellsFor_1 : decode cX11_tapeTellsFor 1 = .ok (.istore_n 2, 1) := by decide +kernel
theorem dX11_tapeTellsFor_2 : decode cX11_tapeTellsFor 2 = .ok (.iload_n 2, 1) := by decide +kernel
theorem dX11_tapeTellsFor_3 : decode cX11_tapeTellsFor 3 = .ok (.aload_n 0, 1) := by decide +kernel
theorem dX11_tapeTellsFor_4 : decode cX11_tapeTellsFor 4 = .ok (.getfield 14, 3) := by decide +kernel
theorem dX11_tapeTellsFor_7 : decode cX11_tapeTellsFor 7 = .ok (.getfield 96, 3) := by decide +kernel
theorem dX11_tapeTellsFor_10 : decode cX11_tapeTellsFor 10 = .ok (.if_icmp .ge 62, 3) := by decide +kernel
theorem dX11_tapeTellsFor_13 : decode cX11_tapeTellsFor 13 = .ok (.aload_n 0, 1) := by decide +kernel
theorem dX11_tapeTellsFor_14 : decode cX11_tapeTellsFor 14 = .ok (.getfield 14, 3) := by decide +kernel
theorem dX11_tapeTellsFor_17 : decode cX11_tapeTellsFor 17 = .ok (.iload_n 2, 1) := by decide +kernel
theorem dX11_tapeTellsFor_18 : decode cX11_tapeTellsFor 18 = .ok (.invokevirtual 222, 3) := by decide +kernel
theorem dX11_tapeTellsFor_21 : decode cX11_tapeTellsFor 21 = .ok (.bipush 36, 2) := by decide +kernel
theorem dX11_tapeTellsFor_23 : decode cX11_tapeTellsFor 23 = .ok (.if_icmp .eq 6, 3) := by decide +kernel
theorem dX11_tapeTellsFor_26 : decode cX11_tapeTellsFor 26 = .ok (.goto 40, 3) := by decide +kernel
theorem dX11_tapeTellsFor_29 : decode cX11_tapeTellsFor 29 = .ok (.iinc 2 1, 3) := by decide +kernel
theorem dX11_tapeTellsFor_32 : decode cX11_tapeTellsFor 32 = .ok (.aload_n 0, 1) := by decide +kernel
theorem dX11_tapeTellsFor_33 : decode cX11_tapeTellsFor 33 = .ok (.getfield 14, 3) := by decide +kernel
theorem dX11_tapeTellsFor_36 : decode cX11_tapeTellsFor 36 = .ok (.iload_n 2, 1) := by decide +kernel
theorem dX11_tapeTellsFor_37 : decode cX11_tapeTellsFor 37 = .ok (.invokevirtual 222, 3) := by decide +kernel
theorem dX11_tapeTellsFor_40 : decode cX11_tapeTellsFor 40 = .ok (.istore_n 3, 1) := by decide +kernel
theorem dX11_tapeTellsFor_41 : decode cX11_tapeTellsFor 41 = .ok (.iload_n 3, 1) := by decide +kernel
theorem dX11_tapeTellsFor_42 : decode cX11_tapeTellsFor 42 = .ok (.iconst (-1), 1) := by decide +kernel
theorem dX11_tapeTellsFor_43 : decode cX11_tapeTellsFor 43 = .ok (.if_icmp .eq 21, 3) := by decide +kernel
theorem dX11_tapeTellsFor_46 : decode cX11_tapeTellsFor 46 = .ok (.iload_n 3, 1) := by decide +kernel
theorem dX11_tapeTellsFor_47 : decode cX11_tapeTellsFor 47 = .ok (.invokestatic 355, 3) := by decide +kernel
theorem dX11_tapeTellsFor_50 : decode cX11_tapeTellsFor 50 = .ok (.ifCond .eq 16, 3) := by decide +kernel
theorem dX11_tapeTellsFor_53 : decode cX11_tapeTellsFor 53 = .ok (.iload_n 3, 1) := by decide +kernel
theorem dX11_tapeTellsFor_54 : decode cX11_tapeTellsFor 54 = .ok (.bipush 48, 2) := by decide +kernel
theorem dX11_tapeTellsFor_56 : decode cX11_tapeTellsFor 56 = .ok (.isub, 1) := by decide +kernel
theorem dX11_tapeTellsFor_57 : decode cX11_tapeTellsFor 57 = .ok (.aload_n 1, 1) := by decide +kernel
theorem dX11_tapeTellsFor_58 : decode cX11_tapeTellsFor 58 = .ok (.getfield 358, 3) := by decide +kernel
theorem dX11_tapeTellsFor_61 : decode cX11_tapeTellsFor 61 = .ok (.if_icmp .le 5, 3) := by decide +kernel
theorem dX11_tapeTellsFor_64 : decode cX11_tapeTellsFor 64 = .ok (.iconst 0, 1) := by decide +kernel
theorem dX11_tapeTellsFor_65 : decode cX11_tapeTellsFor 65 = .ok (.ireturn, 1) := by decide +kernel
theorem dX11_tapeTellsFor_66 : decode cX11_tapeTellsFor 66 = .ok (.iinc 2 1, 3) := by decide +kernel
theorem dX11_tapeTellsFor_69 : decode cX11_tapeTellsFor 69 = .ok (.goto (-67), 3) := by decide +kernel
theorem dX11_tapeTellsFor_72 : decode cX11_tapeTellsFor 72 = .ok (.iconst 1, 1) := by decide +kernel
theorem dX11_tapeTellsFor_73 : decode cX11_tapeTellsFor 73 = .ok (.ireturn, 1) := by decide +kernel
theorem dX11_tellRow_0 : decode cX11_tellRow 0 = .ok (.aload_n 0, 1) := by decide +kernel
theorem dX11_tellRow_1 : decode cX11_tellRow 1 = .ok (.getfield 28, 3) := by decide +kernel
theorem dX11_tellRow_4 : decode cX11_tellRow 4 = .ok (.aload_n 0, 1) := by decide +kernel
theorem dX11_tellRow_5 : decode cX11_tellRow 5 = .ok (.getfield 31, 3) := by decide +kernel
theorem dX11_tellRow_8 : decode cX11_tellRow 8 = .ok (.invokevirtual 332, 3) := by decide +kernel
theorem dX11_tellRow_11 : decode cX11_tellRow 11 = .ok (.aload_n 0, 1) := by decide +kernel
theorem dX11_tellRow_12 : decode cX11_tellRow 12 = .ok (.iload_n 1, 1) := by decide +kernel
theorem dX11_tellRow_13 : decode cX11_tellRow 13 = .ok (.putfield 320, 3) := by decide +kernel
theorem dX11_tellRow_16 : decode cX11_tellRow 16 = .ok (.return_, 1) := by decide +kernel
theorem dX11_told_0 : decode cX11_told 0 = .ok (.iload_n 1, 1) := by decide +kernel
theorem dX11_told_1 : decode cX11_told 1 = .ok (.tableswitch 101 0 6 #[43, 51, 56, 61, 69, 82, 87], 43) := by decide +kernel
theorem dX11_told_44 : decode cX11_told 44 = .ok (.aload_n 0, 1) := by decide +kernel
theorem dX11_told_45 : decode cX11_told 45 = .ok (.getfield 14, 3) := by decide +kernel
theorem dX11_told_48 : decode cX11_told 48 = .ok (.getfield 96, 3) := by decide +kernel
theorem dX11_told_51 : decode cX11_told 51 = .ok (.ireturn, 1) := by decide +kernel
theorem dX11_told_52 : decode cX11_told 52 = .ok (.aload_n 0, 1) := by decide +kernel
theorem dX11_told_53 : decode cX11_told 53 = .ok (.invokevirtual 314, 3) := by decide +kernel
theorem dX11_told_56 : decode cX11_told 56 = .ok (.ireturn, 1) := by decide +kernel
theorem dX11_told_57 : decode cX11_told 57 = .ok (.aload_n 0, 1) := by decide +kernel
theorem dX11_told_58 : decode cX11_told 58 = .ok (.invokevirtual 317, 3) := by decide +kernel
theorem dX11_told_61 : decode cX11_told 61 = .ok (.ireturn, 1) := by decide +kernel
theorem dX11_told_62 : decode cX11_told 62 = .ok (.aload_n 0, 1) := by decide +kernel
theorem dX11_told_63 : decode cX11_told 63 = .ok (.getfield 28, 3) := by decide +kernel
theorem dX11_told_66 : decode cX11_told 66 = .ok (.getfield 96, 3) := by decide +kernel
theorem dX11_told_69 : decode cX11_told 69 = .ok (.ireturn, 1) := by decide +kernel
theorem dX11_told_70 : decode cX11_told 70 = .ok (.aload_n 0, 1) := by decide +kernel
theorem dX11_told_71 : decode cX11_told 71 = .ok (.getfield 320, 3) := by decide +kernel
theorem dX11_told_74 : decode cX11_told 74 = .ok (.ifCond .eq 7, 3) := by decide +kernel
theorem dX11_told_77 : decode cX11_told 77 = .ok (.iconst 1, 1) := by decide +kernel
theorem dX11_told_78 : decode cX11_told 78 = .ok (.goto 4, 3) := by decide +kernel
theorem dX11_told_81 : decode cX11_told 81 = .ok (.iconst 0, 1) := by decide +kernel
theorem dX11_told_82 : decode cX11_told 82 = .ok (.ireturn, 1) := by decide +kernel
theorem dX11_told_83 : decode cX11_told 83 = .ok (.aload_n 0, 1) := by decide +kernel
theorem dX11_told_84 : decode cX11_told 84 = .ok (.invokevirtual 255, 3) := by decide +kernel
theorem dX11_told_87 : decode cX11_told 87 = .ok (.ireturn, 1) := by decide +kernel
theorem dX11_told_88 : decode cX11_told 88 = .ok (.aload_n 0, 1) := by decide +kernel
theorem dX11_told_89 : decode cX11_told 89 = .ok (.getfield 79, 3) := by decide +kernel
theorem dX11_told_92 : decode cX11_told 92 = .ok (.iconst (-1), 1) := by decide +kernel
theorem dX11_told_93 : decode cX11_told 93 = .ok (.if_icmp .ne 7, 3) := by decide +kernel
theorem dX11_told_96 : decode cX11_told 96 = .ok (.iconst 0, 1) := by decide +kernel
theorem dX11_told_97 : decode cX11_told 97 = .ok (.goto 4, 3) := by decide +kernel
theorem dX11_told_100 : decode cX11_told 100 = .ok (.iconst 1, 1) := by decide +kernel
theorem dX11_told_101 : decode cX11_told 101 = .ok (.ireturn, 1) := by decide +kernel
theorem dX11_told_102 : decode cX11_told 102 = .ok (.bipush (-4), 2) := by decide +kernel
theorem dX11_told_104 : decode cX11_told 104 = .ok (.ireturn, 1) := by decide +kernel
