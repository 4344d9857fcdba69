theorem dX9_fillState_0 : decode cX9_fillState 0 = .ok (.iconst 0, 1) := by decide +kernel
theorem dX9_fillState_1 : decode cX9_fillState 1 = .ok (.istore_n 2, 1) := by decide +kernel
theorem dX9_fillState_2 : decode cX9_fillState 2 = .ok (.iload_n 2, 1) := by decide +kernel
theorem dX9_fillState_3 : decode cX9_fillState 3 = .ok (.aload_n 0, 1) := by decide +kernel
theorem dX9_fillState_4 : decode cX9_fillState 4 = .ok (.getfield 73, 3) := by decide +kernel
theorem dX9_fillState_7 : decode cX9_fillState 7 = .ok (.if_icmp .ge 47, 3) := by decide +kernel
theorem dX9_fillState_10 : decode cX9_fillState 10 = .ok (.aload_n 0, 1) := by decide +kernel
theorem dX9_fillState_11 : decode cX9_fillState 11 = .ok (.aload_n 0, 1) := by decide +kernel
theorem dX9_fillState_12 : decode cX9_fillState 12 = .ok (.getfield 41, 3) := by decide +kernel
theorem dX9_fillState_15 : decode cX9_fillState 15 = .ok (.iload_n 1, 1) := by decide +kernel
theorem dX9_fillState_16 : decode cX9_fillState 16 = .ok (.laload, 1) := by decide +kernel
theorem dX9_fillState_17 : decode cX9_fillState 17 = .ok (.aload_n 0, 1) := by decide +kernel
theorem dX9_fillState_18 : decode cX9_fillState 18 = .ok (.getfield 29, 3) := by decide +kernel
theorem dX9_fillState_21 : decode cX9_fillState 21 = .ok (.iload_n 2, 1) := by decide +kernel
theorem dX9_fillState_22 : decode cX9_fillState 22 = .ok (.laload, 1) := by decide +kernel
theorem dX9_fillState_23 : decode cX9_fillState 23 = .ok (.land, 1) := by decide +kernel
theorem dX9_fillState_24 : decode cX9_fillState 24 = .ok (.invokevirtual 129, 3) := by decide +kernel
theorem dX9_fillState_27 : decode cX9_fillState 27 = .ok (.istore_n 3, 1) := by decide +kernel
theorem dX9_fillState_28 : decode cX9_fillState 28 = .ok (.iload_n 3, 1) := by decide +kernel
theorem dX9_fillState_29 : decode cX9_fillState 29 = .ok (.iconst (-1), 1) := by decide +kernel
theorem dX9_fillState_30 : decode cX9_fillState 30 = .ok (.if_icmp .ne 5, 3) := by decide +kernel
theorem dX9_fillState_33 : decode cX9_fillState 33 = .ok (.iconst 0, 1) := by decide +kernel
theorem dX9_fillState_34 : decode cX9_fillState 34 = .ok (.ireturn, 1) := by decide +kernel
theorem dX9_fillState_35 : decode cX9_fillState 35 = .ok (.aload_n 0, 1) := by decide +kernel
theorem dX9_fillState_36 : decode cX9_fillState 36 = .ok (.getfield 44, 3) := by decide +kernel
theorem dX9_fillState_39 : decode cX9_fillState 39 = .ok (.iload_n 1, 1) := by decide +kernel
theorem dX9_fillState_40 : decode cX9_fillState 40 = .ok (.sipush 256, 3) := by decide +kernel
theorem dX9_fillState_43 : decode cX9_fillState 43 = .ok (.imul, 1) := by decide +kernel
theorem dX9_fillState_44 : decode cX9_fillState 44 = .ok (.iload_n 2, 1) := by decide +kernel
theorem dX9_fillState_45 : decode cX9_fillState 45 = .ok (.iadd, 1) := by decide +kernel
theorem dX9_fillState_46 : decode cX9_fillState 46 = .ok (.iload_n 3, 1) := by decide +kernel
theorem dX9_fillState_47 : decode cX9_fillState 47 = .ok (.iastore, 1) := by decide +kernel
theorem dX9_fillState_48 : decode cX9_fillState 48 = .ok (.iinc 2 1, 3) := by decide +kernel
theorem dX9_fillState_51 : decode cX9_fillState 51 = .ok (.goto (-49), 3) := by decide +kernel
theorem dX9_fillState_54 : decode cX9_fillState 54 = .ok (.iconst 1, 1) := by decide +kernel
theorem dX9_fillState_55 : decode cX9_fillState 55 = .ok (.ireturn, 1) := by decide +kernel
theorem dX9_followOf_0 : decode cX9_followOf 0 = .ok (.lconst 0, 1) := by decide +kernel
theorem dX9_followOf_1 : decode cX9_followOf 1 = .ok (.lstore_n 3, 1) := by decide +kernel
theorem dX9_followOf_2 : decode cX9_followOf 2 = .ok (.iconst 0, 1) := by decide +kernel
theorem dX9_followOf_3 : decode cX9_followOf 3 = .ok (.istore 5, 2) := by decide +kernel
theorem dX9_followOf_5 : decode cX9_followOf 5 = .ok (.iload 5, 2) := by decide +kernel
theorem dX9_followOf_7 : decode cX9_followOf 7 = .ok (.aload_n 0, 1) := by decide +kernel
theorem dX9_followOf_8 : decode cX9_followOf 8 = .ok (.getfield 79, 3) := by decide +kernel
theorem dX9_followOf_11 : decode cX9_followOf 11 = .ok (.if_icmp .ge 30, 3) := by decide +kernel
theorem dX9_followOf_14 : decode cX9_followOf 14 = .ok (.lload_n 1, 1) := by decide +kernel
theorem dX9_followOf_15 : decode cX9_followOf 15 = .ok (.iload 5, 2) := by decide +kernel
theorem dX9_followOf_17 : decode cX9_followOf 17 = .ok (.lushr, 1) := by decide +kernel
theorem dX9_followOf_18 : decode cX9_followOf 18 = .ok (.lconst 1, 1) := by decide +kernel
theorem dX9_followOf_19 : decode cX9_followOf 19 = .ok (.land, 1) := by decide +kernel
theorem dX9_followOf_20 : decode cX9_followOf 20 = .ok (.lconst 1, 1) := by decide +kernel
theorem dX9_followOf_21 : decode cX9_followOf 21 = .ok (.lcmp, 1) := by decide +kernel
theorem dX9_followOf_22 : decode cX9_followOf 22 = .ok (.ifCond .ne 13, 3) := by decide +kernel
theorem dX9_followOf_25 : decode cX9_followOf 25 = .ok (.lload_n 3, 1) := by decide +kernel
theorem dX9_followOf_26 : decode cX9_followOf 26 = .ok (.aload_n 0, 1) := by decide +kernel
theorem dX9_followOf_27 : decode cX9_followOf 27 = .ok (.getfield 25, 3) := by decide +kernel
theorem dX9_followOf_30 : decode cX9_followOf 30 = .ok (.iload 5, 2) := by decide +kernel
theorem dX9_followOf_32 : decode cX9_followOf 32 = .ok (.laload, 1) := by decide +kernel
theorem dX9_followOf_33 : decode cX9_followOf 33 = .ok (.lor, 1) := by decide +kernel
theorem dX9_followOf_34 : decode cX9_followOf 34 = .ok (.lstore_n 3, 1) := by decide +kernel
theorem dX9_followOf_35 : decode cX9_followOf 35 = .ok (.iinc 5 1, 3) := by decide +kernel
theorem dX9_followOf_38 : decode cX9_followOf 38 = .ok (.goto (-33), 3) := by decide +kernel
theorem dX9_followOf_41 : decode cX9_followOf 41 = .ok (.lload_n 3, 1) := by decide +kernel
theorem dX9_followOf_42 : decode cX9_followOf 42 = .ok (.lreturn, 1) := by decide +kernel
theorem dX9_groupOf_0 : decode cX9_groupOf 0 = .ok (.iload_n 1, 1) := by decide +kernel
theorem dX9_groupOf_1 : decode cX9_groupOf 1 = .ok (.ifCond .lt 18, 3) := by decide +kernel
theorem dX9_groupOf_4 : decode cX9_groupOf 4 = .ok (.iload_n 1, 1) := by decide +kernel
theorem dX9_groupOf_5 : decode cX9_groupOf 5 = .ok (.bipush 60, 2) := by decide +kernel
theorem dX9_groupOf_7 : decode cX9_groupOf 7 = .ok (.if_icmp .ge 12, 3) := by decide +kernel
theorem dX9_groupOf_10 : decode cX9_groupOf 10 = .ok (.aload_n 0, 1) := by decide +kernel
theorem dX9_groupOf_11 : decode cX9_groupOf 11 = .ok (.getfield 51, 3) := by decide +kernel
theorem dX9_groupOf_14 : decode cX9_groupOf 14 = .ok (.iload_n 1, 1) := by decide +kernel
theorem dX9_groupOf_15 : decode cX9_groupOf 15 = .ok (.iaload, 1) := by decide +kernel
theorem dX9_groupOf_16 : decode cX9_groupOf 16 = .ok (.goto 4, 3) := by decide +kernel
theorem dX9_groupOf_19 : decode cX9_groupOf 19 = .ok (.iconst (-1), 1) := by decide +kernel
theorem dX9_groupOf_20 : decode cX9_groupOf 20 = .ok (.ireturn, 1) := by decide +kernel
theorem dX9_leadsToLive_0 : decode cX9_leadsToLive 0 = .ok (.iconst 0, 1) := by decide +kernel
theorem dX9_leadsToLive_1 : decode cX9_leadsToLive 1 = .ok (.istore_n 2, 1) := by decide +kernel
theorem dX9_leadsToLive_2 : decode cX9_leadsToLive 2 = .ok (.iload_n 2, 1) := by decide +kernel
theorem dX9_leadsToLive_3 : decode cX9_leadsToLive 3 = .ok (.aload_n 0, 1) := by decide +kernel
theorem dX9_leadsToLive_4 : decode cX9_leadsToLive 4 = .ok (.getfield 73, 3) := by decide +kernel
theorem dX9_leadsToLive_7 : decode cX9_leadsToLive 7 = .ok (.if_icmp .ge 37, 3) := by decide +kernel
theorem dX9_leadsToLive_10 : decode cX9_leadsToLive 10 = .ok (.aload_n 0, 1) := by decide +kernel
theorem dX9_leadsToLive_11 : decode cX9_leadsToLive 11 = .ok (.iload_n 1, 1) := by decide +kernel
theorem dX9_leadsToLive_12 : decode cX9_leadsToLive 12 = .ok (.iload_n 2, 1) := by decide +kernel
theorem dX9_leadsToLive_13 : decode cX9_leadsToLive 13 = .ok (.invokevirtual 149, 3) := by decide +kernel
theorem dX9_leadsToLive_16 : decode cX9_leadsToLive 16 = .ok (.istore_n 3, 1) := by decide +kernel
theorem dX9_leadsToLive_17 : decode cX9_leadsToLive 17 = .ok (.iload_n 3, 1) := by decide +kernel
theorem dX9_leadsToLive_18 : decode cX9_leadsToLive 18 = .ok (.ifCond .lt 20, 3) := by decide +kernel
theorem dX9_leadsToLive_21 : decode cX9_leadsToLive 21 = .ok (.iload_n 3, 1) := by decide +kernel
theorem dX9_leadsToLive_22 : decode cX9_leadsToLive 22 = .ok (.bipush 60, 2) := by decide +kernel
theorem dX9_leadsToLive_24 : decode cX9_leadsToLive 24 = .ok (.if_icmp .ge 14, 3) := by decide +kernel
theorem dX9_leadsToLive_27 : decode cX9_leadsToLive 27 = .ok (.aload_n 0, 1) := by decide +kernel
theorem dX9_leadsToLive_28 : decode cX9_leadsToLive 28 = .ok (.getfield 47, 3) := by decide +kernel
theorem dX9_leadsToLive_31 : decode cX9_leadsToLive 31 = .ok (.iload_n 3, 1) := by decide +kernel
theorem dX9_leadsToLive_32 : decode cX9_leadsToLive 32 = .ok (.baload, 1) := by decide +kernel
theorem dX9_leadsToLive_33 : decode cX9_leadsToLive 33 = .ok (.ifCond .eq 5, 3) := by decide +kernel
theorem dX9_leadsToLive_36 : decode cX9_leadsToLive 36 = .ok (.iconst 1, 1) := by decide +kernel
theorem dX9_leadsToLive_37 : decode cX9_leadsToLive 37 = .ok (.ireturn, 1) := by decide +kernel
theorem dX9_leadsToLive_38 : decode cX9_leadsToLive 38 = .ok (.iinc 2 1, 3) := by decide +kernel
theorem dX9_leadsToLive_41 : decode cX9_leadsToLive 41 = .ok (.goto (-39), 3) := by decide +kernel
theorem dX9_leadsToLive_44 : decode cX9_leadsToLive 44 = .ok (.iconst 0, 1) := by decide +kernel
theorem dX9_leadsToLive_45 : decode cX9_leadsToLive 45 = .ok (.ireturn, 1) := by decide +kernel
theorem dX9_longestBeginning_0 : decode cX9_longestBeginning 0 = .ok (.aload_n 0, 1) := by decide +kernel
theorem dX9_longestBeginning_1 : decode cX9_longestBeginning 1 = .ok (.invokevirtual 137, 3) := by decide +kernel
theorem dX9_longestBeginning_4 : decode cX9_longestBeginning 4 = .ok (.aload_n 0, 1) := by decide +kernel
theorem dX9_longestBeginning_5 : decode cX9_longestBeginning 5 = .ok (.getfield 47, 3) := by decide +kernel
theorem dX9_longestBeginning_8 : decode cX9_longestBeginning 8 = .ok (.iconst 0, 1) := by decide +kernel
theorem dX9_longestBeginning_9 : decode cX9_longestBeginning 9 = .ok (.baload, 1) := by decide +kernel
theorem dX9_longestBeginning_10 : decode cX9_longestBeginning 10 = .ok (.ifCond .ne 5, 3) := by decide +kernel
theorem dX9_longestBeginning_13 : decode cX9_longestBeginning 13 = .ok (.iconst (-1), 1) := by decide +kernel
theorem dX9_longestBeginning_14 : decode cX9_longestBeginning 14 = .ok (.ireturn, 1) := by decide +kernel
theorem dX9_longestBeginning_15 : decode cX9_longestBeginning 15 = .ok (.iconst 0, 1) := by decide +kernel
theorem dX9_longestBeginning_16 : decode cX9_longestBeginning 16 = .ok (.istore 4, 2) := by decide +kernel
theorem dX9_longestBeginning_18 : decode cX9_longestBeginning 18 = .ok (.iconst 0, 1) := by decide +kernel
theorem dX9_longestBeginning_19 : decode cX9_longestBeginning 19 = .ok (.istore 5, 2) := by decide +kernel
theorem dX9_longestBeginning_21 : decode cX9_longestBeginning 21 = .ok (.iload_n 3, 1) := by decide +kernel
theorem dX9_longestBeginning_22 : decode cX9_longestBeginning 22 = .ok (.istore 6, 2) := by decide +kernel
theorem dX9_longestBeginning_24 : decode cX9_longestBeginning 24 = .ok (.iload 6, 2) := by decide +kernel
theorem dX9_longestBeginning_26 : decode cX9_longestBeginning 26 = .ok (.aload_n 2, 1) := by decide +kernel
theorem dX9_longestBeginning_27 : decode cX9_longestBeginning 27 = .ok (.getfield 140, 3) := by decide +kernel
theorem dX9_longestBeginning_30 : decode cX9_longestBeginning 30 = .ok (.if_icmp .ge 55, 3) := by decide +kernel
theorem dX9_longestBeginning_33 : decode cX9_longestBeginning 33 = .ok (.aload_n 0, 1) := by decide +kernel
theorem dX9_longestBeginning_34 : decode cX9_longestBeginning 34 = .ok (.iload 4, 2) := by decide +kernel
theorem dX9_longestBeginning_36 : decode cX9_longestBeginning 36 = .ok (.aload_n 1, 1) := by decide +kernel
theorem dX9_longestBeginning_37 : decode cX9_longestBeginning 37 = .ok (.aload_n 2, 1) := by decide +kernel
theorem dX9_longestBeginning_38 : decode cX9_longestBeginning 38 = .ok (.iload 6, 2) := by decide +kernel
theorem dX9_longestBeginning_40 : decode cX9_longestBeginning 40 = .ok (.invokevirtual 143, 3) := by decide +kernel
theorem dX9_longestBeginning_43 : decode cX9_longestBeginning 43 = .ok (.invokevirtual 146, 3) := by decide +kernel
theorem dX9_longestBeginning_46 : decode cX9_longestBeginning 46 = .ok (.invokevirtual 149, 3) := by decide +kernel
theorem dX9_longestBeginning_49 : decode cX9_longestBeginning 49 = .ok (.istore 4, 2) := by decide +kernel
theorem dX9_longestBeginning_51 : decode cX9_longestBeginning 51 = .ok (.iload 4, 2) := by decide +kernel
theorem dX9_longestBeginning_53 : decode cX9_longestBeginning 53 = .ok (.ifCond .lt 32, 3) := by decide +kernel
theorem dX9_longestBeginning_56 : decode cX9_longestBeginning 56 = .ok (.iload 4, 2) := by decide +kernel
theorem dX9_longestBeginning_58 : decode cX9_longestBeginning 58 = .ok (.bipush 60, 2) := by decide +kernel
theorem dX9_longestBeginning_60 : decode cX9_longestBeginning 60 = .ok (.if_icmp .ge 25, 3) := by decide +kernel
theorem dX9_longestBeginning_63 : decode cX9_longestBeginning 63 = .ok (.aload_n 0, 1) := by decide +kernel
theorem dX9_longestBeginning_64 : decode cX9_longestBeginning 64 = .ok (.getfield 47, 3) := by decide +kernel
theorem dX9_longestBeginning_67 : decode cX9_longestBeginning 67 = .ok (.iload 4, 2) := by decide +kernel
theorem dX9_longestBeginning_69 : decode cX9_longestBeginning 69 = .ok (.baload, 1) := by decide +kernel
theorem dX9_longestBeginning_70 : decode cX9_longestBeginning 70 = .ok (.ifCond .ne 6, 3) := by decide +kernel
theorem dX9_longestBeginning_73 : decode cX9_longestBeginning 73 = .ok (.goto 12, 3) := by decide +kernel
theorem dX9_longestBeginning_76 : decode cX9_longestBeginning 76 = .ok (.iinc 5 1, 3) := by decide +kernel
theorem dX9_longestBeginning_79 : decode cX9_longestBeginning 79 = .ok (.iinc 6 1, 3) := by decide +kernel
theorem dX9_longestBeginning_82 : decode cX9_longestBeginning 82 = .ok (.goto (-58), 3) := by decide +kernel
theorem dX9_longestBeginning_85 : decode cX9_longestBeginning 85 = .ok (.iload 5, 2) := by decide +kernel
theorem dX9_longestBeginning_87 : decode cX9_longestBeginning 87 = .ok (.ireturn, 1) := by decide +kernel
theorem dX9_make_0 : decode cX9_make 0 = .ok (.aload_n 0, 1) := by decide +kernel
theorem dX9_make_1 : decode cX9_make 1 = .ok (.getfield 12, 3) := by decide +kernel
theorem dX9_make_4 : decode cX9_make 4 = .ok (.aload_n 1, 1) := by decide +kernel
theorem dX9_make_5 : decode cX9_make 5 = .ok (.invokevirtual 57, 3) := by decide +kernel
theorem dX9_make_8 : decode cX9_make 8 = .ok (.aload_n 0, 1) := by decide +kernel
theorem dX9_make_9 : decode cX9_make 9 = .ok (.sipush 256, 3) := by decide +kernel
theorem dX9_make_12 : decode cX9_make 12 = .ok (.aload_n 2, 1) := by decide +kernel
theorem dX9_make_13 : decode cX9_make 13 = .ok (.getfield 61, 3) := by decide +kernel
theorem dX9_make_16 : decode cX9_make 16 = .ok (.invokestatic 67, 3) := by decide +kernel
theorem dX9_make_19 : decode cX9_make 19 = .ok (.putfield 73, 3) := by decide +kernel
theorem dX9_make_22 : decode cX9_make 22 = .ok (.aload_n 0, 1) := by decide +kernel
theorem dX9_make_23 : decode cX9_make 23 = .ok (.invokevirtual 76, 3) := by decide +kernel
theorem dX9_make_26 : decode cX9_make 26 = .ok (.iconst 0, 1) := by decide +kernel
theorem dX9_make_27 : decode cX9_make 27 = .ok (.istore_n 3, 1) := by decide +kernel
theorem dX9_make_28 : decode cX9_make 28 = .ok (.iload_n 3, 1) := by decide +kernel
theorem dX9_make_29 : decode cX9_make 29 = .ok (.aload_n 0, 1) := by decide +kernel
theorem dX9_make_30 : decode cX9_make 30 = .ok (.getfield 79, 3) := by decide +kernel
theorem dX9_make_33 : decode cX9_make 33 = .ok (.if_icmp .ge 32, 3) := by decide +kernel
theorem dX9_make_36 : decode cX9_make 36 = .ok (.aload_n 0, 1) := by decide +kernel
theorem dX9_make_37 : decode cX9_make 37 = .ok (.getfield 25, 3) := by decide +kernel
theorem dX9_make_40 : decode cX9_make 40 = .ok (.iload_n 3, 1) := by decide +kernel
theorem dX9_make_41 : decode cX9_make 41 = .ok (.aload_n 0, 1) := by decide +kernel
theorem dX9_make_42 : decode cX9_make 42 = .ok (.aload_n 0, 1) := by decide +kernel
theorem dX9_make_43 : decode cX9_make 43 = .ok (.getfield 12, 3) := by decide +kernel
theorem dX9_make_46 : decode cX9_make 46 = .ok (.aload_n 0, 1) := by decide +kernel
theorem dX9_make_47 : decode cX9_make 47 = .ok (.getfield 22, 3) := by decide +kernel
theorem dX9_make_50 : decode cX9_make 50 = .ok (.iload_n 3, 1) := by decide +kernel
theorem dX9_make_51 : decode cX9_make 51 = .ok (.iaload, 1) := by decide +kernel
theorem dX9_make_52 : decode cX9_make 52 = .ok (.invokevirtual 82, 3) := by decide +kernel
theorem dX9_make_55 : decode cX9_make 55 = .ok (.invokevirtual 86, 3) := by decide +kernel
theorem dX9_make_58 : decode cX9_make 58 = .ok (.lastore, 1) := by decide +kernel
theorem dX9_make_59 : decode cX9_make 59 = .ok (.iinc 3 1, 3) := by decide +kernel
theorem dX9_make_62 : decode cX9_make 62 = .ok (.goto (-34), 3) := by decide +kernel
theorem dX9_make_65 : decode cX9_make 65 = .ok (.iconst 0, 1) := by decide +kernel
theorem dX9_make_66 : decode cX9_make 66 = .ok (.istore_n 3, 1) := by decide +kernel
theorem dX9_make_67 : decode cX9_make 67 = .ok (.iload_n 3, 1) := by decide +kernel
theorem dX9_make_68 : decode cX9_make 68 = .ok (.aload_n 0, 1) := by decide +kernel
theorem dX9_make_69 : decode cX9_make 69 = .ok (.getfield 73, 3) := by decide +kernel
theorem dX9_make_72 : decode cX9_make 72 = .ok (.if_icmp .ge 24, 3) := by decide +kernel
theorem dX9_make_75 : decode cX9_make 75 = .ok (.aload_n 0, 1) := by decide +kernel
theorem dX9_make_76 : decode cX9_make 76 = .ok (.getfield 29, 3) := by decide +kernel
theorem dX9_make_79 : decode cX9_make 79 = .ok (.iload_n 3, 1) := by decide +kernel
theorem dX9_make_80 : decode cX9_make 80 = .ok (.aload_n 0, 1) := by decide +kernel
theorem dX9_make_81 : decode cX9_make 81 = .ok (.aload_n 2, 1) := by decide +kernel
theorem dX9_make_82 : decode cX9_make 82 = .ok (.iload_n 3, 1) := by decide +kernel
theorem dX9_make_83 : decode cX9_make 83 = .ok (.invokevirtual 90, 3) := by decide +kernel
theorem dX9_make_86 : decode cX9_make 86 = .ok (.invokevirtual 93, 3) := by decide +kernel
theorem dX9_make_89 : decode cX9_make 89 = .ok (.lastore, 1) := by decide +kernel
theorem dX9_make_90 : decode cX9_make 90 = .ok (.iinc 3 1, 3) := by decide +kernel
theorem dX9_make_93 : decode cX9_make 93 = .ok (.goto (-26), 3) := by decide +kernel
theorem dX9_make_96 : decode cX9_make 96 = .ok (.aload_n 0, 1) := by decide +kernel
theorem dX9_make_97 : decode cX9_make 97 = .ok (.iconst 1, 1) := by decide +kernel
theorem dX9_make_98 : decode cX9_make 98 = .ok (.putfield 96, 3) := by decide +kernel
theorem dX9_make_101 : decode cX9_make 101 = .ok (.aload_n 0, 1) := by decide +kernel
theorem dX9_make_102 : decode cX9_make 102 = .ok (.getfield 38, 3) := by decide +kernel
theorem dX9_make_105 : decode cX9_make 105 = .ok (.iconst 0, 1) := by decide +kernel
theorem dX9_make_106 : decode cX9_make 106 = .ok (.lconst 0, 1) := by decide +kernel
theorem dX9_make_107 : decode cX9_make 107 = .ok (.lastore, 1) := by decide +kernel
theorem dX9_make_108 : decode cX9_make 108 = .ok (.aload_n 0, 1) := by decide +kernel
theorem dX9_make_109 : decode cX9_make 109 = .ok (.getfield 41, 3) := by decide +kernel
theorem dX9_make_112 : decode cX9_make 112 = .ok (.iconst 0, 1) := by decide +kernel
theorem dX9_make_113 : decode cX9_make 113 = .ok (.aload_n 0, 1) := by decide +kernel
theorem dX9_make_114 : decode cX9_make 114 = .ok (.aload_n 0, 1) := by decide +kernel
theorem dX9_make_115 : decode cX9_make 115 = .ok (.getfield 12, 3) := by decide +kernel
theorem dX9_make_118 : decode cX9_make 118 = .ok (.getfield 97, 3) := by decide +kernel
theorem dX9_make_121 : decode cX9_make 121 = .ok (.invokevirtual 86, 3) := by decide +kernel
theorem dX9_make_124 : decode cX9_make 124 = .ok (.lastore, 1) := by decide +kernel
theorem dX9_make_125 : decode cX9_make 125 = .ok (.iconst 1, 1) := by decide +kernel
theorem dX9_make_126 : decode cX9_make 126 = .ok (.istore_n 3, 1) := by decide +kernel
theorem dX9_make_127 : decode cX9_make 127 = .ok (.iconst 0, 1) := by decide +kernel
theorem dX9_make_128 : decode cX9_make 128 = .ok (.istore 4, 2) := by decide +kernel
theorem dX9_make_130 : decode cX9_make 130 = .ok (.iload_n 3, 1) := by decide +kernel
theorem dX9_make_131 : decode cX9_make 131 = .ok (.ifCond .eq 32, 3) := by decide +kernel
theorem dX9_make_134 : decode cX9_make 134 = .ok (.iload 4, 2) := by decide +kernel
theorem dX9_make_136 : decode cX9_make 136 = .ok (.aload_n 0, 1) := by decide +kernel
theorem dX9_make_137 : decode cX9_make 137 = .ok (.getfield 96, 3) := by decide +kernel
theorem dX9_make_140 : decode cX9_make 140 = .ok (.if_icmp .ge 23, 3) := by decide +kernel
theorem dX9_make_143 : decode cX9_make 143 = .ok (.iload 4, 2) := by decide +kernel
theorem dX9_make_145 : decode cX9_make 145 = .ok (.bipush 60, 2) := by decide +kernel
theorem dX9_make_147 : decode cX9_make 147 = .ok (.if_icmp .ge 16, 3) := by decide +kernel
theorem dX9_make_150 : decode cX9_make 150 = .ok (.aload_n 0, 1) := by decide +kernel
theorem dX9_make_151 : decode cX9_make 151 = .ok (.iload 4, 2) := by decide +kernel
theorem dX9_make_153 : decode cX9_make 153 = .ok (.invokevirtual 100, 3) := by decide +kernel
theorem dX9_make_156 : decode cX9_make 156 = .ok (.istore_n 3, 1) := by decide +kernel
theorem dX9_make_157 : decode cX9_make 157 = .ok (.iinc 4 1, 3) := by decide +kernel
theorem dX9_make_160 : decode cX9_make 160 = .ok (.goto (-30), 3) := by decide +kernel
theorem dX9_make_163 : decode cX9_make 163 = .ok (.iload_n 3, 1) := by decide +kernel
theorem dX9_make_164 : decode cX9_make 164 = .ok (.ireturn, 1) := by decide +kernel
theorem dX9_markLive_0 : decode cX9_markLive 0 = .ok (.iconst 0, 1) := by decide +kernel
theorem dX9_markLive_1 : decode cX9_markLive 1 = .ok (.istore_n 1, 1) := by decide +kernel
theorem dX9_markLive_2 : decode cX9_markLive 2 = .ok (.iload_n 1, 1) := by decide +kernel
theorem dX9_markLive_3 : decode cX9_markLive 3 = .ok (.aload_n 0, 1) := by decide +kernel
theorem dX9_markLive_4 : decode cX9_markLive 4 = .ok (.getfield 96, 3) := by decide +kernel
theorem dX9_markLive_7 : decode cX9_markLive 7 = .ok (.if_icmp .ge 20, 3) := by decide +kernel
theorem dX9_markLive_10 : decode cX9_markLive 10 = .ok (.aload_n 0, 1) := by decide +kernel
theorem dX9_markLive_11 : decode cX9_markLive 11 = .ok (.getfield 47, 3) := by decide +kernel
theorem dX9_markLive_14 : decode cX9_markLive 14 = .ok (.iload_n 1, 1) := by decide +kernel
theorem dX9_markLive_15 : decode cX9_markLive 15 = .ok (.aload_n 0, 1) := by decide +kernel
theorem dX9_markLive_16 : decode cX9_markLive 16 = .ok (.iload_n 1, 1) := by decide +kernel
theorem dX9_markLive_17 : decode cX9_markLive 17 = .ok (.invokevirtual 152, 3) := by decide +kernel
theorem dX9_markLive_20 : decode cX9_markLive 20 = .ok (.bastore, 1) := by decide +kernel
theorem dX9_markLive_21 : decode cX9_markLive 21 = .ok (.iinc 1 1, 3) := by decide +kernel
theorem dX9_markLive_24 : decode cX9_markLive 24 = .ok (.goto (-22), 3) := by decide +kernel
theorem dX9_markLive_27 : decode cX9_markLive 27 = .ok (.iconst 1, 1) := by decide +kernel
theorem dX9_markLive_28 : decode cX9_markLive 28 = .ok (.istore_n 1, 1) := by decide +kernel
theorem dX9_markLive_29 : decode cX9_markLive 29 = .ok (.iconst 0, 1) := by decide +kernel
theorem dX9_markLive_30 : decode cX9_markLive 30 = .ok (.istore_n 2, 1) := by decide +kernel
theorem dX9_markLive_31 : decode cX9_markLive 31 = .ok (.iload_n 1, 1) := by decide +kernel
theorem dX9_markLive_32 : decode cX9_markLive 32 = .ok (.ifCond .eq 61, 3) := by decide +kernel
theorem dX9_markLive_35 : decode cX9_markLive 35 = .ok (.iload_n 2, 1) := by decide +kernel
theorem dX9_markLive_36 : decode cX9_markLive 36 = .ok (.aload_n 0, 1) := by decide +kernel
theorem dX9_markLive_37 : decode cX9_markLive 37 = .ok (.getfield 96, 3) := by decide +kernel
theorem dX9_markLive_40 : decode cX9_markLive 40 = .ok (.if_icmp .ge 53, 3) := by decide +kernel
theorem dX9_markLive_43 : decode cX9_markLive 43 = .ok (.iconst 0, 1) := by decide +kernel
theorem dX9_markLive_44 : decode cX9_markLive 44 = .ok (.istore_n 1, 1) := by decide +kernel
theorem dX9_markLive_45 : decode cX9_markLive 45 = .ok (.iconst 0, 1) := by decide +kernel
theorem dX9_markLive_46 : decode cX9_markLive 46 = .ok (.istore_n 3, 1) := by decide +kernel
theorem dX9_markLive_47 : decode cX9_markLive 47 = .ok (.iload_n 3, 1) := by decide +kernel
theorem dX9_markLive_48 : decode cX9_markLive 48 = .ok (.aload_n 0, 1) := by decide +kernel
theorem dX9_markLive_49 : decode cX9_markLive 49 = .ok (.getfield 96, 3) := by decide +kernel
theorem dX9_markLive_52 : decode cX9_markLive 52 = .ok (.if_icmp .ge 35, 3) := by decide +kernel
theorem dX9_markLive_55 : decode cX9_markLive 55 = .ok (.aload_n 0, 1) := by decide +kernel
theorem dX9_markLive_56 : decode cX9_markLive 56 = .ok (.getfield 47, 3) := by decide +kernel
theorem dX9_markLive_59 : decode cX9_markLive 59 = .ok (.iload_n 3, 1) := by decide +kernel
theorem dX9_markLive_60 : decode cX9_markLive 60 = .ok (.baload, 1) := by decide +kernel
theorem dX9_markLive_61 : decode cX9_markLive 61 = .ok (.ifCond .ne 20, 3) := by decide +kernel
theorem dX9_markLive_64 : decode cX9_markLive 64 = .ok (.aload_n 0, 1) := by decide +kernel
theorem dX9_markLive_65 : decode cX9_markLive 65 = .ok (.iload_n 3, 1) := by decide +kernel
theorem dX9_markLive_66 : decode cX9_markLive 66 = .ok (.invokevirtual 155, 3) := by decide +kernel
theorem dX9_markLive_69 : decode cX9_markLive 69 = .ok (.ifCond .eq 12, 3) := by decide +kernel
theorem dX9_markLive_72 : decode cX9_markLive 72 = .ok (.aload_n 0, 1) := by decide +kernel
theorem dX9_markLive_73 : decode cX9_markLive 73 = .ok (.getfield 47, 3) := by decide +kernel
theorem dX9_markLive_76 : decode cX9_markLive 76 = .ok (.iload_n 3, 1) := by decide +kernel
theorem dX9_markLive_77 : decode cX9_markLive 77 = .ok (.iconst 1, 1) := by decide +kernel
theorem dX9_markLive_78 : decode cX9_markLive 78 = .ok (.bastore, 1) := by decide +kernel
theorem dX9_markLive_79 : decode cX9_markLive 79 = .ok (.iconst 1, 1) := by decide +kernel
theorem dX9_markLive_80 : decode cX9_markLive 80 = .ok (.istore_n 1, 1) := by decide +kernel
theorem dX9_markLive_81 : decode cX9_markLive 81 = .ok (.iinc 3 1, 3) := by decide +kernel
theorem dX9_markLive_84 : decode cX9_markLive 84 = .ok (.goto (-37), 3) := by decide +kernel
theorem dX9_markLive_87 : decode cX9_markLive 87 = .ok (.iinc 2 1, 3) := by decide +kernel
theorem dX9_markLive_90 : decode cX9_markLive 90 = .ok (.goto (-59), 3) := by decide +kernel
theorem dX9_markLive_93 : decode cX9_markLive 93 = .ok (.return_, 1) := by decide +kernel
theorem dX9_next_0 : decode cX9_next 0 = .ok (.iload_n 1, 1) := by decide +kernel
theorem dX9_next_1 : decode cX9_next 1 = .ok (.ifCond .lt 27, 3) := by decide +kernel
theorem dX9_next_4 : decode cX9_next 4 = .ok (.iload_n 1, 1) := by decide +kernel
theorem dX9_next_5 : decode cX9_next 5 = .ok (.aload_n 0, 1) := by decide +kernel
theorem dX9_next_6 : decode cX9_next 6 = .ok (.getfield 96, 3) := by decide +kernel
theorem dX9_next_9 : decode cX9_next 9 = .ok (.if_icmp .ge 19, 3) := by decide +kernel
theorem dX9_next_12 : decode cX9_next 12 = .ok (.iload_n 2, 1) := by decide +kernel
theorem dX9_next_13 : decode cX9_next 13 = .ok (.ifCond .lt 15, 3) := by decide +kernel
theorem dX9_next_16 : decode cX9_next 16 = .ok (.iload_n 2, 1) := by decide +kernel
theorem dX9_next_17 : decode cX9_next 17 = .ok (.aload_n 0, 1) := by decide +kernel
theorem dX9_next_18 : decode cX9_next 18 = .ok (.getfield 73, 3) := by decide +kernel
theorem dX9_next_21 : decode cX9_next 21 = .ok (.if_icmp .ge 7, 3) := by decide +kernel
theorem dX9_next_24 : decode cX9_next 24 = .ok (.iconst 1, 1) := by decide +kernel
theorem dX9_next_25 : decode cX9_next 25 = .ok (.goto 4, 3) := by decide +kernel
theorem dX9_next_28 : decode cX9_next 28 = .ok (.iconst 0, 1) := by decide +kernel
theorem dX9_next_29 : decode cX9_next 29 = .ok (.istore_n 3, 1) := by decide +kernel
theorem dX9_next_30 : decode cX9_next 30 = .ok (.iload_n 3, 1) := by decide +kernel
theorem dX9_next_31 : decode cX9_next 31 = .ok (.ifCond .eq 18, 3) := by decide +kernel
theorem dX9_next_34 : decode cX9_next 34 = .ok (.aload_n 0, 1) := by decide +kernel
theorem dX9_next_35 : decode cX9_next 35 = .ok (.getfield 44, 3) := by decide +kernel
theorem dX9_next_38 : decode cX9_next 38 = .ok (.iload_n 1, 1) := by decide +kernel
theorem dX9_next_39 : decode cX9_next 39 = .ok (.sipush 256, 3) := by decide +kernel
theorem dX9_next_42 : decode cX9_next 42 = .ok (.imul, 1) := by decide +kernel
theorem dX9_next_43 : decode cX9_next 43 = .ok (.iload_n 2, 1) := by decide +kernel
theorem dX9_next_44 : decode cX9_next 44 = .ok (.iadd, 1) := by decide +kernel
theorem dX9_next_45 : decode cX9_next 45 = .ok (.iaload, 1) := by decide +kernel
theorem dX9_next_46 : decode cX9_next 46 = .ok (.goto 4, 3) := by decide +kernel
theorem dX9_next_49 : decode cX9_next 49 = .ok (.iconst 0, 1) := by decide +kernel
theorem dX9_next_50 : decode cX9_next 50 = .ok (.ireturn, 1) := by decide +kernel
theorem dX9_numberPositions_0 : decode cX9_numberPositions 0 = .ok (.aload_n 0, 1) := by decide +kernel
theorem dX9_numberPositions_1 : decode cX9_numberPositions 1 = .ok (.iconst 0, 1) := by decide +kernel
theorem dX9_numberPositions_2 : decode cX9_numberPositions 2 = .ok (.putfield 79, 3) := by decide +kernel
theorem dX9_numberPositions_5 : decode cX9_numberPositions 5 = .ok (.iconst 0, 1) := by decide +kernel
theorem dX9_numberPositions_6 : decode cX9_numberPositions 6 = .ok (.istore_n 1, 1) := by decide +kernel
theorem dX9_numberPositions_7 : decode cX9_numberPositions 7 = .ok (.aload_n 0, 1) := by decide +kernel
theorem dX9_numberPositions_8 : decode cX9_numberPositions 8 = .ok (.getfield 12, 3) := by decide +kernel
theorem dX9_numberPositions_11 : decode cX9_numberPositions 11 = .ok (.iload_n 1, 1) := by decide +kernel
theorem dX9_numberPositions_12 : decode cX9_numberPositions 12 = .ok (.invokevirtual 104, 3) := by decide +kernel
theorem dX9_numberPositions_15 : decode cX9_numberPositions 15 = .ok (.ifCond .eq 59, 3) := by decide +kernel
theorem dX9_numberPositions_18 : decode cX9_numberPositions 18 = .ok (.aload_n 0, 1) := by decide +kernel
theorem dX9_numberPositions_19 : decode cX9_numberPositions 19 = .ok (.getfield 12, 3) := by decide +kernel
theorem dX9_numberPositions_22 : decode cX9_numberPositions 22 = .ok (.iload_n 1, 1) := by decide +kernel
theorem dX9_numberPositions_23 : decode cX9_numberPositions 23 = .ok (.invokevirtual 107, 3) := by decide +kernel
theorem dX9_numberPositions_26 : decode cX9_numberPositions 26 = .ok (.ifCond .ne 42, 3) := by decide +kernel
theorem dX9_numberPositions_29 : decode cX9_numberPositions 29 = .ok (.aload_n 0, 1) := by decide +kernel
theorem dX9_numberPositions_30 : decode cX9_numberPositions 30 = .ok (.getfield 79, 3) := by decide +kernel
theorem dX9_numberPositions_33 : decode cX9_numberPositions 33 = .ok (.bipush 60, 2) := by decide +kernel
theorem dX9_numberPositions_35 : decode cX9_numberPositions 35 = .ok (.if_icmp .ge 33, 3) := by decide +kernel
theorem dX9_numberPositions_38 : decode cX9_numberPositions 38 = .ok (.aload_n 0, 1) := by decide +kernel
theorem dX9_numberPositions_39 : decode cX9_numberPositions 39 = .ok (.getfield 18, 3) := by decide +kernel
theorem dX9_numberPositions_42 : decode cX9_numberPositions 42 = .ok (.iload_n 1, 1) := by decide +kernel
theorem dX9_numberPositions_43 : decode cX9_numberPositions 43 = .ok (.aload_n 0, 1) := by decide +kernel
theorem dX9_numberPositions_44 : decode cX9_numberPositions 44 = .ok (.getfield 79, 3) := by decide +kernel
theorem dX9_numberPositions_47 : decode cX9_numberPositions 47 = .ok (.iastore, 1) := by decide +kernel
theorem dX9_numberPositions_48 : decode cX9_numberPositions 48 = .ok (.aload_n 0, 1) := by decide +kernel
theorem dX9_numberPositions_49 : decode cX9_numberPositions 49 = .ok (.getfield 22, 3) := by decide +kernel
theorem dX9_numberPositions_52 : decode cX9_numberPositions 52 = .ok (.aload_n 0, 1) := by decide +kernel
theorem dX9_numberPositions_53 : decode cX9_numberPositions 53 = .ok (.getfield 79, 3) := by decide +kernel
theorem dX9_numberPositions_56 : decode cX9_numberPositions 56 = .ok (.iload_n 1, 1) := by decide +kernel
theorem dX9_numberPositions_57 : decode cX9_numberPositions 57 = .ok (.iastore, 1) := by decide +kernel
theorem dX9_numberPositions_58 : decode cX9_numberPositions 58 = .ok (.aload_n 0, 1) := by decide +kernel
theorem dX9_numberPositions_59 : decode cX9_numberPositions 59 = .ok (.dup, 1) := by decide +kernel
theorem dX9_numberPositions_60 : decode cX9_numberPositions 60 = .ok (.getfield 79, 3) := by decide +kernel
theorem dX9_numberPositions_63 : decode cX9_numberPositions 63 = .ok (.iconst 1, 1) := by decide +kernel
theorem dX9_numberPositions_64 : decode cX9_numberPositions 64 = .ok (.iadd, 1) := by decide +kernel
theorem dX9_numberPositions_65 : decode cX9_numberPositions 65 = .ok (.putfield 79, 3) := by decide +kernel
theorem dX9_numberPositions_68 : decode cX9_numberPositions 68 = .ok (.iinc 1 1, 3) := by decide +kernel
theorem dX9_numberPositions_71 : decode cX9_numberPositions 71 = .ok (.goto (-64), 3) := by decide +kernel
theorem dX9_numberPositions_74 : decode cX9_numberPositions 74 = .ok (.return_, 1) := by decide +kernel
theorem dX9_push_0 : decode cX9_push 0 = .ok (.iload_n 1, 1) := by decide +kernel
theorem dX9_push_1 : decode cX9_push 1 = .ok (.ifCond .lt 72, 3) := by decide +kernel
theorem dX9_push_4 : decode cX9_push 4 = .ok (.iload_n 1, 1) := by decide +kernel
theorem dX9_push_5 : decode cX9_push 5 = .ok (.sipush 512, 3) := by decide +kernel
theorem dX9_push_8 : decode cX9_push 8 = .ok (.if_icmp .ge 65, 3) := by decide +kernel
theorem dX9_push_11 : decode cX9_push 11 = .ok (.aload_n 0, 1) := by decide +kernel
theorem dX9_push_12 : decode cX9_push 12 = .ok (.getfield 32, 3) := by decide +kernel
theorem dX9_push_15 : decode cX9_push 15 = .ok (.iload_n 1, 1) := by decide +kernel
theorem dX9_push_16 : decode cX9_push 16 = .ok (.iaload, 1) := by decide +kernel
theorem dX9_push_17 : decode cX9_push 17 = .ok (.aload_n 0, 1) := by decide +kernel
theorem dX9_push_18 : decode cX9_push 18 = .ok (.getfield 114, 3) := by decide +kernel
theorem dX9_push_21 : decode cX9_push 21 = .ok (.if_icmp .eq 52, 3) := by decide +kernel
theorem dX9_push_24 : decode cX9_push 24 = .ok (.aload_n 0, 1) := by decide +kernel
theorem dX9_push_25 : decode cX9_push 25 = .ok (.getfield 117, 3) := by decide +kernel
theorem dX9_push_28 : decode cX9_push 28 = .ok (.ifCond .lt 45, 3) := by decide +kernel
theorem dX9_push_31 : decode cX9_push 31 = .ok (.aload_n 0, 1) := by decide +kernel
theorem dX9_push_32 : decode cX9_push 32 = .ok (.getfield 117, 3) := by decide +kernel
theorem dX9_push_35 : decode cX9_push 35 = .ok (.aload_n 0, 1) := by decide +kernel
theorem dX9_push_36 : decode cX9_push 36 = .ok (.getfield 35, 3) := by decide +kernel
theorem dX9_push_39 : decode cX9_push 39 = .ok (.arraylength, 1) := by decide +kernel
theorem dX9_push_40 : decode cX9_push 40 = .ok (.if_icmp .ge 33, 3) := by decide +kernel
theorem dX9_push_43 : decode cX9_push 43 = .ok (.aload_n 0, 1) := by decide +kernel
theorem dX9_push_44 : decode cX9_push 44 = .ok (.getfield 32, 3) := by decide +kernel
theorem dX9_push_47 : decode cX9_push 47 = .ok (.iload_n 1, 1) := by decide +kernel
theorem dX9_push_48 : decode cX9_push 48 = .ok (.aload_n 0, 1) := by decide +kernel
theorem dX9_push_49 : decode cX9_push 49 = .ok (.getfield 114, 3) := by decide +kernel
theorem dX9_push_52 : decode cX9_push 52 = .ok (.iastore, 1) := by decide +kernel
theorem dX9_push_53 : decode cX9_push 53 = .ok (.aload_n 0, 1) := by decide +kernel
theorem dX9_push_54 : decode cX9_push 54 = .ok (.getfield 35, 3) := by decide +kernel
theorem dX9_push_57 : decode cX9_push 57 = .ok (.aload_n 0, 1) := by decide +kernel
theorem dX9_push_58 : decode cX9_push 58 = .ok (.getfield 117, 3) := by decide +kernel
theorem dX9_push_61 : decode cX9_push 61 = .ok (.iload_n 1, 1) := by decide +kernel
theorem dX9_push_62 : decode cX9_push 62 = .ok (.iastore, 1) := by decide +kernel
theorem dX9_push_63 : decode cX9_push 63 = .ok (.aload_n 0, 1) := by decide +kernel
theorem dX9_push_64 : decode cX9_push 64 = .ok (.dup, 1) := by decide +kernel
theorem dX9_push_65 : decode cX9_push 65 = .ok (.getfield 117, 3) := by decide +kernel
theorem dX9_push_68 : decode cX9_push 68 = .ok (.iconst 1, 1) := by decide +kernel
theorem dX9_push_69 : decode cX9_push 69 = .ok (.iadd, 1) := by decide +kernel
theorem dX9_push_70 : decode cX9_push 70 = .ok (.putfield 117, 3) := by decide +kernel
theorem dX9_push_73 : decode cX9_push 73 = .ok (.return_, 1) := by decide +kernel
theorem dX9_reach_0 : decode cX9_reach 0 = .ok (.lconst 0, 1) := by decide +kernel
theorem dX9_reach_1 : decode cX9_reach 1 = .ok (.lstore_n 2, 1) := by decide +kernel
theorem dX9_reach_2 : decode cX9_reach 2 = .ok (.aload_n 0, 1) := by decide +kernel
theorem dX9_reach_3 : decode cX9_reach 3 = .ok (.dup, 1) := by decide +kernel
theorem dX9_reach_4 : decode cX9_reach 4 = .ok (.getfield 114, 3) := by decide +kernel
theorem dX9_reach_7 : decode cX9_reach 7 = .ok (.iconst 1, 1) := by decide +kernel
theorem dX9_reach_8 : decode cX9_reach 8 = .ok (.iadd, 1) := by decide +kernel
theorem dX9_reach_9 : decode cX9_reach 9 = .ok (.putfield 114, 3) := by decide +kernel
theorem dX9_reach_12 : decode cX9_reach 12 = .ok (.aload_n 0, 1) := by decide +kernel
theorem dX9_reach_13 : decode cX9_reach 13 = .ok (.iconst 0, 1) := by decide +kernel
theorem dX9_reach_14 : decode cX9_reach 14 = .ok (.putfield 117, 3) := by decide +kernel
theorem dX9_reach_17 : decode cX9_reach 17 = .ok (.aload_n 0, 1) := by decide +kernel
theorem dX9_reach_18 : decode cX9_reach 18 = .ok (.iload_n 1, 1) := by decide +kernel
theorem dX9_reach_19 : decode cX9_reach 19 = .ok (.invokevirtual 120, 3) := by decide +kernel
theorem dX9_reach_22 : decode cX9_reach 22 = .ok (.iconst 0, 1) := by decide +kernel
theorem dX9_reach_23 : decode cX9_reach 23 = .ok (.istore 4, 2) := by decide +kernel
theorem dX9_reach_25 : decode cX9_reach 25 = .ok (.iload 4, 2) := by decide +kernel
theorem dX9_reach_27 : decode cX9_reach 27 = .ok (.aload_n 0, 1) := by decide +kernel
theorem dX9_reach_28 : decode cX9_reach 28 = .ok (.getfield 35, 3) := by decide +kernel
theorem dX9_reach_31 : decode cX9_reach 31 = .ok (.arraylength, 1) := by decide +kernel
theorem dX9_reach_32 : decode cX9_reach 32 = .ok (.if_icmp .ge 145, 3) := by decide +kernel
theorem dX9_reach_35 : decode cX9_reach 35 = .ok (.aload_n 0, 1) := by decide +kernel
theorem dX9_reach_36 : decode cX9_reach 36 = .ok (.getfield 117, 3) := by decide +kernel
theorem dX9_reach_39 : decode cX9_reach 39 = .ok (.ifCond .le 138, 3) := by decide +kernel
theorem dX9_reach_42 : decode cX9_reach 42 = .ok (.aload_n 0, 1) := by decide +kernel
theorem dX9_reach_43 : decode cX9_reach 43 = .ok (.getfield 117, 3) := by decide +kernel
theorem dX9_reach_46 : decode cX9_reach 46 = .ok (.aload_n 0, 1) := by decide +kernel
theorem dX9_reach_47 : decode cX9_reach 47 = .ok (.getfield 35, 3) := by decide +kernel
theorem dX9_reach_50 : decode cX9_reach 50 = .ok (.arraylength, 1) := by decide +kernel
theorem dX9_reach_51 : decode cX9_reach 51 = .ok (.if_icmp .gt 126, 3) := by decide +kernel
theorem dX9_reach_54 : decode cX9_reach 54 = .ok (.aload_n 0, 1) := by decide +kernel
theorem dX9_reach_55 : decode cX9_reach 55 = .ok (.dup, 1) := by decide +kernel
theorem dX9_reach_56 : decode cX9_reach 56 = .ok (.getfield 117, 3) := by decide +kernel
theorem dX9_reach_59 : decode cX9_reach 59 = .ok (.iconst 1, 1) := by decide +kernel
theorem dX9_reach_60 : decode cX9_reach 60 = .ok (.isub, 1) := by decide +kernel
theorem dX9_reach_61 : decode cX9_reach 61 = .ok (.putfield 117, 3) := by decide +kernel
theorem dX9_reach_64 : decode cX9_reach 64 = .ok (.aload_n 0, 1) := by decide +kernel
theorem dX9_reach_65 : decode cX9_reach 65 = .ok (.getfield 35, 3) := by decide +kernel
theorem dX9_reach_68 : decode cX9_reach 68 = .ok (.aload_n 0, 1) := by decide +kernel
theorem dX9_reach_69 : decode cX9_reach 69 = .ok (.getfield 117, 3) := by decide +kernel
theorem dX9_reach_72 : decode cX9_reach 72 = .ok (.iaload, 1) := by decide +kernel
theorem dX9_reach_73 : decode cX9_reach 73 = .ok (.istore 5, 2) := by decide +kernel
theorem dX9_reach_75 : decode cX9_reach 75 = .ok (.aload_n 0, 1) := by decide +kernel
theorem dX9_reach_76 : decode cX9_reach 76 = .ok (.getfield 12, 3) := by decide +kernel
theorem dX9_reach_79 : decode cX9_reach 79 = .ok (.iload 5, 2) := by decide +kernel
theorem dX9_reach_81 : decode cX9_reach 81 = .ok (.invokevirtual 107, 3) := by decide +kernel
theorem dX9_reach_84 : decode cX9_reach 84 = .ok (.istore 6, 2) := by decide +kernel
theorem dX9_reach_86 : decode cX9_reach 86 = .ok (.iload 6, 2) := by decide +kernel
theorem dX9_reach_88 : decode cX9_reach 88 = .ok (.ifCond .ne 31, 3) := by decide +kernel
theorem dX9_reach_91 : decode cX9_reach 91 = .ok (.iload 5, 2) := by decide +kernel
theorem dX9_reach_93 : decode cX9_reach 93 = .ok (.ifCond .lt 26, 3) := by decide +kernel
theorem dX9_reach_96 : decode cX9_reach 96 = .ok (.iload 5, 2) := by decide +kernel
theorem dX9_reach_98 : decode cX9_reach 98 = .ok (.sipush 512, 3) := by decide +kernel
