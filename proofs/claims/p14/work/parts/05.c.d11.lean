theorem dX9_fillState_0 : decode cX9_fillState 0 = .ok (.iconst 0, 1) := by decide +kernel
theorem dX9_fillState_1 : decode cX9_fillState 1 = .ok (.istore_n 2, 1) := by decide +kernel
theorem dX9_fillState_2 : decode cX9_fillState 2 = .ok (.iload_n 2, 1) := by decide +kernel
theorem dX9_fillState_3 : decode cX9_fillState 3 = .ok (.aload_n 0, 1) := by decide +kernel
theorem dX9_fillState_4 : decode cX9_fillState 4 = .ok (.getfield 73, 3) := by decide +kernel
theorem dX9_fillState_7 : decode cX9_fillState 7 = .ok (.if_icmp .ge 47, 3) := by decide +kernel
theorem dX9_fillState_10 : decode cX9_fillState 10 = .ok (.aload_n 0, 1) := by decide +kernel
theorem dX9_fillState_11 : decode cX9_fillState 11 = .ok (.aload_n 0, 1) := by decide +kernel
theorem dX9_fillState_12 : decode cX9_fillState 12 = .ok (.getfield 41, 3) := by decide +kernel
theorem dX9_fillState_15 : decode cX9_fillState 15 = .ok (.iload_n 1, 1) := by decide +kernel
theorem dX9_fillState_16 : decode cX9_fillState 16 = .ok (.laload, 1) := by decide +kernel
theorem dX9_fillState_17 : decode cX9_fillState 17 = .ok (.aload_n 0, 1) := by decide +kernel
theorem dX9_fillState_18 : decode cX9_fillState 18 = .ok (.getfield 29, 3) := by decide +kernel
theorem dX9_fillState_21 : decode cX9_fillState 21 = .ok (.iload_n 2, 1) := by decide +kernel
theorem dX9_fillState_22 : decode cX9_fillState 22 = .ok (.laload, 1) := by decide +kernel
theorem dX9_fillState_23 : decode cX9_fillState 23 = .ok (.land, 1) := by decide +kernel
theorem dX9_fillState_24 : decode cX9_fillState 24 = .ok (.invokevirtual 129, 3) := by decide +kernel
theorem dX9_fillState_27 : decode cX9_fillState 27 = .ok (.istore_n 3, 1) := by decide +kernel
theorem dX9_fillState_28 : decode cX9_fillState 28 = .ok (.iload_n 3, 1) := by decide +kernel
theorem dX9_fillState_29 : decode cX9_fillState 29 = .ok (.iconst (-1), 1) := by decide +kernel
theorem dX9_fillState_30 : decode cX9_fillState 30 = .ok (.if_icmp .ne 5, 3) := by decide +kernel
theorem dX9_fillState_33 : decode cX9_fillState 33 = .ok (.iconst 0, 1) := by decide +kernel
theorem dX9_fillState_34 : decode cX9_fillState 34 = .ok (.ireturn, 1) := by decide +kernel
theorem dX9_fillState_35 : decode cX9_fillState 35 = .ok (.aload_n 0, 1) := by decide +kernel
theorem dX9_fillState_36 : decode cX9_fillState 36 = .ok (.getfield 44, 3) := by decide +kernel
theorem dX9_fillState_39 : decode cX9_fillState 39 = .ok (.iload_n 1, 1) := by decide +kernel
theorem dX9_fillState_40 : decode cX9_fillState 40 = .ok (.sipush 256, 3) := by decide +kernel
theorem dX9_fillState_43 : decode cX9_fillState 43 = .ok (.imul, 1) := by decide +kernel
theorem dX9_fillState_44 : decode cX9_fillState 44 = .ok (.iload_n 2, 1) := by decide +kernel
theorem dX9_fillState_45 : decode cX9_fillState 45 = .ok (.iadd, 1) := by decide +kernel
theorem dX9_fillState_46 : decode cX9_fillState 46 = .ok (.iload_n 3, 1) := by decide +kernel
theorem dX9_fillState_47 : decode cX9_fillState 47 = .ok (.iastore, 1) := by decide +kernel
theorem dX9_fillState_48 : decode cX9_fillState 48 = .ok (.iinc 2 1, 3) := by decide +kernel
theorem dX9_fillState_51 : decode cX9_fillState 51 = .ok (.goto (-49), 3) := by decide +kernel
theorem dX9_fillState_54 : decode cX9_fillState 54 = .ok (.iconst 1, 1) := by decide +kernel
theorem dX9_fillState_55 : decode cX9_fillState 55 = .ok (.ireturn, 1) := by decide +kernel
theorem dX9_followOf_0 : decode cX9_followOf 0 = .ok (.lconst 0, 1) := by decide +kernel
theorem dX9_followOf_1 : decode cX9_followOf 1 = .ok (.lstore_n 3, 1) := by decide +kernel
theorem dX9_followOf_2 : decode cX9_followOf 2 = .ok (.iconst 0, 1) := by decide +kernel
theorem dX9_followOf_3 : decode cX9_followOf 3 = .ok (.istore 5, 2) := by decide +kernel
theorem dX9_followOf_5 : decode cX9_followOf 5 = .ok (.iload 5, 2) := by decide +kernel
theorem dX9_followOf_7 : decode cX9_followOf 7 = .ok (.aload_n 0, 1) := by decide +kernel
theorem dX9_followOf_8 : decode cX9_followOf 8 = .ok (.getfield 79, 3) := by decide +kernel
theorem dX9_followOf_11 : decode cX9_followOf 11 = .ok (.if_icmp .ge 30, 3) := by decide +kernel
theorem dX9_followOf_14 : decode cX9_followOf 14 = .ok (.lload_n 1, 1) := by decide +kernel
theorem dX9_followOf_15 : decode cX9_followOf 15 = .ok (.iload 5, 2) := by decide +kernel
theorem dX9_followOf_17 : decode cX9_followOf 17 = .ok (.lushr, 1) := by decide +kernel
theorem dX9_followOf_18 : decode cX9_followOf 18 = .ok (.lconst 1, 1) := by decide +kernel
theorem dX9_followOf_19 : decode cX9_followOf 19 = .ok (.land, 1) := by decide +kernel
theorem dX9_followOf_20 : decode cX9_followOf 20 = .ok (.lconst 1, 1) := by decide +kernel
theorem dX9_followOf_21 : decode cX9_followOf 21 = .ok (.lcmp, 1) := by decide +kernel
theorem dX9_followOf_22 : decode cX9_followOf 22 = .ok (.ifCond .ne 13, 3) := by decide +kernel
theorem dX9_followOf_25 : decode cX9_followOf 25 = .ok (.lload_n 3, 1) := by decide +kernel
theorem dX9_followOf_26 : decode cX9_followOf 26 = .ok (.aload_n 0, 1) := by decide +kernel
theorem dX9_followOf_27 : decode cX9_followOf 27 = .ok (.getfield 25, 3) := by decide +kernel
theorem dX9_followOf_30 : decode cX9_followOf 30 = .ok (.iload 5, 2) := by decide +kernel
theorem dX9_followOf_32 : decode cX9_followOf 32 = .ok (.laload, 1) := by decide +kernel
theorem dX9_followOf_33 : decode cX9_followOf 33 = .ok (.lor, 1) := by decide +kernel
theorem dX9_followOf_34 : decode cX9_followOf 34 = .ok (.lstore_n 3, 1) := by decide +kernel
theorem dX9_followOf_35 : decode cX9_followOf 35 = .ok (.iinc 5 1, 3) := by decide +kernel
theorem dX9_followOf_38 : decode cX9_followOf 38 = .ok (.goto (-33), 3) := by decide +kernel
theorem dX9_followOf_41 : decode cX9_followOf 41 = .ok (.lload_n 3, 1) := by decide +kernel
theorem dX9_followOf_42 : decode cX9_followOf 42 = .ok (.lreturn, 1) := by decide +kernel
theorem dX9_groupOf_0 : decode cX9_groupOf 0 = .ok (.iload_n 1, 1) := by decide +kernel
theorem dX9_groupOf_1 : decode cX9_groupOf 1 = .ok (.ifCond .lt 18, 3) := by decide +kernel
theorem dX9_groupOf_4 : decode cX9_groupOf 4 = .ok (.iload_n 1, 1) := by decide +kernel
theorem dX9_groupOf_5 : decode cX9_groupOf 5 = .ok (.bipush 60, 2) := by decide +kernel
theorem dX9_groupOf_7 : decode cX9_groupOf 7 = .ok (.if_icmp .ge 12, 3) := by decide +kernel
theorem dX9_groupOf_10 : decode cX9_groupOf 10 = .ok (.aload_n 0, 1) := by decide +kernel
theorem dX9_groupOf_11 : decode cX9_groupOf 11 = .ok (.getfield 51, 3) := by decide +kernel
theorem dX9_groupOf_14 : decode cX9_groupOf 14 = .ok (.iload_n 1, 1) := by decide +kernel
theorem dX9_groupOf_15 : decode cX9_groupOf 15 = .ok (.iaload, 1) := by decide +kernel
theorem dX9_groupOf_16 : decode cX9_groupOf 16 = .ok (.goto 4, 3) := by decide +kernel
theorem dX9_groupOf_19 : decode cX9_groupOf 19 = .ok (.iconst (-1), 1) := by decide +kernel
theorem dX9_groupOf_20 : decode cX9_groupOf 20 = .ok (.ireturn, 1) := by decide +kernel
theorem dX9_leadsToLive_0 : decode cX9_leadsToLive 0 = .ok (.iconst 0, 1) := by decide +kernel
theorem dX9_leadsToLive_1 : decode cX9_leadsToLive 1 = .ok (.istore_n 2, 1) := by decide +kernel
theorem dX9_leadsToLive_2 : decode cX9_leadsToLive 2 = .ok (.iload_n 2, 1) := by decide +kernel
theorem dX9_leadsToLive_3 : decode cX9_leadsToLive 3 = .ok (.aload_n 0, 1) := by decide +kernel
theorem dX9_leadsToLive_4 : decode cX9_leadsToLive 4 = .ok (.getfield 73, 3) := by decide +kernel
theorem dX9_leadsToLive_7 : decode cX9_leadsToLive 7 = .ok (.if_icmp .ge 37, 3) := by decide +kernel
theorem dX9_leadsToLive_10 : decode cX9_leadsToLive 10 = .ok (.aload_n 0, 1) := by decide +kernel
theorem dX9_leadsToLive_11 : decode cX9_leadsToLive 11 = .ok (.iload_n 1, 1) := by decide +kernel
theorem dX9_leadsToLive_12 : decode cX9_leadsToLive 12 = .ok (.iload_n 2, 1) := by decide +kernel
theorem dX9_leadsToLive_13 : decode cX9_leadsToLive 13 = .ok (.invokevirtual 149, 3) := by decide +kernel
theorem dX9_leadsToLive_16 : decode cX9_leadsToLive 16 = .ok (.istore_n 3, 1) := by decide +kernel
theorem dX9_leadsToLive_17 : decode cX9_leadsToLive 17 = .ok (.iload_n 3, 1) := by decide +kernel
theorem dX9_leadsToLive_18 : decode cX9_leadsToLive 18 = .ok (.ifCond .lt 20, 3) := by decide +kernel
theorem dX9_leadsToLive_21 : decode cX9_leadsToLive 21 = .ok (.iload_n 3, 1) := by decide +kernel
theorem dX9_leadsToLive_22 : decode cX9_leadsToLive 22 = .ok (.bipush 60, 2) := by decide +kernel
theorem dX9_leadsToLive_24 : decode cX9_leadsToLive 24 = .ok (.if_icmp .ge 14, 3) := by decide +kernel
theorem dX9_leadsToLive_27 : decode cX9_leadsToLive 27 = .ok (.aload_n 0, 1) := by decide +kernel
theorem dX9_leadsToLive_28 : decode cX9_leadsToLive 28 = .ok (.getfield 47, 3) := by decide +kernel
theorem dX9_leadsToLive_31 : decode cX9_leadsToLive 31 = .ok (.iload_n 3, 1) := by decide +kernel
theorem dX9_leadsToLive_32 : decode cX9_leadsToLive 32 = .ok (.baload, 1) := by decide +kernel
theorem dX9_leadsToLive_33 : decode cX9_leadsToLive 33 = .ok (.ifCond .eq 5, 3) := by decide +kernel
theorem dX9_leadsToLive_36 : decode cX9_leadsToLive 36 = .ok (.iconst 1, 1) := by decide +kernel
theorem dX9_leadsToLive_37 : decode cX9_leadsToLive 37 = .ok (.ireturn, 1) := by decide +kernel
theorem dX9_leadsToLive_38 : decode cX9_leadsToLive 38 = .ok (.iinc 2 1, 3) := by decide +kernel
theorem dX9_leadsToLive_41 : decode cX9_leadsToLive 41 = .ok (.goto (-39), 3) := by decide +kernel
theorem dX9_leadsToLive_44 : decode cX9_leadsToLive 44 = .ok (.iconst 0, 1) := by decide +kernel
theorem dX9_leadsToLive_45 : decode cX9_leadsToLive 45 = .ok (.ireturn, 1) := by decide +kernel
theorem dX9_longestBeginning_0 : decode cX9_longestBeginning 0 = .ok (.aload_n 0, 1) := by decide +kernel
theorem dX9_longestBeginning_1 : decode cX9_longestBeginning 1 = .ok (.invokevirtual 137, 3) := by decide +kernel
theorem dX9_longestBeginning_4 : decode cX9_longestBeginning 4 = .ok (.aload_n 0, 1) := by decide +kernel
theorem dX9_longestBeginning_5 : decode cX9_longestBeginning 5 = .ok (.getfield 47, 3) := by decide +kernel
theorem dX9_longestBeginning_8 : decode cX9_longestBeginning 8 = .ok (.iconst 0, 1) := by decide +kernel
theorem dX9_longestBeginning_9 : decode cX9_longestBeginning 9 = .ok (.baload, 1) := by decide +kernel
theorem dX9_longestBeginning_10 : decode cX9_longestBeginning 10 = .ok (.ifCond .ne 5, 3) := by decide +kernel
theorem dX9_longestBeginning_13 : decode cX9_longestBeginning 13 = .ok (.iconst (-1), 1) := by decide +kernel
theorem dX9_longestBeginning_14 : decode cX9_longestBeginning 14 = .ok (.ireturn, 1) := by decide +kernel
theorem dX9_longestBeginning_15 : decode cX9_longestBeginning 15 = .ok (.iconst 0, 1) := by decide +kernel
theorem dX9_longestBeginning_16 : decode cX9_longestBeginning 16 = .ok (.istore 4, 2) := by decide +kernel
theorem dX9_longestBeginning_18 : decode cX9_longestBeginning 18 = .ok (.iconst 0, 1) := by decide +kernel
theorem dX9_longestBeginning_19 : decode cX9_longestBeginning 19 = .ok (.istore 5, 2) := by decide +kernel
theorem dX9_longestBeginning_21 : decode cX9_longestBeginning 21 = .ok (.iload_n 3, 1) := by decide +kernel
theorem dX9_longestBeginning_22 : decode cX9_longestBeginning 22 = .ok (.istore 6, 2) := by decide +kernel
theorem dX9_longestBeginning_24 : decode cX9_longestBeginning 24 = .ok (.iload 6, 2) := by decide +kernel
theorem dX9_longestBeginning_26 : decode cX9_longestBeginning 26 = .ok (.aload_n 2, 1) := by decide +kernel
theorem dX9_longestBeginning_27 : decode cX9_longestBeginning 27 = .ok (.getfield 140, 3) := by decide +kernel
theorem dX9_longestBeginning_30 : decode cX9_longestBeginning 30 = .ok (.if_icmp .ge 55, 3) := by decide +kernel
theorem dX9_longestBeginning_33 : decode cX9_longestBeginning 33 = .ok (.aload_n 0, 1) := by decide +kernel
theorem dX9_longestBeginning_34 : decode cX9_longestBeginning 34 = .ok (.iload 4, 2) := by decide +kernel
theorem dX9_longestBeginning_36 : decode cX9_longestBeginning 36 = .ok (.aload_n 1, 1) := by decide +kernel
theorem dX9_longestBeginning_37 : decode cX9_longestBeginning 37 = .ok (.aload_n 2, 1) := by decide +kernel
theorem dX9_longestBeginning_38 : decode cX9_longestBeginning 38 = .ok (.iload 6, 2) := by decide +kernel
theorem dX9_longestBeginning_40 : decode cX9_longestBeginning 40 = .ok (.invokevirtual 143, 3) := by decide +kernel
theorem dX9_longestBeginning_43 : decode cX9_longestBeginning 43 = .ok (.invokevirtual 146, 3) := by decide +kernel
theorem dX9_longestBeginning_46 : decode cX9_longestBeginning 46 = .ok (.invokevirtual 149, 3) := by decide +kernel
theorem dX9_longestBeginning_49 : decode cX9_longestBeginning 49 = .ok (.istore 4, 2) := by decide +kernel
theorem dX9_longestBeginning_51 : decode cX9_longestBeginning 51 = .ok (.iload 4, 2) := by decide +kernel
theorem dX9_longestBeginning_53 : decode cX9_longestBeginning 53 = .ok (.ifCond .lt 32, 3) := by decide +kernel
theorem dX9_longestBeginning_56 : decode cX9_longestBeginning 56 = .ok (.iload 4, 2) := by decide +kernel
theorem dX9_longestBeginning_58 : decode cX9_longestBeginning 58 = .ok (.bipush 60, 2) := by decide +kernel
theorem dX9_longestBeginning_60 : decode cX9_longestBeginning 60 = .ok (.if_icmp .ge 25, 3) := by decide +kernel
theorem dX9_longestBeginning_63 : decode cX9_longestBeginning 63 = .ok (.aload_n 0, 1) := by decide +kernel
theorem dX9_longestBeginning_64 : decode cX9_longestBeginning 64 = .ok (.getfield 47, 3) := by decide +kernel
theorem dX9_longestBeginning_67 : decode cX9_longestBeginning 67 = .ok (.iload 4, 2) := by decide +kernel
theorem dX9_longestBeginning_69 : decode cX9_longestBeginning 69 = .ok (.baload, 1) := by decide +kernel
theorem dX9_longestBeginning_70 : decode cX9_longestBeginning 70 = .ok (.ifCond .ne 6, 3) := by decide +kernel
theorem dX9_longestBeginning_73 : decode cX9_longestBeginning 73 = .ok (.goto 12, 3) := by decide +kernel
theorem dX9_longestBeginning_76 : decode cX9_longestBeginning 76 = .ok (.iinc 5 1, 3) := by decide +kernel
theorem dX9_longestBeginning_79 : decode cX9_longestBeginning 79 = .ok (.iinc 6 1, 3) := by decide +kernel
theorem dX9_longestBeginning_82 : decode cX9_longestBeginning 82 = .ok (.goto (-58), 3) := by decide +kernel
theorem dX9_longestBeginning_85 : decode cX9_longestBeginning 85 = .ok (.iload 5, 2) := by decide +kernel
theorem dX9_longestBeginning_87 : decode cX9_longestBeginning 87 = .ok (.ireturn, 1) := by decide +kernel
theorem dX9_make_0 : decode cX9_make 0 = .ok (.aload_n 0, 1) := by decide +kernel
theorem dX9_make_1 : decode cX9_make 1 = .ok (.getfield 12, 3) := by decide +kernel
theorem dX9_make_4 : decode cX9_make 4 = .ok (.aload_n 1, 1) := by decide +kernel
theorem dX9_make_5 : decode cX9_make 5 = .ok (.invokevirtual 57, 3) := by decide +kernel
theorem dX9_make_8 : decode cX9_make 8 = .ok (.aload_n 0, 1) := by decide +kernel
theorem dX9_make_9 : decode cX9_make 9 = .ok (.sipush 256, 3) := by decide +kernel
theorem dX9_make_12 : decode cX9_make 12 = .ok (.aload_n 2, 1) := by decide +kernel
theorem dX9_make_13 : decode cX9_make 13 = .ok (.getfield 61, 3) := by decide +kernel
theorem dX9_make_16 : decode cX9_make 16 = .ok (.invokestatic 67, 3) := by decide +kernel
theorem dX9_make_19 : decode cX9_make 19 = .ok (.putfield 73, 3) := by decide +kernel
theorem dX9_make_22 : decode cX9_make 22 = .ok (.aload_n 0, 1) := by decide +kernel
theorem dX9_make_23 : decode cX9_make 23 = .ok (.invokevirtual 76, 3) := by decide +kernel
theorem dX9_make_26 : decode cX9_make 26 = .ok (.iconst 0, 1) := by decide +kernel
theorem dX9_make_27 : decode cX9_make 27 = .ok (.istore_n 3, 1) := by decide +kernel
theorem dX9_make_28 : decode cX9_make 28 = .ok (.iload_n 3, 1) := by decide +kernel
theorem dX9_make_29 : decode cX9_make 29 = .ok (.aload_n 0, 1) := by decide +kernel
theorem dX9_make_30 : decode cX9_make 30 = .ok (.getfield 79, 3) := by decide +kernel
theorem dX9_make_33 : decode cX9_make 33 = .ok (.if_icmp .ge 32, 3) := by decide +kernel
theorem dX9_make_36 : decode cX9_make 36 = .ok (.aload_n 0, 1) := by decide +kernel
theorem dX9_make_37 : decode cX9_make 37 = .ok (.getfield 25, 3) := by decide +kernel
theorem dX9_make_40 : decode cX9_make 40 = .ok (.iload_n 3, 1) := by decide +kernel
theorem dX9_make_41 : decode cX9_make 41 = .ok (.aload_n 0, 1) := by decide +kernel
theorem dX9_make_42 : decode cX9_make 42 = .ok (.aload_n 0, 1) := by decide +kernel
theorem dX9_make_43 : decode cX9_make 43 = .ok (.getfield 12, 3) := by decide +kernel
theorem dX9_make_46 : decode cX9_make 46 = .ok (.aload_n 0, 1) := by decide +kernel
theorem dX9_make_47 : decode cX9_make 47 = .ok (.getfield 22, 3) := by decide +kernel
theorem dX9_make_50 : decode cX9_make 50 = .ok (.iload_n 3, 1) := by decide +kernel
theorem dX9_make_51 : decode cX9_make 51 = .ok (.iaload, 1) := by decide +kernel
theorem dX9_make_52 : decode cX9_make 52 = .ok (.invokevirtual 82, 3) := by decide +kernel
theorem dX9_make_55 : decode cX9_make 55 = .ok (.invokevirtual 86, 3) := by decide +kernel
theorem dX9_make_58 : decode cX9_make 58 = .ok (.lastore, 1) := by decide +kernel
theorem dX9_make_59 : decode cX9_make 59 = .ok (.iinc 3 1, 3) := by decide +kernel
theorem dX9_make_62 : decode cX9_make 62 = .ok (.goto (-34), 3) := by decide +kernel
theorem dX9_make_65 : decode cX9_make 65 = .ok (.iconst 0, 1) := by decide +kernel
theorem dX9_make_66 : decode cX9_make 66 = .ok (.istore_n 3, 1) := by decide +kernel
theorem dX9_make_67 : decode cX9_make 67 = .ok (.iload_n 3, 1) := by decide +kernel
theorem dX9_make_68 : decode cX9_make 68 = .ok (.aload_n 0, 1) := by decide +kernel
theorem dX9_make_69 : decode cX9_make 69 = .ok (.getfield 73, 3) := by decide +kernel
theorem dX9_make_72 : decode cX9_make 72 = .ok (.if_icmp .ge 24, 3) := by decide +kernel
theorem dX9_make_75 : decode cX9_make 75 = .ok (.aload_n 0, 1) := by decide +kernel
theorem dX9_make_76 : decode cX9_make 76 = .ok (.getfield 29, 3) := by decide +kernel
theorem dX9_make_79 : decode cX9_make 79 = .ok (.iload_n 3, 1) := by decide +kernel
theorem dX9_make_80 : decode cX9_make 80 = .ok (.aload_n 0, 1) := by decide +kernel
theorem dX9_make_81 : decode cX9_make 81 = .ok (.aload_n 2, 1) := by decide +kernel
theorem dX9_make_82 : decode cX9_make 82 = .ok (.iload_n 3, 1) := by decide +kernel
theorem dX9_make_83 : decode cX9_make 83 = .ok (.invokevirtual 90, 3) := by decide +kernel
theorem dX9_make_86 : decode cX9_make 86 = .ok (.invokevirtual 93, 3) := by decide +kernel
theorem dX9_make_89 : decode cX9_make 89 = .ok (.lastore, 1) := by decide +kernel
theorem dX9_make_90 : decode cX9_make 90 = .ok (.iinc 3 1, 3) := by decide +kernel
theorem dX9_make_93 : decode cX9_make 93 = .ok (.goto (-26), 3) := by decide +kernel
theorem dX9_make_96 : decode cX9_make 96 = .ok (.aload_n 0, 1) := by decide +kernel
theorem dX9_make_97 : decode cX9_make 97 = .ok (.iconst 1, 1) := by decide +kernel
theorem dX9_make_98 : decode cX9_make 98 = .ok (.putfield 96, 3) := by decide +kernel
theorem dX9_make_101 : decode cX9_make 101 = .ok (.aload_n 0, 1) := by decide +kernel
theorem dX9_make_102 : decode cX9_make 102 = .ok (.getfield 38, 3) := by decide +kernel
theorem dX9_make_105 : decode cX9_make 105 = .ok (.iconst 0, 1) := by decide +kernel
theorem dX9_make_106 : decode cX9_make 106 = .ok (.lconst 0, 1) := by decide +kernel
theorem dX9_make_107 : decode cX9_make 107 = .ok (.lastore, 1) := by decide +kernel
theorem dX9_make_108 : decode cX9_make 108 = .ok (.aload_n 0, 1) := by decide +kernel
theorem dX9_make_109 : decode cX9_make 109 = .ok (.getfield 41, 3) := by decide +kernel
theorem dX9_make_112 : decode cX9_make 112 = .ok (.iconst 0, 1) := by decide +kernel
theorem dX9_make_113 : decode cX9_make 113 = .ok (.aload_n 0, 1) := by decide +kernel
theorem dX9_make_114 : decode cX9_make 114 = .ok (.aload_n 0, 1) := by decide +kernel
theorem dX9_make_115 : decode cX9_make 115 = .ok (.getfield 12, 3) := by decide +kernel
theorem dX9_make_118 : decode cX9_make 118 = .ok (.getfield 97, 3) := by decide +kernel
theorem dX9_make_121 : decode cX9_make 121 = .ok (.invokevirtual 86, 3) := by decide +kernel
theorem dX9_make_124 : decode cX9_make 124 = .ok (.lastore, 1) := by decide +kernel
theorem dX9_make_125 : decode cX9_make 125 = .ok (.iconst 1, 1) := by decide +kernel
theorem dX9_make_126 : decode cX9_make 126 = .ok (.istore_n 3, 1) := by decide +kernel
theorem dX9_make_127 : decode cX9_make 127 = .ok (.iconst 0, 1) := by decide +kernel
theorem dX9_make_128 : decode cX9_make 128 = .ok (.istore 4, 2) := by decide +kernel
theorem dX9_make_130 : decode cX9_make 130 = .ok (.iload_n 3, 1) := by decide +kernel
theorem dX9_make_131 : decode cX9_make 131 = .ok (.ifCond .eq 32, 3) := by decide +kernel
theorem dX9_make_134 : decode cX9_make 134 = .ok (.iload 4, 2) := by decide +kernel
theorem dX9_make_136 : decode cX9_make 136 = .ok (.aload_n 0, 1) := by decide +kernel
theorem dX9_make_137 : decode cX9_make 137 = .ok (.getfield 96, 3) := by decide +kernel
theorem dX9_make_140 : decode cX9_make 140 = .ok (.if_icmp .ge 23, 3) := by decide +kernel
theorem dX9_make_143 : decode cX9_make 143 = .ok (.iload 4, 2) := by decide +kernel
theorem dX9_make_145 : decode cX9_make 145 = .ok (.bipush 60, 2) := by decide +kernel
theorem dX9_make_147 : decode cX9_make 147 = .ok (.if_icmp .ge 16, 3) := by decide +kernel
theorem dX9_make_150 : decode cX9_make 150 = .ok (.aload_n 0, 1) := by decide +kernel
theorem dX9_make_151 : decode cX9_make 151 = .ok (.iload 4, 2) := by decide +kernel
theorem dX9_make_153 : decode cX9_make 153 = .ok (.invokevirtual 100, 3) := by decide +kernel
theorem dX9_make_156 : decode cX9_make 156 = .ok (.istore_n 3, 1) := by decide +kernel
theorem dX9_make_157 : decode cX9_make 157 = .ok (.iinc 4 1, 3) := by decide +kernel
theorem dX9_make_160 : decode cX9_make 160 = .ok (.goto (-30), 3) := by decide +kernel
theorem dX9_make_163 : decode cX9_make 163 = .ok (.iload_n 3, 1) := by decide +kernel
theorem dX9_make_164 : decode cX9_make 164 = .ok (.ireturn, 1) := by decide +kernel
theorem dX9_markLive_0 : decode cX9_markLive 0 = .ok (.iconst 0, 1) := by decide +kernel
theorem dX9_markLive_1 : decode cX9_markLive 1 = .ok (.istore_n 1, 1) := by decide +kernel
theorem dX9_markLive_2 : decode cX9_markLive 2 = .ok (.iload_n 1, 1) := by decide +kernel
theorem dX9_markLive_3 : decode cX9_markLive 3 = .ok (.aload_n 0, 1) := by decide +kernel
theorem dX9_markLive_4 : decode cX9_markLive 4 = .ok (.getfield 96, 3) := by decide +kernel
theorem dX9_markLive_7 : decode cX9_markLive 7 = .ok (.if_icmp .ge 20, 3) := by decide +kernel
theorem dX9_markLive_10 : decode cX9_markLive 10 = .ok (.aload_n 0, 1) := by decide +kernel
theorem dX9_markLive_11 : decode cX9_markLive 11 = .ok (.getfield 47, 3) := by decide +kernel
theorem dX9_markLive_14 : decode cX9_markLive 14 = .ok (.iload_n 1, 1) := by decide +kernel
theorem dX9_markLive_15 : decode cX9_markLive 15 = .ok (.aload_n 0, 1) := by decide +kernel
theorem dX9_markLive_16 : decode cX9_markLive 16 = .ok (.iload_n 1, 1) := by decide +kernel
theorem dX9_markLive_17 : decode cX9_markLive 17 = .ok (.invokevirtual 152, 3) := by decide +kernel
theorem dX9_markLive_20 : decode cX9_markLive 20 = .ok (.bastore, 1) := by decide +kernel
theorem dX9_markLive_21 : decode cX9_markLive 21 = .ok (.iinc 1 1, 3) := by decide +kernel
theorem dX9_markLive_24 : decode cX9_markLive 24 = .ok (.goto (-22), 3) := by decide +kernel
theorem dX9_markLive_27 : decode cX9_markLive 27 = .ok (.iconst 1, 1) := by decide +kernel
theorem dX9_markLive_28 : decode cX9_markLive 28 = .ok (.istore_n 1, 1) := by decide +kernel
theorem dX9_markLive_29 : decode cX9_markLive 29 = .ok (.iconst 0, 1) := by decide +kernel
theorem dX9_markLive_30 : decode cX9_markLive 30 = .ok (.istore_n 2, 1) := by decide +kernel
theorem dX9_markLive_31 : decode cX9_markLive 31 = .ok (.iload_n 1, 1) := by decide +kernel
theorem dX9_markLive_32 : decode cX9_markLive 32 = .ok (.ifCond .eq 61, 3) := by decide +kernel
theorem dX9_markLive_35 : decode cX9_markLive 35 = .ok (.iload_n 2, 1) := by decide +kernel
theorem dX9_markLive_36 : decode cX9_markLive 36 = .ok (.aload_n 0, 1) := by decide +kernel
theorem dX9_markLive_37 : decode cX9_markLive 37 = .ok (.getfield 96, 3) := by decide +kernel
theorem dX9_markLive_40 : decode cX9_markLive 40 = .ok (.if_icmp .ge 53, 3) := by decide +kernel
theorem dX9_markLive_43 : decode cX9_markLive 43 = .ok (.iconst 0, 1) := by decide +kernel
theorem dX9_markLive_44 : decode cX9_markLive 44 = .ok (.istore_n 1, 1) := by decide +kernel
theorem dX9_markLive_45 : decode cX9_markLive 45 = .ok (.iconst 0, 1) := by decide +kernel
theorem dX9_markLive_46 : decode cX9_markLive 46 = .ok (.istore_n 3, 1) := by decide +kernel
theorem dX9_markLive_47 : decode cX9_markLive 47 = .ok (.iload_n 3, 1) := by decide +kernel
theorem dX9_markLive_48 : decode cX9_markLive 48 = .ok (.aload_n 0, 1) := by decide +kernel
theorem dX9_markLive_49 : decode cX9_markLive 49 = .ok (.getfield 96, 3) := by decide +kernel
theorem dX9_markLive_52 : decode cX9_markLive 52 = .ok (.if_icmp .ge 35, 3) := by decide +kernel
theorem dX9_markLive_55 : decode cX9_markLive 55 = .ok (.aload_n 0, 1) := by decide +kernel
theorem dX9_markLive_56 : decode cX9_markLive 56 = .ok (.getfield 47, 3) := by decide +kernel
theorem dX9_markLive_59 : decode cX9_markLive 59 = .ok (.iload_n 3, 1) := by decide +kernel
theorem dX9_markLive_60 : decode cX9_markLive 60 = .ok (.baload, 1) := by decide +kernel
theorem dX9_markLive_61 : decode cX9_markLive 61 = .ok (.ifCond .ne 20, 3) := by decide +kernel
theorem dX9_markLive_64 : decode cX9_markLive 64 = .ok (.aload_n 0, 1) := by decide +kernel
theorem dX9_markLive_65 : decode cX9_markLive 65 = .ok (.iload_n 3, 1) := by decide +kernel
theorem dX9_markLive_66 : decode cX9_markLive 66 = .ok (.invokevirtual 155, 3) := by decide +kernel
theorem dX9_markLive_69 : decode cX9_markLive 69 = .ok (.ifCond .eq 12, 3) := by decide +kernel
theorem dX9_markLive_72 : decode cX9_markLive 72 = .ok (.aload_n 0, 1) := by decide +kernel
theorem dX9_markLive_73 : decode cX9_markLive 73 = .ok (.getfield 47, 3) := by decide +kernel
theorem dX9_markLive_76 : decode cX9_markLive 76 = .ok (.iload_n 3, 1) := by decide +kernel
theorem dX9_markLive_77 : decode cX9_markLive 77 = .ok (.iconst 1, 1) := by decide +kernel
theorem dX9_markLive_78 : decode cX9_markLive 78 = .ok (.bastore, 1) := by decide +kernel
theorem dX9_markLive_79 : decode cX9_markLive 79 = .ok (.iconst 1, 1) := by decide +kernel
theorem dX9_markLive_80 : decode cX9_markLive 80 = .ok (.istore_n 1, 1) := by decide +kernel
theorem dX9_markLive_81 : decode cX9_markLive 81 = .ok (.iinc 3 1, 3) := by decide +kernel
theorem dX9_markLive_84 : decode cX9_markLive 84 = .ok (.goto (-37), 3) := by decide +kernel
theorem dX9_markLive_87 : decode cX9_markLive 87 = .ok (.iinc 2 1, 3) := by decide +kernel
theorem dX9_markLive_90 : decode cX9_markLive 90 = .ok (.goto (-59), 3) := by decide +kernel
theorem dX9_markLive_93 : decode cX9_markLive 93 = .ok (.return_, 1) := by decide +kernel
theorem dX9_next_0 : decode cX9_next 0 = .ok (.iload_n 1, 1) := by decide +kernel
theorem dX9_next_1 : decode cX9_next 1 = .ok (.ifCond .lt 27, 3) := by decide +kernel
theorem dX9_next_4 : decode cX9_next 4 = .ok (.iload_n 1, 1) := by decide +kernel
theorem dX9_next_5 : decode cX9_next 5 = .ok (.aload_n 0, 1) := by decide +kernel
theorem dX9_next_6 : decode cX9_next 6 = .ok (.getfield 96, 3) := by decide +kernel
theorem dX9_next_9 : decode cX9_next 9 = .ok (.if_icmp .ge 19, 3) := by decide +kernel
theorem dX9_next_12 : decode cX9_next 12 = .ok (.iload_n 2, 1) := by decide +kernel
theorem dX9_next_13 : decode cX9_next 13 = .ok (.ifCond .lt 15, 3) := by decide +kernel
theorem dX9_next_16 : decode cX9_next 16 = .ok (.iload_n 2, 1) := by decide +kernel
theorem dX9_next_17 : decode cX9_next 17 = .ok (.aload_n 0, 1) := by decide +kernel
theorem dX9_next_18 : decode cX9_next 18 = .ok (.getfield 73, 3) := by decide +kernel
theorem dX9_next_21 : decode cX9_next 21 = .ok (.if_icmp .ge 7, 3) := by decide +kernel
theorem dX9_next_24 : decode cX9_next 24 = .ok (.iconst 1, 1) := by decide +kernel
theorem dX9_next_25 : decode cX9_next 25 = .ok (.goto 4, 3) := by decide +kernel
theorem dX9_next_28 : decode cX9_next 28 = .ok (.iconst 0, 1) := by decide +kernel
theorem dX9_next_29 : decode cX9_next 29 = .ok (.istore_n 3, 1) := by decide +kernel
theorem dX9_next_30 : decode cX9_next 30 = .ok (.iload_n 3, 1) := by decide +kernel
theorem dX9_next_31 : decode cX9_next 31 = .ok (.ifCond .eq 18, 3) := by decide +kernel
theorem dX9_next_34 : decode cX9_next 34 = .ok (.aload_n 0, 1) := by decide +kernel
theorem dX9_next_35 : decode cX9_next 35 = .ok (.getfield 44, 3) := by decide +kernel
theorem dX9_next_38 : decode cX9_next 38 = .ok (.iload_n 1, 1) := by decide +kernel
theorem dX9_next_39 : decode cX9_next 39 = .ok (.sipush 256, 3) := by decide +kernel
theorem dX9_next_42 : decode cX9_next 42 = .ok (.imul, 1) := by decide +kernel
theorem dX9_next_43 : decode cX9_next 43 = .ok (.iload_n 2, 1) := by decide +kernel
theorem dX9_next_44 : decode cX9_next 44 = .ok (.iadd, 1) := by decide +kernel
theorem dX9_next_45 : decode cX9_next 45 = .ok (.iaload, 1) := by decide +kernel
theorem dX9_next_46 : decode cX9_next 46 = .ok (.goto 4, 3) := by decide +kernel
theorem dX9_next_49 : decode cX9_next 49 = .ok (.iconst 0, 1) := by decide +kernel
theorem dX9_next_50 : decode cX9_next 50 = .ok (.ireturn, 1) := by decide +kernel
theorem dX9_numberPositions_0 : decode cX9_numberPositions 0 = .ok (.aload_n 0, 1) := by decide +kernel
theorem dX9_numberPositions_1 : decode cX9_numberPositions 1 = .ok (.iconst 0, 1) := by decide +kernel
theorem dX9_numberPositions_2 : decode cX9_numberPositions 2 = .ok (.putfield 79, 3) := by decide +kernel
theorem dX9_numberPositions_5 : decode cX9_numberPositions 5 = .ok (.iconst 0, 1) := by decide +kernel
theorem dX9_numberPositions_6 : decode cX9_numberPositions 6 = .ok (.istore_n 1, 1) := by decide +kernel
theorem dX9_numberPositions_7 : decode cX9_numberPositions 7 = .ok (.aload_n 0, 1) := by decide +kernel
theorem dX9_numberPositions_8 : decode cX9_numberPositions 8 = .ok (.getfield 12, 3) := by decide +kernel
theorem dX9_numberPositions_11 : decode cX9_numberPositions 11 = .ok (.iload_n 1, 1) := by decide +kernel
theorem dX9_numberPositions_12 : decode cX9_numberPositions 12 = .ok (.invokevirtual 104, 3) := by decide +kernel
theorem dX9_numberPositions_15 : decode cX9_numberPositions 15 = .ok (.ifCond .eq 59, 3) := by decide +kernel
theorem dX9_numberPositions_18 : decode cX9_numberPositions 18 = .ok (.aload_n 0, 1) := by decide +kernel
theorem dX9_numberPositions_19 : decode cX9_numberPositions 19 = .ok (.getfield 12, 3) := by decide +kernel
theorem dX9_numberPositions_22 : decode cX9_numberPositions 22 = .ok (.iload_n 1, 1) := by decide +kernel
theorem dX9_numberPositions_23 : decode cX9_numberPositions 23 = .ok (.invokevirtual 107, 3) := by decide +kernel
theorem dX9_numberPositions_26 : decode cX9_numberPositions 26 = .ok (.ifCond .ne 42, 3) := by decide +kernel
theorem dX9_numberPositions_29 : decode cX9_numberPositions 29 = .ok (.aload_n 0, 1) := by decide +kernel
theorem dX9_numberPositions_30 : decode cX9_numberPositions 30 = .ok (.getfield 79, 3) := by decide +kernel
theorem dX9_numberPositions_33 : decode cX9_numberPositions 33 = .ok (.bipush 60, 2) := by decide +kernel
theorem dX9_numberPositions_35 : decode cX9_numberPositions 35 = .ok (.if_icmp .ge 33, 3) := by decide +kernel
theorem dX9_numberPositions_38 : decode cX9_numberPositions 38 = .ok (.aload_n 0, 1) := by decide +kernel
theorem dX9_numberPositions_39 : decode cX9_numberPositions 39 = .ok (.getfield 18, 3) := by decide +kernel
theorem dX9_numberPositions_42 : decode cX9_numberPositions 42 = .ok (.iload_n 1, 1) := by decide +kernel
theorem dX9_numberPositions_43 : decode cX9_numberPositions 43 = .ok (.aload_n 0, 1) := by decide +kernel
theorem dX9_numberPositions_44 : decode cX9_numberPositions 44 = .ok (.getfield 79, 3) := by decide +kernel
theorem dX9_numberPositions_47 : decode cX9_numberPositions 47 = .ok (.iastore, 1) := by decide +kernel
theorem dX9_numberPositions_48 : decode cX9_numberPositions 48 = .ok (.aload_n 0, 1) := by decide +kernel
theorem dX9_numberPositions_49 : decode cX9_numberPositions 49 = .ok (.getfield 22, 3) := by decide +kernel
theorem dX9_numberPositions_52 : decode cX9_numberPositions 52 = .ok (.aload_n 0, 1) := by decide +kernel
theorem dX9_numberPositions_53 : decode cX9_numberPositions 53 = .ok (.getfield 79, 3) := by decide +kernel
theorem dX9_numberPositions_56 : decode cX9_numberPositions 56 = .ok (.iload_n 1, 1) := by decide +kernel
theorem dX9_numberPositions_57 : decode cX9_numberPositions 57 = .ok (.iastore, 1) := by decide +kernel
theorem dX9_numberPositions_58 : decode cX9_numberPositions 58 = .ok (.aload_n 0, 1) := by decide +kernel
theorem dX9_numberPositions_59 : decode cX9_numberPositions 59 = .ok (.dup, 1) := by decide +kernel
theorem dX9_numberPositions_60 : decode cX9_numberPositions 60 = .ok (.getfield 79, 3) := by decide +kernel
theorem dX9_numberPositions_63 : decode cX9_numberPositions 63 = .ok (.iconst 1, 1) := by decide +kernel
theorem dX9_numberPositions_64 : decode cX9_numberPositions 64 = .ok (.iadd, 1) := by decide +kernel
theorem dX9_numberPositions_65 : decode cX9_numberPositions 65 = .ok (.putfield 79, 3) := by decide +kernel
theorem dX9_numberPositions_68 : decode cX9_numberPositions 68 = .ok (.iinc 1 1, 3) := by decide +kernel
theorem dX9_numberPositions_71 : decode cX9_numberPositions 71 = .ok (.goto (-64), 3) := by decide +kernel
theorem dX9_numberPositions_74 : decode cX9_numberPositions 74 = .ok (.return_, 1) := by decide +kernel
theorem dX9_push_0 : decode cX9_push 0 = .ok (.iload_n 1, 1) := by decide +kernel
theorem dX9_push_1 : decode cX9_push 1 = .ok (.ifCond .lt 72, 3) := by decide +kernel
theorem dX9_push_4 : decode cX9_push 4 = .ok (.iload_n 1, 1) := by decide +kernel
theorem dX9_push_5 : decode cX9_push 5 = .ok (.sipush 512, 3) := by decide +kernel
theorem dX9_push_8 : decode cX9_push 8 = .ok (.if_icmp .ge 65, 3) := by decide +kernel
theorem dX9_push_11 : decode cX9_push 11 = .ok (.aload_n 0, 1) := by decide +kernel
theorem dX9_push_12 : decode cX9_push 12 = .ok (.getfield 32, 3) := by decide +kernel
theorem dX9_push_15 : decode cX9_push 15 = .ok (.iload_n 1, 1) := by decide +kernel
theorem dX9_push_16 : decode cX9_push 16 = .ok (.iaload, 1) := by decide +kernel
theorem dX9_push_17 : decode cX9_push 17 = .ok (.aload_n 0, 1) := by decide +kernel
theorem dX9_push_18 : decode cX9_push 18 = .ok (.getfield 114, 3) := by decide +kernel
theorem dX9_push_21 : decode cX9_push 21 = .ok (.if_icmp .eq 52, 3) := by decide +kernel
theorem dX9_push_24 : decode cX9_push 24 = .ok (.aload_n 0, 1) := by decide +kernel
theorem dX9_push_25 : decode cX9_push 25 = .ok (.getfield 117, 3) := by decide +kernel
theorem dX9_push_28 : decode cX9_push 28 = .ok (.ifCond .lt 45, 3) := by decide +kernel
theorem dX9_push_31 : decode cX9_push 31 = .ok (.aload_n 0, 1) := by decide +kernel
theorem dX9_push_32 : decode cX9_push 32 = .ok (.getfield 117, 3) := by decide +kernel
theorem dX9_push_35 : decode cX9_push 35 = .ok (.aload_n 0, 1) := by decide +kernel
theorem dX9_push_36 : decode cX9_push 36 = .ok (.getfield 35, 3) := by decide +kernel
theorem dX9_push_39 : decode cX9_push 39 = .ok (.arraylength, 1) := by decide +kernel
theorem dX9_push_40 : decode cX9_push 40 = .ok (.if_icmp .ge 33, 3) := by decide +kernel
theorem dX9_push_43 : decode cX9_push 43 = .ok (.aload_n 0, 1) := by decide +kernel
theorem dX9_push_44 : decode cX9_push 44 = .ok (.getfield 32, 3) := by decide +kernel
theorem dX9_push_47 : decode cX9_push 47 = .ok (.iload_n 1, 1) := by decide +kernel
theorem dX9_push_48 : decode cX9_push 48 = .ok (.aload_n 0, 1) := by decide +kernel
theorem dX9_push_49 : decode cX9_push 49 = .ok (.getfield 114, 3) := by decide +kernel
theorem dX9_push_52 : decode cX9_push 52 = .ok (.iastore, 1) := by decide +kernel
theorem dX9_push_53 : decode cX9_push 53 = .ok (.aload_n 0, 1) := by decide +kernel
theorem dX9_push_54 : decode cX9_push 54 = .ok (.getfield 35, 3) := by decide +kernel
theorem dX9_push_57 : decode cX9_push 57 = .ok (.aload_n 0, 1) := by decide +kernel
theorem dX9_push_58 : decode cX9_push 58 = .ok (.getfield 117, 3) := by decide +kernel
theorem dX9_push_61 : decode cX9_push 61 = .ok (.iload_n 1, 1) := by decide +kernel
theorem dX9_push_62 : decode cX9_push 62 = .ok (.iastore, 1) := by decide +kernel
theorem dX9_push_63 : decode cX9_push 63 = .ok (.aload_n 0, 1) := by decide +kernel
theorem dX9_push_64 : decode cX9_push 64 = .ok (.dup, 1) := by decide +kernel
theorem dX9_push_65 : decode cX9_push 65 = .ok (.getfield 117, 3) := by decide +kernel
theorem dX9_push_68 : decode cX9_push 68 = .ok (.iconst 1, 1) := by decide +kernel
theorem dX9_push_69 : decode cX9_push 69 = .ok (.iadd, 1) := by decide +kernel
theorem dX9_push_70 : decode cX9_push 70 = .ok (.putfield 117, 3) := by decide +kernel
theorem dX9_push_73 : decode cX9_push 73 = .ok (.return_, 1) := by decide +kernel
theorem dX9_reach_0 : decode cX9_reach 0 = .ok (.lconst 0, 1) := by decide +kernel
theorem dX9_reach_1 : decode cX9_reach 1 = .ok (.lstore_n 2, 1) := by decide +kernel
theorem dX9_reach_2 : decode cX9_reach 2 = .ok (.aload_n 0, 1) := by decide +kernel
theorem dX9_reach_3 : decode cX9_reach 3 = .ok (.dup, 1) := by decide +kernel
theorem dX9_reach_4 : decode cX9_reach 4 = .ok (.getfield 114, 3) := by decide +kernel
theorem dX9_reach_7 : decode cX9_reach 7 = .ok (.iconst 1, 1) := by decide +kernel
theorem dX9_reach_8 : decode cX9_reach 8 = .ok (.iadd, 1) := by decide +kernel
theorem dX9_reach_9 : decode cX9_reach 9 = .ok (.putfield 114, 3) := by decide +kernel
theorem dX9_reach_12 : decode cX9_reach 12 = .ok (.aload_n 0, 1) := by decide +kernel
theorem dX9_reach_13 : decode cX9_reach 13 = .ok (.iconst 0, 1) := by decide +kernel
theorem dX9_reach_14 : decode cX9_reach 14 = .ok (.putfield 117, 3) := by decide +kernel
theorem dX9_reach_17 : decode cX9_reach 17 = .ok (.aload_n 0, 1) := by decide +kernel
theorem dX9_reach_18 : decode cX9_reach 18 = .ok (.iload_n 1, 1) := by decide +kernel
theorem dX9_reach_19 : decode cX9_reach 19 = .ok (.invokevirtual 120, 3) := by decide +kernel
theorem dX9_reach_22 : decode cX9_reach 22 = .ok (.iconst 0, 1) := by decide +kernel
theorem dX9_reach_23 : decode cX9_reach 23 = .ok (.istore 4, 2) := by decide +kernel
theorem dX9_reach_25 : decode cX9_reach 25 = .ok (.iload 4, 2) := by decide +kernel
theorem dX9_reach_27 : decode cX9_reach 27 = .ok (.aload_n 0, 1) := by decide +kernel
theorem dX9_reach_28 : decode cX9_reach 28 = .ok (.getfield 35, 3) := by decide +kernel
theorem dX9_reach_31 : decode cX9_reach 31 = .ok (.arraylength, 1) := by decide +kernel
theorem dX9_reach_32 : decode cX9_reach 32 = .ok (.if_icmp .ge 145, 3) := by decide +kernel
theorem dX9_reach_35 : decode cX9_reach 35 = .ok (.aload_n 0, 1) := by decide +kernel
theorem dX9_reach_36 : decode cX9_reach 36 = .ok (.getfield 117, 3) := by decide +kernel
theorem dX9_reach_39 : decode cX9_reach 39 = .ok (.ifCond .le 138, 3) := by decide +kernel
theorem dX9_reach_42 : decode cX9_reach 42 = .ok (.aload_n 0, 1) := by decide +kernel
theorem dX9_reach_43 : decode cX9_reach 43 = .ok (.getfield 117, 3) := by decide +kernel
theorem dX9_reach_46 : decode cX9_reach 46 = .ok (.aload_n 0, 1) := by decide +kernel
theorem dX9_reach_47 : decode cX9_reach 47 = .ok (.getfield 35, 3) := by decide +kernel
theorem dX9_reach_50 : decode cX9_reach 50 = .ok (.arraylength, 1) := by decide +kernel
theorem dX9_reach_51 : decode cX9_reach 51 = .ok (.if_icmp .gt 126, 3) := by decide +kernel
theorem dX9_reach_54 : decode cX9_reach 54 = .ok (.aload_n 0, 1) := by decide +kernel
theorem dX9_reach_55 : decode cX9_reach 55 = .ok (.dup, 1) := by decide +kernel
theorem dX9_reach_56 : decode cX9_reach 56 = .ok (.getfield 117, 3) := by decide +kernel
theorem dX9_reach_59 : decode cX9_reach 59 = .ok (.iconst 1, 1) := by decide +kernel
theorem dX9_reach_60 : decode cX9_reach 60 = .ok (.isub, 1) := by decide +kernel
theorem dX9_reach_61 : decode cX9_reach 61 = .ok (.putfield 117, 3) := by decide +kernel
theorem dX9_reach_64 : decode cX9_reach 64 = .ok (.aload_n 0, 1) := by decide +kernel
theorem dX9_reach_65 : decode cX9_reach 65 = .ok (.getfield 35, 3) := by decide +kernel
theorem dX9_reach_68 : decode cX9_reach 68 = .ok (.aload_n 0, 1) := by decide +kernel
theorem dX9_reach_69 : decode cX9_reach 69 = .ok (.getfield 117, 3) := by decide +kernel
theorem dX9_reach_72 : decode cX9_reach 72 = .ok (.iaload, 1) := by decide +kernel
theorem dX9_reach_73 : decode cX9_reach 73 = .ok (.istore 5, 2) := by decide +kernel
theorem dX9_reach_75 : decode cX9_reach 75 = .ok (.aload_n 0, 1) := by decide +kernel
theorem dX9_reach_76 : decode cX9_reach 76 = .ok (.getfield 12, 3) := by decide +kernel
theorem dX9_reach_79 : decode cX9_reach 79 = .ok (.iload 5, 2) := by decide +kernel
theorem dX9_reach_81 : decode cX9_reach 81 = .ok (.invokevirtual 107, 3) := by decide +kernel
theorem dX9_reach_84 : decode cX9_reach 84 = .ok (.istore 6, 2) := by decide +kernel
theorem dX9_reach_86 : decode cX9_reach 86 = .ok (.iload 6, 2) := by decide +kernel
theorem dX9_reach_88 : decode cX9_reach 88 = .ok (.ifCond .ne 31, 3) := by decide +kernel
theorem dX9_reach_91 : decode cX9_reach 91 = .ok (.iload 5, 2) := by decide +kernel
theorem dX9_reach_93 : decode cX9_reach 93 = .ok (.ifCond .lt 26, 3) := by decide +kernel
theorem dX9_reach_96 : decode cX9_reach 96 = .ok (.iload 5, 2) := by decide +kernel
theorem dX9_reach_98 : decode cX9_reach 98 = .ok (.sipush 512, 3) := by decide +kernel
theorem dX9_reach_101 : decode cX9_reach 101 = .ok (.if_icmp .ge 18, 3) := by decide +kernel
theorem dX9_reach_104 : decode cX9_reach 104 = .ok (.lload_n 2, 1) := by decide +kernel
theorem dX9_reach_105 : decode cX9_reach 105 = .ok (.lconst 1, 1) := by decide +kernel
theorem dX9_reach_106 : decode cX9_reach 106 = .ok (.aload_n 0, 1) := by decide +kernel
theorem dX9_reach_107 : decode cX9_reach 107 = .ok (.getfield 18, 3) := by decide +kernel
theorem dX9_reach_110 : decode cX9_reach 110 = .ok (.iload 5, 2) := by decide +kernel
theorem dX9_reach_112 : decode cX9_reach 112 = .ok (.iaload, 1) := by decide +kernel
theorem dX9_reach_113 : decode cX9_reach 113 = .ok (.lshl, 1) := by decide +kernel
theorem dX9_reach_114 : decode cX9_reach 114 = .ok (.lor, 1) := by decide +kernel
theorem dX9_reach_115 : decode cX9_reach 115 = .ok (.lstore_n 2, 1) := by decide +kernel
theorem dX9_reach_116 : decode cX9_reach 116 = .ok (.goto 55, 3) := by decide +kernel
theorem dX9_reach_119 : decode cX9_reach 119 = .ok (.iload 6, 2) := by decide +kernel
theorem dX9_reach_121 : decode cX9_reach 121 = .ok (.bipush 6, 2) := by decide +kernel
theorem dX9_reach_123 : decode cX9_reach 123 = .ok (.if_icmp .ne 12, 3) := by decide +kernel
theorem dX9_reach_126 : decode cX9_reach 126 = .ok (.lload_n 2, 1) := by decide +kernel
theorem dX9_reach_127 : decode cX9_reach 127 = .ok (.ldc2_w 124, 3) := by decide +kernel
theorem dX9_reach_130 : decode cX9_reach 130 = .ok (.lor, 1) := by decide +kernel
theorem dX9_reach_131 : decode cX9_reach 131 = .ok (.lstore_n 2, 1) := by decide +kernel
theorem dX9_reach_132 : decode cX9_reach 132 = .ok (.goto 39, 3) := by decide +kernel
theorem dX9_reach_135 : decode cX9_reach 135 = .ok (.aload_n 0, 1) := by decide +kernel
theorem dX9_reach_136 : decode cX9_reach 136 = .ok (.iload 6, 2) := by decide +kernel
theorem dX9_reach_138 : decode cX9_reach 138 = .ok (.iconst 4, 1) := by decide +kernel
theorem dX9_reach_139 : decode cX9_reach 139 = .ok (.if_icmp .ne 15, 3) := by decide +kernel
theorem dX9_reach_142 : decode cX9_reach 142 = .ok (.aload_n 0, 1) := by decide +kernel
theorem dX9_reach_143 : decode cX9_reach 143 = .ok (.getfield 12, 3) := by decide +kernel
theorem dX9_reach_146 : decode cX9_reach 146 = .ok (.iload 5, 2) := by decide +kernel
theorem dX9_reach_148 : decode cX9_reach 148 = .ok (.invokevirtual 126, 3) := by decide +kernel
theorem dX9_reach_151 : decode cX9_reach 151 = .ok (.goto 4, 3) := by decide +kernel
theorem dX9_reach_154 : decode cX9_reach 154 = .ok (.iconst (-1), 1) := by decide +kernel
theorem dX9_reach_155 : decode cX9_reach 155 = .ok (.invokevirtual 120, 3) := by decide +kernel
theorem dX9_reach_158 : decode cX9_reach 158 = .ok (.aload_n 0, 1) := by decide +kernel
theorem dX9_reach_159 : decode cX9_reach 159 = .ok (.aload_n 0, 1) := by decide +kernel
theorem dX9_reach_160 : decode cX9_reach 160 = .ok (.getfield 12, 3) := by decide +kernel
theorem dX9_reach_163 : decode cX9_reach 163 = .ok (.iload 5, 2) := by decide +kernel
theorem dX9_reach_165 : decode cX9_reach 165 = .ok (.invokevirtual 82, 3) := by decide +kernel
theorem dX9_reach_168 : decode cX9_reach 168 = .ok (.invokevirtual 120, 3) := by decide +kernel
theorem dX9_reach_171 : decode cX9_reach 171 = .ok (.iinc 4 1, 3) := by decide +kernel
theorem dX9_reach_174 : decode cX9_reach 174 = .ok (.goto (-149), 3) := by decide +kernel
theorem dX9_reach_177 : decode cX9_reach 177 = .ok (.lload_n 2, 1) := by decide +kernel
theorem dX9_reach_178 : decode cX9_reach 178 = .ok (.lreturn, 1) := by decide +kernel
theorem dX9_refine_0 : decode cX9_refine 0 = .ok (.iconst 0, 1) := by decide +kernel
theorem dX9_refine_1 : decode cX9_refine 1 = .ok (.istore_n 1, 1) := by decide +kernel
theorem dX9_refine_2 : decode cX9_refine 2 = .ok (.iconst 0, 1) := by decide +kernel
theorem dX9_refine_3 : decode cX9_refine 3 = .ok (.istore_n 2, 1) := by decide +kernel
theorem dX9_refine_4 : decode cX9_refine 4 = .ok (.iload_n 2, 1) := by decide +kernel
theorem dX9_refine_5 : decode cX9_refine 5 = .ok (.aload_n 0, 1) := by decide +kernel
theorem dX9_refine_6 : decode cX9_refine 6 = .ok (.getfield 96, 3) := by decide +kernel
theorem dX9_refine_9 : decode cX9_refine 9 = .ok (.if_icmp .ge 65, 3) := by decide +kernel
theorem dX9_refine_12 : decode cX9_refine 12 = .ok (.iconst 0, 1) := by decide +kernel
theorem dX9_refine_13 : decode cX9_refine 13 = .ok (.istore_n 3, 1) := by decide +kernel
theorem dX9_refine_14 : decode cX9_refine 14 = .ok (.iload_n 3, 1) := by decide +kernel
theorem dX9_refine_15 : decode cX9_refine 15 = .ok (.iload_n 2, 1) := by decide +kernel
theorem dX9_refine_16 : decode cX9_refine 16 = .ok (.if_icmp .ge 18, 3) := by decide +kernel
theorem dX9_refine_19 : decode cX9_refine 19 = .ok (.aload_n 0, 1) := by decide +kernel
theorem dX9_refine_20 : decode cX9_refine 20 = .ok (.iload_n 3, 1) := by decide +kernel
theorem dX9_refine_21 : decode cX9_refine 21 = .ok (.iload_n 2, 1) := by decide +kernel
theorem dX9_refine_22 : decode cX9_refine 22 = .ok (.invokevirtual 168, 3) := by decide +kernel
theorem dX9_refine_25 : decode cX9_refine 25 = .ok (.ifCond .ne 9, 3) := by decide +kernel
theorem dX9_refine_28 : decode cX9_refine 28 = .ok (.iinc 3 1, 3) := by decide +kernel
theorem dX9_refine_31 : decode cX9_refine 31 = .ok (.goto (-17), 3) := by decide +kernel
theorem dX9_refine_34 : decode cX9_refine 34 = .ok (.aload_n 0, 1) := by decide +kernel
theorem dX9_refine_35 : decode cX9_refine 35 = .ok (.getfield 54, 3) := by decide +kernel
theorem dX9_refine_38 : decode cX9_refine 38 = .ok (.iload_n 2, 1) := by decide +kernel
theorem dX9_refine_39 : decode cX9_refine 39 = .ok (.iload_n 3, 1) := by decide +kernel
theorem dX9_refine_40 : decode cX9_refine 40 = .ok (.iload_n 2, 1) := by decide +kernel
theorem dX9_refine_41 : decode cX9_refine 41 = .ok (.if_icmp .ge 12, 3) := by decide +kernel
theorem dX9_refine_44 : decode cX9_refine 44 = .ok (.aload_n 0, 1) := by decide +kernel
theorem dX9_refine_45 : decode cX9_refine 45 = .ok (.getfield 54, 3) := by decide +kernel
theorem dX9_refine_48 : decode cX9_refine 48 = .ok (.iload_n 3, 1) := by decide +kernel
theorem dX9_refine_49 : decode cX9_refine 49 = .ok (.iaload, 1) := by decide +kernel
theorem dX9_refine_50 : decode cX9_refine 50 = .ok (.goto 4, 3) := by decide +kernel
theorem dX9_refine_53 : decode cX9_refine 53 = .ok (.iload_n 1, 1) := by decide +kernel
theorem dX9_refine_54 : decode cX9_refine 54 = .ok (.iastore, 1) := by decide +kernel
theorem dX9_refine_55 : decode cX9_refine 55 = .ok (.iload_n 1, 1) := by decide +kernel
theorem dX9_refine_56 : decode cX9_refine 56 = .ok (.iload_n 3, 1) := by decide +kernel
theorem dX9_refine_57 : decode cX9_refine 57 = .ok (.iload_n 2, 1) := by decide +kernel
theorem dX9_refine_58 : decode cX9_refine 58 = .ok (.if_icmp .ge 7, 3) := by decide +kernel
theorem dX9_refine_61 : decode cX9_refine 61 = .ok (.iconst 0, 1) := by decide +kernel
theorem dX9_refine_62 : decode cX9_refine 62 = .ok (.goto 4, 3) := by decide +kernel
theorem dX9_refine_65 : decode cX9_refine 65 = .ok (.iconst 1, 1) := by decide +kernel
theorem dX9_refine_66 : decode cX9_refine 66 = .ok (.iadd, 1) := by decide +kernel
theorem dX9_refine_67 : decode cX9_refine 67 = .ok (.istore_n 1, 1) := by decide +kernel
theorem dX9_refine_68 : decode cX9_refine 68 = .ok (.iinc 2 1, 3) := by decide +kernel
theorem dX9_refine_71 : decode cX9_refine 71 = .ok (.goto (-67), 3) := by decide +kernel
theorem dX9_refine_74 : decode cX9_refine 74 = .ok (.iload_n 1, 1) := by decide +kernel
theorem dX9_refine_75 : decode cX9_refine 75 = .ok (.ireturn, 1) := by decide +kernel
theorem dX9_stateOf_0 : decode cX9_stateOf 0 = .ok (.iconst 1, 1) := by decide +kernel
theorem dX9_stateOf_1 : decode cX9_stateOf 1 = .ok (.istore_n 3, 1) := by decide +kernel
theorem dX9_stateOf_2 : decode cX9_stateOf 2 = .ok (.iload_n 3, 1) := by decide +kernel
theorem dX9_stateOf_3 : decode cX9_stateOf 3 = .ok (.aload_n 0, 1) := by decide +kernel
theorem dX9_stateOf_4 : decode cX9_stateOf 4 = .ok (.getfield 96, 3) := by decide +kernel
theorem dX9_stateOf_7 : decode cX9_stateOf 7 = .ok (.if_icmp .ge 28, 3) := by decide +kernel
theorem dX9_stateOf_10 : decode cX9_stateOf 10 = .ok (.iload_n 3, 1) := by decide +kernel
theorem dX9_stateOf_11 : decode cX9_stateOf 11 = .ok (.bipush 60, 2) := by decide +kernel
theorem dX9_stateOf_13 : decode cX9_stateOf 13 = .ok (.if_icmp .ge 22, 3) := by decide +kernel
theorem dX9_stateOf_16 : decode cX9_stateOf 16 = .ok (.aload_n 0, 1) := by decide +kernel
theorem dX9_stateOf_17 : decode cX9_stateOf 17 = .ok (.getfield 38, 3) := by decide +kernel
theorem dX9_stateOf_20 : decode cX9_stateOf 20 = .ok (.iload_n 3, 1) := by decide +kernel
theorem dX9_stateOf_21 : decode cX9_stateOf 21 = .ok (.laload, 1) := by decide +kernel
theorem dX9_stateOf_22 : decode cX9_stateOf 22 = .ok (.lload_n 1, 1) := by decide +kernel
theorem dX9_stateOf_23 : decode cX9_stateOf 23 = .ok (.lcmp, 1) := by decide +kernel
theorem dX9_stateOf_24 : decode cX9_stateOf 24 = .ok (.ifCond .ne 5, 3) := by decide +kernel
theorem dX9_stateOf_27 : decode cX9_stateOf 27 = .ok (.iload_n 3, 1) := by decide +kernel
theorem dX9_stateOf_28 : decode cX9_stateOf 28 = .ok (.ireturn, 1) := by decide +kernel
theorem dX9_stateOf_29 : decode cX9_stateOf 29 = .ok (.iinc 3 1, 3) := by decide +kernel
theorem dX9_stateOf_32 : decode cX9_stateOf 32 = .ok (.goto (-30), 3) := by decide +kernel
theorem dX9_stateOf_35 : decode cX9_stateOf 35 = .ok (.aload_n 0, 1) := by decide +kernel
theorem dX9_stateOf_36 : decode cX9_stateOf 36 = .ok (.getfield 96, 3) := by decide +kernel
theorem dX9_stateOf_39 : decode cX9_stateOf 39 = .ok (.bipush 60, 2) := by decide +kernel
theorem dX9_stateOf_41 : decode cX9_stateOf 41 = .ok (.if_icmp .lt 5, 3) := by decide +kernel
theorem dX9_stateOf_44 : decode cX9_stateOf 44 = .ok (.iconst (-1), 1) := by decide +kernel
theorem dX9_stateOf_45 : decode cX9_stateOf 45 = .ok (.ireturn, 1) := by decide +kernel
theorem dX9_stateOf_46 : decode cX9_stateOf 46 = .ok (.aload_n 0, 1) := by decide +kernel
theorem dX9_stateOf_47 : decode cX9_stateOf 47 = .ok (.getfield 38, 3) := by decide +kernel
theorem dX9_stateOf_50 : decode cX9_stateOf 50 = .ok (.aload_n 0, 1) := by decide +kernel
theorem dX9_stateOf_51 : decode cX9_stateOf 51 = .ok (.getfield 96, 3) := by decide +kernel
theorem dX9_stateOf_54 : decode cX9_stateOf 54 = .ok (.lload_n 1, 1) := by decide +kernel
theorem dX9_stateOf_55 : decode cX9_stateOf 55 = .ok (.lastore, 1) := by decide +kernel
theorem dX9_stateOf_56 : decode cX9_stateOf 56 = .ok (.aload_n 0, 1) := by decide +kernel
theorem dX9_stateOf_57 : decode cX9_stateOf 57 = .ok (.getfield 41, 3) := by decide +kernel
theorem dX9_stateOf_60 : decode cX9_stateOf 60 = .ok (.aload_n 0, 1) := by decide +kernel
theorem dX9_stateOf_61 : decode cX9_stateOf 61 = .ok (.getfield 96, 3) := by decide +kernel
theorem dX9_stateOf_64 : decode cX9_stateOf 64 = .ok (.aload_n 0, 1) := by decide +kernel
theorem dX9_stateOf_65 : decode cX9_stateOf 65 = .ok (.lload_n 1, 1) := by decide +kernel
theorem dX9_stateOf_66 : decode cX9_stateOf 66 = .ok (.invokevirtual 133, 3) := by decide +kernel
theorem dX9_stateOf_69 : decode cX9_stateOf 69 = .ok (.lastore, 1) := by decide +kernel
theorem dX9_stateOf_70 : decode cX9_stateOf 70 = .ok (.aload_n 0, 1) := by decide +kernel
theorem dX9_stateOf_71 : decode cX9_stateOf 71 = .ok (.dup, 1) := by decide +kernel
theorem dX9_stateOf_72 : decode cX9_stateOf 72 = .ok (.getfield 96, 3) := by decide +kernel
theorem dX9_stateOf_75 : decode cX9_stateOf 75 = .ok (.iconst 1, 1) := by decide +kernel
theorem dX9_stateOf_76 : decode cX9_stateOf 76 = .ok (.iadd, 1) := by decide +kernel
theorem dX9_stateOf_77 : decode cX9_stateOf 77 = .ok (.putfield 96, 3) := by decide +kernel
theorem dX9_stateOf_80 : decode cX9_stateOf 80 = .ok (.aload_n 0, 1) := by decide +kernel
theorem dX9_stateOf_81 : decode cX9_stateOf 81 = .ok (.getfield 96, 3) := by decide +kernel
theorem dX9_stateOf_84 : decode cX9_stateOf 84 = .ok (.iconst 1, 1) := by decide +kernel
theorem dX9_stateOf_85 : decode cX9_stateOf 85 = .ok (.isub, 1) := by decide +kernel
theorem dX9_stateOf_86 : decode cX9_stateOf 86 = .ok (.ireturn, 1) := by decide +kernel
theorem dX9_staysTogether_0 : decode cX9_staysTogether 0 = .ok (.aload_n 0, 1) := by decide +kernel
theorem dX9_staysTogether_1 : decode cX9_staysTogether 1 = .ok (.iload_n 1, 1) := by decide +kernel
theorem dX9_staysTogether_2 : decode cX9_staysTogether 2 = .ok (.invokevirtual 171, 3) := by decide +kernel
theorem dX9_staysTogether_5 : decode cX9_staysTogether 5 = .ok (.aload_n 0, 1) := by decide +kernel
theorem dX9_staysTogether_6 : decode cX9_staysTogether 6 = .ok (.iload_n 2, 1) := by decide +kernel
theorem dX9_staysTogether_7 : decode cX9_staysTogether 7 = .ok (.invokevirtual 171, 3) := by decide +kernel
theorem dX9_staysTogether_10 : decode cX9_staysTogether 10 = .ok (.if_icmp .eq 5, 3) := by decide +kernel
theorem dX9_staysTogether_13 : decode cX9_staysTogether 13 = .ok (.iconst 0, 1) := by decide +kernel
theorem dX9_staysTogether_14 : decode cX9_staysTogether 14 = .ok (.ireturn, 1) := by decide +kernel
theorem dX9_staysTogether_15 : decode cX9_staysTogether 15 = .ok (.iconst 0, 1) := by decide +kernel
theorem dX9_staysTogether_16 : decode cX9_staysTogether 16 = .ok (.istore_n 3, 1) := by decide +kernel
theorem dX9_staysTogether_17 : decode cX9_staysTogether 17 = .ok (.iload_n 3, 1) := by decide +kernel
theorem dX9_staysTogether_18 : decode cX9_staysTogether 18 = .ok (.aload_n 0, 1) := by decide +kernel
theorem dX9_staysTogether_19 : decode cX9_staysTogether 19 = .ok (.getfield 73, 3) := by decide +kernel
theorem dX9_staysTogether_22 : decode cX9_staysTogether 22 = .ok (.if_icmp .ge 34, 3) := by decide +kernel
theorem dX9_staysTogether_25 : decode cX9_staysTogether 25 = .ok (.aload_n 0, 1) := by decide +kernel
theorem dX9_staysTogether_26 : decode cX9_staysTogether 26 = .ok (.aload_n 0, 1) := by decide +kernel
theorem dX9_staysTogether_27 : decode cX9_staysTogether 27 = .ok (.iload_n 1, 1) := by decide +kernel
theorem dX9_staysTogether_28 : decode cX9_staysTogether 28 = .ok (.iload_n 3, 1) := by decide +kernel
theorem dX9_staysTogether_29 : decode cX9_staysTogether 29 = .ok (.invokevirtual 149, 3) := by decide +kernel
theorem dX9_staysTogether_32 : decode cX9_staysTogether 32 = .ok (.invokevirtual 171, 3) := by decide +kernel
theorem dX9_staysTogether_35 : decode cX9_staysTogether 35 = .ok (.aload_n 0, 1) := by decide +kernel
theorem dX9_staysTogether_36 : decode cX9_staysTogether 36 = .ok (.aload_n 0, 1) := by decide +kernel
theorem dX9_staysTogether_37 : decode cX9_staysTogether 37 = .ok (.iload_n 2, 1) := by decide +kernel
theorem dX9_staysTogether_38 : decode cX9_staysTogether 38 = .ok (.iload_n 3, 1) := by decide +kernel
theorem dX9_staysTogether_39 : decode cX9_staysTogether 39 = .ok (.invokevirtual 149, 3) := by decide +kernel
theorem dX9_staysTogether_42 : decode cX9_staysTogether 42 = .ok (.invokevirtual 171, 3) := by decide +kernel
theorem dX9_staysTogether_45 : decode cX9_staysTogether 45 = .ok (.if_icmp .eq 5, 3) := by decide +kernel
theorem dX9_staysTogether_48 : decode cX9_staysTogether 48 = .ok (.iconst 0, 1) := by decide +kernel
theorem dX9_staysTogether_49 : decode cX9_staysTogether 49 = .ok (.ireturn, 1) := by decide +kernel
theorem dX9_staysTogether_50 : decode cX9_staysTogether 50 = .ok (.iinc 3 1, 3) := by decide +kernel
theorem dX9_staysTogether_53 : decode cX9_staysTogether 53 = .ok (.goto (-36), 3) := by decide +kernel
theorem dX9_staysTogether_56 : decode cX9_staysTogether 56 = .ok (.iconst 1, 1) := by decide +kernel
theorem dX9_staysTogether_57 : decode cX9_staysTogether 57 = .ok (.ireturn, 1) := by decide +kernel
theorem dX9_takersOf_0 : decode cX9_takersOf 0 = .ok (.lconst 0, 1) := by decide +kernel
theorem dX9_takersOf_1 : decode cX9_takersOf 1 = .ok (.lstore_n 2, 1) := by decide +kernel
theorem dX9_takersOf_2 : decode cX9_takersOf 2 = .ok (.iconst 0, 1) := by decide +kernel
theorem dX9_takersOf_3 : decode cX9_takersOf 3 = .ok (.istore 4, 2) := by decide +kernel
theorem dX9_takersOf_5 : decode cX9_takersOf 5 = .ok (.iload 4, 2) := by decide +kernel
theorem dX9_takersOf_7 : decode cX9_takersOf 7 = .ok (.aload_n 0, 1) := by decide +kernel
theorem dX9_takersOf_8 : decode cX9_takersOf 8 = .ok (.getfield 79, 3) := by decide +kernel
theorem dX9_takersOf_11 : decode cX9_takersOf 11 = .ok (.if_icmp .ge 34, 3) := by decide +kernel
theorem dX9_takersOf_14 : decode cX9_takersOf 14 = .ok (.aload_n 0, 1) := by decide +kernel
theorem dX9_takersOf_15 : decode cX9_takersOf 15 = .ok (.getfield 12, 3) := by decide +kernel
theorem dX9_takersOf_18 : decode cX9_takersOf 18 = .ok (.aload_n 0, 1) := by decide +kernel
theorem dX9_takersOf_19 : decode cX9_takersOf 19 = .ok (.getfield 22, 3) := by decide +kernel
theorem dX9_takersOf_22 : decode cX9_takersOf 22 = .ok (.iload 4, 2) := by decide +kernel
theorem dX9_takersOf_24 : decode cX9_takersOf 24 = .ok (.iaload, 1) := by decide +kernel
theorem dX9_takersOf_25 : decode cX9_takersOf 25 = .ok (.iload_n 1, 1) := by decide +kernel
theorem dX9_takersOf_26 : decode cX9_takersOf 26 = .ok (.invokevirtual 110, 3) := by decide +kernel
theorem dX9_takersOf_29 : decode cX9_takersOf 29 = .ok (.ifCond .eq 10, 3) := by decide +kernel
theorem dX9_takersOf_32 : decode cX9_takersOf 32 = .ok (.lload_n 2, 1) := by decide +kernel
theorem dX9_takersOf_33 : decode cX9_takersOf 33 = .ok (.lconst 1, 1) := by decide +kernel
theorem dX9_takersOf_34 : decode cX9_takersOf 34 = .ok (.iload 4, 2) := by decide +kernel
theorem dX9_takersOf_36 : decode cX9_takersOf 36 = .ok (.lshl, 1) := by decide +kernel
theorem dX9_takersOf_37 : decode cX9_takersOf 37 = .ok (.lor, 1) := by decide +kernel
theorem dX9_takersOf_38 : decode cX9_takersOf 38 = .ok (.lstore_n 2, 1) := by decide +kernel
theorem dX9_takersOf_39 : decode cX9_takersOf 39 = .ok (.iinc 4 1, 3) := by decide +kernel
theorem dX9_takersOf_42 : decode cX9_takersOf 42 = .ok (.goto (-37), 3) := by decide +kernel
theorem dX9_takersOf_45 : decode cX9_takersOf 45 = .ok (.lload_n 2, 1) := by decide +kernel
theorem dX9_takersOf_46 : decode cX9_takersOf 46 = .ok (.lreturn, 1) := by decide +kernel
def w_X7_empty (Q : Int32 → Bool → Prop) : Prop :=
  Q  0 false
set_option maxHeartbeats 4000000 in
set_option maxRecDepth 100000 in
theorem mt_X7_empty (l : Launch) (dC : Nat → ClassId) (dI : Nat → Nat → Nat) (h0 h1 : Nat) (v_count : Int32) (v_over : Bool) (v_there : Bool) (Q : Int32 → Bool → Prop) (w : w_X7_empty  Q) (sz : Nat) : Met l yX7_empty (WS yX7_empty cX7_empty 1 none) ({ frames := 0, cells := 0, slots := 0, locals := 0 } : Room) (va_Pc [.ref h0] (fun U => U.heap.size = sz ∧ va_P (dC, dI) vwCl [(h0, .inr (10, oX7 (.ref h1) v_count v_over v_there))] U.heap ∧ va_K (dC, dI) vwCl [] U ∧ va_D (fun _ => True) [(h0, .inr (10, oX7 (.ref h1) v_count v_over v_there))])) (va_Qv (fun (u : Nat) => u = 0) (fun (_ : Nat) (t : State) => ∃ (ov_count : Int32), ∃ (ov_over : Bool), (Q ov_count ov_over) ∧ va_P (dC, dI) vwCl [(h0, .inr (10, oX7 (.ref h1) ov_count ov_over v_there))] t.heap ∧ va_D (va_A [(h0, .inr (10, oX7 (.ref h1) v_count v_over v_there))] sz) [(h0, .inr (10, oX7 (.ref h1) ov_count ov_over v_there))]) (va_A [(h0, .inr (10, oX7 (.ref h1) v_count v_over v_there))] sz)) 0 0 (va_A [(h0, .inr (10, oX7 (.ref h1) v_count v_over v_there))] sz) := by
  refine Met.ofW (cc := cX7_empty) (maxL := 1) (ret := none) (by decide) rfl ?_
  intro p e s m args below meth c s₁ B hml hv
  obtain ⟨rfl, hsz, hP, hK, hD0⟩ := hv
  have hx := B.exec
  have hb := B.bytes
  have hr := B.returns
  have hts := atoms_spec (ws := WS yX7_empty cX7_empty 1 none) B.pre
  have ht : ∀ w ∈ TW, w.before _ s = true := fun w h => hts w (List.mem_cons_of_mem _ h)
  have hown : s.vm.findClass "PatternWorkshop$Row" = some m.cls := findClass_of_methodNamed B.named
  have hlocks := B.notSynchronized
  subst hsz
  have hD := hD0.self (sz := s.heap.size)
  generalize hAe : va_A [(h0, .inr (10, oX7 (.ref h1) v_count v_over v_there))] s.heap.size = A at hD ⊢
  have hA : ∀ q : Nat, s.heap.size ≤ q → A q := fun q h => by rw [← hAe]; exact Or.inr h
  have hS : va_S A s.heap s.heap [] := va_S.rf
  have hP : va_P (dC, dI) vwCl [(h0, .inr (10, oX7 (.ref h1) v_count v_over v_there))] s.heap := hP
  have hl := lv_entry ([.ref h0]) (n := 1) (Nat.le_of_ble_eq_true rfl)
  rw [lg_entry_eq]
  generalize (lg_sl ([.ref h0]) ++ List.replicate (1 - (lg_sl ([.ref h0])).length) Slot.unset).toArray = ls at hl ⊢
  have hl : lv_has ls 1 [(0, .ref h0)] := hl
  clear hD0
  obtain ⟨QQ, hQQ⟩ : ∃ QQ, QQ = MQ below (va_Qv (fun (u : Nat) => u = 0) (fun (_ : Nat) (t : State) => ∃ (ov_count : Int32), ∃ (ov_over : Bool), (Q ov_count ov_over) ∧ va_P (dC, dI) vwCl [(h0, .inr (10, oX7 (.ref h1) ov_count ov_over v_there))] t.heap ∧ va_D A [(h0, .inr (10, oX7 (.ref h1) ov_count ov_over v_there))]) A) ([.ref h0]).toArray s 0 0 A := ⟨_, rfl⟩
  show W p l e ({ frames := 0, cells := 0, slots := 0, locals := 0 } : Room) s m ([.ref h0]).toArray below meth c s.heap [] 0 0 (MQ below (va_Qv (fun (u : Nat) => u = 0) (fun (_ : Nat) (t : State) => ∃ (ov_count : Int32), ∃ (ov_over : Bool), (Q ov_count ov_over) ∧ va_P (dC, dI) vwCl [(h0, .inr (10, oX7 (.ref h1) ov_count ov_over v_there))] t.heap ∧ va_D A [(h0, .inr (10, oX7 (.ref h1) ov_count ov_over v_there))]) A) ([.ref h0]).toArray s 0 0 A) (F0 m 0 ls [])
  rw [← hQQ]
  unfold w_X7_empty at w
  refine lv_aload_n hx hb dX7_empty_0 rfl (lv_at hl 0 rfl) ?_
  refine lv_iconst (v := 0) hx hb dX7_empty_1 (by decide) ?_
  refine va_put (D := (dC, dI)) (ci := 10) (v := .int 0) (ty := .int) (C := RX7) (T := TX7) (N := 4) hx hb ht inX7 tyX7 tyX7_ok nmX7 hown hK hP hD hS 0 rfl rfl 1 (by decide) (ht _ tw_277) (fun _ h9 => h9) rfl (by decide +kernel) rfl rfl (Nat.le_of_ble_eq_true rfl) dX7_empty_2 (fun H_1 locs_1 hP_1 hD_1 hS_1 => ?_)
  have hP_1 : va_P (dC, dI) vwCl [(h0, .inr (10, oX7 (.ref h1) 0 v_over v_there))] H_1 := hP_1
  have hD_1 : va_D A [(h0, .inr (10, oX7 (.ref h1) 0 v_over v_there))] := hD_1
  refine lv_aload_n hx hb dX7_empty_5 rfl (lv_at hl 0 rfl) ?_
  refine lv_iconst (v := 0) hx hb dX7_empty_6 (by decide) ?_
  refine va_put (D := (dC, dI)) (ci := 10) (v := .int 0) (ty := .boolean) (C := RX7) (T := TX7) (N := 4) hx hb ht inX7 tyX7 tyX7_ok nmX7 hown hK hP_1 hD_1 hS_1 0 rfl rfl 2 (by decide) (ht _ tw_284) (fun _ h9 => h9) rfl (by decide +kernel) rfl rfl (Nat.le_of_ble_eq_true rfl) dX7_empty_7 (fun H_2 locs_2 hP_2 hD_2 hS_2 => ?_)
  have hP_2 : va_P (dC, dI) vwCl [(h0, .inr (10, oX7 (.ref h1) 0 false v_there))] H_2 := hP_2
  have hD_2 : va_D A [(h0, .inr (10, oX7 (.ref h1) 0 false v_there))] := hD_2
  rw [hQQ]
  exact W.vret hx hb hr (fun t9 ht9 hW9 => ⟨⟨0, rfl, rfl, ⟨0, false, w, by rw [ht9]; exact hP_2, hD_2⟩⟩, hS_2.F ht9⟩) hS_2.2.2 dX7_empty_10
def w_X7_at_31 (Q : Int32 → Prop) (s0_31 : Int32) : Prop :=
  Q s0_31
def w_X7_at_30 (Q : Int32 → Prop) : Prop :=
  w_X7_at_31 Q (-1)
def w_X7_at (p1 : Int32) (v_count : Int32) (v_items : Nat → Int32) (nv_items : Nat) (Q : Int32 → Prop) : Prop :=
  ((p1 < 0) → w_X7_at_30 Q) ∧ ((¬ p1 < 0) → ((v_count ≤ p1) → w_X7_at_30 Q) ∧ ((¬ v_count ≤ p1) → ∀ x_3 : Int32, x_3 = Int32.ofNat nv_items → ((x_3 ≤ p1) → w_X7_at_30 Q) ∧ ((¬ x_3 ≤ p1) → vp_in p1 nv_items ∧ ∀ x_5 : Int32, x_5 = v_items p1.toNatClampNeg → w_X7_at_31 Q x_5)))
set_option maxHeartbeats 4000000 in
set_option maxRecDepth 100000 in
theorem mt_X7_at (l : Launch) (dC : Nat → ClassId) (dI : Nat → Nat → Nat) (h0 h1 : Nat) (k0 : ClassId) (p1 : Int32) (v_count : Int32) (v_over : Bool) (v_there : Bool) (v_items : Nat → Int32) (nv_items : Nat) (Q : Int32 → Prop) (w : w_X7_at p1 v_count v_items nv_items Q) (sz : Nat) : Met l yX7_at (WS yX7_at cX7_at 2 (some (.int))) ({ frames := 0, cells := 0, slots := 0, locals := 0 } : Room) (va_Pc [.ref h0, .int p1] (fun U => U.heap.size = sz ∧ va_P (dC, dI) vwCl [(h0, .inr (10, oX7 (.ref h1) v_count v_over v_there)), (h1, .inl (k0, nv_items, .inl v_items))] U.heap ∧ va_K (dC, dI) vwCl [(k0, .int)] U ∧ va_D (fun _ => True) [(h0, .inr (10, oX7 (.ref h1) v_count v_over v_there)), (h1, .inl (k0, nv_items, .inl v_items))])) (va_Qi (fun (r u : Int32) => r = u) (fun (u : Int32) (t : State) => (Q u) ∧ va_P (dC, dI) vwCl [(h0, .inr (10, oX7 (.ref h1) v_count v_over v_there)), (h1, .inl (k0, nv_items, .inl v_items))] t.heap ∧ va_D (va_A [(h0, .inr (10, oX7 (.ref h1) v_count v_over v_there)), (h1, .inl (k0, nv_items, .inl v_items))] sz) [(h0, .inr (10, oX7 (.ref h1) v_count v_over v_there)), (h1, .inl (k0, nv_items, .inl v_items))]) (va_A [(h0, .inr (10, oX7 (.ref h1) v_count v_over v_there)), (h1, .inl (k0, nv_items, .inl v_items))] sz)) 0 0 (va_A [(h0, .inr (10, oX7 (.ref h1) v_count v_over v_there)), (h1, .inl (k0, nv_items, .inl v_items))] sz) := by
  refine Met.ofW (cc := cX7_at) (maxL := 2) (ret := (some (.int))) (by decide) rfl ?_
  intro p e s m args below meth c s₁ B hml hv
  obtain ⟨rfl, hsz, hP, hK, hD0⟩ := hv
  have hx := B.exec
  have hb := B.bytes
  have hr := B.returns
  have hts := atoms_spec (ws := WS yX7_at cX7_at 2 (some (.int))) B.pre
  have ht : ∀ w ∈ TW, w.before _ s = true := fun w h => hts w (List.mem_cons_of_mem _ h)
  have hown : s.vm.findClass "PatternWorkshop$Row" = some m.cls := findClass_of_methodNamed B.named
  have hlocks := B.notSynchronized
  subst hsz
  have hD := hD0.self (sz := s.heap.size)
  generalize hAe : va_A [(h0, .inr (10, oX7 (.ref h1) v_count v_over v_there)), (h1, .inl (k0, nv_items, .inl v_items))] s.heap.size = A at hD ⊢
  have hA : ∀ q : Nat, s.heap.size ≤ q → A q := fun q h => by rw [← hAe]; exact Or.inr h
  have hS : va_S A s.heap s.heap [] := va_S.rf
  have hP : va_P (dC, dI) vwCl [(h0, .inr (10, oX7 (.ref h1) v_count v_over v_there)), (h1, .inl (k0, nv_items, .inl v_items))] s.heap := hP
  have hl := lv_entry ([.ref h0, .int p1]) (n := 2) (Nat.le_of_ble_eq_true rfl)
  rw [lg_entry_eq]
  generalize (lg_sl ([.ref h0, .int p1]) ++ List.replicate (2 - (lg_sl ([.ref h0, .int p1])).length) Slot.unset).toArray = ls at hl ⊢
  have hl : lv_has ls 2 [(0, .ref h0), (1, .int p1)] := hl
  clear hD0
  obtain ⟨QQ, hQQ⟩ : ∃ QQ, QQ = MQ below (va_Qi (fun (r u : Int32) => r = u) (fun (u : Int32) (t : State) => (Q u) ∧ va_P (dC, dI) vwCl [(h0, .inr (10, oX7 (.ref h1) v_count v_over v_there)), (h1, .inl (k0, nv_items, .inl v_items))] t.heap ∧ va_D A [(h0, .inr (10, oX7 (.ref h1) v_count v_over v_there)), (h1, .inl (k0, nv_items, .inl v_items))]) A) ([.ref h0, .int p1]).toArray s 0 0 A := ⟨_, rfl⟩
  show W p l e ({ frames := 0, cells := 0, slots := 0, locals := 0 } : Room) s m ([.ref h0, .int p1]).toArray below meth c s.heap [] 0 0 (MQ below (va_Qi (fun (r u : Int32) => r = u) (fun (u : Int32) (t : State) => (Q u) ∧ va_P (dC, dI) vwCl [(h0, .inr (10, oX7 (.ref h1) v_count v_over v_there)), (h1, .inl (k0, nv_items, .inl v_items))] t.heap ∧ va_D A [(h0, .inr (10, oX7 (.ref h1) v_count v_over v_there)), (h1, .inl (k0, nv_items, .inl v_items))]) A) ([.ref h0, .int p1]).toArray s 0 0 A) (F0 m 0 ls [])
  rw [← hQQ]
  unfold w_X7_at at w
  refine lv_iload_n hx hb dX7_at_0 rfl (lv_at hl 1 rfl) ?_
  have k_31 : ∀ (s0_31 : Int32), ∀ (H_b31 : Heap) (locs_b31 : List Loc) (ls_b31 : Array Slot), w_X7_at_31 Q s0_31 → va_P (dC, dI) vwCl [(h0, .inr (10, oX7 (.ref h1) v_count v_over v_there)), (h1, .inl (k0, nv_items, .inl v_items))] H_b31 → va_D A [(h0, .inr (10, oX7 (.ref h1) v_count v_over v_there)), (h1, .inl (k0, nv_items, .inl v_items))] → va_S A s.heap H_b31 locs_b31 → lv_has ls_b31 2 [] → W p l e ({ frames := 0, cells := 0, slots := 0, locals := 0 } : Room) s m ([.ref h0, .int p1]).toArray below meth c H_b31 locs_b31 0 0 QQ (F0 m 31 ls_b31 [.int s0_31]) := by
    intro s0_31 H_b31 locs_b31 ls_b31 w_b31 hP_b31 hD_b31 hS_b31 hl_b31
    unfold w_X7_at_31 at w_b31
    rw [hQQ]
    exact W.iret (v := s0_31) hx hb hr (fun t9 ht9 hW9 => ⟨⟨s0_31, s0_31, rfl, rfl, ⟨w_b31, by rw [ht9]; exact hP_b31, hD_b31⟩⟩, hS_b31.F ht9⟩) hS_b31.2.2 dX7_at_31
  have k_30 : ∀ (H_b30 : Heap) (locs_b30 : List Loc) (ls_b30 : Array Slot), w_X7_at_30 Q → va_P (dC, dI) vwCl [(h0, .inr (10, oX7 (.ref h1) v_count v_over v_there)), (h1, .inl (k0, nv_items, .inl v_items))] H_b30 → va_D A [(h0, .inr (10, oX7 (.ref h1) v_count v_over v_there)), (h1, .inl (k0, nv_items, .inl v_items))] → va_S A s.heap H_b30 locs_b30 → lv_has ls_b30 2 [] → W p l e ({ frames := 0, cells := 0, slots := 0, locals := 0 } : Room) s m ([.ref h0, .int p1]).toArray below meth c H_b30 locs_b30 0 0 QQ (F0 m 30 ls_b30 []) := by
    intro  H_b30 locs_b30 ls_b30 w_b30 hP_b30 hD_b30 hS_b30 hl_b30
    unfold w_X7_at_30 at w_b30
    refine lv_iconst (v := (-1)) hx hb dX7_at_30 (by decide) ?_
    exact k_31 (-1) _ _ _ w_b30 hP_b30 hD_b30 hS_b30 (lv_sub hl_b30 [] rfl)
  refine lv_if_lt (tgt := 30) hx hb dX7_at_1 (by decide) (fun c_1 => ?_) (fun c_1 => ?_)
  · exact k_30  _ _ _ (w.1 c_1) hP hD hS (lv_sub hl [] rfl)
  · refine lv_iload_n hx hb dX7_at_4 rfl (lv_at hl 1 rfl) ?_
    refine lv_aload_n hx hb dX7_at_5 rfl (lv_at hl 0 rfl) ?_
    refine va_get (D := (dC, dI)) (ci := 10) (v := .int v_count) (C := RX7) (T := TX7) (N := 4) hx hb ht inX7 hown hK hP 0 rfl rfl 1 (by decide) (ht _ tw_277) (fun _ h9 => h9) rfl dX7_at_6 ?_
    refine lv_icmp_ge (tgt := 30) hx hb dX7_at_9 (by decide) (fun c_2 => ?_) (fun c_2 => ?_)
    · exact k_30  _ _ _ ((w.2 c_1).1 c_2) hP hD hS (lv_sub hl [] rfl)
    · refine lv_iload_n hx hb dX7_at_12 rfl (lv_at hl 1 rfl) ?_
      refine lv_aload_n hx hb dX7_at_13 rfl (lv_at hl 0 rfl) ?_
      refine va_get (D := (dC, dI)) (ci := 10) (v := .ref h1) (C := RX7) (T := TX7) (N := 4) hx hb ht inX7 hown hK hP 0 rfl rfl 0 (by decide) (ht _ tw_276) (fun _ h9 => h9) rfl dX7_at_14 ?_
      refine va_alen hx hb hK hP 1 0 rfl rfl rfl dX7_at_17 ?_
      refine lv_topi (fun x_3 ex_3 => ?_)
      have ex_3 : x_3 = Int32.ofNat nv_items := ex_3
      refine lv_icmp_ge (tgt := 30) hx hb dX7_at_18 (by decide) (fun c_4 => ?_) (fun c_4 => ?_)
      · exact k_30  _ _ _ ((((w.2 c_1).2 c_2) x_3 ex_3).1 c_4) hP hD hS (lv_sub hl [] rfl)
      · refine lv_aload_n hx hb dX7_at_21 rfl (lv_at hl 0 rfl) ?_
        refine va_get (D := (dC, dI)) (ci := 10) (v := .ref h1) (C := RX7) (T := TX7) (N := 4) hx hb ht inX7 hown hK hP 0 rfl rfl 0 (by decide) (ht _ tw_276) (fun _ h9 => h9) rfl dX7_at_22 ?_
        refine lv_iload_n hx hb dX7_at_25 rfl (lv_at hl 1 rfl) ?_
        refine va_iald hx hb hK hP 1 0 rfl rfl (i := p1) ((((w.2 c_1).2 c_2) x_3 ex_3).2 c_4).1 dX7_at_26 ?_
        refine lv_topi (fun x_5 ex_5 => ?_)
        have ex_5 : x_5 = v_items p1.toNatClampNeg := ex_5
        refine lv_goto (tgt := 31) hx hb dX7_at_27 (by decide) ?_
        have w_6 := (((((w.2 c_1).2 c_2) x_3 ex_3).2 c_4).2) x_5 ex_5
        exact k_31 x_5 _ _ _ w_6 hP hD hS (lv_sub hl [] rfl)
def w_X7_add_47 (Q : Int32 → Bool → (Nat → Int32) → Prop) (v_count_47 : Int32) (v_over_47 : Bool) (v_items_47 : Nat → Int32) : Prop :=
  Q  v_count_47 v_over_47 v_items_47
def w_X7_add_42 (Q : Int32 → Bool → (Nat → Int32) → Prop) (v_count_42 : Int32) (v_over_42 : Bool) (v_items_42 : Nat → Int32) : Prop :=
  w_X7_add_47 Q v_count_42 true v_items_42
def w_X7_add (p1 : Int32) (v_count : Int32) (v_over : Bool) (v_items : Nat → Int32) (nv_items : Nat) (Q : Int32 → Bool → (Nat → Int32) → Prop) : Prop :=
  ((v_count < 0) → w_X7_add_42 Q v_count v_over v_items) ∧ ((¬ v_count < 0) → ∀ x_3 : Int32, x_3 = Int32.ofNat nv_items → ((x_3 ≤ v_count) → w_X7_add_42 Q v_count v_over v_items) ∧ ((¬ x_3 ≤ v_count) → vp_in v_count nv_items ∧ ∀ g_5 : Nat → Int32, g_5 = upd v_items v_count.toNatClampNeg p1 → ∀ x_6 : Int32, x_6 = v_count + (1 : Int32) → w_X7_add_47 Q x_6 v_over g_5))
set_option maxHeartbeats 4000000 in
set_option maxRecDepth 100000 in
theorem mt_X7_add (l : Launch) (dC : Nat → ClassId) (dI : Nat → Nat → Nat) (h0 h1 : Nat) (k0 : ClassId) (p1 : Int32) (v_count : Int32) (v_over : Bool) (v_there : Bool) (v_items : Nat → Int32) (nv_items : Nat) (Q : Int32 → Bool → (Nat → Int32) → Prop) (w : w_X7_add p1 v_count v_over v_items nv_items Q) (sz : Nat) : Met l yX7_add (WS yX7_add cX7_add 2 none) ({ frames := 0, cells := 0, slots := 0, locals := 0 } : Room) (va_Pc [.ref h0, .int p1] (fun U => U.heap.size = sz ∧ va_P (dC, dI) vwCl [(h0, .inr (10, oX7 (.ref h1) v_count v_over v_there)), (h1, .inl (k0, nv_items, .inl v_items))] U.heap ∧ va_K (dC, dI) vwCl [(k0, .int)] U ∧ va_D (fun _ => True) [(h0, .inr (10, oX7 (.ref h1) v_count v_over v_there)), (h1, .inl (k0, nv_items, .inl v_items))])) (va_Qv (fun (u : Nat) => u = 0) (fun (_ : Nat) (t : State) => ∃ (ov_count : Int32), ∃ (ov_over : Bool), ∃ (ov_items : Nat → Int32), (Q ov_count ov_over ov_items) ∧ va_P (dC, dI) vwCl [(h0, .inr (10, oX7 (.ref h1) ov_count ov_over v_there)), (h1, .inl (k0, nv_items, .inl ov_items))] t.heap ∧ va_D (va_A [(h0, .inr (10, oX7 (.ref h1) v_count v_over v_there)), (h1, .inl (k0, nv_items, .inl v_items))] sz) [(h0, .inr (10, oX7 (.ref h1) ov_count ov_over v_there)), (h1, .inl (k0, nv_items, .inl ov_items))]) (va_A [(h0, .inr (10, oX7 (.ref h1) v_count v_over v_there)), (h1, .inl (k0, nv_items, .inl v_items))] sz)) 0 0 (va_A [(h0, .inr (10, oX7 (.ref h1) v_count v_over v_there)), (h1, .inl (k0, nv_items, .inl v_items))] sz) := by
  refine Met.ofW (cc := cX7_add) (maxL := 2) (ret := none) (by decide) rfl ?_
  intro p e s m args below meth c s₁ B hml hv
  obtain ⟨rfl, hsz, hP, hK, hD0⟩ := hv
  have hx := B.exec
  have hb := B.bytes
  have hr := B.returns
  have hts := atoms_spec (ws := WS yX7_add cX7_add 2 none) B.pre
  have ht : ∀ w ∈ TW, w.before _ s = true := fun w h => hts w (List.mem_cons_of_mem _ h)
  have hown : s.vm.findClass "PatternWorkshop$Row" = some m.cls := findClass_of_methodNamed B.named
  have hlocks := B.notSynchronized
  subst hsz
  have hD := hD0.self (sz := s.heap.size)
  generalize hAe : va_A [(h0, .inr (10, oX7 (.ref h1) v_count v_over v_there)), (h1, .inl (k0, nv_items, .inl v_items))] s.heap.size = A at hD ⊢
  have hA : ∀ q : Nat, s.heap.size ≤ q → A q := fun q h => by rw [← hAe]; exact Or.inr h
  have hS : va_S A s.heap s.heap [] := va_S.rf
  have hP : va_P (dC, dI) vwCl [(h0, .inr (10, oX7 (.ref h1) v_count v_over v_there)), (h1, .inl (k0, nv_items, .inl v_items))] s.heap := hP
  have hl := lv_entry ([.ref h0, .int p1]) (n := 2) (Nat.le_of_ble_eq_true rfl)
  rw [lg_entry_eq]
  generalize (lg_sl ([.ref h0, .int p1]) ++ List.replicate (2 - (lg_sl ([.ref h0, .int p1])).length) Slot.unset).toArray = ls at hl ⊢
  have hl : lv_has ls 2 [(0, .ref h0), (1, .int p1)] := hl
  clear hD0
  obtain ⟨QQ, hQQ⟩ : ∃ QQ, QQ = MQ below (va_Qv (fun (u : Nat) => u = 0) (fun (_ : Nat) (t : State) => ∃ (ov_count : Int32), ∃ (ov_over : Bool), ∃ (ov_items : Nat → Int32), (Q ov_count ov_over ov_items) ∧ va_P (dC, dI) vwCl [(h0, .inr (10, oX7 (.ref h1) ov_count ov_over v_there)), (h1, .inl (k0, nv_items, .inl ov_items))] t.heap ∧ va_D A [(h0, .inr (10, oX7 (.ref h1) ov_count ov_over v_there)), (h1, .inl (k0, nv_items, .inl ov_items))]) A) ([.ref h0, .int p1]).toArray s 0 0 A := ⟨_, rfl⟩
  show W p l e ({ frames := 0, cells := 0, slots := 0, locals := 0 } : Room) s m ([.ref h0, .int p1]).toArray below meth c s.heap [] 0 0 (MQ below (va_Qv (fun (u : Nat) => u = 0) (fun (_ : Nat) (t : State) => ∃ (ov_count : Int32), ∃ (ov_over : Bool), ∃ (ov_items : Nat → Int32), (Q ov_count ov_over ov_items) ∧ va_P (dC, dI) vwCl [(h0, .inr (10, oX7 (.ref h1) ov_count ov_over v_there)), (h1, .inl (k0, nv_items, .inl ov_items))] t.heap ∧ va_D A [(h0, .inr (10, oX7 (.ref h1) ov_count ov_over v_there)), (h1, .inl (k0, nv_items, .inl ov_items))]) A) ([.ref h0, .int p1]).toArray s 0 0 A) (F0 m 0 ls [])
  rw [← hQQ]
  unfold w_X7_add at w
  refine lv_aload_n hx hb dX7_add_0 rfl (lv_at hl 0 rfl) ?_
  refine va_get (D := (dC, dI)) (ci := 10) (v := .int v_count) (C := RX7) (T := TX7) (N := 4) hx hb ht inX7 hown hK hP 0 rfl rfl 1 (by decide) (ht _ tw_277) (fun _ h9 => h9) rfl dX7_add_1 ?_
  have k_47 : ∀ (v_count_47 : Int32) (v_over_47 : Bool) (v_items_47 : Nat → Int32), ∀ (H_b47 : Heap) (locs_b47 : List Loc) (ls_b47 : Array Slot), w_X7_add_47 Q v_count_47 v_over_47 v_items_47 → va_P (dC, dI) vwCl [(h0, .inr (10, oX7 (.ref h1) v_count_47 v_over_47 v_there)), (h1, .inl (k0, nv_items, .inl v_items_47))] H_b47 → va_D A [(h0, .inr (10, oX7 (.ref h1) v_count_47 v_over_47 v_there)), (h1, .inl (k0, nv_items, .inl v_items_47))] → va_S A s.heap H_b47 locs_b47 → lv_has ls_b47 2 [] → W p l e ({ frames := 0, cells := 0, slots := 0, locals := 0 } : Room) s m ([.ref h0, .int p1]).toArray below meth c H_b47 locs_b47 0 0 QQ (F0 m 47 ls_b47 []) := by
    intro v_count_47 v_over_47 v_items_47 H_b47 locs_b47 ls_b47 w_b47 hP_b47 hD_b47 hS_b47 hl_b47
    unfold w_X7_add_47 at w_b47
    rw [hQQ]
    exact W.vret hx hb hr (fun t9 ht9 hW9 => ⟨⟨0, rfl, rfl, ⟨v_count_47, v_over_47, v_items_47, w_b47, by rw [ht9]; exact hP_b47, hD_b47⟩⟩, hS_b47.F ht9⟩) hS_b47.2.2 dX7_add_47
  have k_42 : ∀ (v_count_42 : Int32) (v_over_42 : Bool) (v_items_42 : Nat → Int32), ∀ (H_b42 : Heap) (locs_b42 : List Loc) (ls_b42 : Array Slot), w_X7_add_42 Q v_count_42 v_over_42 v_items_42 → va_P (dC, dI) vwCl [(h0, .inr (10, oX7 (.ref h1) v_count_42 v_over_42 v_there)), (h1, .inl (k0, nv_items, .inl v_items_42))] H_b42 → va_D A [(h0, .inr (10, oX7 (.ref h1) v_count_42 v_over_42 v_there)), (h1, .inl (k0, nv_items, .inl v_items_42))] → va_S A s.heap H_b42 locs_b42 → lv_has ls_b42 2 [(0, .ref h0)] → W p l e ({ frames := 0, cells := 0, slots := 0, locals := 0 } : Room) s m ([.ref h0, .int p1]).toArray below meth c H_b42 locs_b42 0 0 QQ (F0 m 42 ls_b42 []) := by
    intro v_count_42 v_over_42 v_items_42 H_b42 locs_b42 ls_b42 w_b42 hP_b42 hD_b42 hS_b42 hl_b42
    unfold w_X7_add_42 at w_b42
    refine lv_aload_n hx hb dX7_add_42 rfl (lv_at hl_b42 0 rfl) ?_
    refine lv_iconst (v := 1) hx hb dX7_add_43 (by decide) ?_
    refine va_put (D := (dC, dI)) (ci := 10) (v := .int 1) (ty := .boolean) (C := RX7) (T := TX7) (N := 4) hx hb ht inX7 tyX7 tyX7_ok nmX7 hown hK hP_b42 hD_b42 hS_b42 0 rfl rfl 2 (by decide) (ht _ tw_284) (fun _ h9 => h9) rfl (by decide +kernel) rfl rfl (Nat.le_of_ble_eq_true rfl) dX7_add_44 (fun H_1 locs_1 hP_1 hD_1 hS_1 => ?_)
    have hP_1 : va_P (dC, dI) vwCl [(h0, .inr (10, oX7 (.ref h1) v_count_42 true v_there)), (h1, .inl (k0, nv_items, .inl v_items_42))] H_1 := hP_1
    have hD_1 : va_D A [(h0, .inr (10, oX7 (.ref h1) v_count_42 true v_there)), (h1, .inl (k0, nv_items, .inl v_items_42))] := hD_1
    exact k_47 v_count_42 true v_items_42 _ _ _ w_b42 hP_1 hD_1 hS_1 (lv_sub hl_b42 [] rfl)
  refine lv_if_lt (tgt := 42) hx hb dX7_add_4 (by decide) (fun c_2 => ?_) (fun c_2 => ?_)
  · exact k_42 v_count v_over v_items _ _ _ (w.1 c_2) hP hD hS (lv_sub hl [0] rfl)
  · refine lv_aload_n hx hb dX7_add_7 rfl (lv_at hl 0 rfl) ?_
    refine va_get (D := (dC, dI)) (ci := 10) (v := .int v_count) (C := RX7) (T := TX7) (N := 4) hx hb ht inX7 hown hK hP 0 rfl rfl 1 (by decide) (ht _ tw_277) (fun _ h9 => h9) rfl dX7_add_8 ?_
    refine lv_aload_n hx hb dX7_add_11 rfl (lv_at hl 0 rfl) ?_
    refine va_get (D := (dC, dI)) (ci := 10) (v := .ref h1) (C := RX7) (T := TX7) (N := 4) hx hb ht inX7 hown hK hP 0 rfl rfl 0 (by decide) (ht _ tw_276) (fun _ h9 => h9) rfl dX7_add_12 ?_
    refine va_alen hx hb hK hP 1 0 rfl rfl rfl dX7_add_15 ?_
    refine lv_topi (fun x_3 ex_3 => ?_)
    have ex_3 : x_3 = Int32.ofNat nv_items := ex_3
    refine lv_icmp_ge (tgt := 42) hx hb dX7_add_16 (by decide) (fun c_4 => ?_) (fun c_4 => ?_)
    · exact k_42 v_count v_over v_items _ _ _ ((w.2 c_2 x_3 ex_3).1 c_4) hP hD hS (lv_sub hl [0] rfl)
    · refine lv_aload_n hx hb dX7_add_19 rfl (lv_at hl 0 rfl) ?_
      refine va_get (D := (dC, dI)) (ci := 10) (v := .ref h1) (C := RX7) (T := TX7) (N := 4) hx hb ht inX7 hown hK hP 0 rfl rfl 0 (by decide) (ht _ tw_276) (fun _ h9 => h9) rfl dX7_add_20 ?_
      refine lv_aload_n hx hb dX7_add_23 rfl (lv_at hl 0 rfl) ?_
      refine va_get (D := (dC, dI)) (ci := 10) (v := .int v_count) (C := RX7) (T := TX7) (N := 4) hx hb ht inX7 hown hK hP 0 rfl rfl 1 (by decide) (ht _ tw_277) (fun _ h9 => h9) rfl dX7_add_24 ?_
      refine lv_iload_n hx hb dX7_add_27 rfl (lv_at hl 1 rfl) ?_
      refine va_iast hx hb hK hP hD hS 1 0 rfl rfl (i := v_count) ((w.2 c_2 x_3 ex_3).2 c_4).1 dX7_add_28 (fun H_5 locs_5 hP_5 hD_5 hS_5 => ?_)
      obtain ⟨g_5, hg_5⟩ : ∃ g : Nat → Int32, g = upd v_items v_count.toNatClampNeg p1 := ⟨_, rfl⟩
      have hP_5 : va_P (dC, dI) vwCl [(h0, .inr (10, oX7 (.ref h1) v_count v_over v_there)), (h1, .inl (k0, nv_items, .inl g_5))] H_5 := by rw [hg_5]; exact hP_5
      have hD_5 : va_D A [(h0, .inr (10, oX7 (.ref h1) v_count v_over v_there)), (h1, .inl (k0, nv_items, .inl g_5))] := by rw [hg_5]; exact hD_5
      refine lv_aload_n hx hb dX7_add_29 rfl (lv_at hl 0 rfl) ?_
      refine lv_dup hx hb dX7_add_30 rfl ?_
      refine va_get (D := (dC, dI)) (ci := 10) (v := .int v_count) (C := RX7) (T := TX7) (N := 4) hx hb ht inX7 hown hK hP_5 0 rfl rfl 1 (by decide) (ht _ tw_277) (fun _ h9 => h9) rfl dX7_add_31 ?_
      refine lv_iconst (v := 1) hx hb dX7_add_34 (by decide) ?_
      refine lv_iadd hx hb dX7_add_35 ?_
      refine lv_topi (fun x_6 ex_6 => ?_)
      have ex_6 : x_6 = v_count + (1 : Int32) := ex_6
      refine va_put (D := (dC, dI)) (ci := 10) (v := .int x_6) (ty := .int) (C := RX7) (T := TX7) (N := 4) hx hb ht inX7 tyX7 tyX7_ok nmX7 hown hK hP_5 hD_5 hS_5 0 rfl rfl 1 (by decide) (ht _ tw_277) (fun _ h9 => h9) rfl (by decide +kernel) rfl rfl (Nat.le_of_ble_eq_true rfl) dX7_add_36 (fun H_7 locs_7 hP_7 hD_7 hS_7 => ?_)
      have hP_7 : va_P (dC, dI) vwCl [(h0, .inr (10, oX7 (.ref h1) x_6 v_over v_there)), (h1, .inl (k0, nv_items, .inl g_5))] H_7 := hP_7
      have hD_7 : va_D A [(h0, .inr (10, oX7 (.ref h1) x_6 v_over v_there)), (h1, .inl (k0, nv_items, .inl g_5))] := hD_7
      refine lv_goto (tgt := 47) hx hb dX7_add_39 (by decide) ?_
      have w_8 := ((((w.2 c_2 x_3 ex_3).2 c_4).2) g_5 hg_5) x_6 ex_6
      exact k_47 x_6 v_over g_5 _ _ _ w_8 hP_7 hD_7 hS_7 (lv_sub hl [] rfl)
def w_X7_addFrom_38 (Q : Int32 → Bool → (Nat → Int32) → Prop) (v_count_38 : Int32) (v_over_38 : Bool) (v_items_38 : Nat → Int32) : Prop :=
  Q  v_count_38 v_over_38 v_items_38
def w_X7_addFrom_7B (p3 : Int32) (a1_count : Int32) (a1_items : Nat → Int32) (na1_items : Nat) (nv_items : Nat) (Q : Int32 → Bool → (Nat → Int32) → Prop) (K7 : Int32 → Int32 → Bool → (Nat → Int32) → Prop) (l4_7 : Int32) (v_count_7 : Int32) (v_over_7 : Bool) (v_items_7 : Nat → Int32) : Prop :=
  ((p3 ≤ l4_7) → w_X7_addFrom_38 Q v_count_7 v_over_7 v_items_7) ∧ ((¬ p3 ≤ l4_7) → ((a1_count ≤ l4_7) → w_X7_addFrom_38 Q v_count_7 v_over_7 v_items_7) ∧ ((¬ a1_count ≤ l4_7) → w_X7_at l4_7 a1_count a1_items na1_items (fun r_5 => w_X7_add r_5 v_count_7 v_over_7 v_items_7 nv_items (fun r_6_0 r_6_1 r_6_2 => ∀ x_7 : Int32, x_7 = l4_7 + 1 → K7 x_7 r_6_0 r_6_1 r_6_2))))
def w_X7_addFrom_7 (p3 : Int32) (a1_count : Int32) (a1_items : Nat → Int32) (na1_items : Nat) (nv_items : Nat) (Q : Int32 → Bool → (Nat → Int32) → Prop) : Nat → Int32 → Int32 → Bool → (Nat → Int32) → Prop
  | 0, _, _, _, _ => False
  | n9 + 1, l4_7, v_count_7, v_over_7, v_items_7 => w_X7_addFrom_7B p3 a1_count a1_items na1_items nv_items Q (w_X7_addFrom_7 p3 a1_count a1_items na1_items nv_items Q n9) l4_7 v_count_7 v_over_7 v_items_7
def w_X7_addFrom (p2 : Int32) (p3 : Int32) (a1_count : Int32) (a1_items : Nat → Int32) (na1_items : Nat) (v_count : Int32) (v_over : Bool) (v_items : Nat → Int32) (nv_items : Nat) (Q : Int32 → Bool → (Nat → Int32) → Prop) : Prop :=
  ∀ x_1 : Int32, x_1 = (if p2 < (0 : Int32) then (0 : Int32) else p2) → ∃ k9 : Nat, w_X7_addFrom_7 p3 a1_count a1_items na1_items nv_items Q k9 x_1 v_count v_over v_items
set_option maxHeartbeats 4000000 in
set_option maxRecDepth 100000 in
theorem mt_X7_addFrom (l : Launch) (dC : Nat → ClassId) (dI : Nat → Nat → Nat) (h0 h1 h2 h3 : Nat) (k0 k1 : ClassId) (p2 : Int32) (p3 : Int32) (a1_count : Int32) (a1_over : Bool) (a1_there : Bool) (a1_items : Nat → Int32) (na1_items : Nat) (v_count : Int32) (v_over : Bool) (v_there : Bool) (v_items : Nat → Int32) (nv_items : Nat) (Q : Int32 → Bool → (Nat → Int32) → Prop) (w : w_X7_addFrom p2 p3 a1_count a1_items na1_items v_count v_over v_items nv_items Q) (sz : Nat) : Met l yX7_addFrom (WS yX7_addFrom cX7_addFrom 5 none) ({ frames := 1, cells := 0, slots := 0, locals := 21 } : Room) (va_Pc [.ref h0, .ref h1, .int p2, .int p3] (fun U => U.heap.size = sz ∧ va_P (dC, dI) vwCl [(h1, .inr (10, oX7 (.ref h2) a1_count a1_over a1_there)), (h2, .inl (k0, na1_items, .inl a1_items)), (h0, .inr (10, oX7 (.ref h3) v_count v_over v_there)), (h3, .inl (k1, nv_items, .inl v_items))] U.heap ∧ va_K (dC, dI) vwCl [(k0, .int), (k1, .int)] U ∧ va_D (fun _ => True) [(h1, .inr (10, oX7 (.ref h2) a1_count a1_over a1_there)), (h2, .inl (k0, na1_items, .inl a1_items)), (h0, .inr (10, oX7 (.ref h3) v_count v_over v_there)), (h3, .inl (k1, nv_items, .inl v_items))])) (va_Qv (fun (u : Nat) => u = 0) (fun (_ : Nat) (t : State) => ∃ (ov_count : Int32), ∃ (ov_over : Bool), ∃ (ov_items : Nat → Int32), (Q ov_count ov_over ov_items) ∧ va_P (dC, dI) vwCl [(h1, .inr (10, oX7 (.ref h2) a1_count a1_over a1_there)), (h2, .inl (k0, na1_items, .inl a1_items)), (h0, .inr (10, oX7 (.ref h3) ov_count ov_over v_there)), (h3, .inl (k1, nv_items, .inl ov_items))] t.heap ∧ va_D (va_A [(h1, .inr (10, oX7 (.ref h2) a1_count a1_over a1_there)), (h2, .inl (k0, na1_items, .inl a1_items)), (h0, .inr (10, oX7 (.ref h3) v_count v_over v_there)), (h3, .inl (k1, nv_items, .inl v_items))] sz) [(h1, .inr (10, oX7 (.ref h2) a1_count a1_over a1_there)), (h2, .inl (k0, na1_items, .inl a1_items)), (h0, .inr (10, oX7 (.ref h3) ov_count ov_over v_there)), (h3, .inl (k1, nv_items, .inl ov_items))]) (va_A [(h1, .inr (10, oX7 (.ref h2) a1_count a1_over a1_there)), (h2, .inl (k0, na1_items, .inl a1_items)), (h0, .inr (10, oX7 (.ref h3) v_count v_over v_there)), (h3, .inl (k1, nv_items, .inl v_items))] sz)) 0 0 (va_A [(h1, .inr (10, oX7 (.ref h2) a1_count a1_over a1_there)), (h2, .inl (k0, na1_items, .inl a1_items)), (h0, .inr (10, oX7 (.ref h3) v_count v_over v_there)), (h3, .inl (k1, nv_items, .inl v_items))] sz) := by
  refine Met.ofW (cc := cX7_addFrom) (maxL := 5) (ret := none) (by decide) rfl ?_
  intro p e s m args below meth c s₁ B hml hv
  obtain ⟨rfl, hsz, hP, hK, hD0⟩ := hv
  have hx := B.exec
  have hb := B.bytes
  have hr := B.returns
  have hts := atoms_spec (ws := WS yX7_addFrom cX7_addFrom 5 none) B.pre
  have ht : ∀ w ∈ TW, w.before _ s = true := fun w h => hts w (List.mem_cons_of_mem _ h)
  have hown : s.vm.findClass "PatternWorkshop$Row" = some m.cls := findClass_of_methodNamed B.named
  have hlocks := B.notSynchronized
  subst hsz
  have hD := hD0.self (sz := s.heap.size)
  generalize hAe : va_A [(h1, .inr (10, oX7 (.ref h2) a1_count a1_over a1_there)), (h2, .inl (k0, na1_items, .inl a1_items)), (h0, .inr (10, oX7 (.ref h3) v_count v_over v_there)), (h3, .inl (k1, nv_items, .inl v_items))] s.heap.size = A at hD ⊢
  have hA : ∀ q : Nat, s.heap.size ≤ q → A q := fun q h => by rw [← hAe]; exact Or.inr h
  have hS : va_S A s.heap s.heap [] := va_S.rf
  have hP : va_P (dC, dI) vwCl [(h1, .inr (10, oX7 (.ref h2) a1_count a1_over a1_there)), (h2, .inl (k0, na1_items, .inl a1_items)), (h0, .inr (10, oX7 (.ref h3) v_count v_over v_there)), (h3, .inl (k1, nv_items, .inl v_items))] s.heap := hP
  have hl := lv_entry ([.ref h0, .ref h1, .int p2, .int p3]) (n := 5) (Nat.le_of_ble_eq_true rfl)
  rw [lg_entry_eq]
  generalize (lg_sl ([.ref h0, .ref h1, .int p2, .int p3]) ++ List.replicate (5 - (lg_sl ([.ref h0, .ref h1, .int p2, .int p3])).length) Slot.unset).toArray = ls at hl ⊢
  have hl : lv_has ls 5 [(0, .ref h0), (1, .ref h1), (2, .int p2), (3, .int p3)] := hl
  clear hD0
  obtain ⟨QQ, hQQ⟩ : ∃ QQ, QQ = MQ below (va_Qv (fun (u : Nat) => u = 0) (fun (_ : Nat) (t : State) => ∃ (ov_count : Int32), ∃ (ov_over : Bool), ∃ (ov_items : Nat → Int32), (Q ov_count ov_over ov_items) ∧ va_P (dC, dI) vwCl [(h1, .inr (10, oX7 (.ref h2) a1_count a1_over a1_there)), (h2, .inl (k0, na1_items, .inl a1_items)), (h0, .inr (10, oX7 (.ref h3) ov_count ov_over v_there)), (h3, .inl (k1, nv_items, .inl ov_items))] t.heap ∧ va_D A [(h1, .inr (10, oX7 (.ref h2) a1_count a1_over a1_there)), (h2, .inl (k0, na1_items, .inl a1_items)), (h0, .inr (10, oX7 (.ref h3) ov_count ov_over v_there)), (h3, .inl (k1, nv_items, .inl ov_items))]) A) ([.ref h0, .ref h1, .int p2, .int p3]).toArray s 0 0 A := ⟨_, rfl⟩
  show W p l e ({ frames := 1, cells := 0, slots := 0, locals := 21 } : Room) s m ([.ref h0, .ref h1, .int p2, .int p3]).toArray below meth c s.heap [] 0 0 (MQ below (va_Qv (fun (u : Nat) => u = 0) (fun (_ : Nat) (t : State) => ∃ (ov_count : Int32), ∃ (ov_over : Bool), ∃ (ov_items : Nat → Int32), (Q ov_count ov_over ov_items) ∧ va_P (dC, dI) vwCl [(h1, .inr (10, oX7 (.ref h2) a1_count a1_over a1_there)), (h2, .inl (k0, na1_items, .inl a1_items)), (h0, .inr (10, oX7 (.ref h3) ov_count ov_over v_there)), (h3, .inl (k1, nv_items, .inl ov_items))] t.heap ∧ va_D A [(h1, .inr (10, oX7 (.ref h2) a1_count a1_over a1_there)), (h2, .inl (k0, na1_items, .inl a1_items)), (h0, .inr (10, oX7 (.ref h3) ov_count ov_over v_there)), (h3, .inl (k1, nv_items, .inl ov_items))]) A) ([.ref h0, .ref h1, .int p2, .int p3]).toArray s 0 0 A) (F0 m 0 ls [])
  rw [← hQQ]
  unfold w_X7_addFrom at w
  refine lv_iload_n hx hb dX7_addFrom_0 rfl (lv_at hl 2 rfl) ?_
  refine lv_iconst (v := 0) hx hb dX7_addFrom_1 (by decide) ?_
  refine va_mmax hx hb (by rw [hml]; exact hl.1.symm) hown (ht _ tw_273) (ht _ tw_274) (ht _ tw_238) (ht _ tw_275) (Nat.le_of_ble_eq_true rfl) (Nat.le_of_ble_eq_true rfl) (Nat.le_of_ble_eq_true rfl) (Nat.le_of_ble_eq_true rfl) dX7_addFrom_2 ?_
  refine lv_topi (fun x_1 ex_1 => ?_)
  have ex_1 : x_1 = (if p2 < (0 : Int32) then (0 : Int32) else p2) := ex_1
  refine lv_istore (lv' := [(4, .int x_1), (0, .ref h0), (1, .ref h1), (2, .int p2), (3, .int p3)]) hx hb dX7_addFrom_5 hl (by decide) rfl (fun ls_2 hl_2 => ?_)
  clear hl
  have k_7 : ∀ n_7 : Nat, ∀ (l4_7 : Int32) (v_count_7 : Int32) (v_over_7 : Bool) (v_items_7 : Nat → Int32), ∀ (H_b7 : Heap) (locs_b7 : List Loc) (ls_b7 : Array Slot), w_X7_addFrom_7 p3 a1_count a1_items na1_items nv_items Q n_7 l4_7 v_count_7 v_over_7 v_items_7 → va_P (dC, dI) vwCl [(h1, .inr (10, oX7 (.ref h2) a1_count a1_over a1_there)), (h2, .inl (k0, na1_items, .inl a1_items)), (h0, .inr (10, oX7 (.ref h3) v_count_7 v_over_7 v_there)), (h3, .inl (k1, nv_items, .inl v_items_7))] H_b7 → va_D A [(h1, .inr (10, oX7 (.ref h2) a1_count a1_over a1_there)), (h2, .inl (k0, na1_items, .inl a1_items)), (h0, .inr (10, oX7 (.ref h3) v_count_7 v_over_7 v_there)), (h3, .inl (k1, nv_items, .inl v_items_7))] → va_S A s.heap H_b7 locs_b7 → lv_has ls_b7 5 [(0, .ref h0), (1, .ref h1), (3, .int p3), (4, .int l4_7)] → W p l e ({ frames := 1, cells := 0, slots := 0, locals := 21 } : Room) s m ([.ref h0, .ref h1, .int p2, .int p3]).toArray below meth c H_b7 locs_b7 0 0 QQ (F0 m 7 ls_b7 []) := by
    intro n_7
    induction n_7 with
    | zero =>
      intro l4_7 v_count_7 v_over_7 v_items_7 H_b7 locs_b7 ls_b7 w_b7 hP_b7 hD_b7 hS_b7 hl_b7
      exact False.elim (by unfold w_X7_addFrom_7 at w_b7; exact w_b7)
    | succ n_7 ih_7 =>
      intro l4_7 v_count_7 v_over_7 v_items_7 H_b7 locs_b7 ls_b7 w_b7 hP_b7 hD_b7 hS_b7 hl_b7
      unfold w_X7_addFrom_7 at w_b7
      unfold w_X7_addFrom_7B at w_b7
      refine lv_iload hx hb dX7_addFrom_7 (lv_at hl_b7 3 rfl) ?_
      refine lv_iload_n hx hb dX7_addFrom_9 rfl (lv_at hl_b7 2 rfl) ?_
      have k_38 : ∀ (v_count_38 : Int32) (v_over_38 : Bool) (v_items_38 : Nat → Int32), ∀ (H_b38 : Heap) (locs_b38 : List Loc) (ls_b38 : Array Slot), w_X7_addFrom_38 Q v_count_38 v_over_38 v_items_38 → va_P (dC, dI) vwCl [(h1, .inr (10, oX7 (.ref h2) a1_count a1_over a1_there)), (h2, .inl (k0, na1_items, .inl a1_items)), (h0, .inr (10, oX7 (.ref h3) v_count_38 v_over_38 v_there)), (h3, .inl (k1, nv_items, .inl v_items_38))] H_b38 → va_D A [(h1, .inr (10, oX7 (.ref h2) a1_count a1_over a1_there)), (h2, .inl (k0, na1_items, .inl a1_items)), (h0, .inr (10, oX7 (.ref h3) v_count_38 v_over_38 v_there)), (h3, .inl (k1, nv_items, .inl v_items_38))] → va_S A s.heap H_b38 locs_b38 → lv_has ls_b38 5 [] → W p l e ({ frames := 1, cells := 0, slots := 0, locals := 21 } : Room) s m ([.ref h0, .ref h1, .int p2, .int p3]).toArray below meth c H_b38 locs_b38 0 0 QQ (F0 m 38 ls_b38 []) := by
        intro v_count_38 v_over_38 v_items_38 H_b38 locs_b38 ls_b38 w_b38 hP_b38 hD_b38 hS_b38 hl_b38
        unfold w_X7_addFrom_38 at w_b38
        rw [hQQ]
        exact W.vret hx hb hr (fun t9 ht9 hW9 => ⟨⟨0, rfl, rfl, ⟨v_count_38, v_over_38, v_items_38, w_b38, by rw [ht9]; exact hP_b38, hD_b38⟩⟩, hS_b38.F ht9⟩) hS_b38.2.2 dX7_addFrom_38
      refine lv_icmp_ge (tgt := 38) hx hb dX7_addFrom_10 (by decide) (fun c_3 => ?_) (fun c_3 => ?_)
      · exact k_38 v_count_7 v_over_7 v_items_7 _ _ _ (w_b7.1 c_3) hP_b7 hD_b7 hS_b7 (lv_sub hl_b7 [] rfl)
      · refine lv_iload hx hb dX7_addFrom_13 (lv_at hl_b7 3 rfl) ?_
        refine lv_aload_n hx hb dX7_addFrom_15 rfl (lv_at hl_b7 1 rfl) ?_
        refine va_get (D := (dC, dI)) (ci := 10) (v := .int a1_count) (C := RX7) (T := TX7) (N := 4) hx hb ht inX7 hown hK hP_b7 0 rfl rfl 1 (by decide) (ht _ tw_277) (fun _ h9 => h9) rfl dX7_addFrom_16 ?_
        refine lv_icmp_ge (tgt := 38) hx hb dX7_addFrom_19 (by decide) (fun c_4 => ?_) (fun c_4 => ?_)
        · exact k_38 v_count_7 v_over_7 v_items_7 _ _ _ ((w_b7.2 c_3).1 c_4) hP_b7 hD_b7 hS_b7 (lv_sub hl_b7 [] rfl)
        · refine lv_aload_n hx hb dX7_addFrom_22 rfl (lv_at hl_b7 0 rfl) ?_
          refine lv_aload_n hx hb dX7_addFrom_23 rfl (lv_at hl_b7 1 rfl) ?_
          refine lv_iload hx hb dX7_addFrom_24 (lv_at hl_b7 3 rfl) ?_
          have hPc_5 := vaPq hP_b7 (wsq := [(h1, .inr (10, oX7 (.ref h2) a1_count a1_over a1_there)), (h2, .inl (k0, na1_items, .inl a1_items))]) [0, 1] rfl
          have hDc_5 := vaDq hD_b7 (wsq := [(h1, .inr (10, oX7 (.ref h2) a1_count a1_over a1_there)), (h2, .inl (k0, na1_items, .inl a1_items))]) [0, 1] (by decide) rfl
          have hKc_5 := vaKq hK (tysq := [(k0, .int)]) [0] rfl
          have hFc_5 := va_free (wc := [(h1, .inr (10, oX7 (.ref h2) a1_count a1_over a1_there)), (h2, .inl (k0, na1_items, .inl a1_items))]) hD_b7 hS_b7 hA [0, 1] rfl
          refine va_calli (va_runV (As := [.int l4_7]) (rest := [.ref h0]) ⟨hx, hb, hml, hown, ht⟩ (mt_X7_at l dC dI h1 h2 k0 l4_7 a1_count a1_over a1_there a1_items na1_items _ ((w_b7.2 c_3).2 c_4) H_b7.size) (cwV 1 ht (goodV tw_1281 tw_908 tw_909 tw_237 gw_X7_at) rfl rfl rfl (by decide +kernel) ⟨Nat.le_of_ble_eq_true rfl, Nat.le_of_ble_eq_true rfl⟩) ⟨fun a U g mk q => by obtain ⟨q0, q1, qP, qK, qD⟩ := q; exact ⟨q0, q1, qP, va_K.moved (u := U) (U := U.calling g mk a) (Vm.Alike.refl U.vm) qK, qD⟩, va_recv hKc_5 hPc_5 (ci := 10) (q0 := 0) rfl rfl, fun U hU hW => ⟨rfl, by rw [hU], by rw [hU]; exact hPc_5, va_K.moved hW.alike hKc_5, hDc_5.weaken (fun _ _ _ _ => trivial)⟩⟩ rfl rfl hl_b7.1 rfl (lv_room (Nat.le_of_ble_eq_true rfl)) dX7_addFrom_26 ⟨Nat.le_of_ble_eq_true rfl, Nat.le_of_ble_eq_true rfl⟩) hS_b7 (fun q _ h => hFc_5 q h) hFc_5 (fun r_5 u_5 t_5 H_5 locs_5 ht_5 hvm_5 hw_5 hB_5 hz_5 hk_5 hS_5 => ?_)
          subst hw_5
          obtain ⟨w_5, hP1_5, hD1_5⟩ := hB_5
          rw [ht_5] at hP1_5
          obtain ⟨hP_5, hD_5⟩ := va_join (wr := [(h0, .inr (10, oX7 (.ref h3) v_count_7 v_over_7 v_there)), (h3, .inl (k1, nv_items, .inl v_items_7))]) (w1 := [(h1, .inr (10, oX7 (.ref h2) a1_count a1_over a1_there)), (h2, .inl (k0, na1_items, .inl a1_items))]) hP_b7 hD_b7 [0, 1] [2, 3] rfl rfl (by decide) (by decide) hk_5 hFc_5 hP1_5 hD1_5
          have hP_5 := vaPq hP_5 (wsq := [(h1, .inr (10, oX7 (.ref h2) a1_count a1_over a1_there)), (h2, .inl (k0, na1_items, .inl a1_items)), (h0, .inr (10, oX7 (.ref h3) v_count_7 v_over_7 v_there)), (h3, .inl (k1, nv_items, .inl v_items_7))]) [2, 3, 0, 1] rfl
          have hD_5 := vaDq hD_5 (wsq := [(h1, .inr (10, oX7 (.ref h2) a1_count a1_over a1_there)), (h2, .inl (k0, na1_items, .inl a1_items)), (h0, .inr (10, oX7 (.ref h3) v_count_7 v_over_7 v_there)), (h3, .inl (k1, nv_items, .inl v_items_7))]) [2, 3, 0, 1] (by decide) rfl
          clear hPc_5 hDc_5 hKc_5 hFc_5 hP1_5 hD1_5 hk_5 hz_5
          have hPc_6 := vaPq hP_5 (wsq := [(h0, .inr (10, oX7 (.ref h3) v_count_7 v_over_7 v_there)), (h3, .inl (k1, nv_items, .inl v_items_7))]) [2, 3] rfl
          have hDc_6 := vaDq hD_5 (wsq := [(h0, .inr (10, oX7 (.ref h3) v_count_7 v_over_7 v_there)), (h3, .inl (k1, nv_items, .inl v_items_7))]) [2, 3] (by decide) rfl
          have hKc_6 := vaKq hK (tysq := [(k1, .int)]) [1] rfl
          have hFc_6 := va_free (wc := [(h0, .inr (10, oX7 (.ref h3) v_count_7 v_over_7 v_there)), (h3, .inl (k1, nv_items, .inl v_items_7))]) hD_5 hS_5 hA [2, 3] rfl
          refine va_callv (va_runV (As := [.int r_5]) (rest := []) ⟨hx, hb, hml, hown, ht⟩ (mt_X7_add l dC dI h0 h3 k1 r_5 v_count_7 v_over_7 v_there v_items_7 nv_items _ w_5 H_5.size) (cwV 1 ht (goodV tw_1282 tw_866 tw_867 tw_237 gw_X7_add) rfl rfl rfl (by decide +kernel) ⟨Nat.le_of_ble_eq_true rfl, Nat.le_of_ble_eq_true rfl⟩) ⟨fun a U g mk q => by obtain ⟨q0, q1, qP, qK, qD⟩ := q; exact ⟨q0, q1, qP, va_K.moved (u := U) (U := U.calling g mk a) (Vm.Alike.refl U.vm) qK, qD⟩, va_recv hKc_6 hPc_6 (ci := 10) (q0 := 0) rfl rfl, fun U hU hW => ⟨rfl, by rw [hU], by rw [hU]; exact hPc_6, va_K.moved hW.alike hKc_6, hDc_6.weaken (fun _ _ _ _ => trivial)⟩⟩ rfl rfl hl_b7.1 rfl (lv_room (Nat.le_of_ble_eq_true rfl)) dX7_addFrom_29 ⟨Nat.le_of_ble_eq_true rfl, Nat.le_of_ble_eq_true rfl⟩) hS_5 (fun q _ h => hFc_6 q h) hFc_6 (fun u_6 t_6 H_6 locs_6 ht_6 hvm_6 hw_6 hB_6 hz_6 hk_6 hS_6 => ?_)
          subst hw_6
          obtain ⟨r_6_0, r_6_1, r_6_2, w_6, hP1_6, hD1_6⟩ := hB_6
          rw [ht_6] at hP1_6
          obtain ⟨hP_6, hD_6⟩ := va_join (wr := [(h1, .inr (10, oX7 (.ref h2) a1_count a1_over a1_there)), (h2, .inl (k0, na1_items, .inl a1_items))]) (w1 := [(h0, .inr (10, oX7 (.ref h3) r_6_0 r_6_1 v_there)), (h3, .inl (k1, nv_items, .inl r_6_2))]) hP_5 hD_5 [2, 3] [0, 1] rfl rfl (by decide) (by decide) hk_6 hFc_6 hP1_6 hD1_6
          have hP_6 := vaPq hP_6 (wsq := [(h1, .inr (10, oX7 (.ref h2) a1_count a1_over a1_there)), (h2, .inl (k0, na1_items, .inl a1_items)), (h0, .inr (10, oX7 (.ref h3) r_6_0 r_6_1 v_there)), (h3, .inl (k1, nv_items, .inl r_6_2))]) [0, 1, 2, 3] rfl
          have hD_6 := vaDq hD_6 (wsq := [(h1, .inr (10, oX7 (.ref h2) a1_count a1_over a1_there)), (h2, .inl (k0, na1_items, .inl a1_items)), (h0, .inr (10, oX7 (.ref h3) r_6_0 r_6_1 v_there)), (h3, .inl (k1, nv_items, .inl r_6_2))]) [0, 1, 2, 3] (by decide) rfl
          clear hPc_6 hDc_6 hKc_6 hFc_6 hP1_6 hD1_6 hk_6 hz_6
          obtain ⟨x_7, ex_7⟩ : ∃ y : Int32, y = l4_7 + 1 := ⟨_, rfl⟩
          refine lv_iinc (v := x_7) (lv' := [(4, .int x_7), (0, .ref h0), (1, .ref h1), (3, .int p3)]) hx hb dX7_addFrom_32 hl_b7 (k := 3) rfl ex_7.symm (by decide) rfl (fun ls_7 hl_7 => ?_)
          refine lv_goto (tgt := 7) hx hb dX7_addFrom_35 (by decide) ?_
          exact ih_7 x_7 r_6_0 r_6_1 r_6_2 _ _ _ (w_6 x_7 ex_7) hP_6 hD_6 hS_6 (lv_sub hl_7 [1, 2, 3, 0] rfl)
  obtain ⟨n_8, w_8⟩ := w x_1 ex_1
  exact k_7 n_8 x_1 v_count v_over v_items _ _ _ w_8 hP hD hS (lv_sub hl_2 [1, 2, 4, 0] rfl)
def w_X7_take (a1_count : Int32) (a1_items : Nat → Int32) (na1_items : Nat) (v_items : Nat → Int32) (nv_items : Nat) (Q : Int32 → Bool → (Nat → Int32) → Prop) : Prop :=
  w_X7_empty  (fun r_1_0 r_1_1 => w_X7_addFrom 0 a1_count a1_count a1_items na1_items r_1_0 r_1_1 v_items nv_items (fun r_2_0 r_2_1 r_2_2 => Q  r_2_0 r_2_1 r_2_2))
set_option maxHeartbeats 4000000 in
set_option maxRecDepth 100000 in
theorem mt_X7_take (l : Launch) (dC : Nat → ClassId) (dI : Nat → Nat → Nat) (h0 h1 h2 h3 : Nat) (k0 k1 : ClassId) (a1_count : Int32) (a1_over : Bool) (a1_there : Bool) (a1_items : Nat → Int32) (na1_items : Nat) (v_count : Int32) (v_over : Bool) (v_there : Bool) (v_items : Nat → Int32) (nv_items : Nat) (Q : Int32 → Bool → (Nat → Int32) → Prop) (w : w_X7_take a1_count a1_items na1_items v_items nv_items Q) (sz : Nat) : Met l yX7_take (WS yX7_take cX7_take 2 none) ({ frames := 2, cells := 0, slots := 0, locals := 45 } : Room) (va_Pc [.ref h0, .ref h1] (fun U => U.heap.size = sz ∧ va_P (dC, dI) vwCl [(h1, .inr (10, oX7 (.ref h2) a1_count a1_over a1_there)), (h2, .inl (k0, na1_items, .inl a1_items)), (h0, .inr (10, oX7 (.ref h3) v_count v_over v_there)), (h3, .inl (k1, nv_items, .inl v_items))] U.heap ∧ va_K (dC, dI) vwCl [(k0, .int), (k1, .int)] U ∧ va_D (fun _ => True) [(h1, .inr (10, oX7 (.ref h2) a1_count a1_over a1_there)), (h2, .inl (k0, na1_items, .inl a1_items)), (h0, .inr (10, oX7 (.ref h3) v_count v_over v_there)), (h3, .inl (k1, nv_items, .inl v_items))])) (va_Qv (fun (u : Nat) => u = 0) (fun (_ : Nat) (t : State) => ∃ (ov_count : Int32), ∃ (ov_over : Bool), ∃ (ov_items : Nat → Int32), (Q ov_count ov_over ov_items) ∧ va_P (dC, dI) vwCl [(h1, .inr (10, oX7 (.ref h2) a1_count a1_over a1_there)), (h2, .inl (k0, na1_items, .inl a1_items)), (h0, .inr (10, oX7 (.ref h3) ov_count ov_over v_there)), (h3, .inl (k1, nv_items, .inl ov_items))] t.heap ∧ va_D (va_A [(h1, .inr (10, oX7 (.ref h2) a1_count a1_over a1_there)), (h2, .inl (k0, na1_items, .inl a1_items)), (h0, .inr (10, oX7 (.ref h3) v_count v_over v_there)), (h3, .inl (k1, nv_items, .inl v_items))] sz) [(h1, .inr (10, oX7 (.ref h2) a1_count a1_over a1_there)), (h2, .inl (k0, na1_items, .inl a1_items)), (h0, .inr (10, oX7 (.ref h3) ov_count ov_over v_there)), (h3, .inl (k1, nv_items, .inl ov_items))]) (va_A [(h1, .inr (10, oX7 (.ref h2) a1_count a1_over a1_there)), (h2, .inl (k0, na1_items, .inl a1_items)), (h0, .inr (10, oX7 (.ref h3) v_count v_over v_there)), (h3, .inl (k1, nv_items, .inl v_items))] sz)) 0 0 (va_A [(h1, .inr (10, oX7 (.ref h2) a1_count a1_over a1_there)), (h2, .inl (k0, na1_items, .inl a1_items)), (h0, .inr (10, oX7 (.ref h3) v_count v_over v_there)), (h3, .inl (k1, nv_items, .inl v_items))] sz) := by
  refine Met.ofW (cc := cX7_take) (maxL := 2) (ret := none) (by decide) rfl ?_
  intro p e s m args below meth c s₁ B hml hv
  obtain ⟨rfl, hsz, hP, hK, hD0⟩ := hv
  have hx := B.exec
  have hb := B.bytes
  have hr := B.returns
  have hts := atoms_spec (ws := WS yX7_take cX7_take 2 none) B.pre
  have ht : ∀ w ∈ TW, w.before _ s = true := fun w h => hts w (List.mem_cons_of_mem _ h)
  have hown : s.vm.findClass "PatternWorkshop$Row" = some m.cls := findClass_of_methodNamed B.named
  have hlocks := B.notSynchronized
  subst hsz
  have hD := hD0.self (sz := s.heap.size)
  generalize hAe : va_A [(h1, .inr (10, oX7 (.ref h2) a1_count a1_over a1_there)), (h2, .inl (k0, na1_items, .inl a1_items)), (h0, .inr (10, oX7 (.ref h3) v_count v_over v_there)), (h3, .inl (k1, nv_items, .inl v_items))] s.heap.size = A at hD ⊢
  have hA : ∀ q : Nat, s.heap.size ≤ q → A q := fun q h => by rw [← hAe]; exact Or.inr h
  have hS : va_S A s.heap s.heap [] := va_S.rf
  have hP : va_P (dC, dI) vwCl [(h1, .inr (10, oX7 (.ref h2) a1_count a1_over a1_there)), (h2, .inl (k0, na1_items, .inl a1_items)), (h0, .inr (10, oX7 (.ref h3) v_count v_over v_there)), (h3, .inl (k1, nv_items, .inl v_items))] s.heap := hP
  have hl := lv_entry ([.ref h0, .ref h1]) (n := 2) (Nat.le_of_ble_eq_true rfl)
  rw [lg_entry_eq]
  generalize (lg_sl ([.ref h0, .ref h1]) ++ List.replicate (2 - (lg_sl ([.ref h0, .ref h1])).length) Slot.unset).toArray = ls at hl ⊢
  have hl : lv_has ls 2 [(0, .ref h0), (1, .ref h1)] := hl
  clear hD0
  obtain ⟨QQ, hQQ⟩ : ∃ QQ, QQ = MQ below (va_Qv (fun (u : Nat) => u = 0) (fun (_ : Nat) (t : State) => ∃ (ov_count : Int32), ∃ (ov_over : Bool), ∃ (ov_items : Nat → Int32), (Q ov_count ov_over ov_items) ∧ va_P (dC, dI) vwCl [(h1, .inr (10, oX7 (.ref h2) a1_count a1_over a1_there)), (h2, .inl (k0, na1_items, .inl a1_items)), (h0, .inr (10, oX7 (.ref h3) ov_count ov_over v_there)), (h3, .inl (k1, nv_items, .inl ov_items))] t.heap ∧ va_D A [(h1, .inr (10, oX7 (.ref h2) a1_count a1_over a1_there)), (h2, .inl (k0, na1_items, .inl a1_items)), (h0, .inr (10, oX7 (.ref h3) ov_count ov_over v_there)), (h3, .inl (k1, nv_items, .inl ov_items))]) A) ([.ref h0, .ref h1]).toArray s 0 0 A := ⟨_, rfl⟩
  show W p l e ({ frames := 2, cells := 0, slots := 0, locals := 45 } : Room) s m ([.ref h0, .ref h1]).toArray below meth c s.heap [] 0 0 (MQ below (va_Qv (fun (u : Nat) => u = 0) (fun (_ : Nat) (t : State) => ∃ (ov_count : Int32), ∃ (ov_over : Bool), ∃ (ov_items : Nat → Int32), (Q ov_count ov_over ov_items) ∧ va_P (dC, dI) vwCl [(h1, .inr (10, oX7 (.ref h2) a1_count a1_over a1_there)), (h2, .inl (k0, na1_items, .inl a1_items)), (h0, .inr (10, oX7 (.ref h3) ov_count ov_over v_there)), (h3, .inl (k1, nv_items, .inl ov_items))] t.heap ∧ va_D A [(h1, .inr (10, oX7 (.ref h2) a1_count a1_over a1_there)), (h2, .inl (k0, na1_items, .inl a1_items)), (h0, .inr (10, oX7 (.ref h3) ov_count ov_over v_there)), (h3, .inl (k1, nv_items, .inl ov_items))]) A) ([.ref h0, .ref h1]).toArray s 0 0 A) (F0 m 0 ls [])
  rw [← hQQ]
  unfold w_X7_take at w
  refine lv_aload_n hx hb dX7_take_0 rfl (lv_at hl 0 rfl) ?_
  have hPc_1 := vaPq hP (wsq := [(h0, .inr (10, oX7 (.ref h3) v_count v_over v_there))]) [2] rfl
  have hDc_1 := vaDq hD (wsq := [(h0, .inr (10, oX7 (.ref h3) v_count v_over v_there))]) [2] (by decide) rfl
  have hKc_1 := vaKq hK (tysq := []) [] rfl
  have hFc_1 := va_free (wc := [(h0, .inr (10, oX7 (.ref h3) v_count v_over v_there))]) hD hS hA [2] rfl
  refine va_callv (va_runV (As := []) (rest := []) ⟨hx, hb, hml, hown, ht⟩ (mt_X7_empty l dC dI h0 h3 v_count v_over v_there _ w s.heap.size) (cwV 0 ht (goodV tw_1276 tw_1125 tw_1126 tw_237 gw_X7_empty) rfl rfl rfl (by decide +kernel) ⟨Nat.le_of_ble_eq_true rfl, Nat.le_of_ble_eq_true rfl⟩) ⟨fun a U g mk q => by obtain ⟨q0, q1, qP, qK, qD⟩ := q; exact ⟨q0, q1, qP, va_K.moved (u := U) (U := U.calling g mk a) (Vm.Alike.refl U.vm) qK, qD⟩, va_recv hKc_1 hPc_1 (ci := 10) (q0 := 0) rfl rfl, fun U hU hW => ⟨rfl, by rw [hU], by rw [hU]; exact hPc_1, va_K.moved hW.alike hKc_1, hDc_1.weaken (fun _ _ _ _ => trivial)⟩⟩ rfl rfl hl.1 rfl (lv_room (Nat.le_of_ble_eq_true rfl)) dX7_take_1 ⟨Nat.le_of_ble_eq_true rfl, Nat.le_of_ble_eq_true rfl⟩) hS (fun q _ h => hFc_1 q h) hFc_1 (fun u_1 t_1 H_1 locs_1 ht_1 hvm_1 hw_1 hB_1 hz_1 hk_1 hS_1 => ?_)
  subst hw_1
  obtain ⟨r_1_0, r_1_1, w_1, hP1_1, hD1_1⟩ := hB_1
  rw [ht_1] at hP1_1
  obtain ⟨hP_1, hD_1⟩ := va_join (wr := [(h1, .inr (10, oX7 (.ref h2) a1_count a1_over a1_there)), (h2, .inl (k0, na1_items, .inl a1_items)), (h3, .inl (k1, nv_items, .inl v_items))]) (w1 := [(h0, .inr (10, oX7 (.ref h3) r_1_0 r_1_1 v_there))]) hP hD [2] [0, 1, 3] rfl rfl (by decide) (by decide) hk_1 hFc_1 hP1_1 hD1_1
  have hP_1 := vaPq hP_1 (wsq := [(h1, .inr (10, oX7 (.ref h2) a1_count a1_over a1_there)), (h2, .inl (k0, na1_items, .inl a1_items)), (h0, .inr (10, oX7 (.ref h3) r_1_0 r_1_1 v_there)), (h3, .inl (k1, nv_items, .inl v_items))]) [0, 1, 3, 2] rfl
  have hD_1 := vaDq hD_1 (wsq := [(h1, .inr (10, oX7 (.ref h2) a1_count a1_over a1_there)), (h2, .inl (k0, na1_items, .inl a1_items)), (h0, .inr (10, oX7 (.ref h3) r_1_0 r_1_1 v_there)), (h3, .inl (k1, nv_items, .inl v_items))]) [0, 1, 3, 2] (by decide) rfl
  clear hPc_1 hDc_1 hKc_1 hFc_1 hP1_1 hD1_1 hk_1 hz_1
  refine lv_aload_n hx hb dX7_take_4 rfl (lv_at hl 0 rfl) ?_
  refine lv_aload_n hx hb dX7_take_5 rfl (lv_at hl 1 rfl) ?_
  refine lv_iconst (v := 0) hx hb dX7_take_6 (by decide) ?_
  refine lv_aload_n hx hb dX7_take_7 rfl (lv_at hl 1 rfl) ?_
  refine va_get (D := (dC, dI)) (ci := 10) (v := .int a1_count) (C := RX7) (T := TX7) (N := 4) hx hb ht inX7 hown hK hP_1 0 rfl rfl 1 (by decide) (ht _ tw_277) (fun _ h9 => h9) rfl dX7_take_8 ?_
  have hPc_2 := vaPq hP_1 (wsq := [(h1, .inr (10, oX7 (.ref h2) a1_count a1_over a1_there)), (h2, .inl (k0, na1_items, .inl a1_items)), (h0, .inr (10, oX7 (.ref h3) r_1_0 r_1_1 v_there)), (h3, .inl (k1, nv_items, .inl v_items))]) [0, 1, 2, 3] rfl
  have hDc_2 := vaDq hD_1 (wsq := [(h1, .inr (10, oX7 (.ref h2) a1_count a1_over a1_there)), (h2, .inl (k0, na1_items, .inl a1_items)), (h0, .inr (10, oX7 (.ref h3) r_1_0 r_1_1 v_there)), (h3, .inl (k1, nv_items, .inl v_items))]) [0, 1, 2, 3] (by decide) rfl
  have hKc_2 := vaKq hK (tysq := [(k0, .int), (k1, .int)]) [0, 1] rfl
  have hFc_2 := va_free (wc := [(h1, .inr (10, oX7 (.ref h2) a1_count a1_over a1_there)), (h2, .inl (k0, na1_items, .inl a1_items)), (h0, .inr (10, oX7 (.ref h3) r_1_0 r_1_1 v_there)), (h3, .inl (k1, nv_items, .inl v_items))]) hD_1 hS_1 hA [0, 1, 2, 3] rfl
  refine va_callv (va_runV (As := [.ref h1, .int 0, .int a1_count]) (rest := []) ⟨hx, hb, hml, hown, ht⟩ (mt_X7_addFrom l dC dI h0 h1 h2 h3 k0 k1 0 a1_count a1_count a1_over a1_there a1_items na1_items r_1_0 r_1_1 v_there v_items nv_items _ w_1 H_1.size) (cwV 3 ht (goodV tw_1277 tw_1278 tw_1279 tw_237 gw_X7_addFrom) rfl rfl rfl (by decide +kernel) ⟨Nat.le_of_ble_eq_true rfl, Nat.le_of_ble_eq_true rfl⟩) ⟨fun a U g mk q => by obtain ⟨q0, q1, qP, qK, qD⟩ := q; exact ⟨q0, q1, qP, va_K.moved (u := U) (U := U.calling g mk a) (Vm.Alike.refl U.vm) qK, qD⟩, va_recv hKc_2 hPc_2 (ci := 10) (q0 := 2) rfl rfl, fun U hU hW => ⟨rfl, by rw [hU], by rw [hU]; exact hPc_2, va_K.moved hW.alike hKc_2, hDc_2.weaken (fun _ _ _ _ => trivial)⟩⟩ rfl rfl hl.1 rfl (lv_room (Nat.le_of_ble_eq_true rfl)) dX7_take_11 ⟨Nat.le_of_ble_eq_true rfl, Nat.le_of_ble_eq_true rfl⟩) hS_1 (fun q _ h => hFc_2 q h) hFc_2 (fun u_2 t_2 H_2 locs_2 ht_2 hvm_2 hw_2 hB_2 hz_2 hk_2 hS_2 => ?_)
  subst hw_2
  obtain ⟨r_2_0, r_2_1, r_2_2, w_2, hP1_2, hD1_2⟩ := hB_2
  rw [ht_2] at hP1_2
  obtain ⟨hP_2, hD_2⟩ := va_join (wr := []) (w1 := [(h1, .inr (10, oX7 (.ref h2) a1_count a1_over a1_there)), (h2, .inl (k0, na1_items, .inl a1_items)), (h0, .inr (10, oX7 (.ref h3) r_2_0 r_2_1 v_there)), (h3, .inl (k1, nv_items, .inl r_2_2))]) hP_1 hD_1 [0, 1, 2, 3] [] rfl rfl (by decide) (by decide) hk_2 hFc_2 hP1_2 hD1_2
  have hP_2 := vaPq hP_2 (wsq := [(h1, .inr (10, oX7 (.ref h2) a1_count a1_over a1_there)), (h2, .inl (k0, na1_items, .inl a1_items)), (h0, .inr (10, oX7 (.ref h3) r_2_0 r_2_1 v_there)), (h3, .inl (k1, nv_items, .inl r_2_2))]) [0, 1, 2, 3] rfl
  have hD_2 := vaDq hD_2 (wsq := [(h1, .inr (10, oX7 (.ref h2) a1_count a1_over a1_there)), (h2, .inl (k0, na1_items, .inl a1_items)), (h0, .inr (10, oX7 (.ref h3) r_2_0 r_2_1 v_there)), (h3, .inl (k1, nv_items, .inl r_2_2))]) [0, 1, 2, 3] (by decide) rfl
  clear hPc_2 hDc_2 hKc_2 hFc_2 hP1_2 hD1_2 hk_2 hz_2
  rw [hQQ]
  exact W.vret hx hb hr (fun t9 ht9 hW9 => ⟨⟨0, rfl, rfl, ⟨r_2_0, r_2_1, r_2_2, w_2, by rw [ht9]; exact hP_2, hD_2⟩⟩, hS_2.F ht9⟩) hS_2.2.2 dX7_take_14
def w_X7_turnRound_58 (Q : (Nat → Int32) → Prop) (v_items_58 : Nat → Int32) : Prop :=
  Q  v_items_58
def w_X7_turnRound_9B (nv_items : Nat) (Q : (Nat → Int32) → Prop) (K9 : Int32 → Int32 → (Nat → Int32) → Prop) (l1_9 : Int32) (l2_9 : Int32) (v_items_9 : Nat → Int32) : Prop :=
  ((l2_9 ≤ l1_9) → w_X7_turnRound_58 Q v_items_9) ∧ ((¬ l2_9 ≤ l1_9) → ∀ x_5 : Int32, x_5 = Int32.ofNat nv_items → ((x_5 ≤ l2_9) → w_X7_turnRound_58 Q v_items_9) ∧ ((¬ x_5 ≤ l2_9) → vp_in l1_9 nv_items ∧ ∀ x_7 : Int32, x_7 = v_items_9 l1_9.toNatClampNeg → vp_in l2_9 nv_items ∧ ∀ x_10 : Int32, x_10 = v_items_9 l2_9.toNatClampNeg → vp_in l1_9 nv_items ∧ ∀ g_11 : Nat → Int32, g_11 = upd v_items_9 l1_9.toNatClampNeg x_10 → vp_in l2_9 nv_items ∧ ∀ g_12 : Nat → Int32, g_12 = upd g_11 l2_9.toNatClampNeg x_7 → ∀ x_13 : Int32, x_13 = l1_9 + 1 → ∀ x_14 : Int32, x_14 = l2_9 + (-1) → K9 x_13 x_14 g_12))
def w_X7_turnRound_9 (nv_items : Nat) (Q : (Nat → Int32) → Prop) : Nat → Int32 → Int32 → (Nat → Int32) → Prop
  | 0, _, _, _ => False
  | n9 + 1, l1_9, l2_9, v_items_9 => w_X7_turnRound_9B nv_items Q (w_X7_turnRound_9 nv_items Q n9) l1_9 l2_9 v_items_9
def w_X7_turnRound (v_count : Int32) (v_items : Nat → Int32) (nv_items : Nat) (Q : (Nat → Int32) → Prop) : Prop :=
  ∀ x_2 : Int32, x_2 = v_count - (1 : Int32) → ∃ k9 : Nat, w_X7_turnRound_9 nv_items Q k9 0 x_2 v_items
set_option maxHeartbeats 4000000 in
set_option maxRecDepth 100000 in
theorem mt_X7_turnRound (l : Launch) (dC : Nat → ClassId) (dI : Nat → Nat → Nat) (h0 h1 : Nat) (k0 : ClassId) (v_count : Int32) (v_over : Bool) (v_there : Bool) (v_items : Nat → Int32) (nv_items : Nat) (Q : (Nat → Int32) → Prop) (w : w_X7_turnRound v_count v_items nv_items Q) (sz : Nat) : Met l yX7_turnRound (WS yX7_turnRound cX7_turnRound 4 none) ({ frames := 0, cells := 0, slots := 0, locals := 0 } : Room) (va_Pc [.ref h0] (fun U => U.heap.size = sz ∧ va_P (dC, dI) vwCl [(h0, .inr (10, oX7 (.ref h1) v_count v_over v_there)), (h1, .inl (k0, nv_items, .inl v_items))] U.heap ∧ va_K (dC, dI) vwCl [(k0, .int)] U ∧ va_D (fun _ => True) [(h0, .inr (10, oX7 (.ref h1) v_count v_over v_there)), (h1, .inl (k0, nv_items, .inl v_items))])) (va_Qv (fun (u : Nat) => u = 0) (fun (_ : Nat) (t : State) => ∃ (ov_items : Nat → Int32), (Q ov_items) ∧ va_P (dC, dI) vwCl [(h0, .inr (10, oX7 (.ref h1) v_count v_over v_there)), (h1, .inl (k0, nv_items, .inl ov_items))] t.heap ∧ va_D (va_A [(h0, .inr (10, oX7 (.ref h1) v_count v_over v_there)), (h1, .inl (k0, nv_items, .inl v_items))] sz) [(h0, .inr (10, oX7 (.ref h1) v_count v_over v_there)), (h1, .inl (k0, nv_items, .inl ov_items))]) (va_A [(h0, .inr (10, oX7 (.ref h1) v_count v_over v_there)), (h1, .inl (k0, nv_items, .inl v_items))] sz)) 0 0 (va_A [(h0, .inr (10, oX7 (.ref h1) v_count v_over v_there)), (h1, .inl (k0, nv_items, .inl v_items))] sz) := by
  refine Met.ofW (cc := cX7_turnRound) (maxL := 4) (ret := none) (by decide) rfl ?_
  intro p e s m args below meth c s₁ B hml hv
  obtain ⟨rfl, hsz, hP, hK, hD0⟩ := hv
  have hx := B.exec
  have hb := B.bytes
  have hr := B.returns
  have hts := atoms_spec (ws := WS yX7_turnRound cX7_turnRound 4 none) B.pre
  have ht : ∀ w ∈ TW, w.before _ s = true := fun w h => hts w (List.mem_cons_of_mem _ h)
  have hown : s.vm.findClass "PatternWorkshop$Row" = some m.cls := findClass_of_methodNamed B.named
  have hlocks := B.notSynchronized
  subst hsz
  have hD := hD0.self (sz := s.heap.size)
  generalize hAe : va_A [(h0, .inr (10, oX7 (.ref h1) v_count v_over v_there)), (h1, .inl (k0, nv_items, .inl v_items))] s.heap.size = A at hD ⊢
  have hA : ∀ q : Nat, s.heap.size ≤ q → A q := fun q h => by rw [← hAe]; exact Or.inr h
  have hS : va_S A s.heap s.heap [] := va_S.rf
  have hP : va_P (dC, dI) vwCl [(h0, .inr (10, oX7 (.ref h1) v_count v_over v_there)), (h1, .inl (k0, nv_items, .inl v_items))] s.heap := hP
  have hl := lv_entry ([.ref h0]) (n := 4) (Nat.le_of_ble_eq_true rfl)
  rw [lg_entry_eq]
  generalize (lg_sl ([.ref h0]) ++ List.replicate (4 - (lg_sl ([.ref h0])).length) Slot.unset).toArray = ls at hl ⊢
  have hl : lv_has ls 4 [(0, .ref h0)] := hl
  clear hD0
  obtain ⟨QQ, hQQ⟩ : ∃ QQ, QQ = MQ below (va_Qv (fun (u : Nat) => u = 0) (fun (_ : Nat) (t : State) => ∃ (ov_items : Nat → Int32), (Q ov_items) ∧ va_P (dC, dI) vwCl [(h0, .inr (10, oX7 (.ref h1) v_count v_over v_there)), (h1, .inl (k0, nv_items, .inl ov_items))] t.heap ∧ va_D A [(h0, .inr (10, oX7 (.ref h1) v_count v_over v_there)), (h1, .inl (k0, nv_items, .inl ov_items))]) A) ([.ref h0]).toArray s 0 0 A := ⟨_, rfl⟩
  show W p l e ({ frames := 0, cells := 0, slots := 0, locals := 0 } : Room) s m ([.ref h0]).toArray below meth c s.heap [] 0 0 (MQ below (va_Qv (fun (u : Nat) => u = 0) (fun (_ : Nat) (t : State) => ∃ (ov_items : Nat → Int32), (Q ov_items) ∧ va_P (dC, dI) vwCl [(h0, .inr (10, oX7 (.ref h1) v_count v_over v_there)), (h1, .inl (k0, nv_items, .inl ov_items))] t.heap ∧ va_D A [(h0, .inr (10, oX7 (.ref h1) v_count v_over v_there)), (h1, .inl (k0, nv_items, .inl ov_items))]) A) ([.ref h0]).toArray s 0 0 A) (F0 m 0 ls [])
  rw [← hQQ]
  unfold w_X7_turnRound at w
  refine lv_iconst (v := 0) hx hb dX7_turnRound_0 (by decide) ?_
  refine lv_istore_n (lv' := [(1, .int 0), (0, .ref h0)]) hx hb dX7_turnRound_1 rfl hl (by decide) rfl (fun ls_1 hl_1 => ?_)
  clear hl
  refine lv_aload_n hx hb dX7_turnRound_2 rfl (lv_at hl_1 1 rfl) ?_
  refine va_get (D := (dC, dI)) (ci := 10) (v := .int v_count) (C := RX7) (T := TX7) (N := 4) hx hb ht inX7 hown hK hP 0 rfl rfl 1 (by decide) (ht _ tw_277) (fun _ h9 => h9) rfl dX7_turnRound_3 ?_
  refine lv_iconst (v := 1) hx hb dX7_turnRound_6 (by decide) ?_
  refine lv_isub hx hb dX7_turnRound_7 ?_
  refine lv_topi (fun x_2 ex_2 => ?_)
  have ex_2 : x_2 = v_count - (1 : Int32) := ex_2
  refine lv_istore_n (lv' := [(2, .int x_2), (1, .int 0), (0, .ref h0)]) hx hb dX7_turnRound_8 rfl hl_1 (by decide) rfl (fun ls_3 hl_3 => ?_)
  clear hl_1
  have k_9 : ∀ n_9 : Nat, ∀ (l1_9 : Int32) (l2_9 : Int32) (v_items_9 : Nat → Int32), ∀ (H_b9 : Heap) (locs_b9 : List Loc) (ls_b9 : Array Slot), w_X7_turnRound_9 nv_items Q n_9 l1_9 l2_9 v_items_9 → va_P (dC, dI) vwCl [(h0, .inr (10, oX7 (.ref h1) v_count v_over v_there)), (h1, .inl (k0, nv_items, .inl v_items_9))] H_b9 → va_D A [(h0, .inr (10, oX7 (.ref h1) v_count v_over v_there)), (h1, .inl (k0, nv_items, .inl v_items_9))] → va_S A s.heap H_b9 locs_b9 → lv_has ls_b9 4 [(0, .ref h0), (1, .int l1_9), (2, .int l2_9)] → W p l e ({ frames := 0, cells := 0, slots := 0, locals := 0 } : Room) s m ([.ref h0]).toArray below meth c H_b9 locs_b9 0 0 QQ (F0 m 9 ls_b9 []) := by
    intro n_9
    induction n_9 with
    | zero =>
      intro l1_9 l2_9 v_items_9 H_b9 locs_b9 ls_b9 w_b9 hP_b9 hD_b9 hS_b9 hl_b9
      exact False.elim (by unfold w_X7_turnRound_9 at w_b9; exact w_b9)
    | succ n_9 ih_9 =>
      intro l1_9 l2_9 v_items_9 H_b9 locs_b9 ls_b9 w_b9 hP_b9 hD_b9 hS_b9 hl_b9
      unfold w_X7_turnRound_9 at w_b9
      unfold w_X7_turnRound_9B at w_b9
      refine lv_iload_n hx hb dX7_turnRound_9 rfl (lv_at hl_b9 1 rfl) ?_
      refine lv_iload_n hx hb dX7_turnRound_10 rfl (lv_at hl_b9 2 rfl) ?_
      have k_58 : ∀ (v_items_58 : Nat → Int32), ∀ (H_b58 : Heap) (locs_b58 : List Loc) (ls_b58 : Array Slot), w_X7_turnRound_58 Q v_items_58 → va_P (dC, dI) vwCl [(h0, .inr (10, oX7 (.ref h1) v_count v_over v_there)), (h1, .inl (k0, nv_items, .inl v_items_58))] H_b58 → va_D A [(h0, .inr (10, oX7 (.ref h1) v_count v_over v_there)), (h1, .inl (k0, nv_items, .inl v_items_58))] → va_S A s.heap H_b58 locs_b58 → lv_has ls_b58 4 [] → W p l e ({ frames := 0, cells := 0, slots := 0, locals := 0 } : Room) s m ([.ref h0]).toArray below meth c H_b58 locs_b58 0 0 QQ (F0 m 58 ls_b58 []) := by
        intro v_items_58 H_b58 locs_b58 ls_b58 w_b58 hP_b58 hD_b58 hS_b58 hl_b58
        unfold w_X7_turnRound_58 at w_b58
        rw [hQQ]
        exact W.vret hx hb hr (fun t9 ht9 hW9 => ⟨⟨0, rfl, rfl, ⟨v_items_58, w_b58, by rw [ht9]; exact hP_b58, hD_b58⟩⟩, hS_b58.F ht9⟩) hS_b58.2.2 dX7_turnRound_58
      refine lv_icmp_ge (tgt := 58) hx hb dX7_turnRound_11 (by decide) (fun c_4 => ?_) (fun c_4 => ?_)
      · exact k_58 v_items_9 _ _ _ (w_b9.1 c_4) hP_b9 hD_b9 hS_b9 (lv_sub hl_b9 [] rfl)
      · refine lv_iload_n hx hb dX7_turnRound_14 rfl (lv_at hl_b9 2 rfl) ?_
        refine lv_aload_n hx hb dX7_turnRound_15 rfl (lv_at hl_b9 0 rfl) ?_
        refine va_get (D := (dC, dI)) (ci := 10) (v := .ref h1) (C := RX7) (T := TX7) (N := 4) hx hb ht inX7 hown hK hP_b9 0 rfl rfl 0 (by decide) (ht _ tw_276) (fun _ h9 => h9) rfl dX7_turnRound_16 ?_
        refine va_alen hx hb hK hP_b9 1 0 rfl rfl rfl dX7_turnRound_19 ?_
        refine lv_topi (fun x_5 ex_5 => ?_)
        have ex_5 : x_5 = Int32.ofNat nv_items := ex_5
        refine lv_icmp_ge (tgt := 58) hx hb dX7_turnRound_20 (by decide) (fun c_6 => ?_) (fun c_6 => ?_)
        · exact k_58 v_items_9 _ _ _ ((w_b9.2 c_4 x_5 ex_5).1 c_6) hP_b9 hD_b9 hS_b9 (lv_sub hl_b9 [] rfl)
        · refine lv_aload_n hx hb dX7_turnRound_23 rfl (lv_at hl_b9 0 rfl) ?_
          refine va_get (D := (dC, dI)) (ci := 10) (v := .ref h1) (C := RX7) (T := TX7) (N := 4) hx hb ht inX7 hown hK hP_b9 0 rfl rfl 0 (by decide) (ht _ tw_276) (fun _ h9 => h9) rfl dX7_turnRound_24 ?_
          refine lv_iload_n hx hb dX7_turnRound_27 rfl (lv_at hl_b9 1 rfl) ?_
          refine va_iald hx hb hK hP_b9 1 0 rfl rfl (i := l1_9) ((w_b9.2 c_4 x_5 ex_5).2 c_6).1 dX7_turnRound_28 ?_
          refine lv_topi (fun x_7 ex_7 => ?_)
          have ex_7 : x_7 = v_items_9 l1_9.toNatClampNeg := ex_7
          refine lv_istore_n (lv' := [(3, .int x_7), (0, .ref h0), (1, .int l1_9), (2, .int l2_9)]) hx hb dX7_turnRound_29 rfl hl_b9 (by decide) rfl (fun ls_8 hl_8 => ?_)
          clear hl_b9
          refine lv_aload_n hx hb dX7_turnRound_30 rfl (lv_at hl_8 1 rfl) ?_
          refine va_get (D := (dC, dI)) (ci := 10) (v := .ref h1) (C := RX7) (T := TX7) (N := 4) hx hb ht inX7 hown hK hP_b9 0 rfl rfl 0 (by decide) (ht _ tw_276) (fun _ h9 => h9) rfl dX7_turnRound_31 ?_
          refine lv_iload_n hx hb dX7_turnRound_34 rfl (lv_at hl_8 2 rfl) ?_
          refine lv_aload_n hx hb dX7_turnRound_35 rfl (lv_at hl_8 1 rfl) ?_
          refine va_get (D := (dC, dI)) (ci := 10) (v := .ref h1) (C := RX7) (T := TX7) (N := 4) hx hb ht inX7 hown hK hP_b9 0 rfl rfl 0 (by decide) (ht _ tw_276) (fun _ h9 => h9) rfl dX7_turnRound_36 ?_
          refine lv_iload_n hx hb dX7_turnRound_39 rfl (lv_at hl_8 3 rfl) ?_
          have w_9 := (((w_b9.2 c_4 x_5 ex_5).2 c_6).2) x_7 ex_7
          refine va_iald hx hb hK hP_b9 1 0 rfl rfl (i := l2_9) w_9.1 dX7_turnRound_40 ?_
          refine lv_topi (fun x_10 ex_10 => ?_)
          have ex_10 : x_10 = v_items_9 l2_9.toNatClampNeg := ex_10
          refine va_iast hx hb hK hP_b9 hD_b9 hS_b9 1 0 rfl rfl (i := l1_9) (w_9.2 x_10 ex_10).1 dX7_turnRound_41 (fun H_11 locs_11 hP_11 hD_11 hS_11 => ?_)
          obtain ⟨g_11, hg_11⟩ : ∃ g : Nat → Int32, g = upd v_items_9 l1_9.toNatClampNeg x_10 := ⟨_, rfl⟩
          have hP_11 : va_P (dC, dI) vwCl [(h0, .inr (10, oX7 (.ref h1) v_count v_over v_there)), (h1, .inl (k0, nv_items, .inl g_11))] H_11 := by rw [hg_11]; exact hP_11
          have hD_11 : va_D A [(h0, .inr (10, oX7 (.ref h1) v_count v_over v_there)), (h1, .inl (k0, nv_items, .inl g_11))] := by rw [hg_11]; exact hD_11
          refine lv_aload_n hx hb dX7_turnRound_42 rfl (lv_at hl_8 1 rfl) ?_
          refine va_get (D := (dC, dI)) (ci := 10) (v := .ref h1) (C := RX7) (T := TX7) (N := 4) hx hb ht inX7 hown hK hP_11 0 rfl rfl 0 (by decide) (ht _ tw_276) (fun _ h9 => h9) rfl dX7_turnRound_43 ?_
          refine lv_iload_n hx hb dX7_turnRound_46 rfl (lv_at hl_8 3 rfl) ?_
          refine lv_iload_n hx hb dX7_turnRound_47 rfl (lv_at hl_8 0 rfl) ?_
          refine va_iast hx hb hK hP_11 hD_11 hS_11 1 0 rfl rfl (i := l2_9) (((w_9.2 x_10 ex_10).2) g_11 hg_11).1 dX7_turnRound_48 (fun H_12 locs_12 hP_12 hD_12 hS_12 => ?_)
          obtain ⟨g_12, hg_12⟩ : ∃ g : Nat → Int32, g = upd g_11 l2_9.toNatClampNeg x_7 := ⟨_, rfl⟩
          have hP_12 : va_P (dC, dI) vwCl [(h0, .inr (10, oX7 (.ref h1) v_count v_over v_there)), (h1, .inl (k0, nv_items, .inl g_12))] H_12 := by rw [hg_12]; exact hP_12
          have hD_12 : va_D A [(h0, .inr (10, oX7 (.ref h1) v_count v_over v_there)), (h1, .inl (k0, nv_items, .inl g_12))] := by rw [hg_12]; exact hD_12
          obtain ⟨x_13, ex_13⟩ : ∃ y : Int32, y = l1_9 + 1 := ⟨_, rfl⟩
          refine lv_iinc (v := x_13) (lv' := [(1, .int x_13), (3, .int x_7), (0, .ref h0), (2, .int l2_9)]) hx hb dX7_turnRound_49 hl_8 (k := 2) rfl ex_13.symm (by decide) rfl (fun ls_13 hl_13 => ?_)
          obtain ⟨x_14, ex_14⟩ : ∃ y : Int32, y = l2_9 + (-1) := ⟨_, rfl⟩
          refine lv_iinc (v := x_14) (lv' := [(2, .int x_14), (1, .int x_13), (3, .int x_7), (0, .ref h0)]) hx hb dX7_turnRound_52 hl_13 (k := 3) rfl ex_14.symm (by decide) rfl (fun ls_14 hl_14 => ?_)
          refine lv_goto (tgt := 9) hx hb dX7_turnRound_55 (by decide) ?_
          have w_15 := ((((((w_9.2 x_10 ex_10).2) g_11 hg_11).2) g_12 hg_12) x_13 ex_13) x_14 ex_14
          exact ih_9 x_13 x_14 g_12 _ _ _ w_15 hP_12 hD_12 hS_12 (lv_sub hl_14 [3, 1, 0] rfl)
  obtain ⟨n_16, w_16⟩ := w x_2 ex_2
  exact k_9 n_16 0 x_2 v_items _ _ _ w_16 hP hD hS (lv_sub hl_3 [2, 1, 0] rfl)
def w_X10_rangeCount (v_ranges : Int32) (Q : Int32 → Prop) : Prop :=
  Q v_ranges
set_option maxHeartbeats 4000000 in
set_option maxRecDepth 100000 in
theorem mt_X10_rangeCount (l : Launch) (dC : Nat → ClassId) (dI : Nat → Nat → Nat) (h0 h1 h2 h3 h4 h5 h6 h7 h8 h9 h10 h11 h12 h13 h14 h15 h16 : Nat) (v_there : Bool) (v_count : Int32) (v_captures : Int32) (v_ranges : Int32) (Q : Int32 → Prop) (w : w_X10_rangeCount v_ranges Q) (sz : Nat) : Met l yX10_rangeCount (WS yX10_rangeCount cX10_rangeCount 1 (some (.int))) ({ frames := 0, cells := 0, slots := 0, locals := 0 } : Room) (va_Pc [.ref h0] (fun U => U.heap.size = sz ∧ va_P (dC, dI) vwCl [(h0, .inr (13, oX10 v_there v_count v_captures v_ranges (.ref h1) (.ref h2) (.ref h3) (.ref h4) (.ref h5) (.ref h6) (.ref h7) (.ref h8) (.ref h9) (.ref h10) (.ref h11) (.ref h12) (.ref h13) (.ref h14) (.ref h15) (.ref h16)))] U.heap ∧ va_K (dC, dI) vwCl [] U ∧ va_D (fun _ => True) [(h0, .inr (13, oX10 v_there v_count v_captures v_ranges (.ref h1) (.ref h2) (.ref h3) (.ref h4) (.ref h5) (.ref h6) (.ref h7) (.ref h8) (.ref h9) (.ref h10) (.ref h11) (.ref h12) (.ref h13) (.ref h14) (.ref h15) (.ref h16)))])) (va_Qi (fun (r u : Int32) => r = u) (fun (u : Int32) (t : State) => (Q u) ∧ va_P (dC, dI) vwCl [(h0, .inr (13, oX10 v_there v_count v_captures v_ranges (.ref h1) (.ref h2) (.ref h3) (.ref h4) (.ref h5) (.ref h6) (.ref h7) (.ref h8) (.ref h9) (.ref h10) (.ref h11) (.ref h12) (.ref h13) (.ref h14) (.ref h15) (.ref h16)))] t.heap ∧ va_D (va_A [(h0, .inr (13, oX10 v_there v_count v_captures v_ranges (.ref h1) (.ref h2) (.ref h3) (.ref h4) (.ref h5) (.ref h6) (.ref h7) (.ref h8) (.ref h9) (.ref h10) (.ref h11) (.ref h12) (.ref h13) (.ref h14) (.ref h15) (.ref h16)))] sz) [(h0, .inr (13, oX10 v_there v_count v_captures v_ranges (.ref h1) (.ref h2) (.ref h3) (.ref h4) (.ref h5) (.ref h6) (.ref h7) (.ref h8) (.ref h9) (.ref h10) (.ref h11) (.ref h12) (.ref h13) (.ref h14) (.ref h15) (.ref h16)))]) (va_A [(h0, .inr (13, oX10 v_there v_count v_captures v_ranges (.ref h1) (.ref h2) (.ref h3) (.ref h4) (.ref h5) (.ref h6) (.ref h7) (.ref h8) (.ref h9) (.ref h10) (.ref h11) (.ref h12) (.ref h13) (.ref h14) (.ref h15) (.ref h16)))] sz)) 0 0 (va_A [(h0, .inr (13, oX10 v_there v_count v_captures v_ranges (.ref h1) (.ref h2) (.ref h3) (.ref h4) (.ref h5) (.ref h6) (.ref h7) (.ref h8) (.ref h9) (.ref h10) (.ref h11) (.ref h12) (.ref h13) (.ref h14) (.ref h15) (.ref h16)))] sz) := by
  refine Met.ofW (cc := cX10_rangeCount) (maxL := 1) (ret := (some (.int))) (by decide) rfl ?_
  intro p e s m args below meth c s₁ B hml hv
  obtain ⟨rfl, hsz, hP, hK, hD0⟩ := hv
  have hx := B.exec
  have hb := B.bytes
  have hr := B.returns
  have hts := atoms_spec (ws := WS yX10_rangeCount cX10_rangeCount 1 (some (.int))) B.pre
  have ht : ∀ w ∈ TW, w.before _ s = true := fun w h => hts w (List.mem_cons_of_mem _ h)
  have hown : s.vm.findClass "PatternWorkshop$Tree" = some m.cls := findClass_of_methodNamed B.named
  have hlocks := B.notSynchronized
  subst hsz
  have hD := hD0.self (sz := s.heap.size)
  generalize hAe : va_A [(h0, .inr (13, oX10 v_there v_count v_captures v_ranges (.ref h1) (.ref h2) (.ref h3) (.ref h4) (.ref h5) (.ref h6) (.ref h7) (.ref h8) (.ref h9) (.ref h10) (.ref h11) (.ref h12) (.ref h13) (.ref h14) (.ref h15) (.ref h16)))] s.heap.size = A at hD ⊢
  have hA : ∀ q : Nat, s.heap.size ≤ q → A q := fun q h => by rw [← hAe]; exact Or.inr h
  have hS : va_S A s.heap s.heap [] := va_S.rf
  have hP : va_P (dC, dI) vwCl [(h0, .inr (13, oX10 v_there v_count v_captures v_ranges (.ref h1) (.ref h2) (.ref h3) (.ref h4) (.ref h5) (.ref h6) (.ref h7) (.ref h8) (.ref h9) (.ref h10) (.ref h11) (.ref h12) (.ref h13) (.ref h14) (.ref h15) (.ref h16)))] s.heap := hP
  have hl := lv_entry ([.ref h0]) (n := 1) (Nat.le_of_ble_eq_true rfl)
  rw [lg_entry_eq]
  generalize (lg_sl ([.ref h0]) ++ List.replicate (1 - (lg_sl ([.ref h0])).length) Slot.unset).toArray = ls at hl ⊢
  have hl : lv_has ls 1 [(0, .ref h0)] := hl
  clear hD0
  obtain ⟨QQ, hQQ⟩ : ∃ QQ, QQ = MQ below (va_Qi (fun (r u : Int32) => r = u) (fun (u : Int32) (t : State) => (Q u) ∧ va_P (dC, dI) vwCl [(h0, .inr (13, oX10 v_there v_count v_captures v_ranges (.ref h1) (.ref h2) (.ref h3) (.ref h4) (.ref h5) (.ref h6) (.ref h7) (.ref h8) (.ref h9) (.ref h10) (.ref h11) (.ref h12) (.ref h13) (.ref h14) (.ref h15) (.ref h16)))] t.heap ∧ va_D A [(h0, .inr (13, oX10 v_there v_count v_captures v_ranges (.ref h1) (.ref h2) (.ref h3) (.ref h4) (.ref h5) (.ref h6) (.ref h7) (.ref h8) (.ref h9) (.ref h10) (.ref h11) (.ref h12) (.ref h13) (.ref h14) (.ref h15) (.ref h16)))]) A) ([.ref h0]).toArray s 0 0 A := ⟨_, rfl⟩
  show W p l e ({ frames := 0, cells := 0, slots := 0, locals := 0 } : Room) s m ([.ref h0]).toArray below meth c s.heap [] 0 0 (MQ below (va_Qi (fun (r u : Int32) => r = u) (fun (u : Int32) (t : State) => (Q u) ∧ va_P (dC, dI) vwCl [(h0, .inr (13, oX10 v_there v_count v_captures v_ranges (.ref h1) (.ref h2) (.ref h3) (.ref h4) (.ref h5) (.ref h6) (.ref h7) (.ref h8) (.ref h9) (.ref h10) (.ref h11) (.ref h12) (.ref h13) (.ref h14) (.ref h15) (.ref h16)))] t.heap ∧ va_D A [(h0, .inr (13, oX10 v_there v_count v_captures v_ranges (.ref h1) (.ref h2) (.ref h3) (.ref h4) (.ref h5) (.ref h6) (.ref h7) (.ref h8) (.ref h9) (.ref h10) (.ref h11) (.ref h12) (.ref h13) (.ref h14) (.ref h15) (.ref h16)))]) A) ([.ref h0]).toArray s 0 0 A) (F0 m 0 ls [])
  rw [← hQQ]
  unfold w_X10_rangeCount at w
  refine lv_aload_n hx hb dX10_rangeCount_0 rfl (lv_at hl 0 rfl) ?_
  refine va_get (D := (dC, dI)) (ci := 13) (v := .int v_ranges) (C := RX10) (T := TX10) (N := 20) hx hb ht inX10 hown hK hP 0 rfl rfl 3 (by decide) (ht _ tw_326) (fun _ h9 => h9) rfl dX10_rangeCount_1 ?_
  rw [hQQ]
  exact W.iret (v := v_ranges) hx hb hr (fun t9 ht9 hW9 => ⟨⟨v_ranges, v_ranges, rfl, rfl, ⟨w, by rw [ht9]; exact hP, hD⟩⟩, hS.F ht9⟩) hS.2.2 dX10_rangeCount_4
def w_X10_sortOf_22 (Q : Int32 → Prop) (s0_22 : Int32) : Prop :=
  Q s0_22
def w_X10_sortOf_21 (Q : Int32 → Prop) : Prop :=
  w_X10_sortOf_22 Q 5
def w_X10_sortOf (p1 : Int32) (v_count : Int32) (v_sort : Nat → Int32) (Q : Int32 → Prop) : Prop :=
  ((p1 < 0) → w_X10_sortOf_21 Q) ∧ ((¬ p1 < 0) → ((v_count ≤ p1) → w_X10_sortOf_21 Q) ∧ ((¬ v_count ≤ p1) → vp_in p1 256 ∧ ∀ x_3 : Int32, x_3 = v_sort p1.toNatClampNeg → w_X10_sortOf_22 Q x_3))
set_option maxHeartbeats 4000000 in
set_option maxRecDepth 100000 in
theorem mt_X10_sortOf (l : Launch) (dC : Nat → ClassId) (dI : Nat → Nat → Nat) (h0 h1 h2 h3 h4 h5 h6 h7 h8 h9 h10 h11 h12 h13 h14 h15 h16 : Nat) (k0 : ClassId) (p1 : Int32) (v_there : Bool) (v_count : Int32) (v_captures : Int32) (v_ranges : Int32) (v_sort : Nat → Int32) (Q : Int32 → Prop) (w : w_X10_sortOf p1 v_count v_sort Q) (sz : Nat) : Met l yX10_sortOf (WS yX10_sortOf cX10_sortOf 2 (some (.int))) ({ frames := 0, cells := 0, slots := 0, locals := 0 } : Room) (va_Pc [.ref h0, .int p1] (fun U => U.heap.size = sz ∧ va_P (dC, dI) vwCl [(h0, .inr (13, oX10 v_there v_count v_captures v_ranges (.ref h1) (.ref h2) (.ref h3) (.ref h4) (.ref h5) (.ref h6) (.ref h7) (.ref h8) (.ref h9) (.ref h10) (.ref h11) (.ref h12) (.ref h13) (.ref h14) (.ref h15) (.ref h16))), (h1, .inl (k0, 256, .inl v_sort))] U.heap ∧ va_K (dC, dI) vwCl [(k0, .int)] U ∧ va_D (fun _ => True) [(h0, .inr (13, oX10 v_there v_count v_captures v_ranges (.ref h1) (.ref h2) (.ref h3) (.ref h4) (.ref h5) (.ref h6) (.ref h7) (.ref h8) (.ref h9) (.ref h10) (.ref h11) (.ref h12) (.ref h13) (.ref h14) (.ref h15) (.ref h16))), (h1, .inl (k0, 256, .inl v_sort))])) (va_Qi (fun (r u : Int32) => r = u) (fun (u : Int32) (t : State) => (Q u) ∧ va_P (dC, dI) vwCl [(h0, .inr (13, oX10 v_there v_count v_captures v_ranges (.ref h1) (.ref h2) (.ref h3) (.ref h4) (.ref h5) (.ref h6) (.ref h7) (.ref h8) (.ref h9) (.ref h10) (.ref h11) (.ref h12) (.ref h13) (.ref h14) (.ref h15) (.ref h16))), (h1, .inl (k0, 256, .inl v_sort))] t.heap ∧ va_D (va_A [(h0, .inr (13, oX10 v_there v_count v_captures v_ranges (.ref h1) (.ref h2) (.ref h3) (.ref h4) (.ref h5) (.ref h6) (.ref h7) (.ref h8) (.ref h9) (.ref h10) (.ref h11) (.ref h12) (.ref h13) (.ref h14) (.ref h15) (.ref h16))), (h1, .inl (k0, 256, .inl v_sort))] sz) [(h0, .inr (13, oX10 v_there v_count v_captures v_ranges (.ref h1) (.ref h2) (.ref h3) (.ref h4) (.ref h5) (.ref h6) (.ref h7) (.ref h8) (.ref h9) (.ref h10) (.ref h11) (.ref h12) (.ref h13) (.ref h14) (.ref h15) (.ref h16))), (h1, .inl (k0, 256, .inl v_sort))]) (va_A [(h0, .inr (13, oX10 v_there v_count v_captures v_ranges (.ref h1) (.ref h2) (.ref h3) (.ref h4) (.ref h5) (.ref h6) (.ref h7) (.ref h8) (.ref h9) (.ref h10) (.ref h11) (.ref h12) (.ref h13) (.ref h14) (.ref h15) (.ref h16))), (h1, .inl (k0, 256, .inl v_sort))] sz)) 0 0 (va_A [(h0, .inr (13, oX10 v_there v_count v_captures v_ranges (.ref h1) (.ref h2) (.ref h3) (.ref h4) (.ref h5) (.ref h6) (.ref h7) (.ref h8) (.ref h9) (.ref h10) (.ref h11) (.ref h12) (.ref h13) (.ref h14) (.ref h15) (.ref h16))), (h1, .inl (k0, 256, .inl v_sort))] sz) := by
  refine Met.ofW (cc := cX10_sortOf) (maxL := 2) (ret := (some (.int))) (by decide) rfl ?_
  intro p e s m args below meth c s₁ B hml hv
  obtain ⟨rfl, hsz, hP, hK, hD0⟩ := hv
  have hx := B.exec
  have hb := B.bytes
  have hr := B.returns
  have hts := atoms_spec (ws := WS yX10_sortOf cX10_sortOf 2 (some (.int))) B.pre
  have ht : ∀ w ∈ TW, w.before _ s = true := fun w h => hts w (List.mem_cons_of_mem _ h)
  have hown : s.vm.findClass "PatternWorkshop$Tree" = some m.cls := findClass_of_methodNamed B.named
  have hlocks := B.notSynchronized
  subst hsz
  have hD := hD0.self (sz := s.heap.size)
  generalize hAe : va_A [(h0, .inr (13, oX10 v_there v_count v_captures v_ranges (.ref h1) (.ref h2) (.ref h3) (.ref h4) (.ref h5) (.ref h6) (.ref h7) (.ref h8) (.ref h9) (.ref h10) (.ref h11) (.ref h12) (.ref h13) (.ref h14) (.ref h15) (.ref h16))), (h1, .inl (k0, 256, .inl v_sort))] s.heap.size = A at hD ⊢
  have hA : ∀ q : Nat, s.heap.size ≤ q → A q := fun q h => by rw [← hAe]; exact Or.inr h
  have hS : va_S A s.heap s.heap [] := va_S.rf
  have hP : va_P (dC, dI) vwCl [(h0, .inr (13, oX10 v_there v_count v_captures v_ranges (.ref h1) (.ref h2) (.ref h3) (.ref h4) (.ref h5) (.ref h6) (.ref h7) (.ref h8) (.ref h9) (.ref h10) (.ref h11) (.ref h12) (.ref h13) (.ref h14) (.ref h15) (.ref h16))), (h1, .inl (k0, 256, .inl v_sort))] s.heap := hP
  have hl := lv_entry ([.ref h0, .int p1]) (n := 2) (Nat.le_of_ble_eq_true rfl)
  rw [lg_entry_eq]
  generalize (lg_sl ([.ref h0, .int p1]) ++ List.replicate (2 - (lg_sl ([.ref h0, .int p1])).length) Slot.unset).toArray = ls at hl ⊢
  have hl : lv_has ls 2 [(0, .ref h0), (1, .int p1)] := hl
  clear hD0
  obtain ⟨QQ, hQQ⟩ : ∃ QQ, QQ = MQ below (va_Qi (fun (r u : Int32) => r = u) (fun (u : Int32) (t : State) => (Q u) ∧ va_P (dC, dI) vwCl [(h0, .inr (13, oX10 v_there v_count v_captures v_ranges (.ref h1) (.ref h2) (.ref h3) (.ref h4) (.ref h5) (.ref h6) (.ref h7) (.ref h8) (.ref h9) (.ref h10) (.ref h11) (.ref h12) (.ref h13) (.ref h14) (.ref h15) (.ref h16))), (h1, .inl (k0, 256, .inl v_sort))] t.heap ∧ va_D A [(h0, .inr (13, oX10 v_there v_count v_captures v_ranges (.ref h1) (.ref h2) (.ref h3) (.ref h4) (.ref h5) (.ref h6) (.ref h7) (.ref h8) (.ref h9) (.ref h10) (.ref h11) (.ref h12) (.ref h13) (.ref h14) (.ref h15) (.ref h16))), (h1, .inl (k0, 256, .inl v_sort))]) A) ([.ref h0, .int p1]).toArray s 0 0 A := ⟨_, rfl⟩
  show W p l e ({ frames := 0, cells := 0, slots := 0, locals := 0 } : Room) s m ([.ref h0, .int p1]).toArray below meth c s.heap [] 0 0 (MQ below (va_Qi (fun (r u : Int32) => r = u) (fun (u : Int32) (t : State) => (Q u) ∧ va_P (dC, dI) vwCl [(h0, .inr (13, oX10 v_there v_count v_captures v_ranges (.ref h1) (.ref h2) (.ref h3) (.ref h4) (.ref h5) (.ref h6) (.ref h7) (.ref h8) (.ref h9) (.ref h10) (.ref h11) (.ref h12) (.ref h13) (.ref h14) (.ref h15) (.ref h16))), (h1, .inl (k0, 256, .inl v_sort))] t.heap ∧ va_D A [(h0, .inr (13, oX10 v_there v_count v_captures v_ranges (.ref h1) (.ref h2) (.ref h3) (.ref h4) (.ref h5) (.ref h6) (.ref h7) (.ref h8) (.ref h9) (.ref h10) (.ref h11) (.ref h12) (.ref h13) (.ref h14) (.ref h15) (.ref h16))), (h1, .inl (k0, 256, .inl v_sort))]) A) ([.ref h0, .int p1]).toArray s 0 0 A) (F0 m 0 ls [])
  rw [← hQQ]
  unfold w_X10_sortOf at w
  refine lv_iload_n hx hb dX10_sortOf_0 rfl (lv_at hl 1 rfl) ?_
  have k_22 : ∀ (s0_22 : Int32), ∀ (H_b22 : Heap) (locs_b22 : List Loc) (ls_b22 : Array Slot), w_X10_sortOf_22 Q s0_22 → va_P (dC, dI) vwCl [(h0, .inr (13, oX10 v_there v_count v_captures v_ranges (.ref h1) (.ref h2) (.ref h3) (.ref h4) (.ref h5) (.ref h6) (.ref h7) (.ref h8) (.ref h9) (.ref h10) (.ref h11) (.ref h12) (.ref h13) (.ref h14) (.ref h15) (.ref h16))), (h1, .inl (k0, 256, .inl v_sort))] H_b22 → va_D A [(h0, .inr (13, oX10 v_there v_count v_captures v_ranges (.ref h1) (.ref h2) (.ref h3) (.ref h4) (.ref h5) (.ref h6) (.ref h7) (.ref h8) (.ref h9) (.ref h10) (.ref h11) (.ref h12) (.ref h13) (.ref h14) (.ref h15) (.ref h16))), (h1, .inl (k0, 256, .inl v_sort))] → va_S A s.heap H_b22 locs_b22 → lv_has ls_b22 2 [] → W p l e ({ frames := 0, cells := 0, slots := 0, locals := 0 } : Room) s m ([.ref h0, .int p1]).toArray below meth c H_b22 locs_b22 0 0 QQ (F0 m 22 ls_b22 [.int s0_22]) := by
    intro s0_22 H_b22 locs_b22 ls_b22 w_b22 hP_b22 hD_b22 hS_b22 hl_b22
    unfold w_X10_sortOf_22 at w_b22
    rw [hQQ]
    exact W.iret (v := s0_22) hx hb hr (fun t9 ht9 hW9 => ⟨⟨s0_22, s0_22, rfl, rfl, ⟨w_b22, by rw [ht9]; exact hP_b22, hD_b22⟩⟩, hS_b22.F ht9⟩) hS_b22.2.2 dX10_sortOf_22
  have k_21 : ∀ (H_b21 : Heap) (locs_b21 : List Loc) (ls_b21 : Array Slot), w_X10_sortOf_21 Q → va_P (dC, dI) vwCl [(h0, .inr (13, oX10 v_there v_count v_captures v_ranges (.ref h1) (.ref h2) (.ref h3) (.ref h4) (.ref h5) (.ref h6) (.ref h7) (.ref h8) (.ref h9) (.ref h10) (.ref h11) (.ref h12) (.ref h13) (.ref h14) (.ref h15) (.ref h16))), (h1, .inl (k0, 256, .inl v_sort))] H_b21 → va_D A [(h0, .inr (13, oX10 v_there v_count v_captures v_ranges (.ref h1) (.ref h2) (.ref h3) (.ref h4) (.ref h5) (.ref h6) (.ref h7) (.ref h8) (.ref h9) (.ref h10) (.ref h11) (.ref h12) (.ref h13) (.ref h14) (.ref h15) (.ref h16))), (h1, .inl (k0, 256, .inl v_sort))] → va_S A s.heap H_b21 locs_b21 → lv_has ls_b21 2 [] → W p l e ({ frames := 0, cells := 0, slots := 0, locals := 0 } : Room) s m ([.ref h0, .int p1]).toArray below meth c H_b21 locs_b21 0 0 QQ (F0 m 21 ls_b21 []) := by
    intro  H_b21 locs_b21 ls_b21 w_b21 hP_b21 hD_b21 hS_b21 hl_b21
    unfold w_X10_sortOf_21 at w_b21
    refine lv_iconst (v := 5) hx hb dX10_sortOf_21 (by decide) ?_
    exact k_22 5 _ _ _ w_b21 hP_b21 hD_b21 hS_b21 (lv_sub hl_b21 [] rfl)
  refine lv_if_lt (tgt := 21) hx hb dX10_sortOf_1 (by decide) (fun c_1 => ?_) (fun c_1 => ?_)
  · exact k_21  _ _ _ (w.1 c_1) hP hD hS (lv_sub hl [] rfl)
  · refine lv_iload_n hx hb dX10_sortOf_4 rfl (lv_at hl 1 rfl) ?_
    refine lv_aload_n hx hb dX10_sortOf_5 rfl (lv_at hl 0 rfl) ?_
    refine va_get (D := (dC, dI)) (ci := 13) (v := .int v_count) (C := RX10) (T := TX10) (N := 20) hx hb ht inX10 hown hK hP 0 rfl rfl 1 (by decide) (ht _ tw_319) (fun _ h9 => h9) rfl dX10_sortOf_6 ?_
    refine lv_icmp_ge (tgt := 21) hx hb dX10_sortOf_9 (by decide) (fun c_2 => ?_) (fun c_2 => ?_)
    · exact k_21  _ _ _ ((w.2 c_1).1 c_2) hP hD hS (lv_sub hl [] rfl)
    · refine lv_aload_n hx hb dX10_sortOf_12 rfl (lv_at hl 0 rfl) ?_
      refine va_get (D := (dC, dI)) (ci := 13) (v := .ref h1) (C := RX10) (T := TX10) (N := 20) hx hb ht inX10 hown hK hP 0 rfl rfl 4 (by decide) (ht _ tw_327) (fun _ h9 => h9) rfl dX10_sortOf_13 ?_
      refine lv_iload_n hx hb dX10_sortOf_16 rfl (lv_at hl 1 rfl) ?_
      refine va_iald hx hb hK hP 1 0 rfl rfl (i := p1) ((w.2 c_1).2 c_2).1 dX10_sortOf_17 ?_
      refine lv_topi (fun x_3 ex_3 => ?_)
      have ex_3 : x_3 = v_sort p1.toNatClampNeg := ex_3
      refine lv_goto (tgt := 22) hx hb dX10_sortOf_18 (by decide) ?_
      exact k_22 x_3 _ _ _ ((((w.2 c_1).2 c_2).2) x_3 ex_3) hP hD hS (lv_sub hl [] rfl)
def w_X10_takesOneSign_14 (Q : Int32 → Prop) (s0_14 : Int32) : Prop :=
  (s0_14 = 0 ∨ s0_14 = 1) ∧ Q s0_14
def w_X10_takesOneSign (p1 : Int32) (v_count : Int32) (v_sort : Nat → Int32) (Q : Int32 → Prop) : Prop :=
  w_X10_sortOf p1 v_count v_sort (fun r_1 => ((2 < r_1) → w_X10_takesOneSign_14 Q 0) ∧ ((¬ 2 < r_1) → w_X10_takesOneSign_14 Q 1))
set_option maxHeartbeats 4000000 in
set_option maxRecDepth 100000 in
theorem mt_X10_takesOneSign (l : Launch) (dC : Nat → ClassId) (dI : Nat → Nat → Nat) (h0 h1 h2 h3 h4 h5 h6 h7 h8 h9 h10 h11 h12 h13 h14 h15 h16 : Nat) (k0 : ClassId) (p1 : Int32) (v_there : Bool) (v_count : Int32) (v_captures : Int32) (v_ranges : Int32) (v_sort : Nat → Int32) (Q : Int32 → Prop) (w : w_X10_takesOneSign p1 v_count v_sort Q) (sz : Nat) : Met l yX10_takesOneSign (WS yX10_takesOneSign cX10_takesOneSign 2 (some (.boolean))) ({ frames := 1, cells := 0, slots := 0, locals := 21 } : Room) (va_Pc [.ref h0, .int p1] (fun U => U.heap.size = sz ∧ va_P (dC, dI) vwCl [(h0, .inr (13, oX10 v_there v_count v_captures v_ranges (.ref h1) (.ref h2) (.ref h3) (.ref h4) (.ref h5) (.ref h6) (.ref h7) (.ref h8) (.ref h9) (.ref h10) (.ref h11) (.ref h12) (.ref h13) (.ref h14) (.ref h15) (.ref h16))), (h1, .inl (k0, 256, .inl v_sort))] U.heap ∧ va_K (dC, dI) vwCl [(k0, .int)] U ∧ va_D (fun _ => True) [(h0, .inr (13, oX10 v_there v_count v_captures v_ranges (.ref h1) (.ref h2) (.ref h3) (.ref h4) (.ref h5) (.ref h6) (.ref h7) (.ref h8) (.ref h9) (.ref h10) (.ref h11) (.ref h12) (.ref h13) (.ref h14) (.ref h15) (.ref h16))), (h1, .inl (k0, 256, .inl v_sort))])) (va_Qi (fun (r u : Int32) => r = u) (fun (u : Int32) (t : State) => (Q u) ∧ va_P (dC, dI) vwCl [(h0, .inr (13, oX10 v_there v_count v_captures v_ranges (.ref h1) (.ref h2) (.ref h3) (.ref h4) (.ref h5) (.ref h6) (.ref h7) (.ref h8) (.ref h9) (.ref h10) (.ref h11) (.ref h12) (.ref h13) (.ref h14) (.ref h15) (.ref h16))), (h1, .inl (k0, 256, .inl v_sort))] t.heap ∧ va_D (va_A [(h0, .inr (13, oX10 v_there v_count v_captures v_ranges (.ref h1) (.ref h2) (.ref h3) (.ref h4) (.ref h5) (.ref h6) (.ref h7) (.ref h8) (.ref h9) (.ref h10) (.ref h11) (.ref h12) (.ref h13) (.ref h14) (.ref h15) (.ref h16))), (h1, .inl (k0, 256, .inl v_sort))] sz) [(h0, .inr (13, oX10 v_there v_count v_captures v_ranges (.ref h1) (.ref h2) (.ref h3) (.ref h4) (.ref h5) (.ref h6) (.ref h7) (.ref h8) (.ref h9) (.ref h10) (.ref h11) (.ref h12) (.ref h13) (.ref h14) (.ref h15) (.ref h16))), (h1, .inl (k0, 256, .inl v_sort))]) (va_A [(h0, .inr (13, oX10 v_there v_count v_captures v_ranges (.ref h1) (.ref h2) (.ref h3) (.ref h4) (.ref h5) (.ref h6) (.ref h7) (.ref h8) (.ref h9) (.ref h10) (.ref h11) (.ref h12) (.ref h13) (.ref h14) (.ref h15) (.ref h16))), (h1, .inl (k0, 256, .inl v_sort))] sz)) 0 0 (va_A [(h0, .inr (13, oX10 v_there v_count v_captures v_ranges (.ref h1) (.ref h2) (.ref h3) (.ref h4) (.ref h5) (.ref h6) (.ref h7) (.ref h8) (.ref h9) (.ref h10) (.ref h11) (.ref h12) (.ref h13) (.ref h14) (.ref h15) (.ref h16))), (h1, .inl (k0, 256, .inl v_sort))] sz) := by
  refine Met.ofW (cc := cX10_takesOneSign) (maxL := 2) (ret := (some (.boolean))) (by decide) rfl ?_
  intro p e s m args below meth c s₁ B hml hv
  obtain ⟨rfl, hsz, hP, hK, hD0⟩ := hv
  have hx := B.exec
  have hb := B.bytes
  have hr := B.returns
  have hts := atoms_spec (ws := WS yX10_takesOneSign cX10_takesOneSign 2 (some (.boolean))) B.pre
  have ht : ∀ w ∈ TW, w.before _ s = true := fun w h => hts w (List.mem_cons_of_mem _ h)
  have hown : s.vm.findClass "PatternWorkshop$Tree" = some m.cls := findClass_of_methodNamed B.named
  have hlocks := B.notSynchronized
  subst hsz
  have hD := hD0.self (sz := s.heap.size)
  generalize hAe : va_A [(h0, .inr (13, oX10 v_there v_count v_captures v_ranges (.ref h1) (.ref h2) (.ref h3) (.ref h4) (.ref h5) (.ref h6) (.ref h7) (.ref h8) (.ref h9) (.ref h10) (.ref h11) (.ref h12) (.ref h13) (.ref h14) (.ref h15) (.ref h16))), (h1, .inl (k0, 256, .inl v_sort))] s.heap.size = A at hD ⊢
  have hA : ∀ q : Nat, s.heap.size ≤ q → A q := fun q h => by rw [← hAe]; exact Or.inr h
  have hS : va_S A s.heap s.heap [] := va_S.rf
  have hP : va_P (dC, dI) vwCl [(h0, .inr (13, oX10 v_there v_count v_captures v_ranges (.ref h1) (.ref h2) (.ref h3) (.ref h4) (.ref h5) (.ref h6) (.ref h7) (.ref h8) (.ref h9) (.ref h10) (.ref h11) (.ref h12) (.ref h13) (.ref h14) (.ref h15) (.ref h16))), (h1, .inl (k0, 256, .inl v_sort))] s.heap := hP
  have hl := lv_entry ([.ref h0, .int p1]) (n := 2) (Nat.le_of_ble_eq_true rfl)
  rw [lg_entry_eq]
  generalize (lg_sl ([.ref h0, .int p1]) ++ List.replicate (2 - (lg_sl ([.ref h0, .int p1])).length) Slot.unset).toArray = ls at hl ⊢
  have hl : lv_has ls 2 [(0, .ref h0), (1, .int p1)] := hl
  clear hD0
  obtain ⟨QQ, hQQ⟩ : ∃ QQ, QQ = MQ below (va_Qi (fun (r u : Int32) => r = u) (fun (u : Int32) (t : State) => (Q u) ∧ va_P (dC, dI) vwCl [(h0, .inr (13, oX10 v_there v_count v_captures v_ranges (.ref h1) (.ref h2) (.ref h3) (.ref h4) (.ref h5) (.ref h6) (.ref h7) (.ref h8) (.ref h9) (.ref h10) (.ref h11) (.ref h12) (.ref h13) (.ref h14) (.ref h15) (.ref h16))), (h1, .inl (k0, 256, .inl v_sort))] t.heap ∧ va_D A [(h0, .inr (13, oX10 v_there v_count v_captures v_ranges (.ref h1) (.ref h2) (.ref h3) (.ref h4) (.ref h5) (.ref h6) (.ref h7) (.ref h8) (.ref h9) (.ref h10) (.ref h11) (.ref h12) (.ref h13) (.ref h14) (.ref h15) (.ref h16))), (h1, .inl (k0, 256, .inl v_sort))]) A) ([.ref h0, .int p1]).toArray s 0 0 A := ⟨_, rfl⟩
  show W p l e ({ frames := 1, cells := 0, slots := 0, locals := 21 } : Room) s m ([.ref h0, .int p1]).toArray below meth c s.heap [] 0 0 (MQ below (va_Qi (fun (r u : Int32) => r = u) (fun (u : Int32) (t : State) => (Q u) ∧ va_P (dC, dI) vwCl [(h0, .inr (13, oX10 v_there v_count v_captures v_ranges (.ref h1) (.ref h2) (.ref h3) (.ref h4) (.ref h5) (.ref h6) (.ref h7) (.ref h8) (.ref h9) (.ref h10) (.ref h11) (.ref h12) (.ref h13) (.ref h14) (.ref h15) (.ref h16))), (h1, .inl (k0, 256, .inl v_sort))] t.heap ∧ va_D A [(h0, .inr (13, oX10 v_there v_count v_captures v_ranges (.ref h1) (.ref h2) (.ref h3) (.ref h4) (.ref h5) (.ref h6) (.ref h7) (.ref h8) (.ref h9) (.ref h10) (.ref h11) (.ref h12) (.ref h13) (.ref h14) (.ref h15) (.ref h16))), (h1, .inl (k0, 256, .inl v_sort))]) A) ([.ref h0, .int p1]).toArray s 0 0 A) (F0 m 0 ls [])
  rw [← hQQ]
  unfold w_X10_takesOneSign at w
  refine lv_aload_n hx hb dX10_takesOneSign_0 rfl (lv_at hl 0 rfl) ?_
  refine lv_iload_n hx hb dX10_takesOneSign_1 rfl (lv_at hl 1 rfl) ?_
  have hPc_1 := vaPq hP (wsq := [(h0, .inr (13, oX10 v_there v_count v_captures v_ranges (.ref h1) (.ref h2) (.ref h3) (.ref h4) (.ref h5) (.ref h6) (.ref h7) (.ref h8) (.ref h9) (.ref h10) (.ref h11) (.ref h12) (.ref h13) (.ref h14) (.ref h15) (.ref h16))), (h1, .inl (k0, 256, .inl v_sort))]) [0, 1] rfl
  have hDc_1 := vaDq hD (wsq := [(h0, .inr (13, oX10 v_there v_count v_captures v_ranges (.ref h1) (.ref h2) (.ref h3) (.ref h4) (.ref h5) (.ref h6) (.ref h7) (.ref h8) (.ref h9) (.ref h10) (.ref h11) (.ref h12) (.ref h13) (.ref h14) (.ref h15) (.ref h16))), (h1, .inl (k0, 256, .inl v_sort))]) [0, 1] (by decide) rfl
  have hKc_1 := vaKq hK (tysq := [(k0, .int)]) [0] rfl
  have hFc_1 := va_free (wc := [(h0, .inr (13, oX10 v_there v_count v_captures v_ranges (.ref h1) (.ref h2) (.ref h3) (.ref h4) (.ref h5) (.ref h6) (.ref h7) (.ref h8) (.ref h9) (.ref h10) (.ref h11) (.ref h12) (.ref h13) (.ref h14) (.ref h15) (.ref h16))), (h1, .inl (k0, 256, .inl v_sort))]) hD hS hA [0, 1] rfl
  refine va_calli (va_runV (As := [.int p1]) (rest := []) ⟨hx, hb, hml, hown, ht⟩ (mt_X10_sortOf l dC dI h0 h1 h2 h3 h4 h5 h6 h7 h8 h9 h10 h11 h12 h13 h14 h15 h16 k0 p1 v_there v_count v_captures v_ranges v_sort _ w s.heap.size) (cwV 1 ht (goodV tw_1101 tw_1102 tw_1103 tw_240 gw_X10_sortOf) rfl rfl rfl (by decide +kernel) ⟨Nat.le_of_ble_eq_true rfl, Nat.le_of_ble_eq_true rfl⟩) ⟨fun a U g mk q => by obtain ⟨q0, q1, qP, qK, qD⟩ := q; exact ⟨q0, q1, qP, va_K.moved (u := U) (U := U.calling g mk a) (Vm.Alike.refl U.vm) qK, qD⟩, va_recv hKc_1 hPc_1 (ci := 13) (q0 := 0) rfl rfl, fun U hU hW => ⟨rfl, by rw [hU], by rw [hU]; exact hPc_1, va_K.moved hW.alike hKc_1, hDc_1.weaken (fun _ _ _ _ => trivial)⟩⟩ rfl rfl hl.1 rfl (lv_room (Nat.le_of_ble_eq_true rfl)) dX10_takesOneSign_2 ⟨Nat.le_of_ble_eq_true rfl, Nat.le_of_ble_eq_true rfl⟩) hS (fun q _ h => hFc_1 q h) hFc_1 (fun r_1 u_1 t_1 H_1 locs_1 ht_1 hvm_1 hw_1 hB_1 hz_1 hk_1 hS_1 => ?_)
  subst hw_1
  obtain ⟨w_1, hP1_1, hD1_1⟩ := hB_1
  rw [ht_1] at hP1_1
  obtain ⟨hP_1, hD_1⟩ := va_join (wr := []) (w1 := [(h0, .inr (13, oX10 v_there v_count v_captures v_ranges (.ref h1) (.ref h2) (.ref h3) (.ref h4) (.ref h5) (.ref h6) (.ref h7) (.ref h8) (.ref h9) (.ref h10) (.ref h11) (.ref h12) (.ref h13) (.ref h14) (.ref h15) (.ref h16))), (h1, .inl (k0, 256, .inl v_sort))]) hP hD [0, 1] [] rfl rfl (by decide) (by decide) hk_1 hFc_1 hP1_1 hD1_1
  have hP_1 := vaPq hP_1 (wsq := [(h0, .inr (13, oX10 v_there v_count v_captures v_ranges (.ref h1) (.ref h2) (.ref h3) (.ref h4) (.ref h5) (.ref h6) (.ref h7) (.ref h8) (.ref h9) (.ref h10) (.ref h11) (.ref h12) (.ref h13) (.ref h14) (.ref h15) (.ref h16))), (h1, .inl (k0, 256, .inl v_sort))]) [0, 1] rfl
  have hD_1 := vaDq hD_1 (wsq := [(h0, .inr (13, oX10 v_there v_count v_captures v_ranges (.ref h1) (.ref h2) (.ref h3) (.ref h4) (.ref h5) (.ref h6) (.ref h7) (.ref h8) (.ref h9) (.ref h10) (.ref h11) (.ref h12) (.ref h13) (.ref h14) (.ref h15) (.ref h16))), (h1, .inl (k0, 256, .inl v_sort))]) [0, 1] (by decide) rfl
  clear hPc_1 hDc_1 hKc_1 hFc_1 hP1_1 hD1_1 hk_1 hz_1
  refine lv_iconst (v := 2) hx hb dX10_takesOneSign_5 (by decide) ?_
  have k_14 : ∀ (s0_14 : Int32), ∀ (H_b14 : Heap) (locs_b14 : List Loc) (ls_b14 : Array Slot), w_X10_takesOneSign_14 Q s0_14 → va_P (dC, dI) vwCl [(h0, .inr (13, oX10 v_there v_count v_captures v_ranges (.ref h1) (.ref h2) (.ref h3) (.ref h4) (.ref h5) (.ref h6) (.ref h7) (.ref h8) (.ref h9) (.ref h10) (.ref h11) (.ref h12) (.ref h13) (.ref h14) (.ref h15) (.ref h16))), (h1, .inl (k0, 256, .inl v_sort))] H_b14 → va_D A [(h0, .inr (13, oX10 v_there v_count v_captures v_ranges (.ref h1) (.ref h2) (.ref h3) (.ref h4) (.ref h5) (.ref h6) (.ref h7) (.ref h8) (.ref h9) (.ref h10) (.ref h11) (.ref h12) (.ref h13) (.ref h14) (.ref h15) (.ref h16))), (h1, .inl (k0, 256, .inl v_sort))] → va_S A s.heap H_b14 locs_b14 → lv_has ls_b14 2 [] → W p l e ({ frames := 1, cells := 0, slots := 0, locals := 21 } : Room) s m ([.ref h0, .int p1]).toArray below meth c H_b14 locs_b14 0 0 QQ (F0 m 14 ls_b14 [.int s0_14]) := by
    intro s0_14 H_b14 locs_b14 ls_b14 w_b14 hP_b14 hD_b14 hS_b14 hl_b14
    unfold w_X10_takesOneSign_14 at w_b14
    rw [hQQ]
    exact W.zret (v := s0_14) hx hb hr (or_nar w_b14.1) (fun t9 ht9 hW9 => ⟨⟨s0_14, s0_14, rfl, rfl, ⟨w_b14.2, by rw [ht9]; exact hP_b14, hD_b14⟩⟩, hS_b14.F ht9⟩) hS_b14.2.2 dX10_takesOneSign_14
  refine lv_icmp_gt (tgt := 13) hx hb dX10_takesOneSign_6 (by decide) (fun c_2 => ?_) (fun c_2 => ?_)
  · refine lv_iconst (v := 0) hx hb dX10_takesOneSign_13 (by decide) ?_
    exact k_14 0 _ _ _ (w_1.1 c_2) hP_1 hD_1 hS_1 (lv_sub hl [] rfl)
  · refine lv_iconst (v := 1) hx hb dX10_takesOneSign_9 (by decide) ?_
    refine lv_goto (tgt := 14) hx hb dX10_takesOneSign_10 (by decide) ?_
    exact k_14 1 _ _ _ (w_1.2 c_2) hP_1 hD_1 hS_1 (lv_sub hl [] rfl)
def w_X10_has_17 (Q : Int32 → Prop) (s0_17 : Int32) : Prop :=
  (s0_17 = 0 ∨ s0_17 = 1) ∧ Q s0_17
def w_X10_has_16 (Q : Int32 → Prop) : Prop :=
  w_X10_has_17 Q 0
def w_X10_has (p1 : Int32) (v_count : Int32) (Q : Int32 → Prop) : Prop :=
  ((p1 < 0) → w_X10_has_16 Q) ∧ ((¬ p1 < 0) → ((v_count ≤ p1) → w_X10_has_16 Q) ∧ ((¬ v_count ≤ p1) → w_X10_has_17 Q 1))
set_option maxHeartbeats 4000000 in
set_option maxRecDepth 100000 in
theorem mt_X10_has (l : Launch) (dC : Nat → ClassId) (dI : Nat → Nat → Nat) (h0 h1 h2 h3 h4 h5 h6 h7 h8 h9 h10 h11 h12 h13 h14 h15 h16 : Nat) (p1 : Int32) (v_there : Bool) (v_count : Int32) (v_captures : Int32) (v_ranges : Int32) (Q : Int32 → Prop) (w : w_X10_has p1 v_count Q) (sz : Nat) : Met l yX10_has (WS yX10_has cX10_has 2 (some (.boolean))) ({ frames := 0, cells := 0, slots := 0, locals := 0 } : Room) (va_Pc [.ref h0, .int p1] (fun U => U.heap.size = sz ∧ va_P (dC, dI) vwCl [(h0, .inr (13, oX10 v_there v_count v_captures v_ranges (.ref h1) (.ref h2) (.ref h3) (.ref h4) (.ref h5) (.ref h6) (.ref h7) (.ref h8) (.ref h9) (.ref h10) (.ref h11) (.ref h12) (.ref h13) (.ref h14) (.ref h15) (.ref h16)))] U.heap ∧ va_K (dC, dI) vwCl [] U ∧ va_D (fun _ => True) [(h0, .inr (13, oX10 v_there v_count v_captures v_ranges (.ref h1) (.ref h2) (.ref h3) (.ref h4) (.ref h5) (.ref h6) (.ref h7) (.ref h8) (.ref h9) (.ref h10) (.ref h11) (.ref h12) (.ref h13) (.ref h14) (.ref h15) (.ref h16)))])) (va_Qi (fun (r u : Int32) => r = u) (fun (u : Int32) (t : State) => (Q u) ∧ va_P (dC, dI) vwCl [(h0, .inr (13, oX10 v_there v_count v_captures v_ranges (.ref h1) (.ref h2) (.ref h3) (.ref h4) (.ref h5) (.ref h6) (.ref h7) (.ref h8) (.ref h9) (.ref h10) (.ref h11) (.ref h12) (.ref h13) (.ref h14) (.ref h15) (.ref h16)))] t.heap ∧ va_D (va_A [(h0, .inr (13, oX10 v_there v_count v_captures v_ranges (.ref h1) (.ref h2) (.ref h3) (.ref h4) (.ref h5) (.ref h6) (.ref h7) (.ref h8) (.ref h9) (.ref h10) (.ref h11) (.ref h12) (.ref h13) (.ref h14) (.ref h15) (.ref h16)))] sz) [(h0, .inr (13, oX10 v_there v_count v_captures v_ranges (.ref h1) (.ref h2) (.ref h3) (.ref h4) (.ref h5) (.ref h6) (.ref h7) (.ref h8) (.ref h9) (.ref h10) (.ref h11) (.ref h12) (.ref h13) (.ref h14) (.ref h15) (.ref h16)))]) (va_A [(h0, .inr (13, oX10 v_there v_count v_captures v_ranges (.ref h1) (.ref h2) (.ref h3) (.ref h4) (.ref h5) (.ref h6) (.ref h7) (.ref h8) (.ref h9) (.ref h10) (.ref h11) (.ref h12) (.ref h13) (.ref h14) (.ref h15) (.ref h16)))] sz)) 0 0 (va_A [(h0, .inr (13, oX10 v_there v_count v_captures v_ranges (.ref h1) (.ref h2) (.ref h3) (.ref h4) (.ref h5) (.ref h6) (.ref h7) (.ref h8) (.ref h9) (.ref h10) (.ref h11) (.ref h12) (.ref h13) (.ref h14) (.ref h15) (.ref h16)))] sz) := by
  refine Met.ofW (cc := cX10_has) (maxL := 2) (ret := (some (.boolean))) (by decide) rfl ?_
  intro p e s m args below meth c s₁ B hml hv
  obtain ⟨rfl, hsz, hP, hK, hD0⟩ := hv
  have hx := B.exec
  have hb := B.bytes
  have hr := B.returns
  have hts := atoms_spec (ws := WS yX10_has cX10_has 2 (some (.boolean))) B.pre
  have ht : ∀ w ∈ TW, w.before _ s = true := fun w h => hts w (List.mem_cons_of_mem _ h)
  have hown : s.vm.findClass "PatternWorkshop$Tree" = some m.cls := findClass_of_methodNamed B.named
  have hlocks := B.notSynchronized
  subst hsz
  have hD := hD0.self (sz := s.heap.size)
  generalize hAe : va_A [(h0, .inr (13, oX10 v_there v_count v_captures v_ranges (.ref h1) (.ref h2) (.ref h3) (.ref h4) (.ref h5) (.ref h6) (.ref h7) (.ref h8) (.ref h9) (.ref h10) (.ref h11) (.ref h12) (.ref h13) (.ref h14) (.ref h15) (.ref h16)))] s.heap.size = A at hD ⊢
  have hA : ∀ q : Nat, s.heap.size ≤ q → A q := fun q h => by rw [← hAe]; exact Or.inr h
  have hS : va_S A s.heap s.heap [] := va_S.rf
  have hP : va_P (dC, dI) vwCl [(h0, .inr (13, oX10 v_there v_count v_captures v_ranges (.ref h1) (.ref h2) (.ref h3) (.ref h4) (.ref h5) (.ref h6) (.ref h7) (.ref h8) (.ref h9) (.ref h10) (.ref h11) (.ref h12) (.ref h13) (.ref h14) (.ref h15) (.ref h16)))] s.heap := hP
  have hl := lv_entry ([.ref h0, .int p1]) (n := 2) (Nat.le_of_ble_eq_true rfl)
  rw [lg_entry_eq]
  generalize (lg_sl ([.ref h0, .int p1]) ++ List.replicate (2 - (lg_sl ([.ref h0, .int p1])).length) Slot.unset).toArray = ls at hl ⊢
  have hl : lv_has ls 2 [(0, .ref h0), (1, .int p1)] := hl
  clear hD0
  obtain ⟨QQ, hQQ⟩ : ∃ QQ, QQ = MQ below (va_Qi (fun (r u : Int32) => r = u) (fun (u : Int32) (t : State) => (Q u) ∧ va_P (dC, dI) vwCl [(h0, .inr (13, oX10 v_there v_count v_captures v_ranges (.ref h1) (.ref h2) (.ref h3) (.ref h4) (.ref h5) (.ref h6) (.ref h7) (.ref h8) (.ref h9) (.ref h10) (.ref h11) (.ref h12) (.ref h13) (.ref h14) (.ref h15) (.ref h16)))] t.heap ∧ va_D A [(h0, .inr (13, oX10 v_there v_count v_captures v_ranges (.ref h1) (.ref h2) (.ref h3) (.ref h4) (.ref h5) (.ref h6) (.ref h7) (.ref h8) (.ref h9) (.ref h10) (.ref h11) (.ref h12) (.ref h13) (.ref h14) (.ref h15) (.ref h16)))]) A) ([.ref h0, .int p1]).toArray s 0 0 A := ⟨_, rfl⟩
  show W p l e ({ frames := 0, cells := 0, slots := 0, locals := 0 } : Room) s m ([.ref h0, .int p1]).toArray below meth c s.heap [] 0 0 (MQ below (va_Qi (fun (r u : Int32) => r = u) (fun (u : Int32) (t : State) => (Q u) ∧ va_P (dC, dI) vwCl [(h0, .inr (13, oX10 v_there v_count v_captures v_ranges (.ref h1) (.ref h2) (.ref h3) (.ref h4) (.ref h5) (.ref h6) (.ref h7) (.ref h8) (.ref h9) (.ref h10) (.ref h11) (.ref h12) (.ref h13) (.ref h14) (.ref h15) (.ref h16)))] t.heap ∧ va_D A [(h0, .inr (13, oX10 v_there v_count v_captures v_ranges (.ref h1) (.ref h2) (.ref h3) (.ref h4) (.ref h5) (.ref h6) (.ref h7) (.ref h8) (.ref h9) (.ref h10) (.ref h11) (.ref h12) (.ref h13) (.ref h14) (.ref h15) (.ref h16)))]) A) ([.ref h0, .int p1]).toArray s 0 0 A) (F0 m 0 ls [])
  rw [← hQQ]
  unfold w_X10_has at w
  refine lv_iload_n hx hb dX10_has_0 rfl (lv_at hl 1 rfl) ?_
  have k_17 : ∀ (s0_17 : Int32), ∀ (H_b17 : Heap) (locs_b17 : List Loc) (ls_b17 : Array Slot), w_X10_has_17 Q s0_17 → va_P (dC, dI) vwCl [(h0, .inr (13, oX10 v_there v_count v_captures v_ranges (.ref h1) (.ref h2) (.ref h3) (.ref h4) (.ref h5) (.ref h6) (.ref h7) (.ref h8) (.ref h9) (.ref h10) (.ref h11) (.ref h12) (.ref h13) (.ref h14) (.ref h15) (.ref h16)))] H_b17 → va_D A [(h0, .inr (13, oX10 v_there v_count v_captures v_ranges (.ref h1) (.ref h2) (.ref h3) (.ref h4) (.ref h5) (.ref h6) (.ref h7) (.ref h8) (.ref h9) (.ref h10) (.ref h11) (.ref h12) (.ref h13) (.ref h14) (.ref h15) (.ref h16)))] → va_S A s.heap H_b17 locs_b17 → lv_has ls_b17 2 [] → W p l e ({ frames := 0, cells := 0, slots := 0, locals := 0 } : Room) s m ([.ref h0, .int p1]).toArray below meth c H_b17 locs_b17 0 0 QQ (F0 m 17 ls_b17 [.int s0_17]) := by
    intro s0_17 H_b17 locs_b17 ls_b17 w_b17 hP_b17 hD_b17 hS_b17 hl_b17
    unfold w_X10_has_17 at w_b17
    rw [hQQ]
    exact W.zret (v := s0_17) hx hb hr (or_nar w_b17.1) (fun t9 ht9 hW9 => ⟨⟨s0_17, s0_17, rfl, rfl, ⟨w_b17.2, by rw [ht9]; exact hP_b17, hD_b17⟩⟩, hS_b17.F ht9⟩) hS_b17.2.2 dX10_has_17
  have k_16 : ∀ (H_b16 : Heap) (locs_b16 : List Loc) (ls_b16 : Array Slot), w_X10_has_16 Q → va_P (dC, dI) vwCl [(h0, .inr (13, oX10 v_there v_count v_captures v_ranges (.ref h1) (.ref h2) (.ref h3) (.ref h4) (.ref h5) (.ref h6) (.ref h7) (.ref h8) (.ref h9) (.ref h10) (.ref h11) (.ref h12) (.ref h13) (.ref h14) (.ref h15) (.ref h16)))] H_b16 → va_D A [(h0, .inr (13, oX10 v_there v_count v_captures v_ranges (.ref h1) (.ref h2) (.ref h3) (.ref h4) (.ref h5) (.ref h6) (.ref h7) (.ref h8) (.ref h9) (.ref h10) (.ref h11) (.ref h12) (.ref h13) (.ref h14) (.ref h15) (.ref h16)))] → va_S A s.heap H_b16 locs_b16 → lv_has ls_b16 2 [] → W p l e ({ frames := 0, cells := 0, slots := 0, locals := 0 } : Room) s m ([.ref h0, .int p1]).toArray below meth c H_b16 locs_b16 0 0 QQ (F0 m 16 ls_b16 []) := by
    intro  H_b16 locs_b16 ls_b16 w_b16 hP_b16 hD_b16 hS_b16 hl_b16
    unfold w_X10_has_16 at w_b16
    refine lv_iconst (v := 0) hx hb dX10_has_16 (by decide) ?_
    exact k_17 0 _ _ _ w_b16 hP_b16 hD_b16 hS_b16 (lv_sub hl_b16 [] rfl)
  refine lv_if_lt (tgt := 16) hx hb dX10_has_1 (by decide) (fun c_1 => ?_) (fun c_1 => ?_)
  · exact k_16  _ _ _ (w.1 c_1) hP hD hS (lv_sub hl [] rfl)
  · refine lv_iload_n hx hb dX10_has_4 rfl (lv_at hl 1 rfl) ?_
    refine lv_aload_n hx hb dX10_has_5 rfl (lv_at hl 0 rfl) ?_
    refine va_get (D := (dC, dI)) (ci := 13) (v := .int v_count) (C := RX10) (T := TX10) (N := 20) hx hb ht inX10 hown hK hP 0 rfl rfl 1 (by decide) (ht _ tw_319) (fun _ h9 => h9) rfl dX10_has_6 ?_
    refine lv_icmp_ge (tgt := 16) hx hb dX10_has_9 (by decide) (fun c_2 => ?_) (fun c_2 => ?_)
    · exact k_16  _ _ _ ((w.2 c_1).1 c_2) hP hD hS (lv_sub hl [] rfl)
    · refine lv_iconst (v := 1) hx hb dX10_has_12 (by decide) ?_
      refine lv_goto (tgt := 17) hx hb dX10_has_13 (by decide) ?_
      exact k_17 1 _ _ _ ((w.2 c_1).2 c_2) hP hD hS (lv_sub hl [] rfl)
def w_X10_close_18 (Q : (Nat → Int32) → Prop) (v_end_18 : Nat → Int32) : Prop :=
  Q  v_end_18
def w_X10_close (p1 : Int32) (v_count : Int32) (v_end : Nat → Int32) (Q : (Nat → Int32) → Prop) : Prop :=
  w_X10_has p1 v_count (fun r_1 => ((r_1 = 0) → w_X10_close_18 Q v_end) ∧ ((¬ r_1 = 0) → vp_in p1 256 ∧ ∀ g_3 : Nat → Int32, g_3 = upd v_end p1.toNatClampNeg v_count → w_X10_close_18 Q g_3))
set_option maxHeartbeats 4000000 in
set_option maxRecDepth 100000 in
theorem mt_X10_close (l : Launch) (dC : Nat → ClassId) (dI : Nat → Nat → Nat) (h0 h1 h2 h3 h4 h5 h6 h7 h8 h9 h10 h11 h12 h13 h14 h15 h16 : Nat) (k0 : ClassId) (p1 : Int32) (v_there : Bool) (v_count : Int32) (v_captures : Int32) (v_ranges : Int32) (v_end : Nat → Int32) (Q : (Nat → Int32) → Prop) (w : w_X10_close p1 v_count v_end Q) (sz : Nat) : Met l yX10_close (WS yX10_close cX10_close 2 none) ({ frames := 1, cells := 0, slots := 0, locals := 21 } : Room) (va_Pc [.ref h0, .int p1] (fun U => U.heap.size = sz ∧ va_P (dC, dI) vwCl [(h0, .inr (13, oX10 v_there v_count v_captures v_ranges (.ref h2) (.ref h3) (.ref h1) (.ref h4) (.ref h5) (.ref h6) (.ref h7) (.ref h8) (.ref h9) (.ref h10) (.ref h11) (.ref h12) (.ref h13) (.ref h14) (.ref h15) (.ref h16))), (h1, .inl (k0, 256, .inl v_end))] U.heap ∧ va_K (dC, dI) vwCl [(k0, .int)] U ∧ va_D (fun _ => True) [(h0, .inr (13, oX10 v_there v_count v_captures v_ranges (.ref h2) (.ref h3) (.ref h1) (.ref h4) (.ref h5) (.ref h6) (.ref h7) (.ref h8) (.ref h9) (.ref h10) (.ref h11) (.ref h12) (.ref h13) (.ref h14) (.ref h15) (.ref h16))), (h1, .inl (k0, 256, .inl v_end))])) (va_Qv (fun (u : Nat) => u = 0) (fun (_ : Nat) (t : State) => ∃ (ov_end : Nat → Int32), (Q ov_end) ∧ va_P (dC, dI) vwCl [(h0, .inr (13, oX10 v_there v_count v_captures v_ranges (.ref h2) (.ref h3) (.ref h1) (.ref h4) (.ref h5) (.ref h6) (.ref h7) (.ref h8) (.ref h9) (.ref h10) (.ref h11) (.ref h12) (.ref h13) (.ref h14) (.ref h15) (.ref h16))), (h1, .inl (k0, 256, .inl ov_end))] t.heap ∧ va_D (va_A [(h0, .inr (13, oX10 v_there v_count v_captures v_ranges (.ref h2) (.ref h3) (.ref h1) (.ref h4) (.ref h5) (.ref h6) (.ref h7) (.ref h8) (.ref h9) (.ref h10) (.ref h11) (.ref h12) (.ref h13) (.ref h14) (.ref h15) (.ref h16))), (h1, .inl (k0, 256, .inl v_end))] sz) [(h0, .inr (13, oX10 v_there v_count v_captures v_ranges (.ref h2) (.ref h3) (.ref h1) (.ref h4) (.ref h5) (.ref h6) (.ref h7) (.ref h8) (.ref h9) (.ref h10) (.ref h11) (.ref h12) (.ref h13) (.ref h14) (.ref h15) (.ref h16))), (h1, .inl (k0, 256, .inl ov_end))]) (va_A [(h0, .inr (13, oX10 v_there v_count v_captures v_ranges (.ref h2) (.ref h3) (.ref h1) (.ref h4) (.ref h5) (.ref h6) (.ref h7) (.ref h8) (.ref h9) (.ref h10) (.ref h11) (.ref h12) (.ref h13) (.ref h14) (.ref h15) (.ref h16))), (h1, .inl (k0, 256, .inl v_end))] sz)) 0 0 (va_A [(h0, .inr (13, oX10 v_there v_count v_captures v_ranges (.ref h2) (.ref h3) (.ref h1) (.ref h4) (.ref h5) (.ref h6) (.ref h7) (.ref h8) (.ref h9) (.ref h10) (.ref h11) (.ref h12) (.ref h13) (.ref h14) (.ref h15) (.ref h16))), (h1, .inl (k0, 256, .inl v_end))] sz) := by
  refine Met.ofW (cc := cX10_close) (maxL := 2) (ret := none) (by decide) rfl ?_
  intro p e s m args below meth c s₁ B hml hv
  obtain ⟨rfl, hsz, hP, hK, hD0⟩ := hv
  have hx := B.exec
  have hb := B.bytes
  have hr := B.returns
  have hts := atoms_spec (ws := WS yX10_close cX10_close 2 none) B.pre
  have ht : ∀ w ∈ TW, w.before _ s = true := fun w h => hts w (List.mem_cons_of_mem _ h)
  have hown : s.vm.findClass "PatternWorkshop$Tree" = some m.cls := findClass_of_methodNamed B.named
  have hlocks := B.notSynchronized
  subst hsz
  have hD := hD0.self (sz := s.heap.size)
  generalize hAe : va_A [(h0, .inr (13, oX10 v_there v_count v_captures v_ranges (.ref h2) (.ref h3) (.ref h1) (.ref h4) (.ref h5) (.ref h6) (.ref h7) (.ref h8) (.ref h9) (.ref h10) (.ref h11) (.ref h12) (.ref h13) (.ref h14) (.ref h15) (.ref h16))), (h1, .inl (k0, 256, .inl v_end))] s.heap.size = A at hD ⊢
  have hA : ∀ q : Nat, s.heap.size ≤ q → A q := fun q h => by rw [← hAe]; exact Or.inr h
  have hS : va_S A s.heap s.heap [] := va_S.rf
  have hP : va_P (dC, dI) vwCl [(h0, .inr (13, oX10 v_there v_count v_captures v_ranges (.ref h2) (.ref h3) (.ref h1) (.ref h4) (.ref h5) (.ref h6) (.ref h7) (.ref h8) (.ref h9) (.ref h10) (.ref h11) (.ref h12) (.ref h13) (.ref h14) (.ref h15) (.ref h16))), (h1, .inl (k0, 256, .inl v_end))] s.heap := hP
  have hl := lv_entry ([.ref h0, .int p1]) (n := 2) (Nat.le_of_ble_eq_true rfl)
  rw [lg_entry_eq]
  generalize (lg_sl ([.ref h0, .int p1]) ++ List.replicate (2 - (lg_sl ([.ref h0, .int p1])).length) Slot.unset).toArray = ls at hl ⊢
  have hl : lv_has ls 2 [(0, .ref h0), (1, .int p1)] := hl
  clear hD0
  obtain ⟨QQ, hQQ⟩ : ∃ QQ, QQ = MQ below (va_Qv (fun (u : Nat) => u = 0) (fun (_ : Nat) (t : State) => ∃ (ov_end : Nat → Int32), (Q ov_end) ∧ va_P (dC, dI) vwCl [(h0, .inr (13, oX10 v_there v_count v_captures v_ranges (.ref h2) (.ref h3) (.ref h1) (.ref h4) (.ref h5) (.ref h6) (.ref h7) (.ref h8) (.ref h9) (.ref h10) (.ref h11) (.ref h12) (.ref h13) (.ref h14) (.ref h15) (.ref h16))), (h1, .inl (k0, 256, .inl ov_end))] t.heap ∧ va_D A [(h0, .inr (13, oX10 v_there v_count v_captures v_ranges (.ref h2) (.ref h3) (.ref h1) (.ref h4) (.ref h5) (.ref h6) (.ref h7) (.ref h8) (.ref h9) (.ref h10) (.ref h11) (.ref h12) (.ref h13) (.ref h14) (.ref h15) (.ref h16))), (h1, .inl (k0, 256, .inl ov_end))]) A) ([.ref h0, .int p1]).toArray s 0 0 A := ⟨_, rfl⟩
  show W p l e ({ frames := 1, cells := 0, slots := 0, locals := 21 } : Room) s m ([.ref h0, .int p1]).toArray below meth c s.heap [] 0 0 (MQ below (va_Qv (fun (u : Nat) => u = 0) (fun (_ : Nat) (t : State) => ∃ (ov_end : Nat → Int32), (Q ov_end) ∧ va_P (dC, dI) vwCl [(h0, .inr (13, oX10 v_there v_count v_captures v_ranges (.ref h2) (.ref h3) (.ref h1) (.ref h4) (.ref h5) (.ref h6) (.ref h7) (.ref h8) (.ref h9) (.ref h10) (.ref h11) (.ref h12) (.ref h13) (.ref h14) (.ref h15) (.ref h16))), (h1, .inl (k0, 256, .inl ov_end))] t.heap ∧ va_D A [(h0, .inr (13, oX10 v_there v_count v_captures v_ranges (.ref h2) (.ref h3) (.ref h1) (.ref h4) (.ref h5) (.ref h6) (.ref h7) (.ref h8) (.ref h9) (.ref h10) (.ref h11) (.ref h12) (.ref h13) (.ref h14) (.ref h15) (.ref h16))), (h1, .inl (k0, 256, .inl ov_end))]) A) ([.ref h0, .int p1]).toArray s 0 0 A) (F0 m 0 ls [])
  rw [← hQQ]
  unfold w_X10_close at w
  refine lv_aload_n hx hb dX10_close_0 rfl (lv_at hl 0 rfl) ?_
  refine lv_iload_n hx hb dX10_close_1 rfl (lv_at hl 1 rfl) ?_
  have hPc_1 := vaPq hP (wsq := [(h0, .inr (13, oX10 v_there v_count v_captures v_ranges (.ref h2) (.ref h3) (.ref h1) (.ref h4) (.ref h5) (.ref h6) (.ref h7) (.ref h8) (.ref h9) (.ref h10) (.ref h11) (.ref h12) (.ref h13) (.ref h14) (.ref h15) (.ref h16)))]) [0] rfl
  have hDc_1 := vaDq hD (wsq := [(h0, .inr (13, oX10 v_there v_count v_captures v_ranges (.ref h2) (.ref h3) (.ref h1) (.ref h4) (.ref h5) (.ref h6) (.ref h7) (.ref h8) (.ref h9) (.ref h10) (.ref h11) (.ref h12) (.ref h13) (.ref h14) (.ref h15) (.ref h16)))]) [0] (by decide) rfl
  have hKc_1 := vaKq hK (tysq := []) [] rfl
  have hFc_1 := va_free (wc := [(h0, .inr (13, oX10 v_there v_count v_captures v_ranges (.ref h2) (.ref h3) (.ref h1) (.ref h4) (.ref h5) (.ref h6) (.ref h7) (.ref h8) (.ref h9) (.ref h10) (.ref h11) (.ref h12) (.ref h13) (.ref h14) (.ref h15) (.ref h16)))]) hD hS hA [0] rfl
  refine va_calli (va_runV (As := [.int p1]) (rest := []) ⟨hx, hb, hml, hown, ht⟩ (mt_X10_has l dC dI h0 h2 h3 h1 h4 h5 h6 h7 h8 h9 h10 h11 h12 h13 h14 h15 h16 p1 v_there v_count v_captures v_ranges _ w s.heap.size) (cwV 1 ht (goodV tw_1069 tw_1070 tw_1071 tw_240 gw_X10_has) rfl rfl rfl (by decide +kernel) ⟨Nat.le_of_ble_eq_true rfl, Nat.le_of_ble_eq_true rfl⟩) ⟨fun a U g mk q => by obtain ⟨q0, q1, qP, qK, qD⟩ := q; exact ⟨q0, q1, qP, va_K.moved (u := U) (U := U.calling g mk a) (Vm.Alike.refl U.vm) qK, qD⟩, va_recv hKc_1 hPc_1 (ci := 13) (q0 := 0) rfl rfl, fun U hU hW => ⟨rfl, by rw [hU], by rw [hU]; exact hPc_1, va_K.moved hW.alike hKc_1, hDc_1.weaken (fun _ _ _ _ => trivial)⟩⟩ rfl rfl hl.1 rfl (lv_room (Nat.le_of_ble_eq_true rfl)) dX10_close_2 ⟨Nat.le_of_ble_eq_true rfl, Nat.le_of_ble_eq_true rfl⟩) hS (fun q _ h => hFc_1 q h) hFc_1 (fun r_1 u_1 t_1 H_1 locs_1 ht_1 hvm_1 hw_1 hB_1 hz_1 hk_1 hS_1 => ?_)
  subst hw_1
  obtain ⟨w_1, hP1_1, hD1_1⟩ := hB_1
  rw [ht_1] at hP1_1
  obtain ⟨hP_1, hD_1⟩ := va_join (wr := [(h1, .inl (k0, 256, .inl v_end))]) (w1 := [(h0, .inr (13, oX10 v_there v_count v_captures v_ranges (.ref h2) (.ref h3) (.ref h1) (.ref h4) (.ref h5) (.ref h6) (.ref h7) (.ref h8) (.ref h9) (.ref h10) (.ref h11) (.ref h12) (.ref h13) (.ref h14) (.ref h15) (.ref h16)))]) hP hD [0] [1] rfl rfl (by decide) (by decide) hk_1 hFc_1 hP1_1 hD1_1
  have hP_1 := vaPq hP_1 (wsq := [(h0, .inr (13, oX10 v_there v_count v_captures v_ranges (.ref h2) (.ref h3) (.ref h1) (.ref h4) (.ref h5) (.ref h6) (.ref h7) (.ref h8) (.ref h9) (.ref h10) (.ref h11) (.ref h12) (.ref h13) (.ref h14) (.ref h15) (.ref h16))), (h1, .inl (k0, 256, .inl v_end))]) [1, 0] rfl
  have hD_1 := vaDq hD_1 (wsq := [(h0, .inr (13, oX10 v_there v_count v_captures v_ranges (.ref h2) (.ref h3) (.ref h1) (.ref h4) (.ref h5) (.ref h6) (.ref h7) (.ref h8) (.ref h9) (.ref h10) (.ref h11) (.ref h12) (.ref h13) (.ref h14) (.ref h15) (.ref h16))), (h1, .inl (k0, 256, .inl v_end))]) [1, 0] (by decide) rfl
  clear hPc_1 hDc_1 hKc_1 hFc_1 hP1_1 hD1_1 hk_1 hz_1
  have k_18 : ∀ (v_end_18 : Nat → Int32), ∀ (H_b18 : Heap) (locs_b18 : List Loc) (ls_b18 : Array Slot), w_X10_close_18 Q v_end_18 → va_P (dC, dI) vwCl [(h0, .inr (13, oX10 v_there v_count v_captures v_ranges (.ref h2) (.ref h3) (.ref h1) (.ref h4) (.ref h5) (.ref h6) (.ref h7) (.ref h8) (.ref h9) (.ref h10) (.ref h11) (.ref h12) (.ref h13) (.ref h14) (.ref h15) (.ref h16))), (h1, .inl (k0, 256, .inl v_end_18))] H_b18 → va_D A [(h0, .inr (13, oX10 v_there v_count v_captures v_ranges (.ref h2) (.ref h3) (.ref h1) (.ref h4) (.ref h5) (.ref h6) (.ref h7) (.ref h8) (.ref h9) (.ref h10) (.ref h11) (.ref h12) (.ref h13) (.ref h14) (.ref h15) (.ref h16))), (h1, .inl (k0, 256, .inl v_end_18))] → va_S A s.heap H_b18 locs_b18 → lv_has ls_b18 2 [] → W p l e ({ frames := 1, cells := 0, slots := 0, locals := 21 } : Room) s m ([.ref h0, .int p1]).toArray below meth c H_b18 locs_b18 0 0 QQ (F0 m 18 ls_b18 []) := by
    intro v_end_18 H_b18 locs_b18 ls_b18 w_b18 hP_b18 hD_b18 hS_b18 hl_b18
    unfold w_X10_close_18 at w_b18
    rw [hQQ]
    exact W.vret hx hb hr (fun t9 ht9 hW9 => ⟨⟨0, rfl, rfl, ⟨v_end_18, w_b18, by rw [ht9]; exact hP_b18, hD_b18⟩⟩, hS_b18.F ht9⟩) hS_b18.2.2 dX10_close_18
  refine lv_if_eq (tgt := 18) hx hb dX10_close_5 (by decide) (fun c_2 => ?_) (fun c_2 => ?_)
  · exact k_18 v_end _ _ _ (w_1.1 c_2) hP_1 hD_1 hS_1 (lv_sub hl [] rfl)
  · refine lv_aload_n hx hb dX10_close_8 rfl (lv_at hl 0 rfl) ?_
    refine va_get (D := (dC, dI)) (ci := 13) (v := .ref h1) (C := RX10) (T := TX10) (N := 20) hx hb ht inX10 hown hK hP_1 0 rfl rfl 6 (by decide) (ht _ tw_329) (fun _ h9 => h9) rfl dX10_close_9 ?_
    refine lv_iload_n hx hb dX10_close_12 rfl (lv_at hl 1 rfl) ?_
    refine lv_aload_n hx hb dX10_close_13 rfl (lv_at hl 0 rfl) ?_
    refine va_get (D := (dC, dI)) (ci := 13) (v := .int v_count) (C := RX10) (T := TX10) (N := 20) hx hb ht inX10 hown hK hP_1 0 rfl rfl 1 (by decide) (ht _ tw_319) (fun _ h9 => h9) rfl dX10_close_14 ?_
    refine va_iast hx hb hK hP_1 hD_1 hS_1 1 0 rfl rfl (i := p1) (w_1.2 c_2).1 dX10_close_17 (fun H_3 locs_3 hP_3 hD_3 hS_3 => ?_)
    obtain ⟨g_3, hg_3⟩ : ∃ g : Nat → Int32, g = upd v_end p1.toNatClampNeg v_count := ⟨_, rfl⟩
    have hP_3 : va_P (dC, dI) vwCl [(h0, .inr (13, oX10 v_there v_count v_captures v_ranges (.ref h2) (.ref h3) (.ref h1) (.ref h4) (.ref h5) (.ref h6) (.ref h7) (.ref h8) (.ref h9) (.ref h10) (.ref h11) (.ref h12) (.ref h13) (.ref h14) (.ref h15) (.ref h16))), (h1, .inl (k0, 256, .inl g_3))] H_3 := by rw [hg_3]; exact hP_3
    have hD_3 : va_D A [(h0, .inr (13, oX10 v_there v_count v_captures v_ranges (.ref h2) (.ref h3) (.ref h1) (.ref h4) (.ref h5) (.ref h6) (.ref h7) (.ref h8) (.ref h9) (.ref h10) (.ref h11) (.ref h12) (.ref h13) (.ref h14) (.ref h15) (.ref h16))), (h1, .inl (k0, 256, .inl g_3))] := by rw [hg_3]; exact hD_3
    exact k_18 g_3 _ _ _ (((w_1.2 c_2).2) g_3 hg_3) hP_3 hD_3 hS_3 (lv_sub hl [] rfl)
def w_X10_reset (Q : Bool → Int32 → Int32 → Int32 → Prop) : Prop :=
  Q  false 0 0 0
set_option maxHeartbeats 4000000 in
set_option maxRecDepth 100000 in
theorem mt_X10_reset (l : Launch) (dC : Nat → ClassId) (dI : Nat → Nat → Nat) (h0 h1 h2 h3 h4 h5 h6 h7 h8 h9 h10 h11 h12 h13 h14 h15 h16 : Nat) (v_there : Bool) (v_count : Int32) (v_captures : Int32) (v_ranges : Int32) (Q : Bool → Int32 → Int32 → Int32 → Prop) (w : w_X10_reset  Q) (sz : Nat) : Met l yX10_reset (WS yX10_reset cX10_reset 1 none) ({ frames := 0, cells := 0, slots := 0, locals := 0 } : Room) (va_Pc [.ref h0] (fun U => U.heap.size = sz ∧ va_P (dC, dI) vwCl [(h0, .inr (13, oX10 v_there v_count v_captures v_ranges (.ref h1) (.ref h2) (.ref h3) (.ref h4) (.ref h5) (.ref h6) (.ref h7) (.ref h8) (.ref h9) (.ref h10) (.ref h11) (.ref h12) (.ref h13) (.ref h14) (.ref h15) (.ref h16)))] U.heap ∧ va_K (dC, dI) vwCl [] U ∧ va_D (fun _ => True) [(h0, .inr (13, oX10 v_there v_count v_captures v_ranges (.ref h1) (.ref h2) (.ref h3) (.ref h4) (.ref h5) (.ref h6) (.ref h7) (.ref h8) (.ref h9) (.ref h10) (.ref h11) (.ref h12) (.ref h13) (.ref h14) (.ref h15) (.ref h16)))])) (va_Qv (fun (u : Nat) => u = 0) (fun (_ : Nat) (t : State) => ∃ (ov_there : Bool), ∃ (ov_count : Int32), ∃ (ov_captures : Int32), ∃ (ov_ranges : Int32), (Q ov_there ov_count ov_captures ov_ranges) ∧ va_P (dC, dI) vwCl [(h0, .inr (13, oX10 ov_there ov_count ov_captures ov_ranges (.ref h1) (.ref h2) (.ref h3) (.ref h4) (.ref h5) (.ref h6) (.ref h7) (.ref h8) (.ref h9) (.ref h10) (.ref h11) (.ref h12) (.ref h13) (.ref h14) (.ref h15) (.ref h16)))] t.heap ∧ va_D (va_A [(h0, .inr (13, oX10 v_there v_count v_captures v_ranges (.ref h1) (.ref h2) (.ref h3) (.ref h4) (.ref h5) (.ref h6) (.ref h7) (.ref h8) (.ref h9) (.ref h10) (.ref h11) (.ref h12) (.ref h13) (.ref h14) (.ref h15) (.ref h16)))] sz) [(h0, .inr (13, oX10 ov_there ov_count ov_captures ov_ranges (.ref h1) (.ref h2) (.ref h3) (.ref h4) (.ref h5) (.ref h6) (.ref h7) (.ref h8) (.ref h9) (.ref h10) (.ref h11) (.ref h12) (.ref h13) (.ref h14) (.ref h15) (.ref h16)))]) (va_A [(h0, .inr (13, oX10 v_there v_count v_captures v_ranges (.ref h1) (.ref h2) (.ref h3) (.ref h4) (.ref h5) (.ref h6) (.ref h7) (.ref h8) (.ref h9) (.ref h10) (.ref h11) (.ref h12) (.ref h13) (.ref h14) (.ref h15) (.ref h16)))] sz)) 0 0 (va_A [(h0, .inr (13, oX10 v_there v_count v_captures v_ranges (.ref h1) (.ref h2) (.ref h3) (.ref h4) (.ref h5) (.ref h6) (.ref h7) (.ref h8) (.ref h9) (.ref h10) (.ref h11) (.ref h12) (.ref h13) (.ref h14) (.ref h15) (.ref h16)))] sz) := by
  refine Met.ofW (cc := cX10_reset) (maxL := 1) (ret := none) (by decide) rfl ?_
  intro p e s m args below meth c s₁ B hml hv
  obtain ⟨rfl, hsz, hP, hK, hD0⟩ := hv
  have hx := B.exec
  have hb := B.bytes
  have hr := B.returns
  have hts := atoms_spec (ws := WS yX10_reset cX10_reset 1 none) B.pre
  have ht : ∀ w ∈ TW, w.before _ s = true := fun w h => hts w (List.mem_cons_of_mem _ h)
  have hown : s.vm.findClass "PatternWorkshop$Tree" = some m.cls := findClass_of_methodNamed B.named
  have hlocks := B.notSynchronized
  subst hsz
  have hD := hD0.self (sz := s.heap.size)
  generalize hAe : va_A [(h0, .inr (13, oX10 v_there v_count v_captures v_ranges (.ref h1) (.ref h2) (.ref h3) (.ref h4) (.ref h5) (.ref h6) (.ref h7) (.ref h8) (.ref h9) (.ref h10) (.ref h11) (.ref h12) (.ref h13) (.ref h14) (.ref h15) (.ref h16)))] s.heap.size = A at hD ⊢
  have hA : ∀ q : Nat, s.heap.size ≤ q → A q := fun q h => by rw [← hAe]; exact Or.inr h
  have hS : va_S A s.heap s.heap [] := va_S.rf
  have hP : va_P (dC, dI) vwCl [(h0, .inr (13, oX10 v_there v_count v_captures v_ranges (.ref h1) (.ref h2) (.ref h3) (.ref h4) (.ref h5) (.ref h6) (.ref h7) (.ref h8) (.ref h9) (.ref h10) (.ref h11) (.ref h12) (.ref h13) (.ref h14) (.ref h15) (.ref h16)))] s.heap := hP
  have hl := lv_entry ([.ref h0]) (n := 1) (Nat.le_of_ble_eq_true rfl)
  rw [lg_entry_eq]
  generalize (lg_sl ([.ref h0]) ++ List.replicate (1 - (lg_sl ([.ref h0])).length) Slot.unset).toArray = ls at hl ⊢
  have hl : lv_has ls 1 [(0, .ref h0)] := hl
  clear hD0
  obtain ⟨QQ, hQQ⟩ : ∃ QQ, QQ = MQ below (va_Qv (fun (u : Nat) => u = 0) (fun (_ : Nat) (t : State) => ∃ (ov_there : Bool), ∃ (ov_count : Int32), ∃ (ov_captures : Int32), ∃ (ov_ranges : Int32), (Q ov_there ov_count ov_captures ov_ranges) ∧ va_P (dC, dI) vwCl [(h0, .inr (13, oX10 ov_there ov_count ov_captures ov_ranges (.ref h1) (.ref h2) (.ref h3) (.ref h4) (.ref h5) (.ref h6) (.ref h7) (.ref h8) (.ref h9) (.ref h10) (.ref h11) (.ref h12) (.ref h13) (.ref h14) (.ref h15) (.ref h16)))] t.heap ∧ va_D A [(h0, .inr (13, oX10 ov_there ov_count ov_captures ov_ranges (.ref h1) (.ref h2) (.ref h3) (.ref h4) (.ref h5) (.ref h6) (.ref h7) (.ref h8) (.ref h9) (.ref h10) (.ref h11) (.ref h12) (.ref h13) (.ref h14) (.ref h15) (.ref h16)))]) A) ([.ref h0]).toArray s 0 0 A := ⟨_, rfl⟩
  show W p l e ({ frames := 0, cells := 0, slots := 0, locals := 0 } : Room) s m ([.ref h0]).toArray below meth c s.heap [] 0 0 (MQ below (va_Qv (fun (u : Nat) => u = 0) (fun (_ : Nat) (t : State) => ∃ (ov_there : Bool), ∃ (ov_count : Int32), ∃ (ov_captures : Int32), ∃ (ov_ranges : Int32), (Q ov_there ov_count ov_captures ov_ranges) ∧ va_P (dC, dI) vwCl [(h0, .inr (13, oX10 ov_there ov_count ov_captures ov_ranges (.ref h1) (.ref h2) (.ref h3) (.ref h4) (.ref h5) (.ref h6) (.ref h7) (.ref h8) (.ref h9) (.ref h10) (.ref h11) (.ref h12) (.ref h13) (.ref h14) (.ref h15) (.ref h16)))] t.heap ∧ va_D A [(h0, .inr (13, oX10 ov_there ov_count ov_captures ov_ranges (.ref h1) (.ref h2) (.ref h3) (.ref h4) (.ref h5) (.ref h6) (.ref h7) (.ref h8) (.ref h9) (.ref h10) (.ref h11) (.ref h12) (.ref h13) (.ref h14) (.ref h15) (.ref h16)))]) A) ([.ref h0]).toArray s 0 0 A) (F0 m 0 ls [])
  rw [← hQQ]
  unfold w_X10_reset at w
  refine lv_aload_n hx hb dX10_reset_0 rfl (lv_at hl 0 rfl) ?_
  refine lv_iconst (v := 0) hx hb dX10_reset_1 (by decide) ?_
  refine va_put (D := (dC, dI)) (ci := 13) (v := .int 0) (ty := .boolean) (C := RX10) (T := TX10) (N := 20) hx hb ht inX10 tyX10 tyX10_ok nmX10 hown hK hP hD hS 0 rfl rfl 0 (by decide) (ht _ tw_317) (fun _ h9 => h9) rfl (by decide +kernel) rfl rfl (Nat.le_of_ble_eq_true rfl) dX10_reset_2 (fun H_1 locs_1 hP_1 hD_1 hS_1 => ?_)
  have hP_1 : va_P (dC, dI) vwCl [(h0, .inr (13, oX10 false v_count v_captures v_ranges (.ref h1) (.ref h2) (.ref h3) (.ref h4) (.ref h5) (.ref h6) (.ref h7) (.ref h8) (.ref h9) (.ref h10) (.ref h11) (.ref h12) (.ref h13) (.ref h14) (.ref h15) (.ref h16)))] H_1 := hP_1
  have hD_1 : va_D A [(h0, .inr (13, oX10 false v_count v_captures v_ranges (.ref h1) (.ref h2) (.ref h3) (.ref h4) (.ref h5) (.ref h6) (.ref h7) (.ref h8) (.ref h9) (.ref h10) (.ref h11) (.ref h12) (.ref h13) (.ref h14) (.ref h15) (.ref h16)))] := hD_1
  refine lv_aload_n hx hb dX10_reset_5 rfl (lv_at hl 0 rfl) ?_
  refine lv_iconst (v := 0) hx hb dX10_reset_6 (by decide) ?_
  refine va_put (D := (dC, dI)) (ci := 13) (v := .int 0) (ty := .int) (C := RX10) (T := TX10) (N := 20) hx hb ht inX10 tyX10 tyX10_ok nmX10 hown hK hP_1 hD_1 hS_1 0 rfl rfl 1 (by decide) (ht _ tw_319) (fun _ h9 => h9) rfl (by decide +kernel) rfl rfl (Nat.le_of_ble_eq_true rfl) dX10_reset_7 (fun H_2 locs_2 hP_2 hD_2 hS_2 => ?_)
  have hP_2 : va_P (dC, dI) vwCl [(h0, .inr (13, oX10 false 0 v_captures v_ranges (.ref h1) (.ref h2) (.ref h3) (.ref h4) (.ref h5) (.ref h6) (.ref h7) (.ref h8) (.ref h9) (.ref h10) (.ref h11) (.ref h12) (.ref h13) (.ref h14) (.ref h15) (.ref h16)))] H_2 := hP_2
  have hD_2 : va_D A [(h0, .inr (13, oX10 false 0 v_captures v_ranges (.ref h1) (.ref h2) (.ref h3) (.ref h4) (.ref h5) (.ref h6) (.ref h7) (.ref h8) (.ref h9) (.ref h10) (.ref h11) (.ref h12) (.ref h13) (.ref h14) (.ref h15) (.ref h16)))] := hD_2
  refine lv_aload_n hx hb dX10_reset_10 rfl (lv_at hl 0 rfl) ?_
  refine lv_iconst (v := 0) hx hb dX10_reset_11 (by decide) ?_
  refine va_put (D := (dC, dI)) (ci := 13) (v := .int 0) (ty := .int) (C := RX10) (T := TX10) (N := 20) hx hb ht inX10 tyX10 tyX10_ok nmX10 hown hK hP_2 hD_2 hS_2 0 rfl rfl 2 (by decide) (ht _ tw_321) (fun _ h9 => h9) rfl (by decide +kernel) rfl rfl (Nat.le_of_ble_eq_true rfl) dX10_reset_12 (fun H_3 locs_3 hP_3 hD_3 hS_3 => ?_)
  have hP_3 : va_P (dC, dI) vwCl [(h0, .inr (13, oX10 false 0 0 v_ranges (.ref h1) (.ref h2) (.ref h3) (.ref h4) (.ref h5) (.ref h6) (.ref h7) (.ref h8) (.ref h9) (.ref h10) (.ref h11) (.ref h12) (.ref h13) (.ref h14) (.ref h15) (.ref h16)))] H_3 := hP_3
  have hD_3 : va_D A [(h0, .inr (13, oX10 false 0 0 v_ranges (.ref h1) (.ref h2) (.ref h3) (.ref h4) (.ref h5) (.ref h6) (.ref h7) (.ref h8) (.ref h9) (.ref h10) (.ref h11) (.ref h12) (.ref h13) (.ref h14) (.ref h15) (.ref h16)))] := hD_3
  refine lv_aload_n hx hb dX10_reset_15 rfl (lv_at hl 0 rfl) ?_
  refine lv_iconst (v := 0) hx hb dX10_reset_16 (by decide) ?_
  refine va_put (D := (dC, dI)) (ci := 13) (v := .int 0) (ty := .int) (C := RX10) (T := TX10) (N := 20) hx hb ht inX10 tyX10 tyX10_ok nmX10 hown hK hP_3 hD_3 hS_3 0 rfl rfl 3 (by decide) (ht _ tw_326) (fun _ h9 => h9) rfl (by decide +kernel) rfl rfl (Nat.le_of_ble_eq_true rfl) dX10_reset_17 (fun H_4 locs_4 hP_4 hD_4 hS_4 => ?_)
  have hP_4 : va_P (dC, dI) vwCl [(h0, .inr (13, oX10 false 0 0 0 (.ref h1) (.ref h2) (.ref h3) (.ref h4) (.ref h5) (.ref h6) (.ref h7) (.ref h8) (.ref h9) (.ref h10) (.ref h11) (.ref h12) (.ref h13) (.ref h14) (.ref h15) (.ref h16)))] H_4 := hP_4
  have hD_4 : va_D A [(h0, .inr (13, oX10 false 0 0 0 (.ref h1) (.ref h2) (.ref h3) (.ref h4) (.ref h5) (.ref h6) (.ref h7) (.ref h8) (.ref h9) (.ref h10) (.ref h11) (.ref h12) (.ref h13) (.ref h14) (.ref h15) (.ref h16)))] := hD_4
  rw [hQQ]
  exact W.vret hx hb hr (fun t9 ht9 hW9 => ⟨⟨0, rfl, rfl, ⟨false, 0, 0, 0, w, by rw [ht9]; exact hP_4, hD_4⟩⟩, hS_4.F ht9⟩) hS_4.2.2 dX10_reset_20
def w_X10_holderOf_22 (Q : Int32 → Prop) (s0_22 : Int32) : Prop :=
  Q s0_22
def w_X10_holderOf_21 (Q : Int32 → Prop) : Prop :=
  w_X10_holderOf_22 Q (-1)
def w_X10_holderOf (p1 : Int32) (v_count : Int32) (v_holder : Nat → Int32) (Q : Int32 → Prop) : Prop :=
  ((p1 < 0) → w_X10_holderOf_21 Q) ∧ ((¬ p1 < 0) → ((v_count ≤ p1) → w_X10_holderOf_21 Q) ∧ ((¬ v_count ≤ p1) → vp_in p1 256 ∧ ∀ x_3 : Int32, x_3 = v_holder p1.toNatClampNeg → w_X10_holderOf_22 Q x_3))
set_option maxHeartbeats 4000000 in
set_option maxRecDepth 100000 in
theorem mt_X10_holderOf (l : Launch) (dC : Nat → ClassId) (dI : Nat → Nat → Nat) (h0 h1 h2 h3 h4 h5 h6 h7 h8 h9 h10 h11 h12 h13 h14 h15 h16 : Nat) (k0 : ClassId) (p1 : Int32) (v_there : Bool) (v_count : Int32) (v_captures : Int32) (v_ranges : Int32) (v_holder : Nat → Int32) (Q : Int32 → Prop) (w : w_X10_holderOf p1 v_count v_holder Q) (sz : Nat) : Met l yX10_holderOf (WS yX10_holderOf cX10_holderOf 2 (some (.int))) ({ frames := 0, cells := 0, slots := 0, locals := 0 } : Room) (va_Pc [.ref h0, .int p1] (fun U => U.heap.size = sz ∧ va_P (dC, dI) vwCl [(h0, .inr (13, oX10 v_there v_count v_captures v_ranges (.ref h2) (.ref h1) (.ref h3) (.ref h4) (.ref h5) (.ref h6) (.ref h7) (.ref h8) (.ref h9) (.ref h10) (.ref h11) (.ref h12) (.ref h13) (.ref h14) (.ref h15) (.ref h16))), (h1, .inl (k0, 256, .inl v_holder))] U.heap ∧ va_K (dC, dI) vwCl [(k0, .int)] U ∧ va_D (fun _ => True) [(h0, .inr (13, oX10 v_there v_count v_captures v_ranges (.ref h2) (.ref h1) (.ref h3) (.ref h4) (.ref h5) (.ref h6) (.ref h7) (.ref h8) (.ref h9) (.ref h10) (.ref h11) (.ref h12) (.ref h13) (.ref h14) (.ref h15) (.ref h16))), (h1, .inl (k0, 256, .inl v_holder))])) (va_Qi (fun (r u : Int32) => r = u) (fun (u : Int32) (t : State) => (Q u) ∧ va_P (dC, dI) vwCl [(h0, .inr (13, oX10 v_there v_count v_captures v_ranges (.ref h2) (.ref h1) (.ref h3) (.ref h4) (.ref h5) (.ref h6) (.ref h7) (.ref h8) (.ref h9) (.ref h10) (.ref h11) (.ref h12) (.ref h13) (.ref h14) (.ref h15) (.ref h16))), (h1, .inl (k0, 256, .inl v_holder))] t.heap ∧ va_D (va_A [(h0, .inr (13, oX10 v_there v_count v_captures v_ranges (.ref h2) (.ref h1) (.ref h3) (.ref h4) (.ref h5) (.ref h6) (.ref h7) (.ref h8) (.ref h9) (.ref h10) (.ref h11) (.ref h12) (.ref h13) (.ref h14) (.ref h15) (.ref h16))), (h1, .inl (k0, 256, .inl v_holder))] sz) [(h0, .inr (13, oX10 v_there v_count v_captures v_ranges (.ref h2) (.ref h1) (.ref h3) (.ref h4) (.ref h5) (.ref h6) (.ref h7) (.ref h8) (.ref h9) (.ref h10) (.ref h11) (.ref h12) (.ref h13) (.ref h14) (.ref h15) (.ref h16))), (h1, .inl (k0, 256, .inl v_holder))]) (va_A [(h0, .inr (13, oX10 v_there v_count v_captures v_ranges (.ref h2) (.ref h1) (.ref h3) (.ref h4) (.ref h5) (.ref h6) (.ref h7) (.ref h8) (.ref h9) (.ref h10) (.ref h11) (.ref h12) (.ref h13) (.ref h14) (.ref h15) (.ref h16))), (h1, .inl (k0, 256, .inl v_holder))] sz)) 0 0 (va_A [(h0, .inr (13, oX10 v_there v_count v_captures v_ranges (.ref h2) (.ref h1) (.ref h3) (.ref h4) (.ref h5) (.ref h6) (.ref h7) (.ref h8) (.ref h9) (.ref h10) (.ref h11) (.ref h12) (.ref h13) (.ref h14) (.ref h15) (.ref h16))), (h1, .inl (k0, 256, .inl v_holder))] sz) := by
  refine Met.ofW (cc := cX10_holderOf) (maxL := 2) (ret := (some (.int))) (by decide) rfl ?_
  intro p e s m args below meth c s₁ B hml hv
  obtain ⟨rfl, hsz, hP, hK, hD0⟩ := hv
  have hx := B.exec
  have hb := B.bytes
  have hr := B.returns
  have hts := atoms_spec (ws := WS yX10_holderOf cX10_holderOf 2 (some (.int))) B.pre
  have ht : ∀ w ∈ TW, w.before _ s = true := fun w h => hts w (List.mem_cons_of_mem _ h)
  have hown : s.vm.findClass "PatternWorkshop$Tree" = some m.cls := findClass_of_methodNamed B.named
  have hlocks := B.notSynchronized
  subst hsz
  have hD := hD0.self (sz := s.heap.size)
  generalize hAe : va_A [(h0, .inr (13, oX10 v_there v_count v_captures v_ranges (.ref h2) (.ref h1) (.ref h3) (.ref h4) (.ref h5) (.ref h6) (.ref h7) (.ref h8) (.ref h9) (.ref h10) (.ref h11) (.ref h12) (.ref h13) (.ref h14) (.ref h15) (.ref h16))), (h1, .inl (k0, 256, .inl v_holder))] s.heap.size = A at hD ⊢
  have hA : ∀ q : Nat, s.heap.size ≤ q → A q := fun q h => by rw [← hAe]; exact Or.inr h
  have hS : va_S A s.heap s.heap [] := va_S.rf
  have hP : va_P (dC, dI) vwCl [(h0, .inr (13, oX10 v_there v_count v_captures v_ranges (.ref h2) (.ref h1) (.ref h3) (.ref h4) (.ref h5) (.ref h6) (.ref h7) (.ref h8) (.ref h9) (.ref h10) (.ref h11) (.ref h12) (.ref h13) (.ref h14) (.ref h15) (.ref h16))), (h1, .inl (k0, 256, .inl v_holder))] s.heap := hP
  have hl := lv_entry ([.ref h0, .int p1]) (n := 2) (Nat.le_of_ble_eq_true rfl)
  rw [lg_entry_eq]
  generalize (lg_sl ([.ref h0, .int p1]) ++ List.replicate (2 - (lg_sl ([.ref h0, .int p1])).length) Slot.unset).toArray = ls at hl ⊢
  have hl : lv_has ls 2 [(0, .ref h0), (1, .int p1)] := hl
  clear hD0
  obtain ⟨QQ, hQQ⟩ : ∃ QQ, QQ = MQ below (va_Qi (fun (r u : Int32) => r = u) (fun (u : Int32) (t : State) => (Q u) ∧ va_P (dC, dI) vwCl [(h0, .inr (13, oX10 v_there v_count v_captures v_ranges (.ref h2) (.ref h1) (.ref h3) (.ref h4) (.ref h5) (.ref h6) (.ref h7) (.ref h8) (.ref h9) (.ref h10) (.ref h11) (.ref h12) (.ref h13) (.ref h14) (.ref h15) (.ref h16))), (h1, .inl (k0, 256, .inl v_holder))] t.heap ∧ va_D A [(h0, .inr (13, oX10 v_there v_count v_captures v_ranges (.ref h2) (.ref h1) (.ref h3) (.ref h4) (.ref h5) (.ref h6) (.ref h7) (.ref h8) (.ref h9) (.ref h10) (.ref h11) (.ref h12) (.ref h13) (.ref h14) (.ref h15) (.ref h16))), (h1, .inl (k0, 256, .inl v_holder))]) A) ([.ref h0, .int p1]).toArray s 0 0 A := ⟨_, rfl⟩
  show W p l e ({ frames := 0, cells := 0, slots := 0, locals := 0 } : Room) s m ([.ref h0, .int p1]).toArray below meth c s.heap [] 0 0 (MQ below (va_Qi (fun (r u : Int32) => r = u) (fun (u : Int32) (t : State) => (Q u) ∧ va_P (dC, dI) vwCl [(h0, .inr (13, oX10 v_there v_count v_captures v_ranges (.ref h2) (.ref h1) (.ref h3) (.ref h4) (.ref h5) (.ref h6) (.ref h7) (.ref h8) (.ref h9) (.ref h10) (.ref h11) (.ref h12) (.ref h13) (.ref h14) (.ref h15) (.ref h16))), (h1, .inl (k0, 256, .inl v_holder))] t.heap ∧ va_D A [(h0, .inr (13, oX10 v_there v_count v_captures v_ranges (.ref h2) (.ref h1) (.ref h3) (.ref h4) (.ref h5) (.ref h6) (.ref h7) (.ref h8) (.ref h9) (.ref h10) (.ref h11) (.ref h12) (.ref h13) (.ref h14) (.ref h15) (.ref h16))), (h1, .inl (k0, 256, .inl v_holder))]) A) ([.ref h0, .int p1]).toArray s 0 0 A) (F0 m 0 ls [])
  rw [← hQQ]
  unfold w_X10_holderOf at w
  refine lv_iload_n hx hb dX10_holderOf_0 rfl (lv_at hl 1 rfl) ?_
  have k_22 : ∀ (s0_22 : Int32), ∀ (H_b22 : Heap) (locs_b22 : List Loc) (ls_b22 : Array Slot), w_X10_holderOf_22 Q s0_22 → va_P (dC, dI) vwCl [(h0, .inr (13, oX10 v_there v_count v_captures v_ranges (.ref h2) (.ref h1) (.ref h3) (.ref h4) (.ref h5) (.ref h6) (.ref h7) (.ref h8) (.ref h9) (.ref h10) (.ref h11) (.ref h12) (.ref h13) (.ref h14) (.ref h15) (.ref h16))), (h1, .inl (k0, 256, .inl v_holder))] H_b22 → va_D A [(h0, .inr (13, oX10 v_there v_count v_captures v_ranges (.ref h2) (.ref h1) (.ref h3) (.ref h4) (.ref h5) (.ref h6) (.ref h7) (.ref h8) (.ref h9) (.ref h10) (.ref h11) (.ref h12) (.ref h13) (.ref h14) (.ref h15) (.ref h16))), (h1, .inl (k0, 256, .inl v_holder))] → va_S A s.heap H_b22 locs_b22 → lv_has ls_b22 2 [] → W p l e ({ frames := 0, cells := 0, slots := 0, locals := 0 } : Room) s m ([.ref h0, .int p1]).toArray below meth c H_b22 locs_b22 0 0 QQ (F0 m 22 ls_b22 [.int s0_22]) := by
    intro s0_22 H_b22 locs_b22 ls_b22 w_b22 hP_b22 hD_b22 hS_b22 hl_b22
    unfold w_X10_holderOf_22 at w_b22
    rw [hQQ]
    exact W.iret (v := s0_22) hx hb hr (fun t9 ht9 hW9 => ⟨⟨s0_22, s0_22, rfl, rfl, ⟨w_b22, by rw [ht9]; exact hP_b22, hD_b22⟩⟩, hS_b22.F ht9⟩) hS_b22.2.2 dX10_holderOf_22
  have k_21 : ∀ (H_b21 : Heap) (locs_b21 : List Loc) (ls_b21 : Array Slot), w_X10_holderOf_21 Q → va_P (dC, dI) vwCl [(h0, .inr (13, oX10 v_there v_count v_captures v_ranges (.ref h2) (.ref h1) (.ref h3) (.ref h4) (.ref h5) (.ref h6) (.ref h7) (.ref h8) (.ref h9) (.ref h10) (.ref h11) (.ref h12) (.ref h13) (.ref h14) (.ref h15) (.ref h16))), (h1, .inl (k0, 256, .inl v_holder))] H_b21 → va_D A [(h0, .inr (13, oX10 v_there v_count v_captures v_ranges (.ref h2) (.ref h1) (.ref h3) (.ref h4) (.ref h5) (.ref h6) (.ref h7) (.ref h8) (.ref h9) (.ref h10) (.ref h11) (.ref h12) (.ref h13) (.ref h14) (.ref h15) (.ref h16))), (h1, .inl (k0, 256, .inl v_holder))] → va_S A s.heap H_b21 locs_b21 → lv_has ls_b21 2 [] → W p l e ({ frames := 0, cells := 0, slots := 0, locals := 0 } : Room) s m ([.ref h0, .int p1]).toArray below meth c H_b21 locs_b21 0 0 QQ (F0 m 21 ls_b21 []) := by
    intro  H_b21 locs_b21 ls_b21 w_b21 hP_b21 hD_b21 hS_b21 hl_b21
    unfold w_X10_holderOf_21 at w_b21
    refine lv_iconst (v := (-1)) hx hb dX10_holderOf_21 (by decide) ?_
    exact k_22 (-1) _ _ _ w_b21 hP_b21 hD_b21 hS_b21 (lv_sub hl_b21 [] rfl)
  refine lv_if_lt (tgt := 21) hx hb dX10_holderOf_1 (by decide) (fun c_1 => ?_) (fun c_1 => ?_)
  · exact k_21  _ _ _ (w.1 c_1) hP hD hS (lv_sub hl [] rfl)
  · refine lv_iload_n hx hb dX10_holderOf_4 rfl (lv_at hl 1 rfl) ?_
    refine lv_aload_n hx hb dX10_holderOf_5 rfl (lv_at hl 0 rfl) ?_
    refine va_get (D := (dC, dI)) (ci := 13) (v := .int v_count) (C := RX10) (T := TX10) (N := 20) hx hb ht inX10 hown hK hP 0 rfl rfl 1 (by decide) (ht _ tw_319) (fun _ h9 => h9) rfl dX10_holderOf_6 ?_
    refine lv_icmp_ge (tgt := 21) hx hb dX10_holderOf_9 (by decide) (fun c_2 => ?_) (fun c_2 => ?_)
    · exact k_21  _ _ _ ((w.2 c_1).1 c_2) hP hD hS (lv_sub hl [] rfl)
    · refine lv_aload_n hx hb dX10_holderOf_12 rfl (lv_at hl 0 rfl) ?_
      refine va_get (D := (dC, dI)) (ci := 13) (v := .ref h1) (C := RX10) (T := TX10) (N := 20) hx hb ht inX10 hown hK hP 0 rfl rfl 5 (by decide) (ht _ tw_328) (fun _ h9 => h9) rfl dX10_holderOf_13 ?_
      refine lv_iload_n hx hb dX10_holderOf_16 rfl (lv_at hl 1 rfl) ?_
      refine va_iald hx hb hK hP 1 0 rfl rfl (i := p1) ((w.2 c_1).2 c_2).1 dX10_holderOf_17 ?_
      refine lv_topi (fun x_3 ex_3 => ?_)
      have ex_3 : x_3 = v_holder p1.toNatClampNeg := ex_3
      refine lv_goto (tgt := 22) hx hb dX10_holderOf_18 (by decide) ?_
      exact k_22 x_3 _ _ _ ((((w.2 c_1).2 c_2).2) x_3 ex_3) hP hD hS (lv_sub hl [] rfl)
def w_X10_valueOf_22 (Q : Int32 → Prop) (s0_22 : Int32) : Prop :=
  Q s0_22
def w_X10_valueOf_21 (Q : Int32 → Prop) : Prop :=
  w_X10_valueOf_22 Q 0
def w_X10_valueOf (p1 : Int32) (v_count : Int32) (v_value : Nat → Int32) (Q : Int32 → Prop) : Prop :=
  ((p1 < 0) → w_X10_valueOf_21 Q) ∧ ((¬ p1 < 0) → ((v_count ≤ p1) → w_X10_valueOf_21 Q) ∧ ((¬ v_count ≤ p1) → vp_in p1 256 ∧ ∀ x_3 : Int32, x_3 = v_value p1.toNatClampNeg → w_X10_valueOf_22 Q x_3))
set_option maxHeartbeats 4000000 in
set_option maxRecDepth 100000 in
theorem mt_X10_valueOf (l : Launch) (dC : Nat → ClassId) (dI : Nat → Nat → Nat) (h0 h1 h2 h3 h4 h5 h6 h7 h8 h9 h10 h11 h12 h13 h14 h15 h16 : Nat) (k0 : ClassId) (p1 : Int32) (v_there : Bool) (v_count : Int32) (v_captures : Int32) (v_ranges : Int32) (v_value : Nat → Int32) (Q : Int32 → Prop) (w : w_X10_valueOf p1 v_count v_value Q) (sz : Nat) : Met l yX10_valueOf (WS yX10_valueOf cX10_valueOf 2 (some (.int))) ({ frames := 0, cells := 0, slots := 0, locals := 0 } : Room) (va_Pc [.ref h0, .int p1] (fun U => U.heap.size = sz ∧ va_P (dC, dI) vwCl [(h0, .inr (13, oX10 v_there v_count v_captures v_ranges (.ref h2) (.ref h3) (.ref h4) (.ref h5) (.ref h6) (.ref h7) (.ref h1) (.ref h8) (.ref h9) (.ref h10) (.ref h11) (.ref h12) (.ref h13) (.ref h14) (.ref h15) (.ref h16))), (h1, .inl (k0, 256, .inl v_value))] U.heap ∧ va_K (dC, dI) vwCl [(k0, .int)] U ∧ va_D (fun _ => True) [(h0, .inr (13, oX10 v_there v_count v_captures v_ranges (.ref h2) (.ref h3) (.ref h4) (.ref h5) (.ref h6) (.ref h7) (.ref h1) (.ref h8) (.ref h9) (.ref h10) (.ref h11) (.ref h12) (.ref h13) (.ref h14) (.ref h15) (.ref h16))), (h1, .inl (k0, 256, .inl v_value))])) (va_Qi (fun (r u : Int32) => r = u) (fun (u : Int32) (t : State) => (Q u) ∧ va_P (dC, dI) vwCl [(h0, .inr (13, oX10 v_there v_count v_captures v_ranges (.ref h2) (.ref h3) (.ref h4) (.ref h5) (.ref h6) (.ref h7) (.ref h1) (.ref h8) (.ref h9) (.ref h10) (.ref h11) (.ref h12) (.ref h13) (.ref h14) (.ref h15) (.ref h16))), (h1, .inl (k0, 256, .inl v_value))] t.heap ∧ va_D (va_A [(h0, .inr (13, oX10 v_there v_count v_captures v_ranges (.ref h2) (.ref h3) (.ref h4) (.ref h5) (.ref h6) (.ref h7) (.ref h1) (.ref h8) (.ref h9) (.ref h10) (.ref h11) (.ref h12) (.ref h13) (.ref h14) (.ref h15) (.ref h16))), (h1, .inl (k0, 256, .inl v_value))] sz) [(h0, .inr (13, oX10 v_there v_count v_captures v_ranges (.ref h2) (.ref h3) (.ref h4) (.ref h5) (.ref h6) (.ref h7) (.ref h1) (.ref h8) (.ref h9) (.ref h10) (.ref h11) (.ref h12) (.ref h13) (.ref h14) (.ref h15) (.ref h16))), (h1, .inl (k0, 256, .inl v_value))]) (va_A [(h0, .inr (13, oX10 v_there v_count v_captures v_ranges (.ref h2) (.ref h3) (.ref h4) (.ref h5) (.ref h6) (.ref h7) (.ref h1) (.ref h8) (.ref h9) (.ref h10) (.ref h11) (.ref h12) (.ref h13) (.ref h14) (.ref h15) (.ref h16))), (h1, .inl (k0, 256, .inl v_value))] sz)) 0 0 (va_A [(h0, .inr (13, oX10 v_there v_count v_captures v_ranges (.ref h2) (.ref h3) (.ref h4) (.ref h5) (.ref h6) (.ref h7) (.ref h1) (.ref h8) (.ref h9) (.ref h10) (.ref h11) (.ref h12) (.ref h13) (.ref h14) (.ref h15) (.ref h16))), (h1, .inl (k0, 256, .inl v_value))] sz) := by
  refine Met.ofW (cc := cX10_valueOf) (maxL := 2) (ret := (some (.int))) (by decide) rfl ?_
  intro p e s m args below meth c s₁ B hml hv
  obtain ⟨rfl, hsz, hP, hK, hD0⟩ := hv
  have hx := B.exec
  have hb := B.bytes
  have hr := B.returns
  have hts := atoms_spec (ws := WS yX10_valueOf cX10_valueOf 2 (some (.int))) B.pre
  have ht : ∀ w ∈ TW, w.before _ s = true := fun w h => hts w (List.mem_cons_of_mem _ h)
  have hown : s.vm.findClass "PatternWorkshop$Tree" = some m.cls := findClass_of_methodNamed B.named
  have hlocks := B.notSynchronized
  subst hsz
  have hD := hD0.self (sz := s.heap.size)
  generalize hAe : va_A [(h0, .inr (13, oX10 v_there v_count v_captures v_ranges (.ref h2) (.ref h3) (.ref h4) (.ref h5) (.ref h6) (.ref h7) (.ref h1) (.ref h8) (.ref h9) (.ref h10) (.ref h11) (.ref h12) (.ref h13) (.ref h14) (.ref h15) (.ref h16))), (h1, .inl (k0, 256, .inl v_value))] s.heap.size = A at hD ⊢
  have hA : ∀ q : Nat, s.heap.size ≤ q → A q := fun q h => by rw [← hAe]; exact Or.inr h
  have hS : va_S A s.heap s.heap [] := va_S.rf
  have hP : va_P (dC, dI) vwCl [(h0, .inr (13, oX10 v_there v_count v_captures v_ranges (.ref h2) (.ref h3) (.ref h4) (.ref h5) (.ref h6) (.ref h7) (.ref h1) (.ref h8) (.ref h9) (.ref h10) (.ref h11) (.ref h12) (.ref h13) (.ref h14) (.ref h15) (.ref h16))), (h1, .inl (k0, 256, .inl v_value))] s.heap := hP
  have hl := lv_entry ([.ref h0, .int p1]) (n := 2) (Nat.le_of_ble_eq_true rfl)
  rw [lg_entry_eq]
  generalize (lg_sl ([.ref h0, .int p1]) ++ List.replicate (2 - (lg_sl ([.ref h0, .int p1])).length) Slot.unset).toArray = ls at hl ⊢
  have hl : lv_has ls 2 [(0, .ref h0), (1, .int p1)] := hl
  clear hD0
  obtain ⟨QQ, hQQ⟩ : ∃ QQ, QQ = MQ below (va_Qi (fun (r u : Int32) => r = u) (fun (u : Int32) (t : State) => (Q u) ∧ va_P (dC, dI) vwCl [(h0, .inr (13, oX10 v_there v_count v_captures v_ranges (.ref h2) (.ref h3) (.ref h4) (.ref h5) (.ref h6) (.ref h7) (.ref h1) (.ref h8) (.ref h9) (.ref h10) (.ref h11) (.ref h12) (.ref h13) (.ref h14) (.ref h15) (.ref h16))), (h1, .inl (k0, 256, .inl v_value))] t.heap ∧ va_D A [(h0, .inr (13, oX10 v_there v_count v_captures v_ranges (.ref h2) (.ref h3) (.ref h4) (.ref h5) (.ref h6) (.ref h7) (.ref h1) (.ref h8) (.ref h9) (.ref h10) (.ref h11) (.ref h12) (.ref h13) (.ref h14) (.ref h15) (.ref h16))), (h1, .inl (k0, 256, .inl v_value))]) A) ([.ref h0, .int p1]).toArray s 0 0 A := ⟨_, rfl⟩
  show W p l e ({ frames := 0, cells := 0, slots := 0, locals := 0 } : Room) s m ([.ref h0, .int p1]).toArray below meth c s.heap [] 0 0 (MQ below (va_Qi (fun (r u : Int32) => r = u) (fun (u : Int32) (t : State) => (Q u) ∧ va_P (dC, dI) vwCl [(h0, .inr (13, oX10 v_there v_count v_captures v_ranges (.ref h2) (.ref h3) (.ref h4) (.ref h5) (.ref h6) (.ref h7) (.ref h1) (.ref h8) (.ref h9) (.ref h10) (.ref h11) (.ref h12) (.ref h13) (.ref h14) (.ref h15) (.ref h16))), (h1, .inl (k0, 256, .inl v_value))] t.heap ∧ va_D A [(h0, .inr (13, oX10 v_there v_count v_captures v_ranges (.ref h2) (.ref h3) (.ref h4) (.ref h5) (.ref h6) (.ref h7) (.ref h1) (.ref h8) (.ref h9) (.ref h10) (.ref h11) (.ref h12) (.ref h13) (.ref h14) (.ref h15) (.ref h16))), (h1, .inl (k0, 256, .inl v_value))]) A) ([.ref h0, .int p1]).toArray s 0 0 A) (F0 m 0 ls [])
  rw [← hQQ]
  unfold w_X10_valueOf at w
  refine lv_iload_n hx hb dX10_valueOf_0 rfl (lv_at hl 1 rfl) ?_
  have k_22 : ∀ (s0_22 : Int32), ∀ (H_b22 : Heap) (locs_b22 : List Loc) (ls_b22 : Array Slot), w_X10_valueOf_22 Q s0_22 → va_P (dC, dI) vwCl [(h0, .inr (13, oX10 v_there v_count v_captures v_ranges (.ref h2) (.ref h3) (.ref h4) (.ref h5) (.ref h6) (.ref h7) (.ref h1) (.ref h8) (.ref h9) (.ref h10) (.ref h11) (.ref h12) (.ref h13) (.ref h14) (.ref h15) (.ref h16))), (h1, .inl (k0, 256, .inl v_value))] H_b22 → va_D A [(h0, .inr (13, oX10 v_there v_count v_captures v_ranges (.ref h2) (.ref h3) (.ref h4) (.ref h5) (.ref h6) (.ref h7) (.ref h1) (.ref h8) (.ref h9) (.ref h10) (.ref h11) (.ref h12) (.ref h13) (.ref h14) (.ref h15) (.ref h16))), (h1, .inl (k0, 256, .inl v_value))] → va_S A s.heap H_b22 locs_b22 → lv_has ls_b22 2 [] → W p l e ({ frames := 0, cells := 0, slots := 0, locals := 0 } : Room) s m ([.ref h0, .int p1]).toArray below meth c H_b22 locs_b22 0 0 QQ (F0 m 22 ls_b22 [.int s0_22]) := by
    intro s0_22 H_b22 locs_b22 ls_b22 w_b22 hP_b22 hD_b22 hS_b22 hl_b22
    unfold w_X10_valueOf_22 at w_b22
    rw [hQQ]
    exact W.iret (v := s0_22) hx hb hr (fun t9 ht9 hW9 => ⟨⟨s0_22, s0_22, rfl, rfl, ⟨w_b22, by rw [ht9]; exact hP_b22, hD_b22⟩⟩, hS_b22.F ht9⟩) hS_b22.2.2 dX10_valueOf_22
  have k_21 : ∀ (H_b21 : Heap) (locs_b21 : List Loc) (ls_b21 : Array Slot), w_X10_valueOf_21 Q → va_P (dC, dI) vwCl [(h0, .inr (13, oX10 v_there v_count v_captures v_ranges (.ref h2) (.ref h3) (.ref h4) (.ref h5) (.ref h6) (.ref h7) (.ref h1) (.ref h8) (.ref h9) (.ref h10) (.ref h11) (.ref h12) (.ref h13) (.ref h14) (.ref h15) (.ref h16))), (h1, .inl (k0, 256, .inl v_value))] H_b21 → va_D A [(h0, .inr (13, oX10 v_there v_count v_captures v_ranges (.ref h2) (.ref h3) (.ref h4) (.ref h5) (.ref h6) (.ref h7) (.ref h1) (.ref h8) (.ref h9) (.ref h10) (.ref h11) (.ref h12) (.ref h13) (.ref h14) (.ref h15) (.ref h16))), (h1, .inl (k0, 256, .inl v_value))] → va_S A s.heap H_b21 locs_b21 → lv_has ls_b21 2 [] → W p l e ({ frames := 0, cells := 0, slots := 0, locals := 0 } : Room) s m ([.ref h0, .int p1]).toArray below meth c H_b21 locs_b21 0 0 QQ (F0 m 21 ls_b21 []) := by
    intro  H_b21 locs_b21 ls_b21 w_b21 hP_b21 hD_b21 hS_b21 hl_b21
    unfold w_X10_valueOf_21 at w_b21
    refine lv_iconst (v := 0) hx hb dX10_valueOf_21 (by decide) ?_
    exact k_22 0 _ _ _ w_b21 hP_b21 hD_b21 hS_b21 (lv_sub hl_b21 [] rfl)
  refine lv_if_lt (tgt := 21) hx hb dX10_valueOf_1 (by decide) (fun c_1 => ?_) (fun c_1 => ?_)
  · exact k_21  _ _ _ (w.1 c_1) hP hD hS (lv_sub hl [] rfl)
  · refine lv_iload_n hx hb dX10_valueOf_4 rfl (lv_at hl 1 rfl) ?_
    refine lv_aload_n hx hb dX10_valueOf_5 rfl (lv_at hl 0 rfl) ?_
    refine va_get (D := (dC, dI)) (ci := 13) (v := .int v_count) (C := RX10) (T := TX10) (N := 20) hx hb ht inX10 hown hK hP 0 rfl rfl 1 (by decide) (ht _ tw_319) (fun _ h9 => h9) rfl dX10_valueOf_6 ?_
    refine lv_icmp_ge (tgt := 21) hx hb dX10_valueOf_9 (by decide) (fun c_2 => ?_) (fun c_2 => ?_)
    · exact k_21  _ _ _ ((w.2 c_1).1 c_2) hP hD hS (lv_sub hl [] rfl)
    · refine lv_aload_n hx hb dX10_valueOf_12 rfl (lv_at hl 0 rfl) ?_
      refine va_get (D := (dC, dI)) (ci := 13) (v := .ref h1) (C := RX10) (T := TX10) (N := 20) hx hb ht inX10 hown hK hP 0 rfl rfl 10 (by decide) (ht _ tw_333) (fun _ h9 => h9) rfl dX10_valueOf_13 ?_
      refine lv_iload_n hx hb dX10_valueOf_16 rfl (lv_at hl 1 rfl) ?_
      refine va_iald hx hb hK hP 1 0 rfl rfl (i := p1) ((w.2 c_1).2 c_2).1 dX10_valueOf_17 ?_
      refine lv_topi (fun x_3 ex_3 => ?_)
      have ex_3 : x_3 = v_value p1.toNatClampNeg := ex_3
      refine lv_goto (tgt := 22) hx hb dX10_valueOf_18 (by decide) ?_
      exact k_22 x_3 _ _ _ ((((w.2 c_1).2 c_2).2) x_3 ex_3) hP hD hS (lv_sub hl [] rfl)
def w_X10_lowOf_22 (Q : Int32 → Prop) (s0_22 : Int32) : Prop :=
  Q s0_22
def w_X10_lowOf_21 (Q : Int32 → Prop) : Prop :=
  w_X10_lowOf_22 Q 0
def w_X10_lowOf (p1 : Int32) (v_count : Int32) (v_low : Nat → Int32) (Q : Int32 → Prop) : Prop :=
  ((p1 < 0) → w_X10_lowOf_21 Q) ∧ ((¬ p1 < 0) → ((v_count ≤ p1) → w_X10_lowOf_21 Q) ∧ ((¬ v_count ≤ p1) → vp_in p1 256 ∧ ∀ x_3 : Int32, x_3 = v_low p1.toNatClampNeg → w_X10_lowOf_22 Q x_3))
set_option maxHeartbeats 4000000 in
set_option maxRecDepth 100000 in
theorem mt_X10_lowOf (l : Launch) (dC : Nat → ClassId) (dI : Nat → Nat → Nat) (h0 h1 h2 h3 h4 h5 h6 h7 h8 h9 h10 h11 h12 h13 h14 h15 h16 : Nat) (k0 : ClassId) (p1 : Int32) (v_there : Bool) (v_count : Int32) (v_captures : Int32) (v_ranges : Int32) (v_low : Nat → Int32) (Q : Int32 → Prop) (w : w_X10_lowOf p1 v_count v_low Q) (sz : Nat) : Met l yX10_lowOf (WS yX10_lowOf cX10_lowOf 2 (some (.int))) ({ frames := 0, cells := 0, slots := 0, locals := 0 } : Room) (va_Pc [.ref h0, .int p1] (fun U => U.heap.size = sz ∧ va_P (dC, dI) vwCl [(h0, .inr (13, oX10 v_there v_count v_captures v_ranges (.ref h2) (.ref h3) (.ref h4) (.ref h5) (.ref h6) (.ref h7) (.ref h8) (.ref h1) (.ref h9) (.ref h10) (.ref h11) (.ref h12) (.ref h13) (.ref h14) (.ref h15) (.ref h16))), (h1, .inl (k0, 256, .inl v_low))] U.heap ∧ va_K (dC, dI) vwCl [(k0, .int)] U ∧ va_D (fun _ => True) [(h0, .inr (13, oX10 v_there v_count v_captures v_ranges (.ref h2) (.ref h3) (.ref h4) (.ref h5) (.ref h6) (.ref h7) (.ref h8) (.ref h1) (.ref h9) (.ref h10) (.ref h11) (.ref h12) (.ref h13) (.ref h14) (.ref h15) (.ref h16))), (h1, .inl (k0, 256, .inl v_low))])) (va_Qi (fun (r u : Int32) => r = u) (fun (u : Int32) (t : State) => (Q u) ∧ va_P (dC, dI) vwCl [(h0, .inr (13, oX10 v_there v_count v_captures v_ranges (.ref h2) (.ref h3) (.ref h4) (.ref h5) (.ref h6) (.ref h7) (.ref h8) (.ref h1) (.ref h9) (.ref h10) (.ref h11) (.ref h12) (.ref h13) (.ref h14) (.ref h15) (.ref h16))), (h1, .inl (k0, 256, .inl v_low))] t.heap ∧ va_D (va_A [(h0, .inr (13, oX10 v_there v_count v_captures v_ranges (.ref h2) (.ref h3) (.ref h4) (.ref h5) (.ref h6) (.ref h7) (.ref h8) (.ref h1) (.ref h9) (.ref h10) (.ref h11) (.ref h12) (.ref h13) (.ref h14) (.ref h15) (.ref h16))), (h1, .inl (k0, 256, .inl v_low))] sz) [(h0, .inr (13, oX10 v_there v_count v_captures v_ranges (.ref h2) (.ref h3) (.ref h4) (.ref h5) (.ref h6) (.ref h7) (.ref h8) (.ref h1) (.ref h9) (.ref h10) (.ref h11) (.ref h12) (.ref h13) (.ref h14) (.ref h15) (.ref h16))), (h1, .inl (k0, 256, .inl v_low))]) (va_A [(h0, .inr (13, oX10 v_there v_count v_captures v_ranges (.ref h2) (.ref h3) (.ref h4) (.ref h5) (.ref h6) (.ref h7) (.ref h8) (.ref h1) (.ref h9) (.ref h10) (.ref h11) (.ref h12) (.ref h13) (.ref h14) (.ref h15) (.ref h16))), (h1, .inl (k0, 256, .inl v_low))] sz)) 0 0 (va_A [(h0, .inr (13, oX10 v_there v_count v_captures v_ranges (.ref h2) (.ref h3) (.ref h4) (.ref h5) (.ref h6) (.ref h7) (.ref h8) (.ref h1) (.ref h9) (.ref h10) (.ref h11) (.ref h12) (.ref h13) (.ref h14) (.ref h15) (.ref h16))), (h1, .inl (k0, 256, .inl v_low))] sz) := by
  refine Met.ofW (cc := cX10_lowOf) (maxL := 2) (ret := (some (.int))) (by decide) rfl ?_
  intro p e s m args below meth c s₁ B hml hv
  obtain ⟨rfl, hsz, hP, hK, hD0⟩ := hv
  have hx := B.exec
  have hb := B.bytes
  have hr := B.returns
  have hts := atoms_spec (ws := WS yX10_lowOf cX10_lowOf 2 (some (.int))) B.pre
  have ht : ∀ w ∈ TW, w.before _ s = true := fun w h => hts w (List.mem_cons_of_mem _ h)
  have hown : s.vm.findClass "PatternWorkshop$Tree" = some m.cls := findClass_of_methodNamed B.named
  have hlocks := B.notSynchronized
  subst hsz
  have hD := hD0.self (sz := s.heap.size)
  generalize hAe : va_A [(h0, .inr (13, oX10 v_there v_count v_captures v_ranges (.ref h2) (.ref h3) (.ref h4) (.ref h5) (.ref h6) (.ref h7) (.ref h8) (.ref h1) (.ref h9) (.ref h10) (.ref h11) (.ref h12) (.ref h13) (.ref h14) (.ref h15) (.ref h16))), (h1, .inl (k0, 256, .inl v_low))] s.heap.size = A at hD ⊢
  have hA : ∀ q : Nat, s.heap.size ≤ q → A q := fun q h => by rw [← hAe]; exact Or.inr h
  have hS : va_S A s.heap s.heap [] := va_S.rf
  have hP : va_P (dC, dI) vwCl [(h0, .inr (13, oX10 v_there v_count v_captures v_ranges (.ref h2) (.ref h3) (.ref h4) (.ref h5) (.ref h6) (.ref h7) (.ref h8) (.ref h1) (.ref h9) (.ref h10) (.ref h11) (.ref h12) (.ref h13) (.ref h14) (.ref h15) (.ref h16))), (h1, .inl (k0, 256, .inl v_low))] s.heap := hP
  have hl := lv_entry ([.ref h0, .int p1]) (n := 2) (Nat.le_of_ble_eq_true rfl)
  rw [lg_entry_eq]
  generalize (lg_sl ([.ref h0, .int p1]) ++ List.replicate (2 - (lg_sl ([.ref h0, .int p1])).length) Slot.unset).toArray = ls at hl ⊢
  have hl : lv_has ls 2 [(0, .ref h0), (1, .int p1)] := hl
  clear hD0
  obtain ⟨QQ, hQQ⟩ : ∃ QQ, QQ = MQ below (va_Qi (fun (r u : Int32) => r = u) (fun (u : Int32) (t : State) => (Q u) ∧ va_P (dC, dI) vwCl [(h0, .inr (13, oX10 v_there v_count v_captures v_ranges (.ref h2) (.ref h3) (.ref h4) (.ref h5) (.ref h6) (.ref h7) (.ref h8) (.ref h1) (.ref h9) (.ref h10) (.ref h11) (.ref h12) (.ref h13) (.ref h14) (.ref h15) (.ref h16))), (h1, .inl (k0, 256, .inl v_low))] t.heap ∧ va_D A [(h0, .inr (13, oX10 v_there v_count v_captures v_ranges (.ref h2) (.ref h3) (.ref h4) (.ref h5) (.ref h6) (.ref h7) (.ref h8) (.ref h1) (.ref h9) (.ref h10) (.ref h11) (.ref h12) (.ref h13) (.ref h14) (.ref h15) (.ref h16))), (h1, .inl (k0, 256, .inl v_low))]) A) ([.ref h0, .int p1]).toArray s 0 0 A := ⟨_, rfl⟩
  show W p l e ({ frames := 0, cells := 0, slots := 0, locals := 0 } : Room) s m ([.ref h0, .int p1]).toArray below meth c s.heap [] 0 0 (MQ below (va_Qi (fun (r u : Int32) => r = u) (fun (u : Int32) (t : State) => (Q u) ∧ va_P (dC, dI) vwCl [(h0, .inr (13, oX10 v_there v_count v_captures v_ranges (.ref h2) (.ref h3) (.ref h4) (.ref h5) (.ref h6) (.ref h7) (.ref h8) (.ref h1) (.ref h9) (.ref h10) (.ref h11) (.ref h12) (.ref h13) (.ref h14) (.ref h15) (.ref h16))), (h1, .inl (k0, 256, .inl v_low))] t.heap ∧ va_D A [(h0, .inr (13, oX10 v_there v_count v_captures v_ranges (.ref h2) (.ref h3) (.ref h4) (.ref h5) (.ref h6) (.ref h7) (.ref h8) (.ref h1) (.ref h9) (.ref h10) (.ref h11) (.ref h12) (.ref h13) (.ref h14) (.ref h15) (.ref h16))), (h1, .inl (k0, 256, .inl v_low))]) A) ([.ref h0, .int p1]).toArray s 0 0 A) (F0 m 0 ls [])
  rw [← hQQ]
  unfold w_X10_lowOf at w
  refine lv_iload_n hx hb dX10_lowOf_0 rfl (lv_at hl 1 rfl) ?_
  have k_22 : ∀ (s0_22 : Int32), ∀ (H_b22 : Heap) (locs_b22 : List Loc) (ls_b22 : Array Slot), w_X10_lowOf_22 Q s0_22 → va_P (dC, dI) vwCl [(h0, .inr (13, oX10 v_there v_count v_captures v_ranges (.ref h2) (.ref h3) (.ref h4) (.ref h5) (.ref h6) (.ref h7) (.ref h8) (.ref h1) (.ref h9) (.ref h10) (.ref h11) (.ref h12) (.ref h13) (.ref h14) (.ref h15) (.ref h16))), (h1, .inl (k0, 256, .inl v_low))] H_b22 → va_D A [(h0, .inr (13, oX10 v_there v_count v_captures v_ranges (.ref h2) (.ref h3) (.ref h4) (.ref h5) (.ref h6) (.ref h7) (.ref h8) (.ref h1) (.ref h9) (.ref h10) (.ref h11) (.ref h12) (.ref h13) (.ref h14) (.ref h15) (.ref h16))), (h1, .inl (k0, 256, .inl v_low))] → va_S A s.heap H_b22 locs_b22 → lv_has ls_b22 2 [] → W p l e ({ frames := 0, cells := 0, slots := 0, locals := 0 } : Room) s m ([.ref h0, .int p1]).toArray below meth c H_b22 locs_b22 0 0 QQ (F0 m 22 ls_b22 [.int s0_22]) := by
    intro s0_22 H_b22 locs_b22 ls_b22 w_b22 hP_b22 hD_b22 hS_b22 hl_b22
    unfold w_X10_lowOf_22 at w_b22
    rw [hQQ]
    exact W.iret (v := s0_22) hx hb hr (fun t9 ht9 hW9 => ⟨⟨s0_22, s0_22, rfl, rfl, ⟨w_b22, by rw [ht9]; exact hP_b22, hD_b22⟩⟩, hS_b22.F ht9⟩) hS_b22.2.2 dX10_lowOf_22
  have k_21 : ∀ (H_b21 : Heap) (locs_b21 : List Loc) (ls_b21 : Array Slot), w_X10_lowOf_21 Q → va_P (dC, dI) vwCl [(h0, .inr (13, oX10 v_there v_count v_captures v_ranges (.ref h2) (.ref h3) (.ref h4) (.ref h5) (.ref h6) (.ref h7) (.ref h8) (.ref h1) (.ref h9) (.ref h10) (.ref h11) (.ref h12) (.ref h13) (.ref h14) (.ref h15) (.ref h16))), (h1, .inl (k0, 256, .inl v_low))] H_b21 → va_D A [(h0, .inr (13, oX10 v_there v_count v_captures v_ranges (.ref h2) (.ref h3) (.ref h4) (.ref h5) (.ref h6) (.ref h7) (.ref h8) (.ref h1) (.ref h9) (.ref h10) (.ref h11) (.ref h12) (.ref h13) (.ref h14) (.ref h15) (.ref h16))), (h1, .inl (k0, 256, .inl v_low))] → va_S A s.heap H_b21 locs_b21 → lv_has ls_b21 2 [] → W p l e ({ frames := 0, cells := 0, slots := 0, locals := 0 } : Room) s m ([.ref h0, .int p1]).toArray below meth c H_b21 locs_b21 0 0 QQ (F0 m 21 ls_b21 []) := by
    intro  H_b21 locs_b21 ls_b21 w_b21 hP_b21 hD_b21 hS_b21 hl_b21
    unfold w_X10_lowOf_21 at w_b21
    refine lv_iconst (v := 0) hx hb dX10_lowOf_21 (by decide) ?_
    exact k_22 0 _ _ _ w_b21 hP_b21 hD_b21 hS_b21 (lv_sub hl_b21 [] rfl)
  refine lv_if_lt (tgt := 21) hx hb dX10_lowOf_1 (by decide) (fun c_1 => ?_) (fun c_1 => ?_)
  · exact k_21  _ _ _ (w.1 c_1) hP hD hS (lv_sub hl [] rfl)
  · refine lv_iload_n hx hb dX10_lowOf_4 rfl (lv_at hl 1 rfl) ?_
    refine lv_aload_n hx hb dX10_lowOf_5 rfl (lv_at hl 0 rfl) ?_
    refine va_get (D := (dC, dI)) (ci := 13) (v := .int v_count) (C := RX10) (T := TX10) (N := 20) hx hb ht inX10 hown hK hP 0 rfl rfl 1 (by decide) (ht _ tw_319) (fun _ h9 => h9) rfl dX10_lowOf_6 ?_
    refine lv_icmp_ge (tgt := 21) hx hb dX10_lowOf_9 (by decide) (fun c_2 => ?_) (fun c_2 => ?_)
    · exact k_21  _ _ _ ((w.2 c_1).1 c_2) hP hD hS (lv_sub hl [] rfl)
    · refine lv_aload_n hx hb dX10_lowOf_12 rfl (lv_at hl 0 rfl) ?_
      refine va_get (D := (dC, dI)) (ci := 13) (v := .ref h1) (C := RX10) (T := TX10) (N := 20) hx hb ht inX10 hown hK hP 0 rfl rfl 11 (by decide) (ht _ tw_334) (fun _ h9 => h9) rfl dX10_lowOf_13 ?_
      refine lv_iload_n hx hb dX10_lowOf_16 rfl (lv_at hl 1 rfl) ?_
      refine va_iald hx hb hK hP 1 0 rfl rfl (i := p1) ((w.2 c_1).2 c_2).1 dX10_lowOf_17 ?_
      refine lv_topi (fun x_3 ex_3 => ?_)
      have ex_3 : x_3 = v_low p1.toNatClampNeg := ex_3
      refine lv_goto (tgt := 22) hx hb dX10_lowOf_18 (by decide) ?_
      exact k_22 x_3 _ _ _ ((((w.2 c_1).2 c_2).2) x_3 ex_3) hP hD hS (lv_sub hl [] rfl)
def w_X10_highOf_22 (Q : Int32 → Prop) (s0_22 : Int32) : Prop :=
  Q s0_22
def w_X10_highOf_21 (Q : Int32 → Prop) : Prop :=
  w_X10_highOf_22 Q 0
def w_X10_highOf (p1 : Int32) (v_count : Int32) (v_high : Nat → Int32) (Q : Int32 → Prop) : Prop :=
  ((p1 < 0) → w_X10_highOf_21 Q) ∧ ((¬ p1 < 0) → ((v_count ≤ p1) → w_X10_highOf_21 Q) ∧ ((¬ v_count ≤ p1) → vp_in p1 256 ∧ ∀ x_3 : Int32, x_3 = v_high p1.toNatClampNeg → w_X10_highOf_22 Q x_3))
set_option maxHeartbeats 4000000 in
set_option maxRecDepth 100000 in
theorem mt_X10_highOf (l : Launch) (dC : Nat → ClassId) (dI : Nat → Nat → Nat) (h0 h1 h2 h3 h4 h5 h6 h7 h8 h9 h10 h11 h12 h13 h14 h15 h16 : Nat) (k0 : ClassId) (p1 : Int32) (v_there : Bool) (v_count : Int32) (v_captures : Int32) (v_ranges : Int32) (v_high : Nat → Int32) (Q : Int32 → Prop) (w : w_X10_highOf p1 v_count v_high Q) (sz : Nat) : Met l yX10_highOf (WS yX10_highOf cX10_highOf 2 (some (.int))) ({ frames := 0, cells := 0, slots := 0, locals := 0 } : Room) (va_Pc [.ref h0, .int p1] (fun U => U.heap.size = sz ∧ va_P (dC, dI) vwCl [(h0, .inr (13, oX10 v_there v_count v_captures v_ranges (.ref h2) (.ref h3) (.ref h4) (.ref h5) (.ref h6) (.ref h7) (.ref h8) (.ref h9) (.ref h1) (.ref h10) (.ref h11) (.ref h12) (.ref h13) (.ref h14) (.ref h15) (.ref h16))), (h1, .inl (k0, 256, .inl v_high))] U.heap ∧ va_K (dC, dI) vwCl [(k0, .int)] U ∧ va_D (fun _ => True) [(h0, .inr (13, oX10 v_there v_count v_captures v_ranges (.ref h2) (.ref h3) (.ref h4) (.ref h5) (.ref h6) (.ref h7) (.ref h8) (.ref h9) (.ref h1) (.ref h10) (.ref h11) (.ref h12) (.ref h13) (.ref h14) (.ref h15) (.ref h16))), (h1, .inl (k0, 256, .inl v_high))])) (va_Qi (fun (r u : Int32) => r = u) (fun (u : Int32) (t : State) => (Q u) ∧ va_P (dC, dI) vwCl [(h0, .inr (13, oX10 v_there v_count v_captures v_ranges (.ref h2) (.ref h3) (.ref h4) (.ref h5) (.ref h6) (.ref h7) (.ref h8) (.ref h9) (.ref h1) (.ref h10) (.ref h11) (.ref h12) (.ref h13) (.ref h14) (.ref h15) (.ref h16))), (h1, .inl (k0, 256, .inl v_high))] t.heap ∧ va_D (va_A [(h0, .inr (13, oX10 v_there v_count v_captures v_ranges (.ref h2) (.ref h3) (.ref h4) (.ref h5) (.ref h6) (.ref h7) (.ref h8) (.ref h9) (.ref h1) (.ref h10) (.ref h11) (.ref h12) (.ref h13) (.ref h14) (.ref h15) (.ref h16))), (h1, .inl (k0, 256, .inl v_high))] sz) [(h0, .inr (13, oX10 v_there v_count v_captures v_ranges (.ref h2) (.ref h3) (.ref h4) (.ref h5) (.ref h6) (.ref h7) (.ref h8) (.ref h9) (.ref h1) (.ref h10) (.ref h11) (.ref h12) (.ref h13) (.ref h14) (.ref h15) (.ref h16))), (h1, .inl (k0, 256, .inl v_high))]) (va_A [(h0, .inr (13, oX10 v_there v_count v_captures v_ranges (.ref h2) (.ref h3) (.ref h4) (.ref h5) (.ref h6) (.ref h7) (.ref h8) (.ref h9) (.ref h1) (.ref h10) (.ref h11) (.ref h12) (.ref h13) (.ref h14) (.ref h15) (.ref h16))), (h1, .inl (k0, 256, .inl v_high))] sz)) 0 0 (va_A [(h0, .inr (13, oX10 v_there v_count v_captures v_ranges (.ref h2) (.ref h3) (.ref h4) (.ref h5) (.ref h6) (.ref h7) (.ref h8) (.ref h9) (.ref h1) (.ref h10) (.ref h11) (.ref h12) (.ref h13) (.ref h14) (.ref h15) (.ref h16))), (h1, .inl (k0, 256, .inl v_high))] sz) := by
  refine Met.ofW (cc := cX10_highOf) (maxL := 2) (ret := (some (.int))) (by decide) rfl ?_
  intro p e s m args below meth c s₁ B hml hv
  obtain ⟨rfl, hsz, hP, hK, hD0⟩ := hv
  have hx := B.exec
  have hb := B.bytes
  have hr := B.returns
  have hts := atoms_spec (ws := WS yX10_highOf cX10_highOf 2 (some (.int))) B.pre
  have ht : ∀ w ∈ TW, w.before _ s = true := fun w h => hts w (List.mem_cons_of_mem _ h)
  have hown : s.vm.findClass "PatternWorkshop$Tree" = some m.cls := findClass_of_methodNamed B.named
  have hlocks := B.notSynchronized
  subst hsz
  have hD := hD0.self (sz := s.heap.size)
  generalize hAe : va_A [(h0, .inr (13, oX10 v_there v_count v_captures v_ranges (.ref h2) (.ref h3) (.ref h4) (.ref h5) (.ref h6) (.ref h7) (.ref h8) (.ref h9) (.ref h1) (.ref h10) (.ref h11) (.ref h12) (.ref h13) (.ref h14) (.ref h15) (.ref h16))), (h1, .inl (k0, 256, .inl v_high))] s.heap.size = A at hD ⊢
  have hA : ∀ q : Nat, s.heap.size ≤ q → A q := fun q h => by rw [← hAe]; exact Or.inr h
  have hS : va_S A s.heap s.heap [] := va_S.rf
  have hP : va_P (dC, dI) vwCl [(h0, .inr (13, oX10 v_there v_count v_captures v_ranges (.ref h2) (.ref h3) (.ref h4) (.ref h5) (.ref h6) (.ref h7) (.ref h8) (.ref h9) (.ref h1) (.ref h10) (.ref h11) (.ref h12) (.ref h13) (.ref h14) (.ref h15) (.ref h16))), (h1, .inl (k0, 256, .inl v_high))] s.heap := hP
  have hl := lv_entry ([.ref h0, .int p1]) (n := 2) (Nat.le_of_ble_eq_true rfl)
  rw [lg_entry_eq]
  generalize (lg_sl ([.ref h0, .int p1]) ++ List.replicate (2 - (lg_sl ([.ref h0, .int p1])).length) Slot.unset).toArray = ls at hl ⊢
  have hl : lv_has ls 2 [(0, .ref h0), (1, .int p1)] := hl
  clear hD0
  obtain ⟨QQ, hQQ⟩ : ∃ QQ, QQ = MQ below (va_Qi (fun (r u : Int32) => r = u) (fun (u : Int32) (t : State) => (Q u) ∧ va_P (dC, dI) vwCl [(h0, .inr (13, oX10 v_there v_count v_captures v_ranges (.ref h2) (.ref h3) (.ref h4) (.ref h5) (.ref h6) (.ref h7) (.ref h8) (.ref h9) (.ref h1) (.ref h10) (.ref h11) (.ref h12) (.ref h13) (.ref h14) (.ref h15) (.ref h16))), (h1, .inl (k0, 256, .inl v_high))] t.heap ∧ va_D A [(h0, .inr (13, oX10 v_there v_count v_captures v_ranges (.ref h2) (.ref h3) (.ref h4) (.ref h5) (.ref h6) (.ref h7) (.ref h8) (.ref h9) (.ref h1) (.ref h10) (.ref h11) (.ref h12) (.ref h13) (.ref h14) (.ref h15) (.ref h16))), (h1, .inl (k0, 256, .inl v_high))]) A) ([.ref h0, .int p1]).toArray s 0 0 A := ⟨_, rfl⟩
  show W p l e ({ frames := 0, cells := 0, slots := 0, locals := 0 } : Room) s m ([.ref h0, .int p1]).toArray below meth c s.heap [] 0 0 (MQ below (va_Qi (fun (r u : Int32) => r = u) (fun (u : Int32) (t : State) => (Q u) ∧ va_P (dC, dI) vwCl [(h0, .inr (13, oX10 v_there v_count v_captures v_ranges (.ref h2) (.ref h3) (.ref h4) (.ref h5) (.ref h6) (.ref h7) (.ref h8) (.ref h9) (.ref h1) (.ref h10) (.ref h11) (.ref h12) (.ref h13) (.ref h14) (.ref h15) (.ref h16))), (h1, .inl (k0, 256, .inl v_high))] t.heap ∧ va_D A [(h0, .inr (13, oX10 v_there v_count v_captures v_ranges (.ref h2) (.ref h3) (.ref h4) (.ref h5) (.ref h6) (.ref h7) (.ref h8) (.ref h9) (.ref h1) (.ref h10) (.ref h11) (.ref h12) (.ref h13) (.ref h14) (.ref h15) (.ref h16))), (h1, .inl (k0, 256, .inl v_high))]) A) ([.ref h0, .int p1]).toArray s 0 0 A) (F0 m 0 ls [])
  rw [← hQQ]
  unfold w_X10_highOf at w
  refine lv_iload_n hx hb dX10_highOf_0 rfl (lv_at hl 1 rfl) ?_
  have k_22 : ∀ (s0_22 : Int32), ∀ (H_b22 : Heap) (locs_b22 : List Loc) (ls_b22 : Array Slot), w_X10_highOf_22 Q s0_22 → va_P (dC, dI) vwCl [(h0, .inr (13, oX10 v_there v_count v_captures v_ranges (.ref h2) (.ref h3) (.ref h4) (.ref h5) (.ref h6) (.ref h7) (.ref h8) (.ref h9) (.ref h1) (.ref h10) (.ref h11) (.ref h12) (.ref h13) (.ref h14) (.ref h15) (.ref h16))), (h1, .inl (k0, 256, .inl v_high))] H_b22 → va_D A [(h0, .inr (13, oX10 v_there v_count v_captures v_ranges (.ref h2) (.ref h3) (.ref h4) (.ref h5) (.ref h6) (.ref h7) (.ref h8) (.ref h9) (.ref h1) (.ref h10) (.ref h11) (.ref h12) (.ref h13) (.ref h14) (.ref h15) (.ref h16))), (h1, .inl (k0, 256, .inl v_high))] → va_S A s.heap H_b22 locs_b22 → lv_has ls_b22 2 [] → W p l e ({ frames := 0, cells := 0, slots := 0, locals := 0 } : Room) s m ([.ref h0, .int p1]).toArray below meth c H_b22 locs_b22 0 0 QQ (F0 m 22 ls_b22 [.int s0_22]) := by
    intro s0_22 H_b22 locs_b22 ls_b22 w_b22 hP_b22 hD_b22 hS_b22 hl_b22
    unfold w_X10_highOf_22 at w_b22
    rw [hQQ]
    exact W.iret (v := s0_22) hx hb hr (fun t9 ht9 hW9 => ⟨⟨s0_22, s0_22, rfl, rfl, ⟨w_b22, by rw [ht9]; exact hP_b22, hD_b22⟩⟩, hS_b22.F ht9⟩) hS_b22.2.2 dX10_highOf_22
  have k_21 : ∀ (H_b21 : Heap) (locs_b21 : List Loc) (ls_b21 : Array Slot), w_X10_highOf_21 Q → va_P (dC, dI) vwCl [(h0, .inr (13, oX10 v_there v_count v_captures v_ranges (.ref h2) (.ref h3) (.ref h4) (.ref h5) (.ref h6) (.ref h7) (.ref h8) (.ref h9) (.ref h1) (.ref h10) (.ref h11) (.ref h12) (.ref h13) (.ref h14) (.ref h15) (.ref h16))), (h1, .inl (k0, 256, .inl v_high))] H_b21 → va_D A [(h0, .inr (13, oX10 v_there v_count v_captures v_ranges (.ref h2) (.ref h3) (.ref h4) (.ref h5) (.ref h6) (.ref h7) (.ref h8) (.ref h9) (.ref h1) (.ref h10) (.ref h11) (.ref h12) (.ref h13) (.ref h14) (.ref h15) (.ref h16))), (h1, .inl (k0, 256, .inl v_high))] → va_S A s.heap H_b21 locs_b21 → lv_has ls_b21 2 [] → W p l e ({ frames := 0, cells := 0, slots := 0, locals := 0 } : Room) s m ([.ref h0, .int p1]).toArray below meth c H_b21 locs_b21 0 0 QQ (F0 m 21 ls_b21 []) := by
    intro  H_b21 locs_b21 ls_b21 w_b21 hP_b21 hD_b21 hS_b21 hl_b21
    unfold w_X10_highOf_21 at w_b21
    refine lv_iconst (v := 0) hx hb dX10_highOf_21 (by decide) ?_
    exact k_22 0 _ _ _ w_b21 hP_b21 hD_b21 hS_b21 (lv_sub hl_b21 [] rfl)
  refine lv_if_lt (tgt := 21) hx hb dX10_highOf_1 (by decide) (fun c_1 => ?_) (fun c_1 => ?_)
  · exact k_21  _ _ _ (w.1 c_1) hP hD hS (lv_sub hl [] rfl)
  · refine lv_iload_n hx hb dX10_highOf_4 rfl (lv_at hl 1 rfl) ?_
    refine lv_aload_n hx hb dX10_highOf_5 rfl (lv_at hl 0 rfl) ?_
    refine va_get (D := (dC, dI)) (ci := 13) (v := .int v_count) (C := RX10) (T := TX10) (N := 20) hx hb ht inX10 hown hK hP 0 rfl rfl 1 (by decide) (ht _ tw_319) (fun _ h9 => h9) rfl dX10_highOf_6 ?_
    refine lv_icmp_ge (tgt := 21) hx hb dX10_highOf_9 (by decide) (fun c_2 => ?_) (fun c_2 => ?_)
    · exact k_21  _ _ _ ((w.2 c_1).1 c_2) hP hD hS (lv_sub hl [] rfl)
    · refine lv_aload_n hx hb dX10_highOf_12 rfl (lv_at hl 0 rfl) ?_
      refine va_get (D := (dC, dI)) (ci := 13) (v := .ref h1) (C := RX10) (T := TX10) (N := 20) hx hb ht inX10 hown hK hP 0 rfl rfl 12 (by decide) (ht _ tw_335) (fun _ h9 => h9) rfl dX10_highOf_13 ?_
      refine lv_iload_n hx hb dX10_highOf_16 rfl (lv_at hl 1 rfl) ?_
      refine va_iald hx hb hK hP 1 0 rfl rfl (i := p1) ((w.2 c_1).2 c_2).1 dX10_highOf_17 ?_
      refine lv_topi (fun x_3 ex_3 => ?_)
      have ex_3 : x_3 = v_high p1.toNatClampNeg := ex_3
      refine lv_goto (tgt := 22) hx hb dX10_highOf_18 (by decide) ?_
      exact k_22 x_3 _ _ _ ((((w.2 c_1).2 c_2).2) x_3 ex_3) hP hD hS (lv_sub hl [] rfl)
def w_X10_lastOf_22 (Q : Int32 → Prop) (s0_22 : Int32) : Prop :=
  Q s0_22
def w_X10_lastOf_21 (Q : Int32 → Prop) : Prop :=
  w_X10_lastOf_22 Q (-1)
def w_X10_lastOf (p1 : Int32) (v_count : Int32) (v_last : Nat → Int32) (Q : Int32 → Prop) : Prop :=
  ((p1 < 0) → w_X10_lastOf_21 Q) ∧ ((¬ p1 < 0) → ((v_count ≤ p1) → w_X10_lastOf_21 Q) ∧ ((¬ v_count ≤ p1) → vp_in p1 256 ∧ ∀ x_3 : Int32, x_3 = v_last p1.toNatClampNeg → w_X10_lastOf_22 Q x_3))
set_option maxHeartbeats 4000000 in
set_option maxRecDepth 100000 in
theorem mt_X10_lastOf (l : Launch) (dC : Nat → ClassId) (dI : Nat → Nat → Nat) (h0 h1 h2 h3 h4 h5 h6 h7 h8 h9 h10 h11 h12 h13 h14 h15 h16 : Nat) (k0 : ClassId) (p1 : Int32) (v_there : Bool) (v_count : Int32) (v_captures : Int32) (v_ranges : Int32) (v_last : Nat → Int32) (Q : Int32 → Prop) (w : w_X10_lastOf p1 v_count v_last Q) (sz : Nat) : Met l yX10_lastOf (WS yX10_lastOf cX10_lastOf 2 (some (.int))) ({ frames := 0, cells := 0, slots := 0, locals := 0 } : Room) (va_Pc [.ref h0, .int p1] (fun U => U.heap.size = sz ∧ va_P (dC, dI) vwCl [(h0, .inr (13, oX10 v_there v_count v_captures v_ranges (.ref h2) (.ref h3) (.ref h4) (.ref h5) (.ref h1) (.ref h6) (.ref h7) (.ref h8) (.ref h9) (.ref h10) (.ref h11) (.ref h12) (.ref h13) (.ref h14) (.ref h15) (.ref h16))), (h1, .inl (k0, 256, .inl v_last))] U.heap ∧ va_K (dC, dI) vwCl [(k0, .int)] U ∧ va_D (fun _ => True) [(h0, .inr (13, oX10 v_there v_count v_captures v_ranges (.ref h2) (.ref h3) (.ref h4) (.ref h5) (.ref h1) (.ref h6) (.ref h7) (.ref h8) (.ref h9) (.ref h10) (.ref h11) (.ref h12) (.ref h13) (.ref h14) (.ref h15) (.ref h16))), (h1, .inl (k0, 256, .inl v_last))])) (va_Qi (fun (r u : Int32) => r = u) (fun (u : Int32) (t : State) => (Q u) ∧ va_P (dC, dI) vwCl [(h0, .inr (13, oX10 v_there v_count v_captures v_ranges (.ref h2) (.ref h3) (.ref h4) (.ref h5) (.ref h1) (.ref h6) (.ref h7) (.ref h8) (.ref h9) (.ref h10) (.ref h11) (.ref h12) (.ref h13) (.ref h14) (.ref h15) (.ref h16))), (h1, .inl (k0, 256, .inl v_last))] t.heap ∧ va_D (va_A [(h0, .inr (13, oX10 v_there v_count v_captures v_ranges (.ref h2) (.ref h3) (.ref h4) (.ref h5) (.ref h1) (.ref h6) (.ref h7) (.ref h8) (.ref h9) (.ref h10) (.ref h11) (.ref h12) (.ref h13) (.ref h14) (.ref h15) (.ref h16))), (h1, .inl (k0, 256, .inl v_last))] sz) [(h0, .inr (13, oX10 v_there v_count v_captures v_ranges (.ref h2) (.ref h3) (.ref h4) (.ref h5) (.ref h1) (.ref h6) (.ref h7) (.ref h8) (.ref h9) (.ref h10) (.ref h11) (.ref h12) (.ref h13) (.ref h14) (.ref h15) (.ref h16))), (h1, .inl (k0, 256, .inl v_last))]) (va_A [(h0, .inr (13, oX10 v_there v_count v_captures v_ranges (.ref h2) (.ref h3) (.ref h4) (.ref h5) (.ref h1) (.ref h6) (.ref h7) (.ref h8) (.ref h9) (.ref h10) (.ref h11) (.ref h12) (.ref h13) (.ref h14) (.ref h15) (.ref h16))), (h1, .inl (k0, 256, .inl v_last))] sz)) 0 0 (va_A [(h0, .inr (13, oX10 v_there v_count v_captures v_ranges (.ref h2) (.ref h3) (.ref h4) (.ref h5) (.ref h1) (.ref h6) (.ref h7) (.ref h8) (.ref h9) (.ref h10) (.ref h11) (.ref h12) (.ref h13) (.ref h14) (.ref h15) (.ref h16))), (h1, .inl (k0, 256, .inl v_last))] sz) := by
  refine Met.ofW (cc := cX10_lastOf) (maxL := 2) (ret := (some (.int))) (by decide) rfl ?_
  intro p e s m args below meth c s₁ B hml hv
  obtain ⟨rfl, hsz, hP, hK, hD0⟩ := hv
  have hx := B.exec
  have hb := B.bytes
  have hr := B.returns
  have hts := atoms_spec (ws := WS yX10_lastOf cX10_lastOf 2 (some (.int))) B.pre
  have ht : ∀ w ∈ TW, w.before _ s = true := fun w h => hts w (List.mem_cons_of_mem _ h)
  have hown : s.vm.findClass "PatternWorkshop$Tree" = some m.cls := findClass_of_methodNamed B.named
  have hlocks := B.notSynchronized
  subst hsz
  have hD := hD0.self (sz := s.heap.size)
  generalize hAe : va_A [(h0, .inr (13, oX10 v_there v_count v_captures v_ranges (.ref h2) (.ref h3) (.ref h4) (.ref h5) (.ref h1) (.ref h6) (.ref h7) (.ref h8) (.ref h9) (.ref h10) (.ref h11) (.ref h12) (.ref h13) (.ref h14) (.ref h15) (.ref h16))), (h1, .inl (k0, 256, .inl v_last))] s.heap.size = A at hD ⊢
  have hA : ∀ q : Nat, s.heap.size ≤ q → A q := fun q h => by rw [← hAe]; exact Or.inr h
  have hS : va_S A s.heap s.heap [] := va_S.rf
  have hP : va_P (dC, dI) vwCl [(h0, .inr (13, oX10 v_there v_count v_captures v_ranges (.ref h2) (.ref h3) (.ref h4) (.ref h5) (.ref h1) (.ref h6) (.ref h7) (.ref h8) (.ref h9) (.ref h10) (.ref h11) (.ref h12) (.ref h13) (.ref h14) (.ref h15) (.ref h16))), (h1, .inl (k0, 256, .inl v_last))] s.heap := hP
  have hl := lv_entry ([.ref h0, .int p1]) (n := 2) (Nat.le_of_ble_eq_true rfl)
  rw [lg_entry_eq]
  generalize (lg_sl ([.ref h0, .int p1]) ++ List.replicate (2 - (lg_sl ([.ref h0, .int p1])).length) Slot.unset).toArray = ls at hl ⊢
  have hl : lv_has ls 2 [(0, .ref h0), (1, .int p1)] := hl
  clear hD0
  obtain ⟨QQ, hQQ⟩ : ∃ QQ, QQ = MQ below (va_Qi (fun (r u : Int32) => r = u) (fun (u : Int32) (t : State) => (Q u) ∧ va_P (dC, dI) vwCl [(h0, .inr (13, oX10 v_there v_count v_captures v_ranges (.ref h2) (.ref h3) (.ref h4) (.ref h5) (.ref h1) (.ref h6) (.ref h7) (.ref h8) (.ref h9) (.ref h10) (.ref h11) (.ref h12) (.ref h13) (.ref h14) (.ref h15) (.ref h16))), (h1, .inl (k0, 256, .inl v_last))] t.heap ∧ va_D A [(h0, .inr (13, oX10 v_there v_count v_captures v_ranges (.ref h2) (.ref h3) (.ref h4) (.ref h5) (.ref h1) (.ref h6) (.ref h7) (.ref h8) (.ref h9) (.ref h10) (.ref h11) (.ref h12) (.ref h13) (.ref h14) (.ref h15) (.ref h16))), (h1, .inl (k0, 256, .inl v_last))]) A) ([.ref h0, .int p1]).toArray s 0 0 A := ⟨_, rfl⟩
  show W p l e ({ frames := 0, cells := 0, slots := 0, locals := 0 } : Room) s m ([.ref h0, .int p1]).toArray below meth c s.heap [] 0 0 (MQ below (va_Qi (fun (r u : Int32) => r = u) (fun (u : Int32) (t : State) => (Q u) ∧ va_P (dC, dI) vwCl [(h0, .inr (13, oX10 v_there v_count v_captures v_ranges (.ref h2) (.ref h3) (.ref h4) (.ref h5) (.ref h1) (.ref h6) (.ref h7) (.ref h8) (.ref h9) (.ref h10) (.ref h11) (.ref h12) (.ref h13) (.ref h14) (.ref h15) (.ref h16))), (h1, .inl (k0, 256, .inl v_last))] t.heap ∧ va_D A [(h0, .inr (13, oX10 v_there v_count v_captures v_ranges (.ref h2) (.ref h3) (.ref h4) (.ref h5) (.ref h1) (.ref h6) (.ref h7) (.ref h8) (.ref h9) (.ref h10) (.ref h11) (.ref h12) (.ref h13) (.ref h14) (.ref h15) (.ref h16))), (h1, .inl (k0, 256, .inl v_last))]) A) ([.ref h0, .int p1]).toArray s 0 0 A) (F0 m 0 ls [])
  rw [← hQQ]
  unfold w_X10_lastOf at w
  refine lv_iload_n hx hb dX10_lastOf_0 rfl (lv_at hl 1 rfl) ?_
  have k_22 : ∀ (s0_22 : Int32), ∀ (H_b22 : Heap) (locs_b22 : List Loc) (ls_b22 : Array Slot), w_X10_lastOf_22 Q s0_22 → va_P (dC, dI) vwCl [(h0, .inr (13, oX10 v_there v_count v_captures v_ranges (.ref h2) (.ref h3) (.ref h4) (.ref h5) (.ref h1) (.ref h6) (.ref h7) (.ref h8) (.ref h9) (.ref h10) (.ref h11) (.ref h12) (.ref h13) (.ref h14) (.ref h15) (.ref h16))), (h1, .inl (k0, 256, .inl v_last))] H_b22 → va_D A [(h0, .inr (13, oX10 v_there v_count v_captures v_ranges (.ref h2) (.ref h3) (.ref h4) (.ref h5) (.ref h1) (.ref h6) (.ref h7) (.ref h8) (.ref h9) (.ref h10) (.ref h11) (.ref h12) (.ref h13) (.ref h14) (.ref h15) (.ref h16))), (h1, .inl (k0, 256, .inl v_last))] → va_S A s.heap H_b22 locs_b22 → lv_has ls_b22 2 [] → W p l e ({ frames := 0, cells := 0, slots := 0, locals := 0 } : Room) s m ([.ref h0, .int p1]).toArray below meth c H_b22 locs_b22 0 0 QQ (F0 m 22 ls_b22 [.int s0_22]) := by
    intro s0_22 H_b22 locs_b22 ls_b22 w_b22 hP_b22 hD_b22 hS_b22 hl_b22
    unfold w_X10_lastOf_22 at w_b22
    rw [hQQ]
    exact W.iret (v := s0_22) hx hb hr (fun t9 ht9 hW9 => ⟨⟨s0_22, s0_22, rfl, rfl, ⟨w_b22, by rw [ht9]; exact hP_b22, hD_b22⟩⟩, hS_b22.F ht9⟩) hS_b22.2.2 dX10_lastOf_22
  have k_21 : ∀ (H_b21 : Heap) (locs_b21 : List Loc) (ls_b21 : Array Slot), w_X10_lastOf_21 Q → va_P (dC, dI) vwCl [(h0, .inr (13, oX10 v_there v_count v_captures v_ranges (.ref h2) (.ref h3) (.ref h4) (.ref h5) (.ref h1) (.ref h6) (.ref h7) (.ref h8) (.ref h9) (.ref h10) (.ref h11) (.ref h12) (.ref h13) (.ref h14) (.ref h15) (.ref h16))), (h1, .inl (k0, 256, .inl v_last))] H_b21 → va_D A [(h0, .inr (13, oX10 v_there v_count v_captures v_ranges (.ref h2) (.ref h3) (.ref h4) (.ref h5) (.ref h1) (.ref h6) (.ref h7) (.ref h8) (.ref h9) (.ref h10) (.ref h11) (.ref h12) (.ref h13) (.ref h14) (.ref h15) (.ref h16))), (h1, .inl (k0, 256, .inl v_last))] → va_S A s.heap H_b21 locs_b21 → lv_has ls_b21 2 [] → W p l e ({ frames := 0, cells := 0, slots := 0, locals := 0 } : Room) s m ([.ref h0, .int p1]).toArray below meth c H_b21 locs_b21 0 0 QQ (F0 m 21 ls_b21 []) := by
    intro  H_b21 locs_b21 ls_b21 w_b21 hP_b21 hD_b21 hS_b21 hl_b21
    unfold w_X10_lastOf_21 at w_b21
    refine lv_iconst (v := (-1)) hx hb dX10_lastOf_21 (by decide) ?_
    exact k_22 (-1) _ _ _ w_b21 hP_b21 hD_b21 hS_b21 (lv_sub hl_b21 [] rfl)
  refine lv_if_lt (tgt := 21) hx hb dX10_lastOf_1 (by decide) (fun c_1 => ?_) (fun c_1 => ?_)
  · exact k_21  _ _ _ (w.1 c_1) hP hD hS (lv_sub hl [] rfl)
  · refine lv_iload_n hx hb dX10_lastOf_4 rfl (lv_at hl 1 rfl) ?_
    refine lv_aload_n hx hb dX10_lastOf_5 rfl (lv_at hl 0 rfl) ?_
    refine va_get (D := (dC, dI)) (ci := 13) (v := .int v_count) (C := RX10) (T := TX10) (N := 20) hx hb ht inX10 hown hK hP 0 rfl rfl 1 (by decide) (ht _ tw_319) (fun _ h9 => h9) rfl dX10_lastOf_6 ?_
    refine lv_icmp_ge (tgt := 21) hx hb dX10_lastOf_9 (by decide) (fun c_2 => ?_) (fun c_2 => ?_)
    · exact k_21  _ _ _ ((w.2 c_1).1 c_2) hP hD hS (lv_sub hl [] rfl)
    · refine lv_aload_n hx hb dX10_lastOf_12 rfl (lv_at hl 0 rfl) ?_
      refine va_get (D := (dC, dI)) (ci := 13) (v := .ref h1) (C := RX10) (T := TX10) (N := 20) hx hb ht inX10 hown hK hP 0 rfl rfl 8 (by decide) (ht _ tw_331) (fun _ h9 => h9) rfl dX10_lastOf_13 ?_
      refine lv_iload_n hx hb dX10_lastOf_16 rfl (lv_at hl 1 rfl) ?_
      refine va_iald hx hb hK hP 1 0 rfl rfl (i := p1) ((w.2 c_1).2 c_2).1 dX10_lastOf_17 ?_
      refine lv_topi (fun x_3 ex_3 => ?_)
      have ex_3 : x_3 = v_last p1.toNatClampNeg := ex_3
      refine lv_goto (tgt := 22) hx hb dX10_lastOf_18 (by decide) ?_
      exact k_22 x_3 _ _ _ ((((w.2 c_1).2 c_2).2) x_3 ex_3) hP hD hS (lv_sub hl [] rfl)
def w_X10_beforeOf_22 (Q : Int32 → Prop) (s0_22 : Int32) : Prop :=
  Q s0_22
def w_X10_beforeOf_21 (Q : Int32 → Prop) : Prop :=
  w_X10_beforeOf_22 Q (-1)
def w_X10_beforeOf (p1 : Int32) (v_count : Int32) (v_before : Nat → Int32) (Q : Int32 → Prop) : Prop :=
  ((p1 < 0) → w_X10_beforeOf_21 Q) ∧ ((¬ p1 < 0) → ((v_count ≤ p1) → w_X10_beforeOf_21 Q) ∧ ((¬ v_count ≤ p1) → vp_in p1 256 ∧ ∀ x_3 : Int32, x_3 = v_before p1.toNatClampNeg → w_X10_beforeOf_22 Q x_3))
set_option maxHeartbeats 4000000 in
set_option maxRecDepth 100000 in
theorem mt_X10_beforeOf (l : Launch) (dC : Nat → ClassId) (dI : Nat → Nat → Nat) (h0 h1 h2 h3 h4 h5 h6 h7 h8 h9 h10 h11 h12 h13 h14 h15 h16 : Nat) (k0 : ClassId) (p1 : Int32) (v_there : Bool) (v_count : Int32) (v_captures : Int32) (v_ranges : Int32) (v_before : Nat → Int32) (Q : Int32 → Prop) (w : w_X10_beforeOf p1 v_count v_before Q) (sz : Nat) : Met l yX10_beforeOf (WS yX10_beforeOf cX10_beforeOf 2 (some (.int))) ({ frames := 0, cells := 0, slots := 0, locals := 0 } : Room) (va_Pc [.ref h0, .int p1] (fun U => U.heap.size = sz ∧ va_P (dC, dI) vwCl [(h0, .inr (13, oX10 v_there v_count v_captures v_ranges (.ref h2) (.ref h3) (.ref h4) (.ref h1) (.ref h5) (.ref h6) (.ref h7) (.ref h8) (.ref h9) (.ref h10) (.ref h11) (.ref h12) (.ref h13) (.ref h14) (.ref h15) (.ref h16))), (h1, .inl (k0, 256, .inl v_before))] U.heap ∧ va_K (dC, dI) vwCl [(k0, .int)] U ∧ va_D (fun _ => True) [(h0, .inr (13, oX10 v_there v_count v_captures v_ranges (.ref h2) (.ref h3) (.ref h4) (.ref h1) (.ref h5) (.ref h6) (.ref h7) (.ref h8) (.ref h9) (.ref h10) (.ref h11) (.ref h12) (.ref h13) (.ref h14) (.ref h15) (.ref h16))), (h1, .inl (k0, 256, .inl v_before))])) (va_Qi (fun (r u : Int32) => r = u) (fun (u : Int32) (t : State) => (Q u) ∧ va_P (dC, dI) vwCl [(h0, .inr (13, oX10 v_there v_count v_captures v_ranges (.ref h2) (.ref h3) (.ref h4) (.ref h1) (.ref h5) (.ref h6) (.ref h7) (.ref h8) (.ref h9) (.ref h10) (.ref h11) (.ref h12) (.ref h13) (.ref h14) (.ref h15) (.ref h16))), (h1, .inl (k0, 256, .inl v_before))] t.heap ∧ va_D (va_A [(h0, .inr (13, oX10 v_there v_count v_captures v_ranges (.ref h2) (.ref h3) (.ref h4) (.ref h1) (.ref h5) (.ref h6) (.ref h7) (.ref h8) (.ref h9) (.ref h10) (.ref h11) (.ref h12) (.ref h13) (.ref h14) (.ref h15) (.ref h16))), (h1, .inl (k0, 256, .inl v_before))] sz) [(h0, .inr (13, oX10 v_there v_count v_captures v_ranges (.ref h2) (.ref h3) (.ref h4) (.ref h1) (.ref h5) (.ref h6) (.ref h7) (.ref h8) (.ref h9) (.ref h10) (.ref h11) (.ref h12) (.ref h13) (.ref h14) (.ref h15) (.ref h16))), (h1, .inl (k0, 256, .inl v_before))]) (va_A [(h0, .inr (13, oX10 v_there v_count v_captures v_ranges (.ref h2) (.ref h3) (.ref h4) (.ref h1) (.ref h5) (.ref h6) (.ref h7) (.ref h8) (.ref h9) (.ref h10) (.ref h11) (.ref h12) (.ref h13) (.ref h14) (.ref h15) (.ref h16))), (h1, .inl (k0, 256, .inl v_before))] sz)) 0 0 (va_A [(h0, .inr (13, oX10 v_there v_count v_captures v_ranges (.ref h2) (.ref h3) (.ref h4) (.ref h1) (.ref h5) (.ref h6) (.ref h7) (.ref h8) (.ref h9) (.ref h10) (.ref h11) (.ref h12) (.ref h13) (.ref h14) (.ref h15) (.ref h16))), (h1, .inl (k0, 256, .inl v_before))] sz) := by
  refine Met.ofW (cc := cX10_beforeOf) (maxL := 2) (ret := (some (.int))) (by decide) rfl ?_
  intro p e s m args below meth c s₁ B hml hv
  obtain ⟨rfl, hsz, hP, hK, hD0⟩ := hv
  have hx := B.exec
  have hb := B.bytes
  have hr := B.returns
  have hts := atoms_spec (ws := WS yX10_beforeOf cX10_beforeOf 2 (some (.int))) B.pre
  have ht : ∀ w ∈ TW, w.before _ s = true := fun w h => hts w (List.mem_cons_of_mem _ h)
  have hown : s.vm.findClass "PatternWorkshop$Tree" = some m.cls := findClass_of_methodNamed B.named
  have hlocks := B.notSynchronized
  subst hsz
  have hD := hD0.self (sz := s.heap.size)
  generalize hAe : va_A [(h0, .inr (13, oX10 v_there v_count v_captures v_ranges (.ref h2) (.ref h3) (.ref h4) (.ref h1) (.ref h5) (.ref h6) (.ref h7) (.ref h8) (.ref h9) (.ref h10) (.ref h11) (.ref h12) (.ref h13) (.ref h14) (.ref h15) (.ref h16))), (h1, .inl (k0, 256, .inl v_before))] s.heap.size = A at hD ⊢
  have hA : ∀ q : Nat, s.heap.size ≤ q → A q := fun q h => by rw [← hAe]; exact Or.inr h
  have hS : va_S A s.heap s.heap [] := va_S.rf
  have hP : va_P (dC, dI) vwCl [(h0, .inr (13, oX10 v_there v_count v_captures v_ranges (.ref h2) (.ref h3) (.ref h4) (.ref h1) (.ref h5) (.ref h6) (.ref h7) (.ref h8) (.ref h9) (.ref h10) (.ref h11) (.ref h12) (.ref h13) (.ref h14) (.ref h15) (.ref h16))), (h1, .inl (k0, 256, .inl v_before))] s.heap := hP
  have hl := lv_entry ([.ref h0, .int p1]) (n := 2) (Nat.le_of_ble_eq_true rfl)
  rw [lg_entry_eq]
  generalize (lg_sl ([.ref h0, .int p1]) ++ List.replicate (2 - (lg_sl ([.ref h0, .int p1])).length) Slot.unset).toArray = ls at hl ⊢
  have hl : lv_has ls 2 [(0, .ref h0), (1, .int p1)] := hl
  clear hD0
  obtain ⟨QQ, hQQ⟩ : ∃ QQ, QQ = MQ below (va_Qi (fun (r u : Int32) => r = u) (fun (u : Int32) (t : State) => (Q u) ∧ va_P (dC, dI) vwCl [(h0, .inr (13, oX10 v_there v_count v_captures v_ranges (.ref h2) (.ref h3) (.ref h4) (.ref h1) (.ref h5) (.ref h6) (.ref h7) (.ref h8) (.ref h9) (.ref h10) (.ref h11) (.ref h12) (.ref h13) (.ref h14) (.ref h15) (.ref h16))), (h1, .inl (k0, 256, .inl v_before))] t.heap ∧ va_D A [(h0, .inr (13, oX10 v_there v_count v_captures v_ranges (.ref h2) (.ref h3) (.ref h4) (.ref h1) (.ref h5) (.ref h6) (.ref h7) (.ref h8) (.ref h9) (.ref h10) (.ref h11) (.ref h12) (.ref h13) (.ref h14) (.ref h15) (.ref h16))), (h1, .inl (k0, 256, .inl v_before))]) A) ([.ref h0, .int p1]).toArray s 0 0 A := ⟨_, rfl⟩
  show W p l e ({ frames := 0, cells := 0, slots := 0, locals := 0 } : Room) s m ([.ref h0, .int p1]).toArray below meth c s.heap [] 0 0 (MQ below (va_Qi (fun (r u : Int32) => r = u) (fun (u : Int32) (t : State) => (Q u) ∧ va_P (dC, dI) vwCl [(h0, .inr (13, oX10 v_there v_count v_captures v_ranges (.ref h2) (.ref h3) (.ref h4) (.ref h1) (.ref h5) (.ref h6) (.ref h7) (.ref h8) (.ref h9) (.ref h10) (.ref h11) (.ref h12) (.ref h13) (.ref h14) (.ref h15) (.ref h16))), (h1, .inl (k0, 256, .inl v_before))] t.heap ∧ va_D A [(h0, .inr (13, oX10 v_there v_count v_captures v_ranges (.ref h2) (.ref h3) (.ref h4) (.ref h1) (.ref h5) (.ref h6) (.ref h7) (.ref h8) (.ref h9) (.ref h10) (.ref h11) (.ref h12) (.ref h13) (.ref h14) (.ref h15) (.ref h16))), (h1, .inl (k0, 256, .inl v_before))]) A) ([.ref h0, .int p1]).toArray s 0 0 A) (F0 m 0 ls [])
  rw [← hQQ]
  unfold w_X10_beforeOf at w
  refine lv_iload_n hx hb dX10_beforeOf_0 rfl (lv_at hl 1 rfl) ?_
  have k_22 : ∀ (s0_22 : Int32), ∀ (H_b22 : Heap) (locs_b22 : List Loc) (ls_b22 : Array Slot), w_X10_beforeOf_22 Q s0_22 → va_P (dC, dI) vwCl [(h0, .inr (13, oX10 v_there v_count v_captures v_ranges (.ref h2) (.ref h3) (.ref h4) (.ref h1) (.ref h5) (.ref h6) (.ref h7) (.ref h8) (.ref h9) (.ref h10) (.ref h11) (.ref h12) (.ref h13) (.ref h14) (.ref h15) (.ref h16))), (h1, .inl (k0, 256, .inl v_before))] H_b22 → va_D A [(h0, .inr (13, oX10 v_there v_count v_captures v_ranges (.ref h2) (.ref h3) (.ref h4) (.ref h1) (.ref h5) (.ref h6) (.ref h7) (.ref h8) (.ref h9) (.ref h10) (.ref h11) (.ref h12) (.ref h13) (.ref h14) (.ref h15) (.ref h16))), (h1, .inl (k0, 256, .inl v_before))] → va_S A s.heap H_b22 locs_b22 → lv_has ls_b22 2 [] → W p l e ({ frames := 0, cells := 0, slots := 0, locals := 0 } : Room) s m ([.ref h0, .int p1]).toArray below meth c H_b22 locs_b22 0 0 QQ (F0 m 22 ls_b22 [.int s0_22]) := by
    intro s0_22 H_b22 locs_b22 ls_b22 w_b22 hP_b22 hD_b22 hS_b22 hl_b22
    unfold w_X10_beforeOf_22 at w_b22
    rw [hQQ]
    exact W.iret (v := s0_22) hx hb hr (fun t9 ht9 hW9 => ⟨⟨s0_22, s0_22, rfl, rfl, ⟨w_b22, by rw [ht9]; exact hP_b22, hD_b22⟩⟩, hS_b22.F ht9⟩) hS_b22.2.2 dX10_beforeOf_22
  have k_21 : ∀ (H_b21 : Heap) (locs_b21 : List Loc) (ls_b21 : Array Slot), w_X10_beforeOf_21 Q → va_P (dC, dI) vwCl [(h0, .inr (13, oX10 v_there v_count v_captures v_ranges (.ref h2) (.ref h3) (.ref h4) (.ref h1) (.ref h5) (.ref h6) (.ref h7) (.ref h8) (.ref h9) (.ref h10) (.ref h11) (.ref h12) (.ref h13) (.ref h14) (.ref h15) (.ref h16))), (h1, .inl (k0, 256, .inl v_before))] H_b21 → va_D A [(h0, .inr (13, oX10 v_there v_count v_captures v_ranges (.ref h2) (.ref h3) (.ref h4) (.ref h1) (.ref h5) (.ref h6) (.ref h7) (.ref h8) (.ref h9) (.ref h10) (.ref h11) (.ref h12) (.ref h13) (.ref h14) (.ref h15) (.ref h16))), (h1, .inl (k0, 256, .inl v_before))] → va_S A s.heap H_b21 locs_b21 → lv_has ls_b21 2 [] → W p l e ({ frames := 0, cells := 0, slots := 0, locals := 0 } : Room) s m ([.ref h0, .int p1]).toArray below meth c H_b21 locs_b21 0 0 QQ (F0 m 21 ls_b21 []) := by
    intro  H_b21 locs_b21 ls_b21 w_b21 hP_b21 hD_b21 hS_b21 hl_b21
    unfold w_X10_beforeOf_21 at w_b21
    refine lv_iconst (v := (-1)) hx hb dX10_beforeOf_21 (by decide) ?_
    exact k_22 (-1) _ _ _ w_b21 hP_b21 hD_b21 hS_b21 (lv_sub hl_b21 [] rfl)
  refine lv_if_lt (tgt := 21) hx hb dX10_beforeOf_1 (by decide) (fun c_1 => ?_) (fun c_1 => ?_)
  · exact k_21  _ _ _ (w.1 c_1) hP hD hS (lv_sub hl [] rfl)
  · refine lv_iload_n hx hb dX10_beforeOf_4 rfl (lv_at hl 1 rfl) ?_
    refine lv_aload_n hx hb dX10_beforeOf_5 rfl (lv_at hl 0 rfl) ?_
    refine va_get (D := (dC, dI)) (ci := 13) (v := .int v_count) (C := RX10) (T := TX10) (N := 20) hx hb ht inX10 hown hK hP 0 rfl rfl 1 (by decide) (ht _ tw_319) (fun _ h9 => h9) rfl dX10_beforeOf_6 ?_
    refine lv_icmp_ge (tgt := 21) hx hb dX10_beforeOf_9 (by decide) (fun c_2 => ?_) (fun c_2 => ?_)
    · exact k_21  _ _ _ ((w.2 c_1).1 c_2) hP hD hS (lv_sub hl [] rfl)
    · refine lv_aload_n hx hb dX10_beforeOf_12 rfl (lv_at hl 0 rfl) ?_
      refine va_get (D := (dC, dI)) (ci := 13) (v := .ref h1) (C := RX10) (T := TX10) (N := 20) hx hb ht inX10 hown hK hP 0 rfl rfl 7 (by decide) (ht _ tw_330) (fun _ h9 => h9) rfl dX10_beforeOf_13 ?_
      refine lv_iload_n hx hb dX10_beforeOf_16 rfl (lv_at hl 1 rfl) ?_
      refine va_iald hx hb hK hP 1 0 rfl rfl (i := p1) ((w.2 c_1).2 c_2).1 dX10_beforeOf_17 ?_
      refine lv_topi (fun x_3 ex_3 => ?_)
      have ex_3 : x_3 = v_before p1.toNatClampNeg := ex_3
      refine lv_goto (tgt := 22) hx hb dX10_beforeOf_18 (by decide) ?_
      exact k_22 x_3 _ _ _ ((((w.2 c_1).2 c_2).2) x_3 ex_3) hP hD hS (lv_sub hl [] rfl)
def w_X10_endOf_25 (Q : Int32 → Prop) (s0_25 : Int32) : Prop :=
  Q s0_25
def w_X10_endOf_21 (v_count : Int32) (Q : Int32 → Prop) : Prop :=
  w_X10_endOf_25 Q v_count
def w_X10_endOf (p1 : Int32) (v_count : Int32) (v_end : Nat → Int32) (Q : Int32 → Prop) : Prop :=
  ((p1 < 0) → w_X10_endOf_21 v_count Q) ∧ ((¬ p1 < 0) → ((v_count ≤ p1) → w_X10_endOf_21 v_count Q) ∧ ((¬ v_count ≤ p1) → vp_in p1 256 ∧ ∀ x_3 : Int32, x_3 = v_end p1.toNatClampNeg → w_X10_endOf_25 Q x_3))
set_option maxHeartbeats 4000000 in
set_option maxRecDepth 100000 in
theorem mt_X10_endOf (l : Launch) (dC : Nat → ClassId) (dI : Nat → Nat → Nat) (h0 h1 h2 h3 h4 h5 h6 h7 h8 h9 h10 h11 h12 h13 h14 h15 h16 : Nat) (k0 : ClassId) (p1 : Int32) (v_there : Bool) (v_count : Int32) (v_captures : Int32) (v_ranges : Int32) (v_end : Nat → Int32) (Q : Int32 → Prop) (w : w_X10_endOf p1 v_count v_end Q) (sz : Nat) : Met l yX10_endOf (WS yX10_endOf cX10_endOf 2 (some (.int))) ({ frames := 0, cells := 0, slots := 0, locals := 0 } : Room) (va_Pc [.ref h0, .int p1] (fun U => U.heap.size = sz ∧ va_P (dC, dI) vwCl [(h0, .inr (13, oX10 v_there v_count v_captures v_ranges (.ref h2) (.ref h3) (.ref h1) (.ref h4) (.ref h5) (.ref h6) (.ref h7) (.ref h8) (.ref h9) (.ref h10) (.ref h11) (.ref h12) (.ref h13) (.ref h14) (.ref h15) (.ref h16))), (h1, .inl (k0, 256, .inl v_end))] U.heap ∧ va_K (dC, dI) vwCl [(k0, .int)] U ∧ va_D (fun _ => True) [(h0, .inr (13, oX10 v_there v_count v_captures v_ranges (.ref h2) (.ref h3) (.ref h1) (.ref h4) (.ref h5) (.ref h6) (.ref h7) (.ref h8) (.ref h9) (.ref h10) (.ref h11) (.ref h12) (.ref h13) (.ref h14) (.ref h15) (.ref h16))), (h1, .inl (k0, 256, .inl v_end))])) (va_Qi (fun (r u : Int32) => r = u) (fun (u : Int32) (t : State) => (Q u) ∧ va_P (dC, dI) vwCl [(h0, .inr (13, oX10 v_there v_count v_captures v_ranges (.ref h2) (.ref h3) (.ref h1) (.ref h4) (.ref h5) (.ref h6) (.ref h7) (.ref h8) (.ref h9) (.ref h10) (.ref h11) (.ref h12) (.ref h13) (.ref h14) (.ref h15) (.ref h16))), (h1, .inl (k0, 256, .inl v_end))] t.heap ∧ va_D (va_A [(h0, .inr (13, oX10 v_there v_count v_captures v_ranges (.ref h2) (.ref h3) (.ref h1) (.ref h4) (.ref h5) (.ref h6) (.ref h7) (.ref h8) (.ref h9) (.ref h10) (.ref h11) (.ref h12) (.ref h13) (.ref h14) (.ref h15) (.ref h16))), (h1, .inl (k0, 256, .inl v_end))] sz) [(h0, .inr (13, oX10 v_there v_count v_captures v_ranges (.ref h2) (.ref h3) (.ref h1) (.ref h4) (.ref h5) (.ref h6) (.ref h7) (.ref h8) (.ref h9) (.ref h10) (.ref h11) (.ref h12) (.ref h13) (.ref h14) (.ref h15) (.ref h16))), (h1, .inl (k0, 256, .inl v_end))]) (va_A [(h0, .inr (13, oX10 v_there v_count v_captures v_ranges (.ref h2) (.ref h3) (.ref h1) (.ref h4) (.ref h5) (.ref h6) (.ref h7) (.ref h8) (.ref h9) (.ref h10) (.ref h11) (.ref h12) (.ref h13) (.ref h14) (.ref h15) (.ref h16))), (h1, .inl (k0, 256, .inl v_end))] sz)) 0 0 (va_A [(h0, .inr (13, oX10 v_there v_count v_captures v_ranges (.ref h2) (.ref h3) (.ref h1) (.ref h4) (.ref h5) (.ref h6) (.ref h7) (.ref h8) (.ref h9) (.ref h10) (.ref h11) (.ref h12) (.ref h13) (.ref h14) (.ref h15) (.ref h16))), (h1, .inl (k0, 256, .inl v_end))] sz) := by
  refine Met.ofW (cc := cX10_endOf) (maxL := 2) (ret := (some (.int))) (by decide) rfl ?_
  intro p e s m args below meth c s₁ B hml hv
  obtain ⟨rfl, hsz, hP, hK, hD0⟩ := hv
  have hx := B.exec
  have hb := B.bytes
  have hr := B.returns
  have hts := atoms_spec (ws := WS yX10_endOf cX10_endOf 2 (some (.int))) B.pre
  have ht : ∀ w ∈ TW, w.before _ s = true := fun w h => hts w (List.mem_cons_of_mem _ h)
  have hown : s.vm.findClass "PatternWorkshop$Tree" = some m.cls := findClass_of_methodNamed B.named
  have hlocks := B.notSynchronized
  subst hsz
  have hD := hD0.self (sz := s.heap.size)
  generalize hAe : va_A [(h0, .inr (13, oX10 v_there v_count v_captures v_ranges (.ref h2) (.ref h3) (.ref h1) (.ref h4) (.ref h5) (.ref h6) (.ref h7) (.ref h8) (.ref h9) (.ref h10) (.ref h11) (.ref h12) (.ref h13) (.ref h14) (.ref h15) (.ref h16))), (h1, .inl (k0, 256, .inl v_end))] s.heap.size = A at hD ⊢
  have hA : ∀ q : Nat, s.heap.size ≤ q → A q := fun q h => by rw [← hAe]; exact Or.inr h
  have hS : va_S A s.heap s.heap [] := va_S.rf
  have hP : va_P (dC, dI) vwCl [(h0, .inr (13, oX10 v_there v_count v_captures v_ranges (.ref h2) (.ref h3) (.ref h1) (.ref h4) (.ref h5) (.ref h6) (.ref h7) (.ref h8) (.ref h9) (.ref h10) (.ref h11) (.ref h12) (.ref h13) (.ref h14) (.ref h15) (.ref h16))), (h1, .inl (k0, 256, .inl v_end))] s.heap := hP
  have hl := lv_entry ([.ref h0, .int p1]) (n := 2) (Nat.le_of_ble_eq_true rfl)
  rw [lg_entry_eq]
  generalize (lg_sl ([.ref h0, .int p1]) ++ List.replicate (2 - (lg_sl ([.ref h0, .int p1])).length) Slot.unset).toArray = ls at hl ⊢
  have hl : lv_has ls 2 [(0, .ref h0), (1, .int p1)] := hl
  clear hD0
  obtain ⟨QQ, hQQ⟩ : ∃ QQ, QQ = MQ below (va_Qi (fun (r u : Int32) => r = u) (fun (u : Int32) (t : State) => (Q u) ∧ va_P (dC, dI) vwCl [(h0, .inr (13, oX10 v_there v_count v_captures v_ranges (.ref h2) (.ref h3) (.ref h1) (.ref h4) (.ref h5) (.ref h6) (.ref h7) (.ref h8) (.ref h9) (.ref h10) (.ref h11) (.ref h12) (.ref h13) (.ref h14) (.ref h15) (.ref h16))), (h1, .inl (k0, 256, .inl v_end))] t.heap ∧ va_D A [(h0, .inr (13, oX10 v_there v_count v_captures v_ranges (.ref h2) (.ref h3) (.ref h1) (.ref h4) (.ref h5) (.ref h6) (.ref h7) (.ref h8) (.ref h9) (.ref h10) (.ref h11) (.ref h12) (.ref h13) (.ref h14) (.ref h15) (.ref h16))), (h1, .inl (k0, 256, .inl v_end))]) A) ([.ref h0, .int p1]).toArray s 0 0 A := ⟨_, rfl⟩
  show W p l e ({ frames := 0, cells := 0, slots := 0, locals := 0 } : Room) s m ([.ref h0, .int p1]).toArray below meth c s.heap [] 0 0 (MQ below (va_Qi (fun (r u : Int32) => r = u) (fun (u : Int32) (t : State) => (Q u) ∧ va_P (dC, dI) vwCl [(h0, .inr (13, oX10 v_there v_count v_captures v_ranges (.ref h2) (.ref h3) (.ref h1) (.ref h4) (.ref h5) (.ref h6) (.ref h7) (.ref h8) (.ref h9) (.ref h10) (.ref h11) (.ref h12) (.ref h13) (.ref h14) (.ref h15) (.ref h16))), (h1, .inl (k0, 256, .inl v_end))] t.heap ∧ va_D A [(h0, .inr (13, oX10 v_there v_count v_captures v_ranges (.ref h2) (.ref h3) (.ref h1) (.ref h4) (.ref h5) (.ref h6) (.ref h7) (.ref h8) (.ref h9) (.ref h10) (.ref h11) (.ref h12) (.ref h13) (.ref h14) (.ref h15) (.ref h16))), (h1, .inl (k0, 256, .inl v_end))]) A) ([.ref h0, .int p1]).toArray s 0 0 A) (F0 m 0 ls [])
  rw [← hQQ]
  unfold w_X10_endOf at w
  refine lv_iload_n hx hb dX10_endOf_0 rfl (lv_at hl 1 rfl) ?_
  have k_25 : ∀ (s0_25 : Int32), ∀ (H_b25 : Heap) (locs_b25 : List Loc) (ls_b25 : Array Slot), w_X10_endOf_25 Q s0_25 → va_P (dC, dI) vwCl [(h0, .inr (13, oX10 v_there v_count v_captures v_ranges (.ref h2) (.ref h3) (.ref h1) (.ref h4) (.ref h5) (.ref h6) (.ref h7) (.ref h8) (.ref h9) (.ref h10) (.ref h11) (.ref h12) (.ref h13) (.ref h14) (.ref h15) (.ref h16))), (h1, .inl (k0, 256, .inl v_end))] H_b25 → va_D A [(h0, .inr (13, oX10 v_there v_count v_captures v_ranges (.ref h2) (.ref h3) (.ref h1) (.ref h4) (.ref h5) (.ref h6) (.ref h7) (.ref h8) (.ref h9) (.ref h10) (.ref h11) (.ref h12) (.ref h13) (.ref h14) (.ref h15) (.ref h16))), (h1, .inl (k0, 256, .inl v_end))] → va_S A s.heap H_b25 locs_b25 → lv_has ls_b25 2 [] → W p l e ({ frames := 0, cells := 0, slots := 0, locals := 0 } : Room) s m ([.ref h0, .int p1]).toArray below meth c H_b25 locs_b25 0 0 QQ (F0 m 25 ls_b25 [.int s0_25]) := by
    intro s0_25 H_b25 locs_b25 ls_b25 w_b25 hP_b25 hD_b25 hS_b25 hl_b25
    unfold w_X10_endOf_25 at w_b25
    rw [hQQ]
    exact W.iret (v := s0_25) hx hb hr (fun t9 ht9 hW9 => ⟨⟨s0_25, s0_25, rfl, rfl, ⟨w_b25, by rw [ht9]; exact hP_b25, hD_b25⟩⟩, hS_b25.F ht9⟩) hS_b25.2.2 dX10_endOf_25
  have k_21 : ∀ (H_b21 : Heap) (locs_b21 : List Loc) (ls_b21 : Array Slot), w_X10_endOf_21 v_count Q → va_P (dC, dI) vwCl [(h0, .inr (13, oX10 v_there v_count v_captures v_ranges (.ref h2) (.ref h3) (.ref h1) (.ref h4) (.ref h5) (.ref h6) (.ref h7) (.ref h8) (.ref h9) (.ref h10) (.ref h11) (.ref h12) (.ref h13) (.ref h14) (.ref h15) (.ref h16))), (h1, .inl (k0, 256, .inl v_end))] H_b21 → va_D A [(h0, .inr (13, oX10 v_there v_count v_captures v_ranges (.ref h2) (.ref h3) (.ref h1) (.ref h4) (.ref h5) (.ref h6) (.ref h7) (.ref h8) (.ref h9) (.ref h10) (.ref h11) (.ref h12) (.ref h13) (.ref h14) (.ref h15) (.ref h16))), (h1, .inl (k0, 256, .inl v_end))] → va_S A s.heap H_b21 locs_b21 → lv_has ls_b21 2 [(0, .ref h0)] → W p l e ({ frames := 0, cells := 0, slots := 0, locals := 0 } : Room) s m ([.ref h0, .int p1]).toArray below meth c H_b21 locs_b21 0 0 QQ (F0 m 21 ls_b21 []) := by
    intro  H_b21 locs_b21 ls_b21 w_b21 hP_b21 hD_b21 hS_b21 hl_b21
    unfold w_X10_endOf_21 at w_b21
    refine lv_aload_n hx hb dX10_endOf_21 rfl (lv_at hl_b21 0 rfl) ?_
    refine va_get (D := (dC, dI)) (ci := 13) (v := .int v_count) (C := RX10) (T := TX10) (N := 20) hx hb ht inX10 hown hK hP_b21 0 rfl rfl 1 (by decide) (ht _ tw_319) (fun _ h9 => h9) rfl dX10_endOf_22 ?_
    exact k_25 v_count _ _ _ w_b21 hP_b21 hD_b21 hS_b21 (lv_sub hl_b21 [] rfl)
  refine lv_if_lt (tgt := 21) hx hb dX10_endOf_1 (by decide) (fun c_1 => ?_) (fun c_1 => ?_)
  · exact k_21  _ _ _ (w.1 c_1) hP hD hS (lv_sub hl [0] rfl)
  · refine lv_iload_n hx hb dX10_endOf_4 rfl (lv_at hl 1 rfl) ?_
    refine lv_aload_n hx hb dX10_endOf_5 rfl (lv_at hl 0 rfl) ?_
    refine va_get (D := (dC, dI)) (ci := 13) (v := .int v_count) (C := RX10) (T := TX10) (N := 20) hx hb ht inX10 hown hK hP 0 rfl rfl 1 (by decide) (ht _ tw_319) (fun _ h9 => h9) rfl dX10_endOf_6 ?_
    refine lv_icmp_ge (tgt := 21) hx hb dX10_endOf_9 (by decide) (fun c_2 => ?_) (fun c_2 => ?_)
    · exact k_21  _ _ _ ((w.2 c_1).1 c_2) hP hD hS (lv_sub hl [0] rfl)
    · refine lv_aload_n hx hb dX10_endOf_12 rfl (lv_at hl 0 rfl) ?_
      refine va_get (D := (dC, dI)) (ci := 13) (v := .ref h1) (C := RX10) (T := TX10) (N := 20) hx hb ht inX10 hown hK hP 0 rfl rfl 6 (by decide) (ht _ tw_329) (fun _ h9 => h9) rfl dX10_endOf_13 ?_
      refine lv_iload_n hx hb dX10_endOf_16 rfl (lv_at hl 1 rfl) ?_
      refine va_iald hx hb hK hP 1 0 rfl rfl (i := p1) ((w.2 c_1).2 c_2).1 dX10_endOf_17 ?_
      refine lv_topi (fun x_3 ex_3 => ?_)
      have ex_3 : x_3 = v_end p1.toNatClampNeg := ex_3
      refine lv_goto (tgt := 25) hx hb dX10_endOf_18 (by decide) ?_
      exact k_25 x_3 _ _ _ ((((w.2 c_1).2 c_2).2) x_3 ex_3) hP hD hS (lv_sub hl [] rfl)
def w_X10_isEndless_24 (Q : Int32 → Prop) (s0_24 : Int32) : Prop :=
  (s0_24 = 0 ∨ s0_24 = 1) ∧ Q s0_24
def w_X10_isEndless_23 (Q : Int32 → Prop) : Prop :=
  w_X10_isEndless_24 Q 0
def w_X10_isEndless (p1 : Int32) (v_count : Int32) (v_sort : Nat → Int32) (v_high : Nat → Int32) (Q : Int32 → Prop) : Prop :=
  w_X10_sortOf p1 v_count v_sort (fun r_1 => ((¬ r_1 = 7) → w_X10_isEndless_23 Q) ∧ ((r_1 = 7) → w_X10_highOf p1 v_count v_high (fun r_3 => ((¬ r_3 = (-1)) → w_X10_isEndless_23 Q) ∧ ((r_3 = (-1)) → w_X10_isEndless_24 Q 1))))
set_option maxHeartbeats 4000000 in
set_option maxRecDepth 100000 in
theorem mt_X10_isEndless (l : Launch) (dC : Nat → ClassId) (dI : Nat → Nat → Nat) (h0 h1 h2 h3 h4 h5 h6 h7 h8 h9 h10 h11 h12 h13 h14 h15 h16 : Nat) (k0 k1 : ClassId) (p1 : Int32) (v_there : Bool) (v_count : Int32) (v_captures : Int32) (v_ranges : Int32) (v_sort : Nat → Int32) (v_high : Nat → Int32) (Q : Int32 → Prop) (w : w_X10_isEndless p1 v_count v_sort v_high Q) (sz : Nat) : Met l yX10_isEndless (WS yX10_isEndless cX10_isEndless 2 (some (.boolean))) ({ frames := 1, cells := 0, slots := 0, locals := 21 } : Room) (va_Pc [.ref h0, .int p1] (fun U => U.heap.size = sz ∧ va_P (dC, dI) vwCl [(h0, .inr (13, oX10 v_there v_count v_captures v_ranges (.ref h1) (.ref h3) (.ref h4) (.ref h5) (.ref h6) (.ref h7) (.ref h8) (.ref h9) (.ref h2) (.ref h10) (.ref h11) (.ref h12) (.ref h13) (.ref h14) (.ref h15) (.ref h16))), (h1, .inl (k0, 256, .inl v_sort)), (h2, .inl (k1, 256, .inl v_high))] U.heap ∧ va_K (dC, dI) vwCl [(k0, .int), (k1, .int)] U ∧ va_D (fun _ => True) [(h0, .inr (13, oX10 v_there v_count v_captures v_ranges (.ref h1) (.ref h3) (.ref h4) (.ref h5) (.ref h6) (.ref h7) (.ref h8) (.ref h9) (.ref h2) (.ref h10) (.ref h11) (.ref h12) (.ref h13) (.ref h14) (.ref h15) (.ref h16))), (h1, .inl (k0, 256, .inl v_sort)), (h2, .inl (k1, 256, .inl v_high))])) (va_Qi (fun (r u : Int32) => r = u) (fun (u : Int32) (t : State) => (Q u) ∧ va_P (dC, dI) vwCl [(h0, .inr (13, oX10 v_there v_count v_captures v_ranges (.ref h1) (.ref h3) (.ref h4) (.ref h5) (.ref h6) (.ref h7) (.ref h8) (.ref h9) (.ref h2) (.ref h10) (.ref h11) (.ref h12) (.ref h13) (.ref h14) (.ref h15) (.ref h16))), (h1, .inl (k0, 256, .inl v_sort)), (h2, .inl (k1, 256, .inl v_high))] t.heap ∧ va_D (va_A [(h0, .inr (13, oX10 v_there v_count v_captures v_ranges (.ref h1) (.ref h3) (.ref h4) (.ref h5) (.ref h6) (.ref h7) (.ref h8) (.ref h9) (.ref h2) (.ref h10) (.ref h11) (.ref h12) (.ref h13) (.ref h14) (.ref h15) (.ref h16))), (h1, .inl (k0, 256, .inl v_sort)), (h2, .inl (k1, 256, .inl v_high))] sz) [(h0, .inr (13, oX10 v_there v_count v_captures v_ranges (.ref h1) (.ref h3) (.ref h4) (.ref h5) (.ref h6) (.ref h7) (.ref h8) (.ref h9) (.ref h2) (.ref h10) (.ref h11) (.ref h12) (.ref h13) (.ref h14) (.ref h15) (.ref h16))), (h1, .inl (k0, 256, .inl v_sort)), (h2, .inl (k1, 256, .inl v_high))]) (va_A [(h0, .inr (13, oX10 v_there v_count v_captures v_ranges (.ref h1) (.ref h3) (.ref h4) (.ref h5) (.ref h6) (.ref h7) (.ref h8) (.ref h9) (.ref h2) (.ref h10) (.ref h11) (.ref h12) (.ref h13) (.ref h14) (.ref h15) (.ref h16))), (h1, .inl (k0, 256, .inl v_sort)), (h2, .inl (k1, 256, .inl v_high))] sz)) 0 0 (va_A [(h0, .inr (13, oX10 v_there v_count v_captures v_ranges (.ref h1) (.ref h3) (.ref h4) (.ref h5) (.ref h6) (.ref h7) (.ref h8) (.ref h9) (.ref h2) (.ref h10) (.ref h11) (.ref h12) (.ref h13) (.ref h14) (.ref h15) (.ref h16))), (h1, .inl (k0, 256, .inl v_sort)), (h2, .inl (k1, 256, .inl v_high))] sz) := by
  refine Met.ofW (cc := cX10_isEndless) (maxL := 2) (ret := (some (.boolean))) (by decide) rfl ?_
  intro p e s m args below meth c s₁ B hml hv
  obtain ⟨rfl, hsz, hP, hK, hD0⟩ := hv
  have hx := B.exec
  have hb := B.bytes
  have hr := B.returns
  have hts := atoms_spec (ws := WS yX10_isEndless cX10_isEndless 2 (some (.boolean))) B.pre
  have ht : ∀ w ∈ TW, w.before _ s = true := fun w h => hts w (List.mem_cons_of_mem _ h)
  have hown : s.vm.findClass "PatternWorkshop$Tree" = some m.cls := findClass_of_methodNamed B.named
  have hlocks := B.notSynchronized
  subst hsz
  have hD := hD0.self (sz := s.heap.size)
  generalize hAe : va_A [(h0, .inr (13, oX10 v_there v_count v_captures v_ranges (.ref h1) (.ref h3) (.ref h4) (.ref h5) (.ref h6) (.ref h7) (.ref h8) (.ref h9) (.ref h2) (.ref h10) (.ref h11) (.ref h12) (.ref h13) (.ref h14) (.ref h15) (.ref h16))), (h1, .inl (k0, 256, .inl v_sort)), (h2, .inl (k1, 256, .inl v_high))] s.heap.size = A at hD ⊢
  have hA : ∀ q : Nat, s.heap.size ≤ q → A q := fun q h => by rw [← hAe]; exact Or.inr h
  have hS : va_S A s.heap s.heap [] := va_S.rf
  have hP : va_P (dC, dI) vwCl [(h0, .inr (13, oX10 v_there v_count v_captures v_ranges (.ref h1) (.ref h3) (.ref h4) (.ref h5) (.ref h6) (.ref h7) (.ref h8) (.ref h9) (.ref h2) (.ref h10) (.ref h11) (.ref h12) (.ref h13) (.ref h14) (.ref h15) (.ref h16))), (h1, .inl (k0, 256, .inl v_sort)), (h2, .inl (k1, 256, .inl v_high))] s.heap := hP
  have hl := lv_entry ([.ref h0, .int p1]) (n := 2) (Nat.le_of_ble_eq_true rfl)
  rw [lg_entry_eq]
  generalize (lg_sl ([.ref h0, .int p1]) ++ List.replicate (2 - (lg_sl ([.ref h0, .int p1])).length) Slot.unset).toArray = ls at hl ⊢
  have hl : lv_has ls 2 [(0, .ref h0), (1, .int p1)] := hl
  clear hD0
  obtain ⟨QQ, hQQ⟩ : ∃ QQ, QQ = MQ below (va_Qi (fun (r u : Int32) => r = u) (fun (u : Int32) (t : State) => (Q u) ∧ va_P (dC, dI) vwCl [(h0, .inr (13, oX10 v_there v_count v_captures v_ranges (.ref h1) (.ref h3) (.ref h4) (.ref h5) (.ref h6) (.ref h7) (.ref h8) (.ref h9) (.ref h2) (.ref h10) (.ref h11) (.ref h12) (.ref h13) (.ref h14) (.ref h15) (.ref h16))), (h1, .inl (k0, 256, .inl v_sort)), (h2, .inl (k1, 256, .inl v_high))] t.heap ∧ va_D A [(h0, .inr (13, oX10 v_there v_count v_captures v_ranges (.ref h1) (.ref h3) (.ref h4) (.ref h5) (.ref h6) (.ref h7) (.ref h8) (.ref h9) (.ref h2) (.ref h10) (.ref h11) (.ref h12) (.ref h13) (.ref h14) (.ref h15) (.ref h16))), (h1, .inl (k0, 256, .inl v_sort)), (h2, .inl (k1, 256, .inl v_high))]) A) ([.ref h0, .int p1]).toArray s 0 0 A := ⟨_, rfl⟩
  show W p l e ({ frames := 1, cells := 0, slots := 0, locals := 21 } : Room) s m ([.ref h0, .int p1]).toArray below meth c s.heap [] 0 0 (MQ below (va_Qi (fun (r u : Int32) => r = u) (fun (u : Int32) (t : State) => (Q u) ∧ va_P (dC, dI) vwCl [(h0, .inr (13, oX10 v_there v_count v_captures v_ranges (.ref h1) (.ref h3) (.ref h4) (.ref h5) (.ref h6) (.ref h7) (.ref h8) (.ref h9) (.ref h2) (.ref h10) (.ref h11) (.ref h12) (.ref h13) (.ref h14) (.ref h15) (.ref h16))), (h1, .inl (k0, 256, .inl v_sort)), (h2, .inl (k1, 256, .inl v_high))] t.heap ∧ va_D A [(h0, .inr (13, oX10 v_there v_count v_captures v_ranges (.ref h1) (.ref h3) (.ref h4) (.ref h5) (.ref h6) (.ref h7) (.ref h8) (.ref h9) (.ref h2) (.ref h10) (.ref h11) (.ref h12) (.ref h13) (.ref h14) (.ref h15) (.ref h16))), (h1, .inl (k0, 256, .inl v_sort)), (h2, .inl (k1, 256, .inl v_high))]) A) ([.ref h0, .int p1]).toArray s 0 0 A) (F0 m 0 ls [])
  rw [← hQQ]
  unfold w_X10_isEndless at w
  refine lv_aload_n hx hb dX10_isEndless_0 rfl (lv_at hl 0 rfl) ?_
  refine lv_iload_n hx hb dX10_isEndless_1 rfl (lv_at hl 1 rfl) ?_
  have hPc_1 := vaPq hP (wsq := [(h0, .inr (13, oX10 v_there v_count v_captures v_ranges (.ref h1) (.ref h3) (.ref h4) (.ref h5) (.ref h6) (.ref h7) (.ref h8) (.ref h9) (.ref h2) (.ref h10) (.ref h11) (.ref h12) (.ref h13) (.ref h14) (.ref h15) (.ref h16))), (h1, .inl (k0, 256, .inl v_sort))]) [0, 1] rfl
  have hDc_1 := vaDq hD (wsq := [(h0, .inr (13, oX10 v_there v_count v_captures v_ranges (.ref h1) (.ref h3) (.ref h4) (.ref h5) (.ref h6) (.ref h7) (.ref h8) (.ref h9) (.ref h2) (.ref h10) (.ref h11) (.ref h12) (.ref h13) (.ref h14) (.ref h15) (.ref h16))), (h1, .inl (k0, 256, .inl v_sort))]) [0, 1] (by decide) rfl
  have hKc_1 := vaKq hK (tysq := [(k0, .int)]) [0] rfl
  have hFc_1 := va_free (wc := [(h0, .inr (13, oX10 v_there v_count v_captures v_ranges (.ref h1) (.ref h3) (.ref h4) (.ref h5) (.ref h6) (.ref h7) (.ref h8) (.ref h9) (.ref h2) (.ref h10) (.ref h11) (.ref h12) (.ref h13) (.ref h14) (.ref h15) (.ref h16))), (h1, .inl (k0, 256, .inl v_sort))]) hD hS hA [0, 1] rfl
  refine va_calli (va_runV (As := [.int p1]) (rest := []) ⟨hx, hb, hml, hown, ht⟩ (mt_X10_sortOf l dC dI h0 h1 h3 h4 h5 h6 h7 h8 h9 h2 h10 h11 h12 h13 h14 h15 h16 k0 p1 v_there v_count v_captures v_ranges v_sort _ w s.heap.size) (cwV 1 ht (goodV tw_1101 tw_1102 tw_1103 tw_240 gw_X10_sortOf) rfl rfl rfl (by decide +kernel) ⟨Nat.le_of_ble_eq_true rfl, Nat.le_of_ble_eq_true rfl⟩) ⟨fun a U g mk q => by obtain ⟨q0, q1, qP, qK, qD⟩ := q; exact ⟨q0, q1, qP, va_K.moved (u := U) (U := U.calling g mk a) (Vm.Alike.refl U.vm) qK, qD⟩, va_recv hKc_1 hPc_1 (ci := 13) (q0 := 0) rfl rfl, fun U hU hW => ⟨rfl, by rw [hU], by rw [hU]; exact hPc_1, va_K.moved hW.alike hKc_1, hDc_1.weaken (fun _ _ _ _ => trivial)⟩⟩ rfl rfl hl.1 rfl (lv_room (Nat.le_of_ble_eq_true rfl)) dX10_isEndless_2 ⟨Nat.le_of_ble_eq_true rfl, Nat.le_of_ble_eq_true rfl⟩) hS (fun q _ h => hFc_1 q h) hFc_1 (fun r_1 u_1 t_1 H_1 locs_1 ht_1 hvm_1 hw_1 hB_1 hz_1 hk_1 hS_1 => ?_)
  subst hw_1
  obtain ⟨w_1, hP1_1, hD1_1⟩ := hB_1
  rw [ht_1] at hP1_1
  obtain ⟨hP_1, hD_1⟩ := va_join (wr := [(h2, .inl (k1, 256, .inl v_high))]) (w1 := [(h0, .inr (13, oX10 v_there v_count v_captures v_ranges (.ref h1) (.ref h3) (.ref h4) (.ref h5) (.ref h6) (.ref h7) (.ref h8) (.ref h9) (.ref h2) (.ref h10) (.ref h11) (.ref h12) (.ref h13) (.ref h14) (.ref h15) (.ref h16))), (h1, .inl (k0, 256, .inl v_sort))]) hP hD [0, 1] [2] rfl rfl (by decide) (by decide) hk_1 hFc_1 hP1_1 hD1_1
  have hP_1 := vaPq hP_1 (wsq := [(h0, .inr (13, oX10 v_there v_count v_captures v_ranges (.ref h1) (.ref h3) (.ref h4) (.ref h5) (.ref h6) (.ref h7) (.ref h8) (.ref h9) (.ref h2) (.ref h10) (.ref h11) (.ref h12) (.ref h13) (.ref h14) (.ref h15) (.ref h16))), (h1, .inl (k0, 256, .inl v_sort)), (h2, .inl (k1, 256, .inl v_high))]) [1, 2, 0] rfl
  have hD_1 := vaDq hD_1 (wsq := [(h0, .inr (13, oX10 v_there v_count v_captures v_ranges (.ref h1) (.ref h3) (.ref h4) (.ref h5) (.ref h6) (.ref h7) (.ref h8) (.ref h9) (.ref h2) (.ref h10) (.ref h11) (.ref h12) (.ref h13) (.ref h14) (.ref h15) (.ref h16))), (h1, .inl (k0, 256, .inl v_sort)), (h2, .inl (k1, 256, .inl v_high))]) [1, 2, 0] (by decide) rfl
  clear hPc_1 hDc_1 hKc_1 hFc_1 hP1_1 hD1_1 hk_1 hz_1
  refine lv_bipush (v := 7) hx hb dX10_isEndless_5 (by decide) ?_
  have k_24 : ∀ (s0_24 : Int32), ∀ (H_b24 : Heap) (locs_b24 : List Loc) (ls_b24 : Array Slot), w_X10_isEndless_24 Q s0_24 → va_P (dC, dI) vwCl [(h0, .inr (13, oX10 v_there v_count v_captures v_ranges (.ref h1) (.ref h3) (.ref h4) (.ref h5) (.ref h6) (.ref h7) (.ref h8) (.ref h9) (.ref h2) (.ref h10) (.ref h11) (.ref h12) (.ref h13) (.ref h14) (.ref h15) (.ref h16))), (h1, .inl (k0, 256, .inl v_sort)), (h2, .inl (k1, 256, .inl v_high))] H_b24 → va_D A [(h0, .inr (13, oX10 v_there v_count v_captures v_ranges (.ref h1) (.ref h3) (.ref h4) (.ref h5) (.ref h6) (.ref h7) (.ref h8) (.ref h9) (.ref h2) (.ref h10) (.ref h11) (.ref h12) (.ref h13) (.ref h14) (.ref h15) (.ref h16))), (h1, .inl (k0, 256, .inl v_sort)), (h2, .inl (k1, 256, .inl v_high))] → va_S A s.heap H_b24 locs_b24 → lv_has ls_b24 2 [] → W p l e ({ frames := 1, cells := 0, slots := 0, locals := 21 } : Room) s m ([.ref h0, .int p1]).toArray below meth c H_b24 locs_b24 0 0 QQ (F0 m 24 ls_b24 [.int s0_24]) := by
    intro s0_24 H_b24 locs_b24 ls_b24 w_b24 hP_b24 hD_b24 hS_b24 hl_b24
    unfold w_X10_isEndless_24 at w_b24
    rw [hQQ]
    exact W.zret (v := s0_24) hx hb hr (or_nar w_b24.1) (fun t9 ht9 hW9 => ⟨⟨s0_24, s0_24, rfl, rfl, ⟨w_b24.2, by rw [ht9]; exact hP_b24, hD_b24⟩⟩, hS_b24.F ht9⟩) hS_b24.2.2 dX10_isEndless_24
  have k_23 : ∀ (H_b23 : Heap) (locs_b23 : List Loc) (ls_b23 : Array Slot), w_X10_isEndless_23 Q → va_P (dC, dI) vwCl [(h0, .inr (13, oX10 v_there v_count v_captures v_ranges (.ref h1) (.ref h3) (.ref h4) (.ref h5) (.ref h6) (.ref h7) (.ref h8) (.ref h9) (.ref h2) (.ref h10) (.ref h11) (.ref h12) (.ref h13) (.ref h14) (.ref h15) (.ref h16))), (h1, .inl (k0, 256, .inl v_sort)), (h2, .inl (k1, 256, .inl v_high))] H_b23 → va_D A [(h0, .inr (13, oX10 v_there v_count v_captures v_ranges (.ref h1) (.ref h3) (.ref h4) (.ref h5) (.ref h6) (.ref h7) (.ref h8) (.ref h9) (.ref h2) (.ref h10) (.ref h11) (.ref h12) (.ref h13) (.ref h14) (.ref h15) (.ref h16))), (h1, .inl (k0, 256, .inl v_sort)), (h2, .inl (k1, 256, .inl v_high))] → va_S A s.heap H_b23 locs_b23 → lv_has ls_b23 2 [] → W p l e ({ frames := 1, cells := 0, slots := 0, locals := 21 } : Room) s m ([.ref h0, .int p1]).toArray below meth c H_b23 locs_b23 0 0 QQ (F0 m 23 ls_b23 []) := by
    intro  H_b23 locs_b23 ls_b23 w_b23 hP_b23 hD_b23 hS_b23 hl_b23
    unfold w_X10_isEndless_23 at w_b23
    refine lv_iconst (v := 0) hx hb dX10_isEndless_23 (by decide) ?_
    exact k_24 0 _ _ _ w_b23 hP_b23 hD_b23 hS_b23 (lv_sub hl_b23 [] rfl)
  refine lv_icmp_ne (tgt := 23) hx hb dX10_isEndless_7 (by decide) (fun c_2 => ?_) (fun c_2 => ?_)
  · exact k_23  _ _ _ (w_1.1 c_2) hP_1 hD_1 hS_1 (lv_sub hl [] rfl)
  · refine lv_aload_n hx hb dX10_isEndless_10 rfl (lv_at hl 0 rfl) ?_
    refine lv_iload_n hx hb dX10_isEndless_11 rfl (lv_at hl 1 rfl) ?_
    have hPc_3 := vaPq hP_1 (wsq := [(h0, .inr (13, oX10 v_there v_count v_captures v_ranges (.ref h1) (.ref h3) (.ref h4) (.ref h5) (.ref h6) (.ref h7) (.ref h8) (.ref h9) (.ref h2) (.ref h10) (.ref h11) (.ref h12) (.ref h13) (.ref h14) (.ref h15) (.ref h16))), (h2, .inl (k1, 256, .inl v_high))]) [0, 2] rfl
    have hDc_3 := vaDq hD_1 (wsq := [(h0, .inr (13, oX10 v_there v_count v_captures v_ranges (.ref h1) (.ref h3) (.ref h4) (.ref h5) (.ref h6) (.ref h7) (.ref h8) (.ref h9) (.ref h2) (.ref h10) (.ref h11) (.ref h12) (.ref h13) (.ref h14) (.ref h15) (.ref h16))), (h2, .inl (k1, 256, .inl v_high))]) [0, 2] (by decide) rfl
    have hKc_3 := vaKq hK (tysq := [(k1, .int)]) [1] rfl
    have hFc_3 := va_free (wc := [(h0, .inr (13, oX10 v_there v_count v_captures v_ranges (.ref h1) (.ref h3) (.ref h4) (.ref h5) (.ref h6) (.ref h7) (.ref h8) (.ref h9) (.ref h2) (.ref h10) (.ref h11) (.ref h12) (.ref h13) (.ref h14) (.ref h15) (.ref h16))), (h2, .inl (k1, 256, .inl v_high))]) hD_1 hS_1 hA [0, 2] rfl
    refine va_calli (va_runV (As := [.int p1]) (rest := []) ⟨hx, hb, hml, hown, ht⟩ (mt_X10_highOf l dC dI h0 h2 h1 h3 h4 h5 h6 h7 h8 h9 h10 h11 h12 h13 h14 h15 h16 k1 p1 v_there v_count v_captures v_ranges v_high _ (w_1.2 c_2) H_1.size) (cwV 1 ht (goodV tw_1105 tw_1106 tw_1107 tw_240 gw_X10_highOf) rfl rfl rfl (by decide +kernel) ⟨Nat.le_of_ble_eq_true rfl, Nat.le_of_ble_eq_true rfl⟩) ⟨fun a U g mk q => by obtain ⟨q0, q1, qP, qK, qD⟩ := q; exact ⟨q0, q1, qP, va_K.moved (u := U) (U := U.calling g mk a) (Vm.Alike.refl U.vm) qK, qD⟩, va_recv hKc_3 hPc_3 (ci := 13) (q0 := 0) rfl rfl, fun U hU hW => ⟨rfl, by rw [hU], by rw [hU]; exact hPc_3, va_K.moved hW.alike hKc_3, hDc_3.weaken (fun _ _ _ _ => trivial)⟩⟩ rfl rfl hl.1 rfl (lv_room (Nat.le_of_ble_eq_true rfl)) dX10_isEndless_12 ⟨Nat.le_of_ble_eq_true rfl, Nat.le_of_ble_eq_true rfl⟩) hS_1 (fun q _ h => hFc_3 q h) hFc_3 (fun r_3 u_3 t_3 H_3 locs_3 ht_3 hvm_3 hw_3 hB_3 hz_3 hk_3 hS_3 => ?_)
    subst hw_3
    obtain ⟨w_3, hP1_3, hD1_3⟩ := hB_3
    rw [ht_3] at hP1_3
    obtain ⟨hP_3, hD_3⟩ := va_join (wr := [(h1, .inl (k0, 256, .inl v_sort))]) (w1 := [(h0, .inr (13, oX10 v_there v_count v_captures v_ranges (.ref h1) (.ref h3) (.ref h4) (.ref h5) (.ref h6) (.ref h7) (.ref h8) (.ref h9) (.ref h2) (.ref h10) (.ref h11) (.ref h12) (.ref h13) (.ref h14) (.ref h15) (.ref h16))), (h2, .inl (k1, 256, .inl v_high))]) hP_1 hD_1 [0, 2] [1] rfl rfl (by decide) (by decide) hk_3 hFc_3 hP1_3 hD1_3
    have hP_3 := vaPq hP_3 (wsq := [(h0, .inr (13, oX10 v_there v_count v_captures v_ranges (.ref h1) (.ref h3) (.ref h4) (.ref h5) (.ref h6) (.ref h7) (.ref h8) (.ref h9) (.ref h2) (.ref h10) (.ref h11) (.ref h12) (.ref h13) (.ref h14) (.ref h15) (.ref h16))), (h1, .inl (k0, 256, .inl v_sort)), (h2, .inl (k1, 256, .inl v_high))]) [1, 0, 2] rfl
    have hD_3 := vaDq hD_3 (wsq := [(h0, .inr (13, oX10 v_there v_count v_captures v_ranges (.ref h1) (.ref h3) (.ref h4) (.ref h5) (.ref h6) (.ref h7) (.ref h8) (.ref h9) (.ref h2) (.ref h10) (.ref h11) (.ref h12) (.ref h13) (.ref h14) (.ref h15) (.ref h16))), (h1, .inl (k0, 256, .inl v_sort)), (h2, .inl (k1, 256, .inl v_high))]) [1, 0, 2] (by decide) rfl
    clear hPc_3 hDc_3 hKc_3 hFc_3 hP1_3 hD1_3 hk_3 hz_3
    refine lv_iconst (v := (-1)) hx hb dX10_isEndless_15 (by decide) ?_
    refine lv_icmp_ne (tgt := 23) hx hb dX10_isEndless_16 (by decide) (fun c_4 => ?_) (fun c_4 => ?_)
    · exact k_23  _ _ _ (w_3.1 c_4) hP_3 hD_3 hS_3 (lv_sub hl [] rfl)
    · refine lv_iconst (v := 1) hx hb dX10_isEndless_19 (by decide) ?_
      refine lv_goto (tgt := 24) hx hb dX10_isEndless_20 (by decide) ?_
      exact k_24 1 _ _ _ (w_3.2 c_4) hP_3 hD_3 hS_3 (lv_sub hl [] rfl)
def w_X10_isWithinCase_26 (Q : Int32 → Prop) (s0_26 : Int32) : Prop :=
  (s0_26 = 0 ∨ s0_26 = 1) ∧ Q s0_26
def w_X10_isWithinCase_25 (Q : Int32 → Prop) : Prop :=
  w_X10_isWithinCase_26 Q 0
def w_X10_isWithinCase (p1 : Int32) (v_count : Int32) (v_withinCase : Nat → Bool) (Q : Int32 → Prop) : Prop :=
  ((p1 < 0) → w_X10_isWithinCase_25 Q) ∧ ((¬ p1 < 0) → ((v_count ≤ p1) → w_X10_isWithinCase_25 Q) ∧ ((¬ v_count ≤ p1) → vp_in p1 256 ∧ ∀ x_3 : Int32, x_3 = bz (v_withinCase p1.toNatClampNeg) → ((x_3 = 0) → w_X10_isWithinCase_25 Q) ∧ ((¬ x_3 = 0) → w_X10_isWithinCase_26 Q 1)))
set_option maxHeartbeats 4000000 in
set_option maxRecDepth 100000 in
theorem mt_X10_isWithinCase (l : Launch) (dC : Nat → ClassId) (dI : Nat → Nat → Nat) (h0 h1 h2 h3 h4 h5 h6 h7 h8 h9 h10 h11 h12 h13 h14 h15 h16 : Nat) (k0 : ClassId) (p1 : Int32) (v_there : Bool) (v_count : Int32) (v_captures : Int32) (v_ranges : Int32) (v_withinCase : Nat → Bool) (Q : Int32 → Prop) (w : w_X10_isWithinCase p1 v_count v_withinCase Q) (sz : Nat) : Met l yX10_isWithinCase (WS yX10_isWithinCase cX10_isWithinCase 2 (some (.boolean))) ({ frames := 0, cells := 0, slots := 0, locals := 0 } : Room) (va_Pc [.ref h0, .int p1] (fun U => U.heap.size = sz ∧ va_P (dC, dI) vwCl [(h0, .inr (13, oX10 v_there v_count v_captures v_ranges (.ref h2) (.ref h3) (.ref h4) (.ref h5) (.ref h6) (.ref h7) (.ref h8) (.ref h9) (.ref h10) (.ref h11) (.ref h12) (.ref h13) (.ref h1) (.ref h14) (.ref h15) (.ref h16))), (h1, .inl (k0, 256, .inl (fun q9 => bz (v_withinCase q9))))] U.heap ∧ va_K (dC, dI) vwCl [(k0, .boolean)] U ∧ va_D (fun _ => True) [(h0, .inr (13, oX10 v_there v_count v_captures v_ranges (.ref h2) (.ref h3) (.ref h4) (.ref h5) (.ref h6) (.ref h7) (.ref h8) (.ref h9) (.ref h10) (.ref h11) (.ref h12) (.ref h13) (.ref h1) (.ref h14) (.ref h15) (.ref h16))), (h1, .inl (k0, 256, .inl (fun q9 => bz (v_withinCase q9))))])) (va_Qi (fun (r u : Int32) => r = u) (fun (u : Int32) (t : State) => (Q u) ∧ va_P (dC, dI) vwCl [(h0, .inr (13, oX10 v_there v_count v_captures v_ranges (.ref h2) (.ref h3) (.ref h4) (.ref h5) (.ref h6) (.ref h7) (.ref h8) (.ref h9) (.ref h10) (.ref h11) (.ref h12) (.ref h13) (.ref h1) (.ref h14) (.ref h15) (.ref h16))), (h1, .inl (k0, 256, .inl (fun q9 => bz (v_withinCase q9))))] t.heap ∧ va_D (va_A [(h0, .inr (13, oX10 v_there v_count v_captures v_ranges (.ref h2) (.ref h3) (.ref h4) (.ref h5) (.ref h6) (.ref h7) (.ref h8) (.ref h9) (.ref h10) (.ref h11) (.ref h12) (.ref h13) (.ref h1) (.ref h14) (.ref h15) (.ref h16))), (h1, .inl (k0, 256, .inl (fun q9 => bz (v_withinCase q9))))] sz) [(h0, .inr (13, oX10 v_there v_count v_captures v_ranges (.ref h2) (.ref h3) (.ref h4) (.ref h5) (.ref h6) (.ref h7) (.ref h8) (.ref h9) (.ref h10) (.ref h11) (.ref h12) (.ref h13) (.ref h1) (.ref h14) (.ref h15) (.ref h16))), (h1, .inl (k0, 256, .inl (fun q9 => bz (v_withinCase q9))))]) (va_A [(h0, .inr (13, oX10 v_there v_count v_captures v_ranges (.ref h2) (.ref h3) (.ref h4) (.ref h5) (.ref h6) (.ref h7) (.ref h8) (.ref h9) (.ref h10) (.ref h11) (.ref h12) (.ref h13) (.ref h1) (.ref h14) (.ref h15) (.ref h16))), (h1, .inl (k0, 256, .inl (fun q9 => bz (v_withinCase q9))))] sz)) 0 0 (va_A [(h0, .inr (13, oX10 v_there v_count v_captures v_ranges (.ref h2) (.ref h3) (.ref h4) (.ref h5) (.ref h6) (.ref h7) (.ref h8) (.ref h9) (.ref h10) (.ref h11) (.ref h12) (.ref h13) (.ref h1) (.ref h14) (.ref h15) (.ref h16))), (h1, .inl (k0, 256, .inl (fun q9 => bz (v_withinCase q9))))] sz) := by
  refine Met.ofW (cc := cX10_isWithinCase) (maxL := 2) (ret := (some (.boolean))) (by decide) rfl ?_
  intro p e s m args below meth c s₁ B hml hv
  obtain ⟨rfl, hsz, hP, hK, hD0⟩ := hv
  have hx := B.exec
  have hb := B.bytes
  have hr := B.returns
  have hts := atoms_spec (ws := WS yX10_isWithinCase cX10_isWithinCase 2 (some (.boolean))) B.pre
  have ht : ∀ w ∈ TW, w.before _ s = true := fun w h => hts w (List.mem_cons_of_mem _ h)
  have hown : s.vm.findClass "PatternWorkshop$Tree" = some m.cls := findClass_of_methodNamed B.named
  have hlocks := B.notSynchronized
  subst hsz
  have hD := hD0.self (sz := s.heap.size)
  generalize hAe : va_A [(h0, .inr (13, oX10 v_there v_count v_captures v_ranges (.ref h2) (.ref h3) (.ref h4) (.ref h5) (.ref h6) (.ref h7) (.ref h8) (.ref h9) (.ref h10) (.ref h11) (.ref h12) (.ref h13) (.ref h1) (.ref h14) (.ref h15) (.ref h16))), (h1, .inl (k0, 256, .inl (fun q9 => bz (v_withinCase q9))))] s.heap.size = A at hD ⊢
  have hA : ∀ q : Nat, s.heap.size ≤ q → A q := fun q h => by rw [← hAe]; exact Or.inr h
  have hS : va_S A s.heap s.heap [] := va_S.rf
  have hP : va_P (dC, dI) vwCl [(h0, .inr (13, oX10 v_there v_count v_captures v_ranges (.ref h2) (.ref h3) (.ref h4) (.ref h5) (.ref h6) (.ref h7) (.ref h8) (.ref h9) (.ref h10) (.ref h11) (.ref h12) (.ref h13) (.ref h1) (.ref h14) (.ref h15) (.ref h16))), (h1, .inl (k0, 256, .inl (fun q9 => bz (v_withinCase q9))))] s.heap := hP
  have hl := lv_entry ([.ref h0, .int p1]) (n := 2) (Nat.le_of_ble_eq_true rfl)
  rw [lg_entry_eq]
  generalize (lg_sl ([.ref h0, .int p1]) ++ List.replicate (2 - (lg_sl ([.ref h0, .int p1])).length) Slot.unset).toArray = ls at hl ⊢
  have hl : lv_has ls 2 [(0, .ref h0), (1, .int p1)] := hl
  clear hD0
  obtain ⟨QQ, hQQ⟩ : ∃ QQ, QQ = MQ below (va_Qi (fun (r u : Int32) => r = u) (fun (u : Int32) (t : State) => (Q u) ∧ va_P (dC, dI) vwCl [(h0, .inr (13, oX10 v_there v_count v_captures v_ranges (.ref h2) (.ref h3) (.ref h4) (.ref h5) (.ref h6) (.ref h7) (.ref h8) (.ref h9) (.ref h10) (.ref h11) (.ref h12) (.ref h13) (.ref h1) (.ref h14) (.ref h15) (.ref h16))), (h1, .inl (k0, 256, .inl (fun q9 => bz (v_withinCase q9))))] t.heap ∧ va_D A [(h0, .inr (13, oX10 v_there v_count v_captures v_ranges (.ref h2) (.ref h3) (.ref h4) (.ref h5) (.ref h6) (.ref h7) (.ref h8) (.ref h9) (.ref h10) (.ref h11) (.ref h12) (.ref h13) (.ref h1) (.ref h14) (.ref h15) (.ref h16))), (h1, .inl (k0, 256, .inl (fun q9 => bz (v_withinCase q9))))]) A) ([.ref h0, .int p1]).toArray s 0 0 A := ⟨_, rfl⟩
  show W p l e ({ frames := 0, cells := 0, slots := 0, locals := 0 } : Room) s m ([.ref h0, .int p1]).toArray below meth c s.heap [] 0 0 (MQ below (va_Qi (fun (r u : Int32) => r = u) (fun (u : Int32) (t : State) => (Q u) ∧ va_P (dC, dI) vwCl [(h0, .inr (13, oX10 v_there v_count v_captures v_ranges (.ref h2) (.ref h3) (.ref h4) (.ref h5) (.ref h6) (.ref h7) (.ref h8) (.ref h9) (.ref h10) (.ref h11) (.ref h12) (.ref h13) (.ref h1) (.ref h14) (.ref h15) (.ref h16))), (h1, .inl (k0, 256, .inl (fun q9 => bz (v_withinCase q9))))] t.heap ∧ va_D A [(h0, .inr (13, oX10 v_there v_count v_captures v_ranges (.ref h2) (.ref h3) (.ref h4) (.ref h5) (.ref h6) (.ref h7) (.ref h8) (.ref h9) (.ref h10) (.ref h11) (.ref h12) (.ref h13) (.ref h1) (.ref h14) (.ref h15) (.ref h16))), (h1, .inl (k0, 256, .inl (fun q9 => bz (v_withinCase q9))))]) A) ([.ref h0, .int p1]).toArray s 0 0 A) (F0 m 0 ls [])
  rw [← hQQ]
  unfold w_X10_isWithinCase at w
  refine lv_iload_n hx hb dX10_isWithinCase_0 rfl (lv_at hl 1 rfl) ?_
  have k_26 : ∀ (s0_26 : Int32), ∀ (H_b26 : Heap) (locs_b26 : List Loc) (ls_b26 : Array Slot), w_X10_isWithinCase_26 Q s0_26 → va_P (dC, dI) vwCl [(h0, .inr (13, oX10 v_there v_count v_captures v_ranges (.ref h2) (.ref h3) (.ref h4) (.ref h5) (.ref h6) (.ref h7) (.ref h8) (.ref h9) (.ref h10) (.ref h11) (.ref h12) (.ref h13) (.ref h1) (.ref h14) (.ref h15) (.ref h16))), (h1, .inl (k0, 256, .inl (fun q9 => bz (v_withinCase q9))))] H_b26 → va_D A [(h0, .inr (13, oX10 v_there v_count v_captures v_ranges (.ref h2) (.ref h3) (.ref h4) (.ref h5) (.ref h6) (.ref h7) (.ref h8) (.ref h9) (.ref h10) (.ref h11) (.ref h12) (.ref h13) (.ref h1) (.ref h14) (.ref h15) (.ref h16))), (h1, .inl (k0, 256, .inl (fun q9 => bz (v_withinCase q9))))] → va_S A s.heap H_b26 locs_b26 → lv_has ls_b26 2 [] → W p l e ({ frames := 0, cells := 0, slots := 0, locals := 0 } : Room) s m ([.ref h0, .int p1]).toArray below meth c H_b26 locs_b26 0 0 QQ (F0 m 26 ls_b26 [.int s0_26]) := by
    intro s0_26 H_b26 locs_b26 ls_b26 w_b26 hP_b26 hD_b26 hS_b26 hl_b26
    unfold w_X10_isWithinCase_26 at w_b26
    rw [hQQ]
    exact W.zret (v := s0_26) hx hb hr (or_nar w_b26.1) (fun t9 ht9 hW9 => ⟨⟨s0_26, s0_26, rfl, rfl, ⟨w_b26.2, by rw [ht9]; exact hP_b26, hD_b26⟩⟩, hS_b26.F ht9⟩) hS_b26.2.2 dX10_isWithinCase_26
  have k_25 : ∀ (H_b25 : Heap) (locs_b25 : List Loc) (ls_b25 : Array Slot), w_X10_isWithinCase_25 Q → va_P (dC, dI) vwCl [(h0, .inr (13, oX10 v_there v_count v_captures v_ranges (.ref h2) (.ref h3) (.ref h4) (.ref h5) (.ref h6) (.ref h7) (.ref h8) (.ref h9) (.ref h10) (.ref h11) (.ref h12) (.ref h13) (.ref h1) (.ref h14) (.ref h15) (.ref h16))), (h1, .inl (k0, 256, .inl (fun q9 => bz (v_withinCase q9))))] H_b25 → va_D A [(h0, .inr (13, oX10 v_there v_count v_captures v_ranges (.ref h2) (.ref h3) (.ref h4) (.ref h5) (.ref h6) (.ref h7) (.ref h8) (.ref h9) (.ref h10) (.ref h11) (.ref h12) (.ref h13) (.ref h1) (.ref h14) (.ref h15) (.ref h16))), (h1, .inl (k0, 256, .inl (fun q9 => bz (v_withinCase q9))))] → va_S A s.heap H_b25 locs_b25 → lv_has ls_b25 2 [] → W p l e ({ frames := 0, cells := 0, slots := 0, locals := 0 } : Room) s m ([.ref h0, .int p1]).toArray below meth c H_b25 locs_b25 0 0 QQ (F0 m 25 ls_b25 []) := by
    intro  H_b25 locs_b25 ls_b25 w_b25 hP_b25 hD_b25 hS_b25 hl_b25
    unfold w_X10_isWithinCase_25 at w_b25
    refine lv_iconst (v := 0) hx hb dX10_isWithinCase_25 (by decide) ?_
    exact k_26 0 _ _ _ w_b25 hP_b25 hD_b25 hS_b25 (lv_sub hl_b25 [] rfl)
  refine lv_if_lt (tgt := 25) hx hb dX10_isWithinCase_1 (by decide) (fun c_1 => ?_) (fun c_1 => ?_)
  · exact k_25  _ _ _ (w.1 c_1) hP hD hS (lv_sub hl [] rfl)
  · refine lv_iload_n hx hb dX10_isWithinCase_4 rfl (lv_at hl 1 rfl) ?_
    refine lv_aload_n hx hb dX10_isWithinCase_5 rfl (lv_at hl 0 rfl) ?_
    refine va_get (D := (dC, dI)) (ci := 13) (v := .int v_count) (C := RX10) (T := TX10) (N := 20) hx hb ht inX10 hown hK hP 0 rfl rfl 1 (by decide) (ht _ tw_319) (fun _ h9 => h9) rfl dX10_isWithinCase_6 ?_
    refine lv_icmp_ge (tgt := 25) hx hb dX10_isWithinCase_9 (by decide) (fun c_2 => ?_) (fun c_2 => ?_)
    · exact k_25  _ _ _ ((w.2 c_1).1 c_2) hP hD hS (lv_sub hl [] rfl)
    · refine lv_aload_n hx hb dX10_isWithinCase_12 rfl (lv_at hl 0 rfl) ?_
      refine va_get (D := (dC, dI)) (ci := 13) (v := .ref h1) (C := RX10) (T := TX10) (N := 20) hx hb ht inX10 hown hK hP 0 rfl rfl 16 (by decide) (ht _ tw_339) (fun _ h9 => h9) rfl dX10_isWithinCase_13 ?_
      refine lv_iload_n hx hb dX10_isWithinCase_16 rfl (lv_at hl 1 rfl) ?_
      refine va_zald hx hb hK hP 1 0 rfl rfl (i := p1) ((w.2 c_1).2 c_2).1 dX10_isWithinCase_17 ?_
      refine lv_topi (fun x_3 ex_3 => ?_)
      have ex_3 : x_3 = bz (v_withinCase p1.toNatClampNeg) := ex_3
      refine lv_if_eq (tgt := 25) hx hb dX10_isWithinCase_18 (by decide) (fun c_4 => ?_) (fun c_4 => ?_)
      · exact k_25  _ _ _ (((((w.2 c_1).2 c_2).2) x_3 ex_3).1 c_4) hP hD hS (lv_sub hl [] rfl)
      · refine lv_iconst (v := 1) hx hb dX10_isWithinCase_21 (by decide) ?_
        refine lv_goto (tgt := 26) hx hb dX10_isWithinCase_22 (by decide) ?_
        exact k_26 1 _ _ _ (((((w.2 c_1).2 c_2).2) x_3 ex_3).2 c_4) hP hD hS (lv_sub hl [] rfl)
def w_X10_isMarked_26 (Q : Int32 → Prop) (s0_26 : Int32) : Prop :=
  (s0_26 = 0 ∨ s0_26 = 1) ∧ Q s0_26
def w_X10_isMarked_25 (Q : Int32 → Prop) : Prop :=
  w_X10_isMarked_26 Q 0
def w_X10_isMarked (p1 : Int32) (v_count : Int32) (v_marked : Nat → Bool) (Q : Int32 → Prop) : Prop :=
  ((p1 < 0) → w_X10_isMarked_25 Q) ∧ ((¬ p1 < 0) → ((v_count ≤ p1) → w_X10_isMarked_25 Q) ∧ ((¬ v_count ≤ p1) → vp_in p1 256 ∧ ∀ x_3 : Int32, x_3 = bz (v_marked p1.toNatClampNeg) → ((x_3 = 0) → w_X10_isMarked_25 Q) ∧ ((¬ x_3 = 0) → w_X10_isMarked_26 Q 1)))
set_option maxHeartbeats 4000000 in
set_option maxRecDepth 100000 in
theorem mt_X10_isMarked (l : Launch) (dC : Nat → ClassId) (dI : Nat → Nat → Nat) (h0 h1 h2 h3 h4 h5 h6 h7 h8 h9 h10 h11 h12 h13 h14 h15 h16 : Nat) (k0 : ClassId) (p1 : Int32) (v_there : Bool) (v_count : Int32) (v_captures : Int32) (v_ranges : Int32) (v_marked : Nat → Bool) (Q : Int32 → Prop) (w : w_X10_isMarked p1 v_count v_marked Q) (sz : Nat) : Met l yX10_isMarked (WS yX10_isMarked cX10_isMarked 2 (some (.boolean))) ({ frames := 0, cells := 0, slots := 0, locals := 0 } : Room) (va_Pc [.ref h0, .int p1] (fun U => U.heap.size = sz ∧ va_P (dC, dI) vwCl [(h0, .inr (13, oX10 v_there v_count v_captures v_ranges (.ref h2) (.ref h3) (.ref h4) (.ref h5) (.ref h6) (.ref h7) (.ref h8) (.ref h9) (.ref h10) (.ref h11) (.ref h12) (.ref h13) (.ref h14) (.ref h1) (.ref h15) (.ref h16))), (h1, .inl (k0, 256, .inl (fun q9 => bz (v_marked q9))))] U.heap ∧ va_K (dC, dI) vwCl [(k0, .boolean)] U ∧ va_D (fun _ => True) [(h0, .inr (13, oX10 v_there v_count v_captures v_ranges (.ref h2) (.ref h3) (.ref h4) (.ref h5) (.ref h6) (.ref h7) (.ref h8) (.ref h9) (.ref h10) (.ref h11) (.ref h12) (.ref h13) (.ref h14) (.ref h1) (.ref h15) (.ref h16))), (h1, .inl (k0, 256, .inl (fun q9 => bz (v_marked q9))))])) (va_Qi (fun (r u : Int32) => r = u) (fun (u : Int32) (t : State) => (Q u) ∧ va_P (dC, dI) vwCl [(h0, .inr (13, oX10 v_there v_count v_captures v_ranges (.ref h2) (.ref h3) (.ref h4) (.ref h5) (.ref h6) (.ref h7) (.ref h8) (.ref h9) (.ref h10) (.ref h11) (.ref h12) (.ref h13) (.ref h14) (.ref h1) (.ref h15) (.ref h16))), (h1, .inl (k0, 256, .inl (fun q9 => bz (v_marked q9))))] t.heap ∧ va_D (va_A [(h0, .inr (13, oX10 v_there v_count v_captures v_ranges (.ref h2) (.ref h3) (.ref h4) (.ref h5) (.ref h6) (.ref h7) (.ref h8) (.ref h9) (.ref h10) (.ref h11) (.ref h12) (.ref h13) (.ref h14) (.ref h1) (.ref h15) (.ref h16))), (h1, .inl (k0, 256, .inl (fun q9 => bz (v_marked q9))))] sz) [(h0, .inr (13, oX10 v_there v_count v_captures v_ranges (.ref h2) (.ref h3) (.ref h4) (.ref h5) (.ref h6) (.ref h7) (.ref h8) (.ref h9) (.ref h10) (.ref h11) (.ref h12) (.ref h13) (.ref h14) (.ref h1) (.ref h15) (.ref h16))), (h1, .inl (k0, 256, .inl (fun q9 => bz (v_marked q9))))]) (va_A [(h0, .inr (13, oX10 v_there v_count v_captures v_ranges (.ref h2) (.ref h3) (.ref h4) (.ref h5) (.ref h6) (.ref h7) (.ref h8) (.ref h9) (.ref h10) (.ref h11) (.ref h12) (.ref h13) (.ref h14) (.ref h1) (.ref h15) (.ref h16))), (h1, .inl (k0, 256, .inl (fun q9 => bz (v_marked q9))))] sz)) 0 0 (va_A [(h0, .inr (13, oX10 v_there v_count v_captures v_ranges (.ref h2) (.ref h3) (.ref h4) (.ref h5) (.ref h6) (.ref h7) (.ref h8) (.ref h9) (.ref h10) (.ref h11) (.ref h12) (.ref h13) (.ref h14) (.ref h1) (.ref h15) (.ref h16))), (h1, .inl (k0, 256, .inl (fun q9 => bz (v_marked q9))))] sz) := by
  refine Met.ofW (cc := cX10_isMarked) (maxL := 2) (ret := (some (.boolean))) (by decide) rfl ?_
  intro p e s m args below meth c s₁ B hml hv
  obtain ⟨rfl, hsz, hP, hK, hD0⟩ := hv
  have hx := B.exec
  have hb := B.bytes
  have hr := B.returns
  have hts := atoms_spec (ws := WS yX10_isMarked cX10_isMarked 2 (some (.boolean))) B.pre
  have ht : ∀ w ∈ TW, w.before _ s = true := fun w h => hts w (List.mem_cons_of_mem _ h)
  have hown : s.vm.findClass "PatternWorkshop$Tree" = some m.cls := findClass_of_methodNamed B.named
  have hlocks := B.notSynchronized
  subst hsz
  have hD := hD0.self (sz := s.heap.size)
  generalize hAe : va_A [(h0, .inr (13, oX10 v_there v_count v_captures v_ranges (.ref h2) (.ref h3) (.ref h4) (.ref h5) (.ref h6) (.ref h7) (.ref h8) (.ref h9) (.ref h10) (.ref h11) (.ref h12) (.ref h13) (.ref h14) (.ref h1) (.ref h15) (.ref h16))), (h1, .inl (k0, 256, .inl (fun q9 => bz (v_marked q9))))] s.heap.size = A at hD ⊢
  have hA : ∀ q : Nat, s.heap.size ≤ q → A q := fun q h => by rw [← hAe]; exact Or.inr h
  have hS : va_S A s.heap s.heap [] := va_S.rf
  have hP : va_P (dC, dI) vwCl [(h0, .inr (13, oX10 v_there v_count v_captures v_ranges (.ref h2) (.ref h3) (.ref h4) (.ref h5) (.ref h6) (.ref h7) (.ref h8) (.ref h9) (.ref h10) (.ref h11) (.ref h12) (.ref h13) (.ref h14) (.ref h1) (.ref h15) (.ref h16))), (h1, .inl (k0, 256, .inl (fun q9 => bz (v_marked q9))))] s.heap := hP
  have hl := lv_entry ([.ref h0, .int p1]) (n := 2) (Nat.le_of_ble_eq_true rfl)
  rw [lg_entry_eq]
  generalize (lg_sl ([.ref h0, .int p1]) ++ List.replicate (2 - (lg_sl ([.ref h0, .int p1])).length) Slot.unset).toArray = ls at hl ⊢
  have hl : lv_has ls 2 [(0, .ref h0), (1, .int p1)] := hl
  clear hD0
  obtain ⟨QQ, hQQ⟩ : ∃ QQ, QQ = MQ below (va_Qi (fun (r u : Int32) => r = u) (fun (u : Int32) (t : State) => (Q u) ∧ va_P (dC, dI) vwCl [(h0, .inr (13, oX10 v_there v_count v_captures v_ranges (.ref h2) (.ref h3) (.ref h4) (.ref h5) (.ref h6) (.ref h7) (.ref h8) (.ref h9) (.ref h10) (.ref h11) (.ref h12) (.ref h13) (.ref h14) (.ref h1) (.ref h15) (.ref h16))), (h1, .inl (k0, 256, .inl (fun q9 => bz (v_marked q9))))] t.heap ∧ va_D A [(h0, .inr (13, oX10 v_there v_count v_captures v_ranges (.ref h2) (.ref h3) (.ref h4) (.ref h5) (.ref h6) (.ref h7) (.ref h8) (.ref h9) (.ref h10) (.ref h11) (.ref h12) (.ref h13) (.ref h14) (.ref h1) (.ref h15) (.ref h16))), (h1, .inl (k0, 256, .inl (fun q9 => bz (v_marked q9))))]) A) ([.ref h0, .int p1]).toArray s 0 0 A := ⟨_, rfl⟩
  show W p l e ({ frames := 0, cells := 0, slots := 0, locals := 0 } : Room) s m ([.ref h0, .int p1]).toArray below meth c s.heap [] 0 0 (MQ below (va_Qi (fun (r u : Int32) => r = u) (fun (u : Int32) (t : State) => (Q u) ∧ va_P (dC, dI) vwCl [(h0, .inr (13, oX10 v_there v_count v_captures v_ranges (.ref h2) (.ref h3) (.ref h4) (.ref h5) (.ref h6) (.ref h7) (.ref h8) (.ref h9) (.ref h10) (.ref h11) (.ref h12) (.ref h13) (.ref h14) (.ref h1) (.ref h15) (.ref h16))), (h1, .inl (k0, 256, .inl (fun q9 => bz (v_marked q9))))] t.heap ∧ va_D A [(h0, .inr (13, oX10 v_there v_count v_captures v_ranges (.ref h2) (.ref h3) (.ref h4) (.ref h5) (.ref h6) (.ref h7) (.ref h8) (.ref h9) (.ref h10) (.ref h11) (.ref h12) (.ref h13) (.ref h14) (.ref h1) (.ref h15) (.ref h16))), (h1, .inl (k0, 256, .inl (fun q9 => bz (v_marked q9))))]) A) ([.ref h0, .int p1]).toArray s 0 0 A) (F0 m 0 ls [])
  rw [← hQQ]
  unfold w_X10_isMarked at w
  refine lv_iload_n hx hb dX10_isMarked_0 rfl (lv_at hl 1 rfl) ?_
  have k_26 : ∀ (s0_26 : Int32), ∀ (H_b26 : Heap) (locs_b26 : List Loc) (ls_b26 : Array Slot), w_X10_isMarked_26 Q s0_26 → va_P (dC, dI) vwCl [(h0, .inr (13, oX10 v_there v_count v_captures v_ranges (.ref h2) (.ref h3) (.ref h4) (.ref h5) (.ref h6) (.ref h7) (.ref h8) (.ref h9) (.ref h10) (.ref h11) (.ref h12) (.ref h13) (.ref h14) (.ref h1) (.ref h15) (.ref h16))), (h1, .inl (k0, 256, .inl (fun q9 => bz (v_marked q9))))] H_b26 → va_D A [(h0, .inr (13, oX10 v_there v_count v_captures v_ranges (.ref h2) (.ref h3) (.ref h4) (.ref h5) (.ref h6) (.ref h7) (.ref h8) (.ref h9) (.ref h10) (.ref h11) (.ref h12) (.ref h13) (.ref h14) (.ref h1) (.ref h15) (.ref h16))), (h1, .inl (k0, 256, .inl (fun q9 => bz (v_marked q9))))] → va_S A s.heap H_b26 locs_b26 → lv_has ls_b26 2 [] → W p l e ({ frames := 0, cells := 0, slots := 0, locals := 0 } : Room) s m ([.ref h0, .int p1]).toArray below meth c H_b26 locs_b26 0 0 QQ (F0 m 26 ls_b26 [.int s0_26]) := by
    intro s0_26 H_b26 locs_b26 ls_b26 w_b26 hP_b26 hD_b26 hS_b26 hl_b26
    unfold w_X10_isMarked_26 at w_b26
    rw [hQQ]
    exact W.zret (v := s0_26) hx hb hr (or_nar w_b26.1) (fun t9 ht9 hW9 => ⟨⟨s0_26, s0_26, rfl, rfl, ⟨w_b26.2, by rw [ht9]; exact hP_b26, hD_b26⟩⟩, hS_b26.F ht9⟩) hS_b26.2.2 dX10_isMarked_26
  have k_25 : ∀ (H_b25 : Heap) (locs_b25 : List Loc) (ls_b25 : Array Slot), w_X10_isMarked_25 Q → va_P (dC, dI) vwCl [(h0, .inr (13, oX10 v_there v_count v_captures v_ranges (.ref h2) (.ref h3) (.ref h4) (.ref h5) (.ref h6) (.ref h7) (.ref h8) (.ref h9) (.ref h10) (.ref h11) (.ref h12) (.ref h13) (.ref h14) (.ref h1) (.ref h15) (.ref h16))), (h1, .inl (k0, 256, .inl (fun q9 => bz (v_marked q9))))] H_b25 → va_D A [(h0, .inr (13, oX10 v_there v_count v_captures v_ranges (.ref h2) (.ref h3) (.ref h4) (.ref h5) (.ref h6) (.ref h7) (.ref h8) (.ref h9) (.ref h10) (.ref h11) (.ref h12) (.ref h13) (.ref h14) (.ref h1) (.ref h15) (.ref h16))), (h1, .inl (k0, 256, .inl (fun q9 => bz (v_marked q9))))] → va_S A s.heap H_b25 locs_b25 → lv_has ls_b25 2 [] → W p l e ({ frames := 0, cells := 0, slots := 0, locals := 0 } : Room) s m ([.ref h0, .int p1]).toArray below meth c H_b25 locs_b25 0 0 QQ (F0 m 25 ls_b25 []) := by
    intro  H_b25 locs_b25 ls_b25 w_b25 hP_b25 hD_b25 hS_b25 hl_b25
    unfold w_X10_isMarked_25 at w_b25
    refine lv_iconst (v := 0) hx hb dX10_isMarked_25 (by decide) ?_
    exact k_26 0 _ _ _ w_b25 hP_b25 hD_b25 hS_b25 (lv_sub hl_b25 [] rfl)
  refine lv_if_lt (tgt := 25) hx hb dX10_isMarked_1 (by decide) (fun c_1 => ?_) (fun c_1 => ?_)
  · exact k_25  _ _ _ (w.1 c_1) hP hD hS (lv_sub hl [] rfl)
  · refine lv_iload_n hx hb dX10_isMarked_4 rfl (lv_at hl 1 rfl) ?_
    refine lv_aload_n hx hb dX10_isMarked_5 rfl (lv_at hl 0 rfl) ?_
    refine va_get (D := (dC, dI)) (ci := 13) (v := .int v_count) (C := RX10) (T := TX10) (N := 20) hx hb ht inX10 hown hK hP 0 rfl rfl 1 (by decide) (ht _ tw_319) (fun _ h9 => h9) rfl dX10_isMarked_6 ?_
    refine lv_icmp_ge (tgt := 25) hx hb dX10_isMarked_9 (by decide) (fun c_2 => ?_) (fun c_2 => ?_)
    · exact k_25  _ _ _ ((w.2 c_1).1 c_2) hP hD hS (lv_sub hl [] rfl)
    · refine lv_aload_n hx hb dX10_isMarked_12 rfl (lv_at hl 0 rfl) ?_
      refine va_get (D := (dC, dI)) (ci := 13) (v := .ref h1) (C := RX10) (T := TX10) (N := 20) hx hb ht inX10 hown hK hP 0 rfl rfl 17 (by decide) (ht _ tw_340) (fun _ h9 => h9) rfl dX10_isMarked_13 ?_
      refine lv_iload_n hx hb dX10_isMarked_16 rfl (lv_at hl 1 rfl) ?_
      refine va_zald hx hb hK hP 1 0 rfl rfl (i := p1) ((w.2 c_1).2 c_2).1 dX10_isMarked_17 ?_
      refine lv_topi (fun x_3 ex_3 => ?_)
      have ex_3 : x_3 = bz (v_marked p1.toNatClampNeg) := ex_3
      refine lv_if_eq (tgt := 25) hx hb dX10_isMarked_18 (by decide) (fun c_4 => ?_) (fun c_4 => ?_)
      · exact k_25  _ _ _ (((((w.2 c_1).2 c_2).2) x_3 ex_3).1 c_4) hP hD hS (lv_sub hl [] rfl)
      · refine lv_iconst (v := 1) hx hb dX10_isMarked_21 (by decide) ?_
        refine lv_goto (tgt := 26) hx hb dX10_isMarked_22 (by decide) ?_
        exact k_26 1 _ _ _ (((((w.2 c_1).2 c_2).2) x_3 ex_3).2 c_4) hP hD hS (lv_sub hl [] rfl)
