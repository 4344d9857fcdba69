theorem dX10_copies_15 : decode cX10_copies 15 = .ok (.invokevirtual 85, 3) := by decide +kernel
theorem dX10_copies_18 : decode cX10_copies 18 = .ok (.iconst (-1), 1) := by decide +kernel
theorem dX10_copies_19 : decode cX10_copies 19 = .ok (.if_icmp .ne 13, 3) := by decide +kernel
theorem dX10_copies_22 : decode cX10_copies 22 = .ok (.aload_n 0, 1) := by decide +kernel
theorem dX10_copies_23 : decode cX10_copies 23 = .ok (.iload_n 1, 1) := by decide +kernel
theorem dX10_copies_24 : decode cX10_copies 24 = .ok (.invokevirtual 95, 3) := by decide +kernel
theorem dX10_copies_27 : decode cX10_copies 27 = .ok (.iconst 1, 1) := by decide +kernel
theorem dX10_copies_28 : decode cX10_copies 28 = .ok (.iadd, 1) := by decide +kernel
theorem dX10_copies_29 : decode cX10_copies 29 = .ok (.goto 8, 3) := by decide +kernel
theorem dX10_copies_32 : decode cX10_copies 32 = .ok (.aload_n 0, 1) := by decide +kernel
theorem dX10_copies_33 : decode cX10_copies 33 = .ok (.iload_n 1, 1) := by decide +kernel
theorem dX10_copies_34 : decode cX10_copies 34 = .ok (.invokevirtual 85, 3) := by decide +kernel
theorem dX10_copies_37 : decode cX10_copies 37 = .ok (.invokestatic 9, 3) := by decide +kernel
theorem dX10_copies_40 : decode cX10_copies 40 = .ok (.ireturn, 1) := by decide +kernel
theorem dX10_deadRow_0 : decode cX10_deadRow 0 = .ok (.iconst 0, 1) := by decide +kernel
theorem dX10_deadRow_1 : decode cX10_deadRow 1 = .ok (.istore_n 2, 1) := by decide +kernel
theorem dX10_deadRow_2 : decode cX10_deadRow 2 = .ok (.iconst 0, 1) := by decide +kernel
theorem dX10_deadRow_3 : decode cX10_deadRow 3 = .ok (.istore_n 3, 1) := by decide +kernel
theorem dX10_deadRow_4 : decode cX10_deadRow 4 = .ok (.aload_n 0, 1) := by decide +kernel
theorem dX10_deadRow_5 : decode cX10_deadRow 5 = .ok (.iload_n 3, 1) := by decide +kernel
theorem dX10_deadRow_6 : decode cX10_deadRow 6 = .ok (.invokevirtual 91, 3) := by decide +kernel
theorem dX10_deadRow_9 : decode cX10_deadRow 9 = .ok (.ifCond .eq 55, 3) := by decide +kernel
theorem dX10_deadRow_12 : decode cX10_deadRow 12 = .ok (.aload_n 0, 1) := by decide +kernel
theorem dX10_deadRow_13 : decode cX10_deadRow 13 = .ok (.aload_n 0, 1) := by decide +kernel
theorem dX10_deadRow_14 : decode cX10_deadRow 14 = .ok (.getfield 21, 3) := by decide +kernel
theorem dX10_deadRow_17 : decode cX10_deadRow 17 = .ok (.iload_n 3, 1) := by decide +kernel
theorem dX10_deadRow_18 : decode cX10_deadRow 18 = .ok (.iaload, 1) := by decide +kernel
theorem dX10_deadRow_19 : decode cX10_deadRow 19 = .ok (.invokevirtual 81, 3) := by decide +kernel
theorem dX10_deadRow_22 : decode cX10_deadRow 22 = .ok (.bipush 6, 2) := by decide +kernel
theorem dX10_deadRow_24 : decode cX10_deadRow 24 = .ok (.if_icmp .ne 34, 3) := by decide +kernel
theorem dX10_deadRow_27 : decode cX10_deadRow 27 = .ok (.aload_n 0, 1) := by decide +kernel
theorem dX10_deadRow_28 : decode cX10_deadRow 28 = .ok (.getfield 21, 3) := by decide +kernel
theorem dX10_deadRow_31 : decode cX10_deadRow 31 = .ok (.iload_n 3, 1) := by decide +kernel
theorem dX10_deadRow_32 : decode cX10_deadRow 32 = .ok (.iaload, 1) := by decide +kernel
theorem dX10_deadRow_33 : decode cX10_deadRow 33 = .ok (.iconst (-1), 1) := by decide +kernel
theorem dX10_deadRow_34 : decode cX10_deadRow 34 = .ok (.if_icmp .eq 24, 3) := by decide +kernel
theorem dX10_deadRow_37 : decode cX10_deadRow 37 = .ok (.aload_n 0, 1) := by decide +kernel
theorem dX10_deadRow_38 : decode cX10_deadRow 38 = .ok (.iload_n 3, 1) := by decide +kernel
theorem dX10_deadRow_39 : decode cX10_deadRow 39 = .ok (.invokevirtual 173, 3) := by decide +kernel
theorem dX10_deadRow_42 : decode cX10_deadRow 42 = .ok (.ifCond .ne 6, 3) := by decide +kernel
theorem dX10_deadRow_45 : decode cX10_deadRow 45 = .ok (.goto 13, 3) := by decide +kernel
theorem dX10_deadRow_48 : decode cX10_deadRow 48 = .ok (.iload_n 2, 1) := by decide +kernel
theorem dX10_deadRow_49 : decode cX10_deadRow 49 = .ok (.iload_n 1, 1) := by decide +kernel
theorem dX10_deadRow_50 : decode cX10_deadRow 50 = .ok (.if_icmp .ne 5, 3) := by decide +kernel
theorem dX10_deadRow_53 : decode cX10_deadRow 53 = .ok (.iload_n 3, 1) := by decide +kernel
theorem dX10_deadRow_54 : decode cX10_deadRow 54 = .ok (.ireturn, 1) := by decide +kernel
theorem dX10_deadRow_55 : decode cX10_deadRow 55 = .ok (.iinc 2 1, 3) := by decide +kernel
theorem dX10_deadRow_58 : decode cX10_deadRow 58 = .ok (.iinc 3 1, 3) := by decide +kernel
theorem dX10_deadRow_61 : decode cX10_deadRow 61 = .ok (.goto (-57), 3) := by decide +kernel
theorem dX10_deadRow_64 : decode cX10_deadRow 64 = .ok (.iconst (-1), 1) := by decide +kernel
theorem dX10_deadRow_65 : decode cX10_deadRow 65 = .ok (.ireturn, 1) := by decide +kernel
theorem dX10_endOf_0 : decode cX10_endOf 0 = .ok (.iload_n 1, 1) := by decide +kernel
theorem dX10_endOf_1 : decode cX10_endOf 1 = .ok (.ifCond .lt 20, 3) := by decide +kernel
theorem dX10_endOf_4 : decode cX10_endOf 4 = .ok (.iload_n 1, 1) := by decide +kernel
theorem dX10_endOf_5 : decode cX10_endOf 5 = .ok (.aload_n 0, 1) := by decide +kernel
theorem dX10_endOf_6 : decode cX10_endOf 6 = .ok (.getfield 71, 3) := by decide +kernel
theorem dX10_endOf_9 : decode cX10_endOf 9 = .ok (.if_icmp .ge 12, 3) := by decide +kernel
theorem dX10_endOf_12 : decode cX10_endOf 12 = .ok (.aload_n 0, 1) := by decide +kernel
theorem dX10_endOf_13 : decode cX10_endOf 13 = .ok (.getfield 24, 3) := by decide +kernel
theorem dX10_endOf_16 : decode cX10_endOf 16 = .ok (.iload_n 1, 1) := by decide +kernel
theorem dX10_endOf_17 : decode cX10_endOf 17 = .ok (.iaload, 1) := by decide +kernel
theorem dX10_endOf_18 : decode cX10_endOf 18 = .ok (.goto 7, 3) := by decide +kernel
theorem dX10_endOf_21 : decode cX10_endOf 21 = .ok (.aload_n 0, 1) := by decide +kernel
theorem dX10_endOf_22 : decode cX10_endOf 22 = .ok (.getfield 71, 3) := by decide +kernel
theorem dX10_endOf_25 : decode cX10_endOf 25 = .ok (.ireturn, 1) := by decide +kernel
theorem dX10_firstOf_0 : decode cX10_firstOf 0 = .ok (.iload_n 1, 1) := by decide +kernel
theorem dX10_firstOf_1 : decode cX10_firstOf 1 = .ok (.ifCond .lt 29, 3) := by decide +kernel
theorem dX10_firstOf_4 : decode cX10_firstOf 4 = .ok (.iload_n 1, 1) := by decide +kernel
theorem dX10_firstOf_5 : decode cX10_firstOf 5 = .ok (.aload_n 0, 1) := by decide +kernel
theorem dX10_firstOf_6 : decode cX10_firstOf 6 = .ok (.getfield 71, 3) := by decide +kernel
theorem dX10_firstOf_9 : decode cX10_firstOf 9 = .ok (.if_icmp .ge 21, 3) := by decide +kernel
theorem dX10_firstOf_12 : decode cX10_firstOf 12 = .ok (.aload_n 0, 1) := by decide +kernel
theorem dX10_firstOf_13 : decode cX10_firstOf 13 = .ok (.getfield 24, 3) := by decide +kernel
theorem dX10_firstOf_16 : decode cX10_firstOf 16 = .ok (.iload_n 1, 1) := by decide +kernel
theorem dX10_firstOf_17 : decode cX10_firstOf 17 = .ok (.iaload, 1) := by decide +kernel
theorem dX10_firstOf_18 : decode cX10_firstOf 18 = .ok (.iload_n 1, 1) := by decide +kernel
theorem dX10_firstOf_19 : decode cX10_firstOf 19 = .ok (.iconst 1, 1) := by decide +kernel
theorem dX10_firstOf_20 : decode cX10_firstOf 20 = .ok (.iadd, 1) := by decide +kernel
theorem dX10_firstOf_21 : decode cX10_firstOf 21 = .ok (.if_icmp .le 9, 3) := by decide +kernel
theorem dX10_firstOf_24 : decode cX10_firstOf 24 = .ok (.iload_n 1, 1) := by decide +kernel
theorem dX10_firstOf_25 : decode cX10_firstOf 25 = .ok (.iconst 1, 1) := by decide +kernel
theorem dX10_firstOf_26 : decode cX10_firstOf 26 = .ok (.iadd, 1) := by decide +kernel
theorem dX10_firstOf_27 : decode cX10_firstOf 27 = .ok (.goto 4, 3) := by decide +kernel
theorem dX10_firstOf_30 : decode cX10_firstOf 30 = .ok (.iconst (-1), 1) := by decide +kernel
theorem dX10_firstOf_31 : decode cX10_firstOf 31 = .ok (.ireturn, 1) := by decide +kernel
theorem dX10_firstRisky_0 : decode cX10_firstRisky 0 = .ok (.iconst (-1), 1) := by decide +kernel
theorem dX10_firstRisky_1 : decode cX10_firstRisky 1 = .ok (.istore_n 2, 1) := by decide +kernel
theorem dX10_firstRisky_2 : decode cX10_firstRisky 2 = .ok (.iconst 0, 1) := by decide +kernel
theorem dX10_firstRisky_3 : decode cX10_firstRisky 3 = .ok (.istore_n 3, 1) := by decide +kernel
theorem dX10_firstRisky_4 : decode cX10_firstRisky 4 = .ok (.iload_n 3, 1) := by decide +kernel
theorem dX10_firstRisky_5 : decode cX10_firstRisky 5 = .ok (.aload_n 1, 1) := by decide +kernel
theorem dX10_firstRisky_6 : decode cX10_firstRisky 6 = .ok (.getfield 155, 3) := by decide +kernel
theorem dX10_firstRisky_9 : decode cX10_firstRisky 9 = .ok (.if_icmp .ge 90, 3) := by decide +kernel
theorem dX10_firstRisky_12 : decode cX10_firstRisky 12 = .ok (.aload_n 0, 1) := by decide +kernel
theorem dX10_firstRisky_13 : decode cX10_firstRisky 13 = .ok (.aload_n 1, 1) := by decide +kernel
theorem dX10_firstRisky_14 : decode cX10_firstRisky 14 = .ok (.iload_n 3, 1) := by decide +kernel
theorem dX10_firstRisky_15 : decode cX10_firstRisky 15 = .ok (.invokevirtual 158, 3) := by decide +kernel
theorem dX10_firstRisky_18 : decode cX10_firstRisky 18 = .ok (.invokevirtual 161, 3) := by decide +kernel
theorem dX10_firstRisky_21 : decode cX10_firstRisky 21 = .ok (.iconst 0, 1) := by decide +kernel
theorem dX10_firstRisky_22 : decode cX10_firstRisky 22 = .ok (.istore 4, 2) := by decide +kernel
theorem dX10_firstRisky_24 : decode cX10_firstRisky 24 = .ok (.aload_n 0, 1) := by decide +kernel
theorem dX10_firstRisky_25 : decode cX10_firstRisky 25 = .ok (.iload 4, 2) := by decide +kernel
theorem dX10_firstRisky_27 : decode cX10_firstRisky 27 = .ok (.invokevirtual 91, 3) := by decide +kernel
theorem dX10_firstRisky_30 : decode cX10_firstRisky 30 = .ok (.ifCond .eq 63, 3) := by decide +kernel
theorem dX10_firstRisky_33 : decode cX10_firstRisky 33 = .ok (.aload_n 0, 1) := by decide +kernel
theorem dX10_firstRisky_34 : decode cX10_firstRisky 34 = .ok (.iload 4, 2) := by decide +kernel
theorem dX10_firstRisky_36 : decode cX10_firstRisky 36 = .ok (.invokevirtual 164, 3) := by decide +kernel
theorem dX10_firstRisky_39 : decode cX10_firstRisky 39 = .ok (.ifCond .eq 25, 3) := by decide +kernel
theorem dX10_firstRisky_42 : decode cX10_firstRisky 42 = .ok (.aload_n 0, 1) := by decide +kernel
theorem dX10_firstRisky_43 : decode cX10_firstRisky 43 = .ok (.aload_n 0, 1) := by decide +kernel
theorem dX10_firstRisky_44 : decode cX10_firstRisky 44 = .ok (.iload 4, 2) := by decide +kernel
theorem dX10_firstRisky_46 : decode cX10_firstRisky 46 = .ok (.invokevirtual 105, 3) := by decide +kernel
theorem dX10_firstRisky_49 : decode cX10_firstRisky 49 = .ok (.invokevirtual 149, 3) := by decide +kernel
theorem dX10_firstRisky_52 : decode cX10_firstRisky 52 = .ok (.ifCond .eq 12, 3) := by decide +kernel
theorem dX10_firstRisky_55 : decode cX10_firstRisky 55 = .ok (.aload_n 0, 1) := by decide +kernel
theorem dX10_firstRisky_56 : decode cX10_firstRisky 56 = .ok (.iload 4, 2) := by decide +kernel
theorem dX10_firstRisky_58 : decode cX10_firstRisky 58 = .ok (.invokevirtual 167, 3) := by decide +kernel
theorem dX10_firstRisky_61 : decode cX10_firstRisky 61 = .ok (.goto 4, 3) := by decide +kernel
theorem dX10_firstRisky_64 : decode cX10_firstRisky 64 = .ok (.iconst (-1), 1) := by decide +kernel
theorem dX10_firstRisky_65 : decode cX10_firstRisky 65 = .ok (.istore 5, 2) := by decide +kernel
theorem dX10_firstRisky_67 : decode cX10_firstRisky 67 = .ok (.iload 5, 2) := by decide +kernel
theorem dX10_firstRisky_69 : decode cX10_firstRisky 69 = .ok (.iconst (-1), 1) := by decide +kernel
theorem dX10_firstRisky_70 : decode cX10_firstRisky 70 = .ok (.if_icmp .eq 17, 3) := by decide +kernel
theorem dX10_firstRisky_73 : decode cX10_firstRisky 73 = .ok (.iload_n 2, 1) := by decide +kernel
theorem dX10_firstRisky_74 : decode cX10_firstRisky 74 = .ok (.iconst (-1), 1) := by decide +kernel
theorem dX10_firstRisky_75 : decode cX10_firstRisky 75 = .ok (.if_icmp .eq 9, 3) := by decide +kernel
theorem dX10_firstRisky_78 : decode cX10_firstRisky 78 = .ok (.iload 5, 2) := by decide +kernel
theorem dX10_firstRisky_80 : decode cX10_firstRisky 80 = .ok (.iload_n 2, 1) := by decide +kernel
theorem dX10_firstRisky_81 : decode cX10_firstRisky 81 = .ok (.if_icmp .ge 6, 3) := by decide +kernel
theorem dX10_firstRisky_84 : decode cX10_firstRisky 84 = .ok (.iload 5, 2) := by decide +kernel
theorem dX10_firstRisky_86 : decode cX10_firstRisky 86 = .ok (.istore_n 2, 1) := by decide +kernel
theorem dX10_firstRisky_87 : decode cX10_firstRisky 87 = .ok (.iinc 4 1, 3) := by decide +kernel
theorem dX10_firstRisky_90 : decode cX10_firstRisky 90 = .ok (.goto (-66), 3) := by decide +kernel
theorem dX10_firstRisky_93 : decode cX10_firstRisky 93 = .ok (.iinc 3 1, 3) := by decide +kernel
theorem dX10_firstRisky_96 : decode cX10_firstRisky 96 = .ok (.goto (-92), 3) := by decide +kernel
theorem dX10_firstRisky_99 : decode cX10_firstRisky 99 = .ok (.iload_n 2, 1) := by decide +kernel
theorem dX10_firstRisky_100 : decode cX10_firstRisky 100 = .ok (.ireturn, 1) := by decide +kernel
theorem dX10_has_0 : decode cX10_has 0 = .ok (.iload_n 1, 1) := by decide +kernel
theorem dX10_has_1 : decode cX10_has 1 = .ok (.ifCond .lt 15, 3) := by decide +kernel
theorem dX10_has_4 : decode cX10_has 4 = .ok (.iload_n 1, 1) := by decide +kernel
theorem dX10_has_5 : decode cX10_has 5 = .ok (.aload_n 0, 1) := by decide +kernel
theorem dX10_has_6 : decode cX10_has 6 = .ok (.getfield 71, 3) := by decide +kernel
theorem dX10_has_9 : decode cX10_has 9 = .ok (.if_icmp .ge 7, 3) := by decide +kernel
theorem dX10_has_12 : decode cX10_has 12 = .ok (.iconst 1, 1) := by decide +kernel
theorem dX10_has_13 : decode cX10_has 13 = .ok (.goto 4, 3) := by decide +kernel
theorem dX10_has_16 : decode cX10_has 16 = .ok (.iconst 0, 1) := by decide +kernel
theorem dX10_has_17 : decode cX10_has 17 = .ok (.ireturn, 1) := by decide +kernel
theorem dX10_hasInParts_0 : decode cX10_hasInParts 0 = .ok (.iload_n 1, 1) := by decide +kernel
theorem dX10_hasInParts_1 : decode cX10_hasInParts 1 = .ok (.ifCond .lt 11, 3) := by decide +kernel
theorem dX10_hasInParts_4 : decode cX10_hasInParts 4 = .ok (.iload_n 1, 1) := by decide +kernel
theorem dX10_hasInParts_5 : decode cX10_hasInParts 5 = .ok (.aload_n 0, 1) := by decide +kernel
theorem dX10_hasInParts_6 : decode cX10_hasInParts 6 = .ok (.getfield 71, 3) := by decide +kernel
theorem dX10_hasInParts_9 : decode cX10_hasInParts 9 = .ok (.if_icmp .lt 5, 3) := by decide +kernel
theorem dX10_hasInParts_12 : decode cX10_hasInParts 12 = .ok (.iconst 0, 1) := by decide +kernel
theorem dX10_hasInParts_13 : decode cX10_hasInParts 13 = .ok (.ireturn, 1) := by decide +kernel
theorem dX10_hasInParts_14 : decode cX10_hasInParts 14 = .ok (.aload_n 0, 1) := by decide +kernel
theorem dX10_hasInParts_15 : decode cX10_hasInParts 15 = .ok (.getfield 39, 3) := by decide +kernel
theorem dX10_hasInParts_18 : decode cX10_hasInParts 18 = .ok (.iload_n 1, 1) := by decide +kernel
theorem dX10_hasInParts_19 : decode cX10_hasInParts 19 = .ok (.iaload, 1) := by decide +kernel
theorem dX10_hasInParts_20 : decode cX10_hasInParts 20 = .ok (.istore_n 3, 1) := by decide +kernel
theorem dX10_hasInParts_21 : decode cX10_hasInParts 21 = .ok (.iload_n 3, 1) := by decide +kernel
theorem dX10_hasInParts_22 : decode cX10_hasInParts 22 = .ok (.ifCond .lt 56, 3) := by decide +kernel
theorem dX10_hasInParts_25 : decode cX10_hasInParts 25 = .ok (.iload_n 3, 1) := by decide +kernel
theorem dX10_hasInParts_26 : decode cX10_hasInParts 26 = .ok (.aload_n 0, 1) := by decide +kernel
theorem dX10_hasInParts_27 : decode cX10_hasInParts 27 = .ok (.getfield 39, 3) := by decide +kernel
theorem dX10_hasInParts_30 : decode cX10_hasInParts 30 = .ok (.iload_n 1, 1) := by decide +kernel
theorem dX10_hasInParts_31 : decode cX10_hasInParts 31 = .ok (.iaload, 1) := by decide +kernel
theorem dX10_hasInParts_32 : decode cX10_hasInParts 32 = .ok (.aload_n 0, 1) := by decide +kernel
theorem dX10_hasInParts_33 : decode cX10_hasInParts 33 = .ok (.getfield 42, 3) := by decide +kernel
theorem dX10_hasInParts_36 : decode cX10_hasInParts 36 = .ok (.iload_n 1, 1) := by decide +kernel
theorem dX10_hasInParts_37 : decode cX10_hasInParts 37 = .ok (.iaload, 1) := by decide +kernel
theorem dX10_hasInParts_38 : decode cX10_hasInParts 38 = .ok (.iadd, 1) := by decide +kernel
theorem dX10_hasInParts_39 : decode cX10_hasInParts 39 = .ok (.if_icmp .ge 39, 3) := by decide +kernel
theorem dX10_hasInParts_42 : decode cX10_hasInParts 42 = .ok (.iload_n 3, 1) := by decide +kernel
theorem dX10_hasInParts_43 : decode cX10_hasInParts 43 = .ok (.aload_n 0, 1) := by decide +kernel
theorem dX10_hasInParts_44 : decode cX10_hasInParts 44 = .ok (.getfield 78, 3) := by decide +kernel
theorem dX10_hasInParts_47 : decode cX10_hasInParts 47 = .ok (.if_icmp .ge 31, 3) := by decide +kernel
theorem dX10_hasInParts_50 : decode cX10_hasInParts 50 = .ok (.aload_n 0, 1) := by decide +kernel
theorem dX10_hasInParts_51 : decode cX10_hasInParts 51 = .ok (.getfield 61, 3) := by decide +kernel
theorem dX10_hasInParts_54 : decode cX10_hasInParts 54 = .ok (.iload_n 3, 1) := by decide +kernel
theorem dX10_hasInParts_55 : decode cX10_hasInParts 55 = .ok (.iaload, 1) := by decide +kernel
theorem dX10_hasInParts_56 : decode cX10_hasInParts 56 = .ok (.iload_n 2, 1) := by decide +kernel
theorem dX10_hasInParts_57 : decode cX10_hasInParts 57 = .ok (.if_icmp .gt 15, 3) := by decide +kernel
theorem dX10_hasInParts_60 : decode cX10_hasInParts 60 = .ok (.iload_n 2, 1) := by decide +kernel
theorem dX10_hasInParts_61 : decode cX10_hasInParts 61 = .ok (.aload_n 0, 1) := by decide +kernel
theorem dX10_hasInParts_62 : decode cX10_hasInParts 62 = .ok (.getfield 64, 3) := by decide +kernel
theorem dX10_hasInParts_65 : decode cX10_hasInParts 65 = .ok (.iload_n 3, 1) := by decide +kernel
theorem dX10_hasInParts_66 : decode cX10_hasInParts 66 = .ok (.iaload, 1) := by decide +kernel
theorem dX10_hasInParts_67 : decode cX10_hasInParts 67 = .ok (.if_icmp .gt 5, 3) := by decide +kernel
theorem dX10_hasInParts_70 : decode cX10_hasInParts 70 = .ok (.iconst 1, 1) := by decide +kernel
theorem dX10_hasInParts_71 : decode cX10_hasInParts 71 = .ok (.ireturn, 1) := by decide +kernel
theorem dX10_hasInParts_72 : decode cX10_hasInParts 72 = .ok (.iinc 3 1, 3) := by decide +kernel
theorem dX10_hasInParts_75 : decode cX10_hasInParts 75 = .ok (.goto (-54), 3) := by decide +kernel
theorem dX10_hasInParts_78 : decode cX10_hasInParts 78 = .ok (.iconst 0, 1) := by decide +kernel
theorem dX10_hasInParts_79 : decode cX10_hasInParts 79 = .ok (.ireturn, 1) := by decide +kernel
theorem dX10_highOf_0 : decode cX10_highOf 0 = .ok (.iload_n 1, 1) := by decide +kernel
theorem dX10_highOf_1 : decode cX10_highOf 1 = .ok (.ifCond .lt 20, 3) := by decide +kernel
theorem dX10_highOf_4 : decode cX10_highOf 4 = .ok (.iload_n 1, 1) := by decide +kernel
theorem dX10_highOf_5 : decode cX10_highOf 5 = .ok (.aload_n 0, 1) := by decide +kernel
theorem dX10_highOf_6 : decode cX10_highOf 6 = .ok (.getfield 71, 3) := by decide +kernel
theorem dX10_highOf_9 : decode cX10_highOf 9 = .ok (.if_icmp .ge 12, 3) := by decide +kernel
theorem dX10_highOf_12 : decode cX10_highOf 12 = .ok (.aload_n 0, 1) := by decide +kernel
theorem dX10_highOf_13 : decode cX10_highOf 13 = .ok (.getfield 42, 3) := by decide +kernel
theorem dX10_highOf_16 : decode cX10_highOf 16 = .ok (.iload_n 1, 1) := by decide +kernel
theorem dX10_highOf_17 : decode cX10_highOf 17 = .ok (.iaload, 1) := by decide +kernel
theorem dX10_highOf_18 : decode cX10_highOf 18 = .ok (.goto 4, 3) := by decide +kernel
theorem dX10_highOf_21 : decode cX10_highOf 21 = .ok (.iconst 0, 1) := by decide +kernel
theorem dX10_highOf_22 : decode cX10_highOf 22 = .ok (.ireturn, 1) := by decide +kernel
theorem dX10_holderOf_0 : decode cX10_holderOf 0 = .ok (.iload_n 1, 1) := by decide +kernel
theorem dX10_holderOf_1 : decode cX10_holderOf 1 = .ok (.ifCond .lt 20, 3) := by decide +kernel
theorem dX10_holderOf_4 : decode cX10_holderOf 4 = .ok (.iload_n 1, 1) := by decide +kernel
theorem dX10_holderOf_5 : decode cX10_holderOf 5 = .ok (.aload_n 0, 1) := by decide +kernel
theorem dX10_holderOf_6 : decode cX10_holderOf 6 = .ok (.getfield 71, 3) := by decide +kernel
theorem dX10_holderOf_9 : decode cX10_holderOf 9 = .ok (.if_icmp .ge 12, 3) := by decide +kernel
theorem dX10_holderOf_12 : decode cX10_holderOf 12 = .ok (.aload_n 0, 1) := by decide +kernel
theorem dX10_holderOf_13 : decode cX10_holderOf 13 = .ok (.getfield 21, 3) := by decide +kernel
theorem dX10_holderOf_16 : decode cX10_holderOf 16 = .ok (.iload_n 1, 1) := by decide +kernel
theorem dX10_holderOf_17 : decode cX10_holderOf 17 = .ok (.iaload, 1) := by decide +kernel
theorem dX10_holderOf_18 : decode cX10_holderOf 18 = .ok (.goto 4, 3) := by decide +kernel
theorem dX10_holderOf_21 : decode cX10_holderOf 21 = .ok (.iconst (-1), 1) := by decide +kernel
theorem dX10_holderOf_22 : decode cX10_holderOf 22 = .ok (.ireturn, 1) := by decide +kernel
theorem dX10_isEndless_0 : decode cX10_isEndless 0 = .ok (.aload_n 0, 1) := by decide +kernel
theorem dX10_isEndless_1 : decode cX10_isEndless 1 = .ok (.iload_n 1, 1) := by decide +kernel
theorem dX10_isEndless_2 : decode cX10_isEndless 2 = .ok (.invokevirtual 81, 3) := by decide +kernel
theorem dX10_isEndless_5 : decode cX10_isEndless 5 = .ok (.bipush 7, 2) := by decide +kernel
theorem dX10_isEndless_7 : decode cX10_isEndless 7 = .ok (.if_icmp .ne 16, 3) := by decide +kernel
theorem dX10_isEndless_10 : decode cX10_isEndless 10 = .ok (.aload_n 0, 1) := by decide +kernel
theorem dX10_isEndless_11 : decode cX10_isEndless 11 = .ok (.iload_n 1, 1) := by decide +kernel
theorem dX10_isEndless_12 : decode cX10_isEndless 12 = .ok (.invokevirtual 85, 3) := by decide +kernel
theorem dX10_isEndless_15 : decode cX10_isEndless 15 = .ok (.iconst (-1), 1) := by decide +kernel
theorem dX10_isEndless_16 : decode cX10_isEndless 16 = .ok (.if_icmp .ne 7, 3) := by decide +kernel
theorem dX10_isEndless_19 : decode cX10_isEndless 19 = .ok (.iconst 1, 1) := by decide +kernel
theorem dX10_isEndless_20 : decode cX10_isEndless 20 = .ok (.goto 4, 3) := by decide +kernel
theorem dX10_isEndless_23 : decode cX10_isEndless 23 = .ok (.iconst 0, 1) := by decide +kernel
theorem dX10_isEndless_24 : decode cX10_isEndless 24 = .ok (.ireturn, 1) := by decide +kernel
theorem dX10_isMarked_0 : decode cX10_isMarked 0 = .ok (.iload_n 1, 1) := by decide +kernel
theorem dX10_isMarked_1 : decode cX10_isMarked 1 = .ok (.ifCond .lt 24, 3) := by decide +kernel
theorem dX10_isMarked_4 : decode cX10_isMarked 4 = .ok (.iload_n 1, 1) := by decide +kernel
theorem dX10_isMarked_5 : decode cX10_isMarked 5 = .ok (.aload_n 0, 1) := by decide +kernel
theorem dX10_isMarked_6 : decode cX10_isMarked 6 = .ok (.getfield 71, 3) := by decide +kernel
theorem dX10_isMarked_9 : decode cX10_isMarked 9 = .ok (.if_icmp .ge 16, 3) := by decide +kernel
theorem dX10_isMarked_12 : decode cX10_isMarked 12 = .ok (.aload_n 0, 1) := by decide +kernel
theorem dX10_isMarked_13 : decode cX10_isMarked 13 = .ok (.getfield 58, 3) := by decide +kernel
theorem dX10_isMarked_16 : decode cX10_isMarked 16 = .ok (.iload_n 1, 1) := by decide +kernel
theorem dX10_isMarked_17 : decode cX10_isMarked 17 = .ok (.baload, 1) := by decide +kernel
theorem dX10_isMarked_18 : decode cX10_isMarked 18 = .ok (.ifCond .eq 7, 3) := by decide +kernel
theorem dX10_isMarked_21 : decode cX10_isMarked 21 = .ok (.iconst 1, 1) := by decide +kernel
theorem dX10_isMarked_22 : decode cX10_isMarked 22 = .ok (.goto 4, 3) := by decide +kernel
theorem dX10_isMarked_25 : decode cX10_isMarked 25 = .ok (.iconst 0, 1) := by decide +kernel
theorem dX10_isMarked_26 : decode cX10_isMarked 26 = .ok (.ireturn, 1) := by decide +kernel
theorem dX10_isParallel_0 : decode cX10_isParallel 0 = .ok (.aload_n 0, 1) := by decide +kernel
theorem dX10_isParallel_1 : decode cX10_isParallel 1 = .ok (.iload_n 1, 1) := by decide +kernel
theorem dX10_isParallel_2 : decode cX10_isParallel 2 = .ok (.invokevirtual 81, 3) := by decide +kernel
theorem dX10_isParallel_5 : decode cX10_isParallel 5 = .ok (.tableswitch 96 4 10 #[43, 96, 96, 45, 96, 43, 43], 43) := by decide +kernel
theorem dX10_isParallel_48 : decode cX10_isParallel 48 = .ok (.iconst 0, 1) := by decide +kernel
theorem dX10_isParallel_49 : decode cX10_isParallel 49 = .ok (.ireturn, 1) := by decide +kernel
theorem dX10_isParallel_50 : decode cX10_isParallel 50 = .ok (.aload_n 0, 1) := by decide +kernel
theorem dX10_isParallel_51 : decode cX10_isParallel 51 = .ok (.iload_n 1, 1) := by decide +kernel
theorem dX10_isParallel_52 : decode cX10_isParallel 52 = .ok (.invokevirtual 105, 3) := by decide +kernel
theorem dX10_isParallel_55 : decode cX10_isParallel 55 = .ok (.istore_n 2, 1) := by decide +kernel
theorem dX10_isParallel_56 : decode cX10_isParallel 56 = .ok (.aload_n 0, 1) := by decide +kernel
theorem dX10_isParallel_57 : decode cX10_isParallel 57 = .ok (.iload_n 1, 1) := by decide +kernel
theorem dX10_isParallel_58 : decode cX10_isParallel 58 = .ok (.invokevirtual 130, 3) := by decide +kernel
theorem dX10_isParallel_61 : decode cX10_isParallel 61 = .ok (.iconst 2, 1) := by decide +kernel
theorem dX10_isParallel_62 : decode cX10_isParallel 62 = .ok (.if_icmp .eq 37, 3) := by decide +kernel
theorem dX10_isParallel_65 : decode cX10_isParallel 65 = .ok (.aload_n 0, 1) := by decide +kernel
theorem dX10_isParallel_66 : decode cX10_isParallel 66 = .ok (.iload_n 1, 1) := by decide +kernel
theorem dX10_isParallel_67 : decode cX10_isParallel 67 = .ok (.invokevirtual 85, 3) := by decide +kernel
theorem dX10_isParallel_70 : decode cX10_isParallel 70 = .ok (.aload_n 0, 1) := by decide +kernel
theorem dX10_isParallel_71 : decode cX10_isParallel 71 = .ok (.iload_n 1, 1) := by decide +kernel
theorem dX10_isParallel_72 : decode cX10_isParallel 72 = .ok (.invokevirtual 95, 3) := by decide +kernel
theorem dX10_isParallel_75 : decode cX10_isParallel 75 = .ok (.if_icmp .le 20, 3) := by decide +kernel
theorem dX10_isParallel_78 : decode cX10_isParallel 78 = .ok (.aload_n 0, 1) := by decide +kernel
theorem dX10_isParallel_79 : decode cX10_isParallel 79 = .ok (.iload_n 2, 1) := by decide +kernel
theorem dX10_isParallel_80 : decode cX10_isParallel 80 = .ok (.invokevirtual 91, 3) := by decide +kernel
theorem dX10_isParallel_83 : decode cX10_isParallel 83 = .ok (.ifCond .eq 12, 3) := by decide +kernel
theorem dX10_isParallel_86 : decode cX10_isParallel 86 = .ok (.aload_n 0, 1) := by decide +kernel
theorem dX10_isParallel_87 : decode cX10_isParallel 87 = .ok (.getfield 51, 3) := by decide +kernel
theorem dX10_isParallel_90 : decode cX10_isParallel 90 = .ok (.iload_n 2, 1) := by decide +kernel
theorem dX10_isParallel_91 : decode cX10_isParallel 91 = .ok (.baload, 1) := by decide +kernel
theorem dX10_isParallel_92 : decode cX10_isParallel 92 = .ok (.ifCond .ne 7, 3) := by decide +kernel
theorem dX10_isParallel_95 : decode cX10_isParallel 95 = .ok (.iconst 1, 1) := by decide +kernel
theorem dX10_isParallel_96 : decode cX10_isParallel 96 = .ok (.goto 4, 3) := by decide +kernel
theorem dX10_isParallel_99 : decode cX10_isParallel 99 = .ok (.iconst 0, 1) := by decide +kernel
theorem dX10_isParallel_100 : decode cX10_isParallel 100 = .ok (.ireturn, 1) := by decide +kernel
theorem dX10_isParallel_101 : decode cX10_isParallel 101 = .ok (.iconst 1, 1) := by decide +kernel
theorem dX10_isParallel_102 : decode cX10_isParallel 102 = .ok (.ireturn, 1) := by decide +kernel
theorem dX10_isSaidAhead_0 : decode cX10_isSaidAhead 0 = .ok (.aload_n 0, 1) := by decide +kernel
theorem dX10_isSaidAhead_1 : decode cX10_isSaidAhead 1 = .ok (.iload_n 1, 1) := by decide +kernel
theorem dX10_isSaidAhead_2 : decode cX10_isSaidAhead 2 = .ok (.invokevirtual 176, 3) := by decide +kernel
theorem dX10_isSaidAhead_5 : decode cX10_isSaidAhead 5 = .ok (.istore_n 2, 1) := by decide +kernel
theorem dX10_isSaidAhead_6 : decode cX10_isSaidAhead 6 = .ok (.aload_n 0, 1) := by decide +kernel
theorem dX10_isSaidAhead_7 : decode cX10_isSaidAhead 7 = .ok (.iload_n 2, 1) := by decide +kernel
theorem dX10_isSaidAhead_8 : decode cX10_isSaidAhead 8 = .ok (.invokevirtual 91, 3) := by decide +kernel
theorem dX10_isSaidAhead_11 : decode cX10_isSaidAhead 11 = .ok (.ifCond .eq 24, 3) := by decide +kernel
theorem dX10_isSaidAhead_14 : decode cX10_isSaidAhead 14 = .ok (.aload_n 0, 1) := by decide +kernel
theorem dX10_isSaidAhead_15 : decode cX10_isSaidAhead 15 = .ok (.iload_n 1, 1) := by decide +kernel
theorem dX10_isSaidAhead_16 : decode cX10_isSaidAhead 16 = .ok (.iload_n 2, 1) := by decide +kernel
theorem dX10_isSaidAhead_17 : decode cX10_isSaidAhead 17 = .ok (.invokevirtual 179, 3) := by decide +kernel
theorem dX10_isSaidAhead_20 : decode cX10_isSaidAhead 20 = .ok (.ifCond .eq 5, 3) := by decide +kernel
theorem dX10_isSaidAhead_23 : decode cX10_isSaidAhead 23 = .ok (.iconst 1, 1) := by decide +kernel
theorem dX10_isSaidAhead_24 : decode cX10_isSaidAhead 24 = .ok (.ireturn, 1) := by decide +kernel
theorem dX10_isSaidAhead_25 : decode cX10_isSaidAhead 25 = .ok (.aload_n 0, 1) := by decide +kernel
theorem dX10_isSaidAhead_26 : decode cX10_isSaidAhead 26 = .ok (.getfield 27, 3) := by decide +kernel
theorem dX10_isSaidAhead_29 : decode cX10_isSaidAhead 29 = .ok (.iload_n 2, 1) := by decide +kernel
theorem dX10_isSaidAhead_30 : decode cX10_isSaidAhead 30 = .ok (.iaload, 1) := by decide +kernel
theorem dX10_isSaidAhead_31 : decode cX10_isSaidAhead 31 = .ok (.istore_n 2, 1) := by decide +kernel
theorem dX10_isSaidAhead_32 : decode cX10_isSaidAhead 32 = .ok (.goto (-26), 3) := by decide +kernel
theorem dX10_isSaidAhead_35 : decode cX10_isSaidAhead 35 = .ok (.iconst 0, 1) := by decide +kernel
theorem dX10_isSaidAhead_36 : decode cX10_isSaidAhead 36 = .ok (.ireturn, 1) := by decide +kernel
theorem dX10_isTakenBy_0 : decode cX10_isTakenBy 0 = .ok (.iconst 0, 1) := by decide +kernel
theorem dX10_isTakenBy_1 : decode cX10_isTakenBy 1 = .ok (.istore_n 2, 1) := by decide +kernel
theorem dX10_isTakenBy_2 : decode cX10_isTakenBy 2 = .ok (.iload_n 1, 1) := by decide +kernel
theorem dX10_isTakenBy_3 : decode cX10_isTakenBy 3 = .ok (.ifCond .eq 60, 3) := by decide +kernel
theorem dX10_isTakenBy_6 : decode cX10_isTakenBy 6 = .ok (.aload_n 0, 1) := by decide +kernel
theorem dX10_isTakenBy_7 : decode cX10_isTakenBy 7 = .ok (.iload_n 2, 1) := by decide +kernel
theorem dX10_isTakenBy_8 : decode cX10_isTakenBy 8 = .ok (.invokevirtual 91, 3) := by decide +kernel
theorem dX10_isTakenBy_11 : decode cX10_isTakenBy 11 = .ok (.ifCond .eq 52, 3) := by decide +kernel
theorem dX10_isTakenBy_14 : decode cX10_isTakenBy 14 = .ok (.iload_n 1, 1) := by decide +kernel
theorem dX10_isTakenBy_15 : decode cX10_isTakenBy 15 = .ok (.iconst 1, 1) := by decide +kernel
theorem dX10_isTakenBy_16 : decode cX10_isTakenBy 16 = .ok (.if_icmp .ne 11, 3) := by decide +kernel
theorem dX10_isTakenBy_19 : decode cX10_isTakenBy 19 = .ok (.aload_n 0, 1) := by decide +kernel
theorem dX10_isTakenBy_20 : decode cX10_isTakenBy 20 = .ok (.iload_n 2, 1) := by decide +kernel
theorem dX10_isTakenBy_21 : decode cX10_isTakenBy 21 = .ok (.invokevirtual 127, 3) := by decide +kernel
theorem dX10_isTakenBy_24 : decode cX10_isTakenBy 24 = .ok (.goto 26, 3) := by decide +kernel
theorem dX10_isTakenBy_27 : decode cX10_isTakenBy 27 = .ok (.aload_n 0, 1) := by decide +kernel
theorem dX10_isTakenBy_28 : decode cX10_isTakenBy 28 = .ok (.iload_n 2, 1) := by decide +kernel
theorem dX10_isTakenBy_29 : decode cX10_isTakenBy 29 = .ok (.invokevirtual 127, 3) := by decide +kernel
theorem dX10_isTakenBy_32 : decode cX10_isTakenBy 32 = .ok (.ifCond .eq 17, 3) := by decide +kernel
theorem dX10_isTakenBy_35 : decode cX10_isTakenBy 35 = .ok (.aload_n 0, 1) := by decide +kernel
theorem dX10_isTakenBy_36 : decode cX10_isTakenBy 36 = .ok (.getfield 15, 3) := by decide +kernel
theorem dX10_isTakenBy_39 : decode cX10_isTakenBy 39 = .ok (.iload_n 2, 1) := by decide +kernel
theorem dX10_isTakenBy_40 : decode cX10_isTakenBy 40 = .ok (.iaload, 1) := by decide +kernel
theorem dX10_isTakenBy_41 : decode cX10_isTakenBy 41 = .ok (.iconst 3, 1) := by decide +kernel
theorem dX10_isTakenBy_42 : decode cX10_isTakenBy 42 = .ok (.if_icmp .eq 7, 3) := by decide +kernel
theorem dX10_isTakenBy_45 : decode cX10_isTakenBy 45 = .ok (.iconst 1, 1) := by decide +kernel
theorem dX10_isTakenBy_46 : decode cX10_isTakenBy 46 = .ok (.goto 4, 3) := by decide +kernel
theorem dX10_isTakenBy_49 : decode cX10_isTakenBy 49 = .ok (.iconst 0, 1) := by decide +kernel
theorem dX10_isTakenBy_50 : decode cX10_isTakenBy 50 = .ok (.istore_n 3, 1) := by decide +kernel
theorem dX10_isTakenBy_51 : decode cX10_isTakenBy 51 = .ok (.iload_n 3, 1) := by decide +kernel
theorem dX10_isTakenBy_52 : decode cX10_isTakenBy 52 = .ok (.ifCond .ne 5, 3) := by decide +kernel
theorem dX10_isTakenBy_55 : decode cX10_isTakenBy 55 = .ok (.iconst 0, 1) := by decide +kernel
theorem dX10_isTakenBy_56 : decode cX10_isTakenBy 56 = .ok (.ireturn, 1) := by decide +kernel
theorem dX10_isTakenBy_57 : decode cX10_isTakenBy 57 = .ok (.iinc 2 1, 3) := by decide +kernel
theorem dX10_isTakenBy_60 : decode cX10_isTakenBy 60 = .ok (.goto (-58), 3) := by decide +kernel
theorem dX10_isTakenBy_63 : decode cX10_isTakenBy 63 = .ok (.iconst 1, 1) := by decide +kernel
theorem dX10_isTakenBy_64 : decode cX10_isTakenBy 64 = .ok (.ireturn, 1) := by decide +kernel
theorem dX10_isTooLargeFor_0 : decode cX10_isTooLargeFor 0 = .ok (.iload_n 1, 1) := by decide +kernel
theorem dX10_isTooLargeFor_1 : decode cX10_isTooLargeFor 1 = .ok (.ifCond .eq 11, 3) := by decide +kernel
theorem dX10_isTooLargeFor_4 : decode cX10_isTooLargeFor 4 = .ok (.aload_n 0, 1) := by decide +kernel
theorem dX10_isTooLargeFor_5 : decode cX10_isTooLargeFor 5 = .ok (.getfield 71, 3) := by decide +kernel
theorem dX10_isTooLargeFor_8 : decode cX10_isTooLargeFor 8 = .ok (.iconst 1, 1) := by decide +kernel
theorem dX10_isTooLargeFor_9 : decode cX10_isTooLargeFor 9 = .ok (.if_icmp .ge 5, 3) := by decide +kernel
theorem dX10_isTooLargeFor_12 : decode cX10_isTooLargeFor 12 = .ok (.iconst 0, 1) := by decide +kernel
theorem dX10_isTooLargeFor_13 : decode cX10_isTooLargeFor 13 = .ok (.ireturn, 1) := by decide +kernel
theorem dX10_isTooLargeFor_14 : decode cX10_isTooLargeFor 14 = .ok (.aload_n 0, 1) := by decide +kernel
theorem dX10_isTooLargeFor_15 : decode cX10_isTooLargeFor 15 = .ok (.getfield 45, 3) := by decide +kernel
theorem dX10_isTooLargeFor_18 : decode cX10_isTooLargeFor 18 = .ok (.iconst 0, 1) := by decide +kernel
theorem dX10_isTooLargeFor_19 : decode cX10_isTooLargeFor 19 = .ok (.iaload, 1) := by decide +kernel
theorem dX10_isTooLargeFor_20 : decode cX10_isTooLargeFor 20 = .ok (.sipush 200, 3) := by decide +kernel
theorem dX10_isTooLargeFor_23 : decode cX10_isTooLargeFor 23 = .ok (.if_icmp .gt 19, 3) := by decide +kernel
theorem dX10_isTooLargeFor_26 : decode cX10_isTooLargeFor 26 = .ok (.iload_n 1, 1) := by decide +kernel
theorem dX10_isTooLargeFor_27 : decode cX10_isTooLargeFor 27 = .ok (.iconst 2, 1) := by decide +kernel
theorem dX10_isTooLargeFor_28 : decode cX10_isTooLargeFor 28 = .ok (.if_icmp .ne 18, 3) := by decide +kernel
theorem dX10_isTooLargeFor_31 : decode cX10_isTooLargeFor 31 = .ok (.aload_n 0, 1) := by decide +kernel
theorem dX10_isTooLargeFor_32 : decode cX10_isTooLargeFor 32 = .ok (.getfield 48, 3) := by decide +kernel
theorem dX10_isTooLargeFor_35 : decode cX10_isTooLargeFor 35 = .ok (.iconst 0, 1) := by decide +kernel
theorem dX10_isTooLargeFor_36 : decode cX10_isTooLargeFor 36 = .ok (.iaload, 1) := by decide +kernel
theorem dX10_isTooLargeFor_37 : decode cX10_isTooLargeFor 37 = .ok (.bipush 60, 2) := by decide +kernel
theorem dX10_isTooLargeFor_39 : decode cX10_isTooLargeFor 39 = .ok (.if_icmp .le 7, 3) := by decide +kernel
theorem dX10_isTooLargeFor_42 : decode cX10_isTooLargeFor 42 = .ok (.iconst 1, 1) := by decide +kernel
theorem dX10_isTooLargeFor_43 : decode cX10_isTooLargeFor 43 = .ok (.goto 4, 3) := by decide +kernel
theorem dX10_isTooLargeFor_46 : decode cX10_isTooLargeFor 46 = .ok (.iconst 0, 1) := by decide +kernel
theorem dX10_isTooLargeFor_47 : decode cX10_isTooLargeFor 47 = .ok (.ireturn, 1) := by decide +kernel
theorem dX10_isWithinCase_0 : decode cX10_isWithinCase 0 = .ok (.iload_n 1, 1) := by decide +kernel
theorem dX10_isWithinCase_1 : decode cX10_isWithinCase 1 = .ok (.ifCond .lt 24, 3) := by decide +kernel
theorem dX10_isWithinCase_4 : decode cX10_isWithinCase 4 = .ok (.iload_n 1, 1) := by decide +kernel
theorem dX10_isWithinCase_5 : decode cX10_isWithinCase 5 = .ok (.aload_n 0, 1) := by decide +kernel
theorem dX10_isWithinCase_6 : decode cX10_isWithinCase 6 = .ok (.getfield 71, 3) := by decide +kernel
theorem dX10_isWithinCase_9 : decode cX10_isWithinCase 9 = .ok (.if_icmp .ge 16, 3) := by decide +kernel
theorem dX10_isWithinCase_12 : decode cX10_isWithinCase 12 = .ok (.aload_n 0, 1) := by decide +kernel
theorem dX10_isWithinCase_13 : decode cX10_isWithinCase 13 = .ok (.getfield 55, 3) := by decide +kernel
theorem dX10_isWithinCase_16 : decode cX10_isWithinCase 16 = .ok (.iload_n 1, 1) := by decide +kernel
theorem dX10_isWithinCase_17 : decode cX10_isWithinCase 17 = .ok (.baload, 1) := by decide +kernel
theorem dX10_isWithinCase_18 : decode cX10_isWithinCase 18 = .ok (.ifCond .eq 7, 3) := by decide +kernel
theorem dX10_isWithinCase_21 : decode cX10_isWithinCase 21 = .ok (.iconst 1, 1) := by decide +kernel
theorem dX10_isWithinCase_22 : decode cX10_isWithinCase 22 = .ok (.goto 4, 3) := by decide +kernel
theorem dX10_isWithinCase_25 : decode cX10_isWithinCase 25 = .ok (.iconst 0, 1) := by decide +kernel
theorem dX10_isWithinCase_26 : decode cX10_isWithinCase 26 = .ok (.ireturn, 1) := by decide +kernel
theorem dX10_lastOf_0 : decode cX10_lastOf 0 = .ok (.iload_n 1, 1) := by decide +kernel
theorem dX10_lastOf_1 : decode cX10_lastOf 1 = .ok (.ifCond .lt 20, 3) := by decide +kernel
theorem dX10_lastOf_4 : decode cX10_lastOf 4 = .ok (.iload_n 1, 1) := by decide +kernel
theorem dX10_lastOf_5 : decode cX10_lastOf 5 = .ok (.aload_n 0, 1) := by decide +kernel
theorem dX10_lastOf_6 : decode cX10_lastOf 6 = .ok (.getfield 71, 3) := by decide +kernel
theorem dX10_lastOf_9 : decode cX10_lastOf 9 = .ok (.if_icmp .ge 12, 3) := by decide +kernel
theorem dX10_lastOf_12 : decode cX10_lastOf 12 = .ok (.aload_n 0, 1) := by decide +kernel
theorem dX10_lastOf_13 : decode cX10_lastOf 13 = .ok (.getfield 30, 3) := by decide +kernel
theorem dX10_lastOf_16 : decode cX10_lastOf 16 = .ok (.iload_n 1, 1) := by decide +kernel
theorem dX10_lastOf_17 : decode cX10_lastOf 17 = .ok (.iaload, 1) := by decide +kernel
theorem dX10_lastOf_18 : decode cX10_lastOf 18 = .ok (.goto 4, 3) := by decide +kernel
theorem dX10_lastOf_21 : decode cX10_lastOf 21 = .ok (.iconst (-1), 1) := by decide +kernel
theorem dX10_lastOf_22 : decode cX10_lastOf 22 = .ok (.ireturn, 1) := by decide +kernel
theorem dX10_lowOf_0 : decode cX10_lowOf 0 = .ok (.iload_n 1, 1) := by decide +kernel
theorem dX10_lowOf_1 : decode cX10_lowOf 1 = .ok (.ifCond .lt 20, 3) := by decide +kernel
theorem dX10_lowOf_4 : decode cX10_lowOf 4 = .ok (.iload_n 1, 1) := by decide +kernel
theorem dX10_lowOf_5 : decode cX10_lowOf 5 = .ok (.aload_n 0, 1) := by decide +kernel
theorem dX10_lowOf_6 : decode cX10_lowOf 6 = .ok (.getfield 71, 3) := by decide +kernel
theorem dX10_lowOf_9 : decode cX10_lowOf 9 = .ok (.if_icmp .ge 12, 3) := by decide +kernel
theorem dX10_lowOf_12 : decode cX10_lowOf 12 = .ok (.aload_n 0, 1) := by decide +kernel
theorem dX10_lowOf_13 : decode cX10_lowOf 13 = .ok (.getfield 39, 3) := by decide +kernel
theorem dX10_lowOf_16 : decode cX10_lowOf 16 = .ok (.iload_n 1, 1) := by decide +kernel
theorem dX10_lowOf_17 : decode cX10_lowOf 17 = .ok (.iaload, 1) := by decide +kernel
theorem dX10_lowOf_18 : decode cX10_lowOf 18 = .ok (.goto 4, 3) := by decide +kernel
theorem dX10_lowOf_21 : decode cX10_lowOf 21 = .ok (.iconst 0, 1) := by decide +kernel
theorem dX10_lowOf_22 : decode cX10_lowOf 22 = .ok (.ireturn, 1) := by decide +kernel
theorem dX10_markBeginning_0 : decode cX10_markBeginning 0 = .ok (.aload_n 0, 1) := by decide +kernel
theorem dX10_markBeginning_1 : decode cX10_markBeginning 1 = .ok (.getfield 71, 3) := by decide +kernel
theorem dX10_markBeginning_4 : decode cX10_markBeginning 4 = .ok (.iconst 1, 1) := by decide +kernel
theorem dX10_markBeginning_5 : decode cX10_markBeginning 5 = .ok (.isub, 1) := by decide +kernel
theorem dX10_markBeginning_6 : decode cX10_markBeginning 6 = .ok (.istore_n 2, 1) := by decide +kernel
theorem dX10_markBeginning_7 : decode cX10_markBeginning 7 = .ok (.aload_n 0, 1) := by decide +kernel
theorem dX10_markBeginning_8 : decode cX10_markBeginning 8 = .ok (.iload_n 2, 1) := by decide +kernel
theorem dX10_markBeginning_9 : decode cX10_markBeginning 9 = .ok (.invokevirtual 91, 3) := by decide +kernel
theorem dX10_markBeginning_12 : decode cX10_markBeginning 12 = .ok (.ifCond .eq 21, 3) := by decide +kernel
theorem dX10_markBeginning_15 : decode cX10_markBeginning 15 = .ok (.aload_n 0, 1) := by decide +kernel
theorem dX10_markBeginning_16 : decode cX10_markBeginning 16 = .ok (.getfield 58, 3) := by decide +kernel
theorem dX10_markBeginning_19 : decode cX10_markBeginning 19 = .ok (.iload_n 2, 1) := by decide +kernel
theorem dX10_markBeginning_20 : decode cX10_markBeginning 20 = .ok (.aload_n 0, 1) := by decide +kernel
theorem dX10_markBeginning_21 : decode cX10_markBeginning 21 = .ok (.iload_n 2, 1) := by decide +kernel
theorem dX10_markBeginning_22 : decode cX10_markBeginning 22 = .ok (.iload_n 1, 1) := by decide +kernel
theorem dX10_markBeginning_23 : decode cX10_markBeginning 23 = .ok (.invokevirtual 140, 3) := by decide +kernel
theorem dX10_markBeginning_26 : decode cX10_markBeginning 26 = .ok (.bastore, 1) := by decide +kernel
theorem dX10_markBeginning_27 : decode cX10_markBeginning 27 = .ok (.iinc 2 (-1), 3) := by decide +kernel
theorem dX10_markBeginning_30 : decode cX10_markBeginning 30 = .ok (.goto (-23), 3) := by decide +kernel
theorem dX10_markBeginning_33 : decode cX10_markBeginning 33 = .ok (.return_, 1) := by decide +kernel
theorem dX10_maybeEmpty_0 : decode cX10_maybeEmpty 0 = .ok (.aload_n 0, 1) := by decide +kernel
theorem dX10_maybeEmpty_1 : decode cX10_maybeEmpty 1 = .ok (.iload_n 1, 1) := by decide +kernel
theorem dX10_maybeEmpty_2 : decode cX10_maybeEmpty 2 = .ok (.invokevirtual 81, 3) := by decide +kernel
theorem dX10_maybeEmpty_5 : decode cX10_maybeEmpty 5 = .ok (.tableswitch 79 0 9 #[55, 55, 55, 57, 57, 79, 59, 61, 79, 57], 55) := by decide +kernel
theorem dX10_maybeEmpty_60 : decode cX10_maybeEmpty 60 = .ok (.iconst 0, 1) := by decide +kernel
theorem dX10_maybeEmpty_61 : decode cX10_maybeEmpty 61 = .ok (.ireturn, 1) := by decide +kernel
theorem dX10_maybeEmpty_62 : decode cX10_maybeEmpty 62 = .ok (.iconst 1, 1) := by decide +kernel
theorem dX10_maybeEmpty_63 : decode cX10_maybeEmpty 63 = .ok (.ireturn, 1) := by decide +kernel
theorem dX10_maybeEmpty_64 : decode cX10_maybeEmpty 64 = .ok (.iload_n 3, 1) := by decide +kernel
theorem dX10_maybeEmpty_65 : decode cX10_maybeEmpty 65 = .ok (.ireturn, 1) := by decide +kernel
theorem dX10_maybeEmpty_66 : decode cX10_maybeEmpty 66 = .ok (.aload_n 0, 1) := by decide +kernel
theorem dX10_maybeEmpty_67 : decode cX10_maybeEmpty 67 = .ok (.iload_n 1, 1) := by decide +kernel
theorem dX10_maybeEmpty_68 : decode cX10_maybeEmpty 68 = .ok (.invokevirtual 95, 3) := by decide +kernel
theorem dX10_maybeEmpty_71 : decode cX10_maybeEmpty 71 = .ok (.ifCond .eq 7, 3) := by decide +kernel
theorem dX10_maybeEmpty_74 : decode cX10_maybeEmpty 74 = .ok (.iload_n 3, 1) := by decide +kernel
