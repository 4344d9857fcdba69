theorem dX6_readPart_20 : decode cX6_readPart 20 = .ok (.if_icmp .ne 34, 3) := by decide +kernel
theorem dX6_readPart_23 : decode cX6_readPart 23 = .ok (.aload_n 0, 1) := by decide +kernel
theorem dX6_readPart_24 : decode cX6_readPart 24 = .ok (.dup, 1) := by decide +kernel
theorem dX6_readPart_25 : decode cX6_readPart 25 = .ok (.getfield 68, 3) := by decide +kernel
theorem dX6_readPart_28 : decode cX6_readPart 28 = .ok (.iconst 1, 1) := by decide +kernel
theorem dX6_readPart_29 : decode cX6_readPart 29 = .ok (.iadd, 1) := by decide +kernel
theorem dX6_readPart_30 : decode cX6_readPart 30 = .ok (.putfield 68, 3) := by decide +kernel
theorem dX6_readPart_33 : decode cX6_readPart 33 = .ok (.aload_n 0, 1) := by decide +kernel
theorem dX6_readPart_34 : decode cX6_readPart 34 = .ok (.getfield 68, 3) := by decide +kernel
theorem dX6_readPart_37 : decode cX6_readPart 37 = .ok (.istore_n 3, 1) := by decide +kernel
theorem dX6_readPart_38 : decode cX6_readPart 38 = .ok (.aload_n 0, 1) := by decide +kernel
theorem dX6_readPart_39 : decode cX6_readPart 39 = .ok (.invokevirtual 270, 3) := by decide +kernel
theorem dX6_readPart_42 : decode cX6_readPart 42 = .ok (.istore_n 2, 1) := by decide +kernel
theorem dX6_readPart_43 : decode cX6_readPart 43 = .ok (.iload_n 2, 1) := by decide +kernel
theorem dX6_readPart_44 : decode cX6_readPart 44 = .ok (.iload_n 1, 1) := by decide +kernel
theorem dX6_readPart_45 : decode cX6_readPart 45 = .ok (.if_icmp .ge 9, 3) := by decide +kernel
theorem dX6_readPart_48 : decode cX6_readPart 48 = .ok (.aload_n 0, 1) := by decide +kernel
theorem dX6_readPart_49 : decode cX6_readPart 49 = .ok (.iconst 3, 1) := by decide +kernel
theorem dX6_readPart_50 : decode cX6_readPart 50 = .ok (.iload_n 3, 1) := by decide +kernel
theorem dX6_readPart_51 : decode cX6_readPart 51 = .ok (.invokevirtual 88, 3) := by decide +kernel
theorem dX6_readPart_54 : decode cX6_readPart 54 = .ok (.aload_n 0, 1) := by decide +kernel
theorem dX6_readPart_55 : decode cX6_readPart 55 = .ok (.iload_n 1, 1) := by decide +kernel
theorem dX6_readPart_56 : decode cX6_readPart 56 = .ok (.iload_n 2, 1) := by decide +kernel
theorem dX6_readPart_57 : decode cX6_readPart 57 = .ok (.invokevirtual 251, 3) := by decide +kernel
theorem dX6_readPart_60 : decode cX6_readPart 60 = .ok (.return_, 1) := by decide +kernel
theorem dX6_sortOfMark_0 : decode cX6_sortOfMark 0 = .ok (.iload_n 0, 1) := by decide +kernel
theorem dX6_sortOfMark_1 : decode cX6_sortOfMark 1 = .ok (.lookupswitch 78 #[(33, 69), (37, 75), (42, 72), (58, 67), (60, 69), (61, 69), (126, 69)], 67) := by decide +kernel
theorem dX6_sortOfMark_68 : decode cX6_sortOfMark 68 = .ok (.iconst (-1), 1) := by decide +kernel
theorem dX6_sortOfMark_69 : decode cX6_sortOfMark 69 = .ok (.ireturn, 1) := by decide +kernel
theorem dX6_sortOfMark_70 : decode cX6_sortOfMark 70 = .ok (.bipush 9, 2) := by decide +kernel
theorem dX6_sortOfMark_72 : decode cX6_sortOfMark 72 = .ok (.ireturn, 1) := by decide +kernel
theorem dX6_sortOfMark_73 : decode cX6_sortOfMark 73 = .ok (.bipush 10, 2) := by decide +kernel
theorem dX6_sortOfMark_75 : decode cX6_sortOfMark 75 = .ok (.ireturn, 1) := by decide +kernel
theorem dX6_sortOfMark_76 : decode cX6_sortOfMark 76 = .ok (.bipush 11, 2) := by decide +kernel
theorem dX6_sortOfMark_78 : decode cX6_sortOfMark 78 = .ok (.ireturn, 1) := by decide +kernel
theorem dX6_sortOfMark_79 : decode cX6_sortOfMark 79 = .ok (.bipush 8, 2) := by decide +kernel
theorem dX6_sortOfMark_81 : decode cX6_sortOfMark 81 = .ok (.ireturn, 1) := by decide +kernel
theorem dX7_add_0 : decode cX7_add 0 = .ok (.aload_n 0, 1) := by decide +kernel
theorem dX7_add_1 : decode cX7_add 1 = .ok (.getfield 21, 3) := by decide +kernel
theorem dX7_add_4 : decode cX7_add 4 = .ok (.ifCond .lt 38, 3) := by decide +kernel
theorem dX7_add_7 : decode cX7_add 7 = .ok (.aload_n 0, 1) := by decide +kernel
theorem dX7_add_8 : decode cX7_add 8 = .ok (.getfield 21, 3) := by decide +kernel
theorem dX7_add_11 : decode cX7_add 11 = .ok (.aload_n 0, 1) := by decide +kernel
theorem dX7_add_12 : decode cX7_add 12 = .ok (.getfield 15, 3) := by decide +kernel
theorem dX7_add_15 : decode cX7_add 15 = .ok (.arraylength, 1) := by decide +kernel
theorem dX7_add_16 : decode cX7_add 16 = .ok (.if_icmp .ge 26, 3) := by decide +kernel
theorem dX7_add_19 : decode cX7_add 19 = .ok (.aload_n 0, 1) := by decide +kernel
theorem dX7_add_20 : decode cX7_add 20 = .ok (.getfield 15, 3) := by decide +kernel
theorem dX7_add_23 : decode cX7_add 23 = .ok (.aload_n 0, 1) := by decide +kernel
theorem dX7_add_24 : decode cX7_add 24 = .ok (.getfield 21, 3) := by decide +kernel
theorem dX7_add_27 : decode cX7_add 27 = .ok (.iload_n 1, 1) := by decide +kernel
theorem dX7_add_28 : decode cX7_add 28 = .ok (.iastore, 1) := by decide +kernel
theorem dX7_add_29 : decode cX7_add 29 = .ok (.aload_n 0, 1) := by decide +kernel
theorem dX7_add_30 : decode cX7_add 30 = .ok (.dup, 1) := by decide +kernel
theorem dX7_add_31 : decode cX7_add 31 = .ok (.getfield 21, 3) := by decide +kernel
theorem dX7_add_34 : decode cX7_add 34 = .ok (.iconst 1, 1) := by decide +kernel
theorem dX7_add_35 : decode cX7_add 35 = .ok (.iadd, 1) := by decide +kernel
theorem dX7_add_36 : decode cX7_add 36 = .ok (.putfield 21, 3) := by decide +kernel
theorem dX7_add_39 : decode cX7_add 39 = .ok (.goto 8, 3) := by decide +kernel
theorem dX7_add_42 : decode cX7_add 42 = .ok (.aload_n 0, 1) := by decide +kernel
theorem dX7_add_43 : decode cX7_add 43 = .ok (.iconst 1, 1) := by decide +kernel
theorem dX7_add_44 : decode cX7_add 44 = .ok (.putfield 25, 3) := by decide +kernel
theorem dX7_add_47 : decode cX7_add 47 = .ok (.return_, 1) := by decide +kernel
theorem dX7_addFrom_0 : decode cX7_addFrom 0 = .ok (.iload_n 2, 1) := by decide +kernel
theorem dX7_addFrom_1 : decode cX7_addFrom 1 = .ok (.iconst 0, 1) := by decide +kernel
theorem dX7_addFrom_2 : decode cX7_addFrom 2 = .ok (.invokestatic 9, 3) := by decide +kernel
theorem dX7_addFrom_5 : decode cX7_addFrom 5 = .ok (.istore 4, 2) := by decide +kernel
theorem dX7_addFrom_7 : decode cX7_addFrom 7 = .ok (.iload 4, 2) := by decide +kernel
theorem dX7_addFrom_9 : decode cX7_addFrom 9 = .ok (.iload_n 3, 1) := by decide +kernel
theorem dX7_addFrom_10 : decode cX7_addFrom 10 = .ok (.if_icmp .ge 28, 3) := by decide +kernel
theorem dX7_addFrom_13 : decode cX7_addFrom 13 = .ok (.iload 4, 2) := by decide +kernel
theorem dX7_addFrom_15 : decode cX7_addFrom 15 = .ok (.aload_n 1, 1) := by decide +kernel
theorem dX7_addFrom_16 : decode cX7_addFrom 16 = .ok (.getfield 21, 3) := by decide +kernel
theorem dX7_addFrom_19 : decode cX7_addFrom 19 = .ok (.if_icmp .ge 19, 3) := by decide +kernel
theorem dX7_addFrom_22 : decode cX7_addFrom 22 = .ok (.aload_n 0, 1) := by decide +kernel
theorem dX7_addFrom_23 : decode cX7_addFrom 23 = .ok (.aload_n 1, 1) := by decide +kernel
theorem dX7_addFrom_24 : decode cX7_addFrom 24 = .ok (.iload 4, 2) := by decide +kernel
theorem dX7_addFrom_26 : decode cX7_addFrom 26 = .ok (.invokevirtual 29, 3) := by decide +kernel
theorem dX7_addFrom_29 : decode cX7_addFrom 29 = .ok (.invokevirtual 33, 3) := by decide +kernel
theorem dX7_addFrom_32 : decode cX7_addFrom 32 = .ok (.iinc 4 1, 3) := by decide +kernel
theorem dX7_addFrom_35 : decode cX7_addFrom 35 = .ok (.goto (-28), 3) := by decide +kernel
theorem dX7_addFrom_38 : decode cX7_addFrom 38 = .ok (.return_, 1) := by decide +kernel
theorem dX7_at_0 : decode cX7_at 0 = .ok (.iload_n 1, 1) := by decide +kernel
theorem dX7_at_1 : decode cX7_at 1 = .ok (.ifCond .lt 29, 3) := by decide +kernel
theorem dX7_at_4 : decode cX7_at 4 = .ok (.iload_n 1, 1) := by decide +kernel
theorem dX7_at_5 : decode cX7_at 5 = .ok (.aload_n 0, 1) := by decide +kernel
theorem dX7_at_6 : decode cX7_at 6 = .ok (.getfield 21, 3) := by decide +kernel
theorem dX7_at_9 : decode cX7_at 9 = .ok (.if_icmp .ge 21, 3) := by decide +kernel
theorem dX7_at_12 : decode cX7_at 12 = .ok (.iload_n 1, 1) := by decide +kernel
theorem dX7_at_13 : decode cX7_at 13 = .ok (.aload_n 0, 1) := by decide +kernel
theorem dX7_at_14 : decode cX7_at 14 = .ok (.getfield 15, 3) := by decide +kernel
theorem dX7_at_17 : decode cX7_at 17 = .ok (.arraylength, 1) := by decide +kernel
theorem dX7_at_18 : decode cX7_at 18 = .ok (.if_icmp .ge 12, 3) := by decide +kernel
theorem dX7_at_21 : decode cX7_at 21 = .ok (.aload_n 0, 1) := by decide +kernel
theorem dX7_at_22 : decode cX7_at 22 = .ok (.getfield 15, 3) := by decide +kernel
theorem dX7_at_25 : decode cX7_at 25 = .ok (.iload_n 1, 1) := by decide +kernel
theorem dX7_at_26 : decode cX7_at 26 = .ok (.iaload, 1) := by decide +kernel
theorem dX7_at_27 : decode cX7_at 27 = .ok (.goto 4, 3) := by decide +kernel
theorem dX7_at_30 : decode cX7_at 30 = .ok (.iconst (-1), 1) := by decide +kernel
theorem dX7_at_31 : decode cX7_at 31 = .ok (.ireturn, 1) := by decide +kernel
theorem dX7_empty_0 : decode cX7_empty 0 = .ok (.aload_n 0, 1) := by decide +kernel
theorem dX7_empty_1 : decode cX7_empty 1 = .ok (.iconst 0, 1) := by decide +kernel
theorem dX7_empty_2 : decode cX7_empty 2 = .ok (.putfield 21, 3) := by decide +kernel
theorem dX7_empty_5 : decode cX7_empty 5 = .ok (.aload_n 0, 1) := by decide +kernel
theorem dX7_empty_6 : decode cX7_empty 6 = .ok (.iconst 0, 1) := by decide +kernel
theorem dX7_empty_7 : decode cX7_empty 7 = .ok (.putfield 25, 3) := by decide +kernel
theorem dX7_empty_10 : decode cX7_empty 10 = .ok (.return_, 1) := by decide +kernel
theorem dX7_take_0 : decode cX7_take 0 = .ok (.aload_n 0, 1) := by decide +kernel
theorem dX7_take_1 : decode cX7_take 1 = .ok (.invokevirtual 37, 3) := by decide +kernel
theorem dX7_take_4 : decode cX7_take 4 = .ok (.aload_n 0, 1) := by decide +kernel
theorem dX7_take_5 : decode cX7_take 5 = .ok (.aload_n 1, 1) := by decide +kernel
theorem dX7_take_6 : decode cX7_take 6 = .ok (.iconst 0, 1) := by decide +kernel
theorem dX7_take_7 : decode cX7_take 7 = .ok (.aload_n 1, 1) := by decide +kernel
theorem dX7_take_8 : decode cX7_take 8 = .ok (.getfield 21, 3) := by decide +kernel
theorem dX7_take_11 : decode cX7_take 11 = .ok (.invokevirtual 40, 3) := by decide +kernel
theorem dX7_take_14 : decode cX7_take 14 = .ok (.return_, 1) := by decide +kernel
theorem dX7_turnRound_0 : decode cX7_turnRound 0 = .ok (.iconst 0, 1) := by decide +kernel
theorem dX7_turnRound_1 : decode cX7_turnRound 1 = .ok (.istore_n 1, 1) := by decide +kernel
theorem dX7_turnRound_2 : decode cX7_turnRound 2 = .ok (.aload_n 0, 1) := by decide +kernel
theorem dX7_turnRound_3 : decode cX7_turnRound 3 = .ok (.getfield 21, 3) := by decide +kernel
theorem dX7_turnRound_6 : decode cX7_turnRound 6 = .ok (.iconst 1, 1) := by decide +kernel
theorem dX7_turnRound_7 : decode cX7_turnRound 7 = .ok (.isub, 1) := by decide +kernel
theorem dX7_turnRound_8 : decode cX7_turnRound 8 = .ok (.istore_n 2, 1) := by decide +kernel
theorem dX7_turnRound_9 : decode cX7_turnRound 9 = .ok (.iload_n 1, 1) := by decide +kernel
theorem dX7_turnRound_10 : decode cX7_turnRound 10 = .ok (.iload_n 2, 1) := by decide +kernel
theorem dX7_turnRound_11 : decode cX7_turnRound 11 = .ok (.if_icmp .ge 47, 3) := by decide +kernel
theorem dX7_turnRound_14 : decode cX7_turnRound 14 = .ok (.iload_n 2, 1) := by decide +kernel
theorem dX7_turnRound_15 : decode cX7_turnRound 15 = .ok (.aload_n 0, 1) := by decide +kernel
theorem dX7_turnRound_16 : decode cX7_turnRound 16 = .ok (.getfield 15, 3) := by decide +kernel
theorem dX7_turnRound_19 : decode cX7_turnRound 19 = .ok (.arraylength, 1) := by decide +kernel
theorem dX7_turnRound_20 : decode cX7_turnRound 20 = .ok (.if_icmp .ge 38, 3) := by decide +kernel
theorem dX7_turnRound_23 : decode cX7_turnRound 23 = .ok (.aload_n 0, 1) := by decide +kernel
theorem dX7_turnRound_24 : decode cX7_turnRound 24 = .ok (.getfield 15, 3) := by decide +kernel
theorem dX7_turnRound_27 : decode cX7_turnRound 27 = .ok (.iload_n 1, 1) := by decide +kernel
theorem dX7_turnRound_28 : decode cX7_turnRound 28 = .ok (.iaload, 1) := by decide +kernel
theorem dX7_turnRound_29 : decode cX7_turnRound 29 = .ok (.istore_n 3, 1) := by decide +kernel
theorem dX7_turnRound_30 : decode cX7_turnRound 30 = .ok (.aload_n 0, 1) := by decide +kernel
theorem dX7_turnRound_31 : decode cX7_turnRound 31 = .ok (.getfield 15, 3) := by decide +kernel
theorem dX7_turnRound_34 : decode cX7_turnRound 34 = .ok (.iload_n 1, 1) := by decide +kernel
theorem dX7_turnRound_35 : decode cX7_turnRound 35 = .ok (.aload_n 0, 1) := by decide +kernel
theorem dX7_turnRound_36 : decode cX7_turnRound 36 = .ok (.getfield 15, 3) := by decide +kernel
theorem dX7_turnRound_39 : decode cX7_turnRound 39 = .ok (.iload_n 2, 1) := by decide +kernel
theorem dX7_turnRound_40 : decode cX7_turnRound 40 = .ok (.iaload, 1) := by decide +kernel
theorem dX7_turnRound_41 : decode cX7_turnRound 41 = .ok (.iastore, 1) := by decide +kernel
theorem dX7_turnRound_42 : decode cX7_turnRound 42 = .ok (.aload_n 0, 1) := by decide +kernel
theorem dX7_turnRound_43 : decode cX7_turnRound 43 = .ok (.getfield 15, 3) := by decide +kernel
theorem dX7_turnRound_46 : decode cX7_turnRound 46 = .ok (.iload_n 2, 1) := by decide +kernel
theorem dX7_turnRound_47 : decode cX7_turnRound 47 = .ok (.iload_n 3, 1) := by decide +kernel
theorem dX7_turnRound_48 : decode cX7_turnRound 48 = .ok (.iastore, 1) := by decide +kernel
theorem dX7_turnRound_49 : decode cX7_turnRound 49 = .ok (.iinc 1 1, 3) := by decide +kernel
theorem dX7_turnRound_52 : decode cX7_turnRound 52 = .ok (.iinc 2 (-1), 3) := by decide +kernel
theorem dX7_turnRound_55 : decode cX7_turnRound 55 = .ok (.goto (-46), 3) := by decide +kernel
theorem dX7_turnRound_58 : decode cX7_turnRound 58 = .ok (.return_, 1) := by decide +kernel
theorem dX8_longestBeginning_0 : decode cX8_longestBeginning 0 = .ok (.aload_n 0, 1) := by decide +kernel
theorem dX8_longestBeginning_1 : decode cX8_longestBeginning 1 = .ok (.getfield 21, 3) := by decide +kernel
theorem dX8_longestBeginning_4 : decode cX8_longestBeginning 4 = .ok (.aload_n 0, 1) := by decide +kernel
theorem dX8_longestBeginning_5 : decode cX8_longestBeginning 5 = .ok (.getfield 12, 3) := by decide +kernel
theorem dX8_longestBeginning_8 : decode cX8_longestBeginning 8 = .ok (.aload_n 1, 1) := by decide +kernel
theorem dX8_longestBeginning_9 : decode cX8_longestBeginning 9 = .ok (.iload_n 2, 1) := by decide +kernel
theorem dX8_longestBeginning_10 : decode cX8_longestBeginning 10 = .ok (.invokevirtual 49, 3) := by decide +kernel
theorem dX8_longestBeginning_13 : decode cX8_longestBeginning 13 = .ok (.ireturn, 1) := by decide +kernel
theorem dX8_look_0 : decode cX8_look 0 = .ok (.aload_n 0, 1) := by decide +kernel
theorem dX8_look_1 : decode cX8_look 1 = .ok (.dup, 1) := by decide +kernel
theorem dX8_look_2 : decode cX8_look 2 = .ok (.getfield 53, 3) := by decide +kernel
theorem dX8_look_5 : decode cX8_look 5 = .ok (.iload_n 2, 1) := by decide +kernel
theorem dX8_look_6 : decode cX8_look 6 = .ok (.ifCond .eq 11, 3) := by decide +kernel
theorem dX8_look_9 : decode cX8_look 9 = .ok (.iload_n 3, 1) := by decide +kernel
theorem dX8_look_10 : decode cX8_look 10 = .ok (.ifCond .ne 7, 3) := by decide +kernel
theorem dX8_look_13 : decode cX8_look 13 = .ok (.iconst 1, 1) := by decide +kernel
theorem dX8_look_14 : decode cX8_look 14 = .ok (.goto 4, 3) := by decide +kernel
theorem dX8_look_17 : decode cX8_look 17 = .ok (.iconst 0, 1) := by decide +kernel
theorem dX8_look_18 : decode cX8_look 18 = .ok (.ior, 1) := by decide +kernel
theorem dX8_look_19 : decode cX8_look 19 = .ok (.putfield 53, 3) := by decide +kernel
theorem dX8_look_22 : decode cX8_look 22 = .ok (.aload_n 0, 1) := by decide +kernel
theorem dX8_look_23 : decode cX8_look 23 = .ok (.dup, 1) := by decide +kernel
theorem dX8_look_24 : decode cX8_look 24 = .ok (.getfield 57, 3) := by decide +kernel
theorem dX8_look_27 : decode cX8_look 27 = .ok (.iload_n 3, 1) := by decide +kernel
theorem dX8_look_28 : decode cX8_look 28 = .ok (.ifCond .eq 11, 3) := by decide +kernel
theorem dX8_look_31 : decode cX8_look 31 = .ok (.iload_n 2, 1) := by decide +kernel
theorem dX8_look_32 : decode cX8_look 32 = .ok (.ifCond .ne 7, 3) := by decide +kernel
theorem dX8_look_35 : decode cX8_look 35 = .ok (.iconst 1, 1) := by decide +kernel
theorem dX8_look_36 : decode cX8_look 36 = .ok (.goto 4, 3) := by decide +kernel
theorem dX8_look_39 : decode cX8_look 39 = .ok (.iconst 0, 1) := by decide +kernel
theorem dX8_look_40 : decode cX8_look 40 = .ok (.ior, 1) := by decide +kernel
theorem dX8_look_41 : decode cX8_look 41 = .ok (.putfield 57, 3) := by decide +kernel
theorem dX8_look_44 : decode cX8_look 44 = .ok (.iload_n 2, 1) := by decide +kernel
theorem dX8_look_45 : decode cX8_look 45 = .ok (.iload_n 3, 1) := by decide +kernel
theorem dX8_look_46 : decode cX8_look 46 = .ok (.if_icmp .eq 16, 3) := by decide +kernel
theorem dX8_look_49 : decode cX8_look 49 = .ok (.aload_n 0, 1) := by decide +kernel
theorem dX8_look_50 : decode cX8_look 50 = .ok (.getfield 60, 3) := by decide +kernel
theorem dX8_look_53 : decode cX8_look 53 = .ok (.iconst (-1), 1) := by decide +kernel
theorem dX8_look_54 : decode cX8_look 54 = .ok (.if_icmp .ne 8, 3) := by decide +kernel
theorem dX8_look_57 : decode cX8_look 57 = .ok (.aload_n 0, 1) := by decide +kernel
theorem dX8_look_58 : decode cX8_look 58 = .ok (.iload_n 1, 1) := by decide +kernel
theorem dX8_look_59 : decode cX8_look 59 = .ok (.putfield 60, 3) := by decide +kernel
theorem dX8_look_62 : decode cX8_look 62 = .ok (.return_, 1) := by decide +kernel
theorem dX8_make_0 : decode cX8_make 0 = .ok (.aload_n 0, 1) := by decide +kernel
theorem dX8_make_1 : decode cX8_make 1 = .ok (.getfield 12, 3) := by decide +kernel
theorem dX8_make_4 : decode cX8_make 4 = .ok (.aload_n 1, 1) := by decide +kernel
theorem dX8_make_5 : decode cX8_make 5 = .ok (.aload_n 2, 1) := by decide +kernel
theorem dX8_make_6 : decode cX8_make 6 = .ok (.invokevirtual 41, 3) := by decide +kernel
theorem dX8_make_9 : decode cX8_make 9 = .ok (.aload_n 0, 1) := by decide +kernel
theorem dX8_make_10 : decode cX8_make 10 = .ok (.getfield 21, 3) := by decide +kernel
theorem dX8_make_13 : decode cX8_make 13 = .ok (.aload_n 1, 1) := by decide +kernel
theorem dX8_make_14 : decode cX8_make 14 = .ok (.aload_n 0, 1) := by decide +kernel
theorem dX8_make_15 : decode cX8_make 15 = .ok (.getfield 12, 3) := by decide +kernel
theorem dX8_make_18 : decode cX8_make 18 = .ok (.invokevirtual 45, 3) := by decide +kernel
theorem dX8_make_21 : decode cX8_make 21 = .ok (.ifCond .eq 26, 3) := by decide +kernel
theorem dX8_make_24 : decode cX8_make 24 = .ok (.aload_n 2, 1) := by decide +kernel
theorem dX8_make_25 : decode cX8_make 25 = .ok (.ifnull 18, 3) := by decide +kernel
theorem dX8_make_28 : decode cX8_make 28 = .ok (.aload_n 0, 1) := by decide +kernel
theorem dX8_make_29 : decode cX8_make 29 = .ok (.getfield 25, 3) := by decide +kernel
theorem dX8_make_32 : decode cX8_make 32 = .ok (.aload_n 2, 1) := by decide +kernel
theorem dX8_make_33 : decode cX8_make 33 = .ok (.aload_n 0, 1) := by decide +kernel
theorem dX8_make_34 : decode cX8_make 34 = .ok (.getfield 12, 3) := by decide +kernel
theorem dX8_make_37 : decode cX8_make 37 = .ok (.invokevirtual 45, 3) := by decide +kernel
theorem dX8_make_40 : decode cX8_make 40 = .ok (.ifCond .eq 7, 3) := by decide +kernel
theorem dX8_make_43 : decode cX8_make 43 = .ok (.iconst 1, 1) := by decide +kernel
theorem dX8_make_44 : decode cX8_make 44 = .ok (.goto 4, 3) := by decide +kernel
theorem dX8_make_47 : decode cX8_make 47 = .ok (.iconst 0, 1) := by decide +kernel
theorem dX8_make_48 : decode cX8_make 48 = .ok (.ireturn, 1) := by decide +kernel
theorem dX8_meet_0 : decode cX8_meet 0 = .ok (.iload_n 1, 1) := by decide +kernel
theorem dX8_meet_1 : decode cX8_meet 1 = .ok (.ifCond .lt 33, 3) := by decide +kernel
theorem dX8_meet_4 : decode cX8_meet 4 = .ok (.iload_n 1, 1) := by decide +kernel
theorem dX8_meet_5 : decode cX8_meet 5 = .ok (.sipush 3600, 3) := by decide +kernel
theorem dX8_meet_8 : decode cX8_meet 8 = .ok (.if_icmp .ge 26, 3) := by decide +kernel
theorem dX8_meet_11 : decode cX8_meet 11 = .ok (.aload_n 0, 1) := by decide +kernel
theorem dX8_meet_12 : decode cX8_meet 12 = .ok (.getfield 28, 3) := by decide +kernel
theorem dX8_meet_15 : decode cX8_meet 15 = .ok (.iload_n 1, 1) := by decide +kernel
theorem dX8_meet_16 : decode cX8_meet 16 = .ok (.iaload, 1) := by decide +kernel
theorem dX8_meet_17 : decode cX8_meet 17 = .ok (.aload_n 0, 1) := by decide +kernel
theorem dX8_meet_18 : decode cX8_meet 18 = .ok (.getfield 64, 3) := by decide +kernel
theorem dX8_meet_21 : decode cX8_meet 21 = .ok (.if_icmp .eq 13, 3) := by decide +kernel
theorem dX8_meet_24 : decode cX8_meet 24 = .ok (.aload_n 0, 1) := by decide +kernel
theorem dX8_meet_25 : decode cX8_meet 25 = .ok (.getfield 67, 3) := by decide +kernel
theorem dX8_meet_28 : decode cX8_meet 28 = .ok (.sipush 3600, 3) := by decide +kernel
theorem dX8_meet_31 : decode cX8_meet 31 = .ok (.if_icmp .lt 4, 3) := by decide +kernel
theorem dX8_meet_34 : decode cX8_meet 34 = .ok (.return_, 1) := by decide +kernel
theorem dX8_meet_35 : decode cX8_meet 35 = .ok (.aload_n 0, 1) := by decide +kernel
theorem dX8_meet_36 : decode cX8_meet 36 = .ok (.getfield 28, 3) := by decide +kernel
theorem dX8_meet_39 : decode cX8_meet 39 = .ok (.iload_n 1, 1) := by decide +kernel
theorem dX8_meet_40 : decode cX8_meet 40 = .ok (.aload_n 0, 1) := by decide +kernel
theorem dX8_meet_41 : decode cX8_meet 41 = .ok (.getfield 64, 3) := by decide +kernel
theorem dX8_meet_44 : decode cX8_meet 44 = .ok (.iastore, 1) := by decide +kernel
theorem dX8_meet_45 : decode cX8_meet 45 = .ok (.aload_n 0, 1) := by decide +kernel
theorem dX8_meet_46 : decode cX8_meet 46 = .ok (.getfield 32, 3) := by decide +kernel
theorem dX8_meet_49 : decode cX8_meet 49 = .ok (.aload_n 0, 1) := by decide +kernel
theorem dX8_meet_50 : decode cX8_meet 50 = .ok (.getfield 67, 3) := by decide +kernel
theorem dX8_meet_53 : decode cX8_meet 53 = .ok (.iload_n 1, 1) := by decide +kernel
theorem dX8_meet_54 : decode cX8_meet 54 = .ok (.iastore, 1) := by decide +kernel
theorem dX8_meet_55 : decode cX8_meet 55 = .ok (.aload_n 0, 1) := by decide +kernel
theorem dX8_meet_56 : decode cX8_meet 56 = .ok (.getfield 35, 3) := by decide +kernel
theorem dX8_meet_59 : decode cX8_meet 59 = .ok (.aload_n 0, 1) := by decide +kernel
theorem dX8_meet_60 : decode cX8_meet 60 = .ok (.getfield 67, 3) := by decide +kernel
theorem dX8_meet_63 : decode cX8_meet 63 = .ok (.iload_n 2, 1) := by decide +kernel
theorem dX8_meet_64 : decode cX8_meet 64 = .ok (.iastore, 1) := by decide +kernel
theorem dX8_meet_65 : decode cX8_meet 65 = .ok (.aload_n 0, 1) := by decide +kernel
theorem dX8_meet_66 : decode cX8_meet 66 = .ok (.getfield 38, 3) := by decide +kernel
theorem dX8_meet_69 : decode cX8_meet 69 = .ok (.aload_n 0, 1) := by decide +kernel
theorem dX8_meet_70 : decode cX8_meet 70 = .ok (.getfield 67, 3) := by decide +kernel
theorem dX8_meet_73 : decode cX8_meet 73 = .ok (.iload_n 3, 1) := by decide +kernel
theorem dX8_meet_74 : decode cX8_meet 74 = .ok (.iastore, 1) := by decide +kernel
theorem dX8_meet_75 : decode cX8_meet 75 = .ok (.aload_n 0, 1) := by decide +kernel
theorem dX8_meet_76 : decode cX8_meet 76 = .ok (.dup, 1) := by decide +kernel
theorem dX8_meet_77 : decode cX8_meet 77 = .ok (.getfield 67, 3) := by decide +kernel
theorem dX8_meet_80 : decode cX8_meet 80 = .ok (.iconst 1, 1) := by decide +kernel
theorem dX8_meet_81 : decode cX8_meet 81 = .ok (.iadd, 1) := by decide +kernel
theorem dX8_meet_82 : decode cX8_meet 82 = .ok (.putfield 67, 3) := by decide +kernel
theorem dX8_meet_85 : decode cX8_meet 85 = .ok (.return_, 1) := by decide +kernel
theorem dX8_walkBoth_0 : decode cX8_walkBoth 0 = .ok (.aload_n 0, 1) := by decide +kernel
theorem dX8_walkBoth_1 : decode cX8_walkBoth 1 = .ok (.iconst 0, 1) := by decide +kernel
theorem dX8_walkBoth_2 : decode cX8_walkBoth 2 = .ok (.putfield 53, 3) := by decide +kernel
theorem dX8_walkBoth_5 : decode cX8_walkBoth 5 = .ok (.aload_n 0, 1) := by decide +kernel
theorem dX8_walkBoth_6 : decode cX8_walkBoth 6 = .ok (.iconst 0, 1) := by decide +kernel
theorem dX8_walkBoth_7 : decode cX8_walkBoth 7 = .ok (.putfield 57, 3) := by decide +kernel
theorem dX8_walkBoth_10 : decode cX8_walkBoth 10 = .ok (.aload_n 0, 1) := by decide +kernel
theorem dX8_walkBoth_11 : decode cX8_walkBoth 11 = .ok (.iconst (-1), 1) := by decide +kernel
theorem dX8_walkBoth_12 : decode cX8_walkBoth 12 = .ok (.putfield 60, 3) := by decide +kernel
theorem dX8_walkBoth_15 : decode cX8_walkBoth 15 = .ok (.aload_n 0, 1) := by decide +kernel
theorem dX8_walkBoth_16 : decode cX8_walkBoth 16 = .ok (.dup, 1) := by decide +kernel
theorem dX8_walkBoth_17 : decode cX8_walkBoth 17 = .ok (.getfield 64, 3) := by decide +kernel
theorem dX8_walkBoth_20 : decode cX8_walkBoth 20 = .ok (.iconst 1, 1) := by decide +kernel
theorem dX8_walkBoth_21 : decode cX8_walkBoth 21 = .ok (.iadd, 1) := by decide +kernel
theorem dX8_walkBoth_22 : decode cX8_walkBoth 22 = .ok (.putfield 64, 3) := by decide +kernel
theorem dX8_walkBoth_25 : decode cX8_walkBoth 25 = .ok (.aload_n 0, 1) := by decide +kernel
theorem dX8_walkBoth_26 : decode cX8_walkBoth 26 = .ok (.iconst 0, 1) := by decide +kernel
theorem dX8_walkBoth_27 : decode cX8_walkBoth 27 = .ok (.putfield 67, 3) := by decide +kernel
theorem dX8_walkBoth_30 : decode cX8_walkBoth 30 = .ok (.aload_n 0, 1) := by decide +kernel
theorem dX8_walkBoth_31 : decode cX8_walkBoth 31 = .ok (.iconst 0, 1) := by decide +kernel
theorem dX8_walkBoth_32 : decode cX8_walkBoth 32 = .ok (.iconst (-1), 1) := by decide +kernel
theorem dX8_walkBoth_33 : decode cX8_walkBoth 33 = .ok (.iconst 0, 1) := by decide +kernel
theorem dX8_walkBoth_34 : decode cX8_walkBoth 34 = .ok (.invokevirtual 70, 3) := by decide +kernel
theorem dX8_walkBoth_37 : decode cX8_walkBoth 37 = .ok (.iconst 0, 1) := by decide +kernel
theorem dX8_walkBoth_38 : decode cX8_walkBoth 38 = .ok (.istore_n 1, 1) := by decide +kernel
theorem dX8_walkBoth_39 : decode cX8_walkBoth 39 = .ok (.iload_n 1, 1) := by decide +kernel
theorem dX8_walkBoth_40 : decode cX8_walkBoth 40 = .ok (.aload_n 0, 1) := by decide +kernel
theorem dX8_walkBoth_41 : decode cX8_walkBoth 41 = .ok (.getfield 67, 3) := by decide +kernel
theorem dX8_walkBoth_44 : decode cX8_walkBoth 44 = .ok (.if_icmp .ge 116, 3) := by decide +kernel
theorem dX8_walkBoth_47 : decode cX8_walkBoth 47 = .ok (.iload_n 1, 1) := by decide +kernel
theorem dX8_walkBoth_48 : decode cX8_walkBoth 48 = .ok (.sipush 3600, 3) := by decide +kernel
theorem dX8_walkBoth_51 : decode cX8_walkBoth 51 = .ok (.if_icmp .ge 109, 3) := by decide +kernel
theorem dX8_walkBoth_54 : decode cX8_walkBoth 54 = .ok (.aload_n 0, 1) := by decide +kernel
theorem dX8_walkBoth_55 : decode cX8_walkBoth 55 = .ok (.getfield 32, 3) := by decide +kernel
theorem dX8_walkBoth_58 : decode cX8_walkBoth 58 = .ok (.iload_n 1, 1) := by decide +kernel
theorem dX8_walkBoth_59 : decode cX8_walkBoth 59 = .ok (.iaload, 1) := by decide +kernel
theorem dX8_walkBoth_60 : decode cX8_walkBoth 60 = .ok (.bipush 60, 2) := by decide +kernel
theorem dX8_walkBoth_62 : decode cX8_walkBoth 62 = .ok (.idiv, 1) := by decide +kernel
theorem dX8_walkBoth_63 : decode cX8_walkBoth 63 = .ok (.istore_n 2, 1) := by decide +kernel
theorem dX8_walkBoth_64 : decode cX8_walkBoth 64 = .ok (.aload_n 0, 1) := by decide +kernel
theorem dX8_walkBoth_65 : decode cX8_walkBoth 65 = .ok (.getfield 32, 3) := by decide +kernel
theorem dX8_walkBoth_68 : decode cX8_walkBoth 68 = .ok (.iload_n 1, 1) := by decide +kernel
theorem dX8_walkBoth_69 : decode cX8_walkBoth 69 = .ok (.iaload, 1) := by decide +kernel
theorem dX8_walkBoth_70 : decode cX8_walkBoth 70 = .ok (.bipush 60, 2) := by decide +kernel
theorem dX8_walkBoth_72 : decode cX8_walkBoth 72 = .ok (.irem, 1) := by decide +kernel
theorem dX8_walkBoth_73 : decode cX8_walkBoth 73 = .ok (.istore_n 3, 1) := by decide +kernel
theorem dX8_walkBoth_74 : decode cX8_walkBoth 74 = .ok (.aload_n 0, 1) := by decide +kernel
theorem dX8_walkBoth_75 : decode cX8_walkBoth 75 = .ok (.iload_n 1, 1) := by decide +kernel
theorem dX8_walkBoth_76 : decode cX8_walkBoth 76 = .ok (.aload_n 0, 1) := by decide +kernel
theorem dX8_walkBoth_77 : decode cX8_walkBoth 77 = .ok (.getfield 21, 3) := by decide +kernel
theorem dX8_walkBoth_80 : decode cX8_walkBoth 80 = .ok (.iload_n 2, 1) := by decide +kernel
theorem dX8_walkBoth_81 : decode cX8_walkBoth 81 = .ok (.invokevirtual 74, 3) := by decide +kernel
theorem dX8_walkBoth_84 : decode cX8_walkBoth 84 = .ok (.aload_n 0, 1) := by decide +kernel
theorem dX8_walkBoth_85 : decode cX8_walkBoth 85 = .ok (.getfield 25, 3) := by decide +kernel
theorem dX8_walkBoth_88 : decode cX8_walkBoth 88 = .ok (.iload_n 3, 1) := by decide +kernel
theorem dX8_walkBoth_89 : decode cX8_walkBoth 89 = .ok (.invokevirtual 74, 3) := by decide +kernel
theorem dX8_walkBoth_92 : decode cX8_walkBoth 92 = .ok (.invokevirtual 78, 3) := by decide +kernel
theorem dX8_walkBoth_95 : decode cX8_walkBoth 95 = .ok (.iconst 0, 1) := by decide +kernel
theorem dX8_walkBoth_96 : decode cX8_walkBoth 96 = .ok (.istore 4, 2) := by decide +kernel
theorem dX8_walkBoth_98 : decode cX8_walkBoth 98 = .ok (.iload 4, 2) := by decide +kernel
theorem dX8_walkBoth_100 : decode cX8_walkBoth 100 = .ok (.aload_n 0, 1) := by decide +kernel
theorem dX8_walkBoth_101 : decode cX8_walkBoth 101 = .ok (.getfield 12, 3) := by decide +kernel
theorem dX8_walkBoth_104 : decode cX8_walkBoth 104 = .ok (.getfield 82, 3) := by decide +kernel
theorem dX8_walkBoth_107 : decode cX8_walkBoth 107 = .ok (.if_icmp .ge 47, 3) := by decide +kernel
theorem dX8_walkBoth_110 : decode cX8_walkBoth 110 = .ok (.aload_n 0, 1) := by decide +kernel
theorem dX8_walkBoth_111 : decode cX8_walkBoth 111 = .ok (.aload_n 0, 1) := by decide +kernel
theorem dX8_walkBoth_112 : decode cX8_walkBoth 112 = .ok (.getfield 21, 3) := by decide +kernel
theorem dX8_walkBoth_115 : decode cX8_walkBoth 115 = .ok (.iload_n 2, 1) := by decide +kernel
theorem dX8_walkBoth_116 : decode cX8_walkBoth 116 = .ok (.iload 4, 2) := by decide +kernel
theorem dX8_walkBoth_118 : decode cX8_walkBoth 118 = .ok (.invokevirtual 85, 3) := by decide +kernel
theorem dX8_walkBoth_121 : decode cX8_walkBoth 121 = .ok (.bipush 60, 2) := by decide +kernel
theorem dX8_walkBoth_123 : decode cX8_walkBoth 123 = .ok (.imul, 1) := by decide +kernel
theorem dX8_walkBoth_124 : decode cX8_walkBoth 124 = .ok (.aload_n 0, 1) := by decide +kernel
theorem dX8_walkBoth_125 : decode cX8_walkBoth 125 = .ok (.getfield 25, 3) := by decide +kernel
theorem dX8_walkBoth_128 : decode cX8_walkBoth 128 = .ok (.iload_n 3, 1) := by decide +kernel
theorem dX8_walkBoth_129 : decode cX8_walkBoth 129 = .ok (.iload 4, 2) := by decide +kernel
theorem dX8_walkBoth_131 : decode cX8_walkBoth 131 = .ok (.invokevirtual 85, 3) := by decide +kernel
theorem dX8_walkBoth_134 : decode cX8_walkBoth 134 = .ok (.iadd, 1) := by decide +kernel
theorem dX8_walkBoth_135 : decode cX8_walkBoth 135 = .ok (.iload_n 1, 1) := by decide +kernel
theorem dX8_walkBoth_136 : decode cX8_walkBoth 136 = .ok (.aload_n 0, 1) := by decide +kernel
theorem dX8_walkBoth_137 : decode cX8_walkBoth 137 = .ok (.getfield 12, 3) := by decide +kernel
theorem dX8_walkBoth_140 : decode cX8_walkBoth 140 = .ok (.iload 4, 2) := by decide +kernel
theorem dX8_walkBoth_142 : decode cX8_walkBoth 142 = .ok (.invokevirtual 89, 3) := by decide +kernel
theorem dX8_walkBoth_145 : decode cX8_walkBoth 145 = .ok (.invokevirtual 70, 3) := by decide +kernel
theorem dX8_walkBoth_148 : decode cX8_walkBoth 148 = .ok (.iinc 4 1, 3) := by decide +kernel
theorem dX8_walkBoth_151 : decode cX8_walkBoth 151 = .ok (.goto (-53), 3) := by decide +kernel
theorem dX8_walkBoth_154 : decode cX8_walkBoth 154 = .ok (.iinc 1 1, 3) := by decide +kernel
theorem dX8_walkBoth_157 : decode cX8_walkBoth 157 = .ok (.goto (-118), 3) := by decide +kernel
theorem dX8_walkBoth_160 : decode cX8_walkBoth 160 = .ok (.return_, 1) := by decide +kernel
theorem dX8_writeParting_0 : decode cX8_writeParting 0 = .ok (.aload_n 1, 1) := by decide +kernel
theorem dX8_writeParting_1 : decode cX8_writeParting 1 = .ok (.invokevirtual 93, 3) := by decide +kernel
theorem dX8_writeParting_4 : decode cX8_writeParting 4 = .ok (.aload_n 0, 1) := by decide +kernel
theorem dX8_writeParting_5 : decode cX8_writeParting 5 = .ok (.getfield 60, 3) := by decide +kernel
theorem dX8_writeParting_8 : decode cX8_writeParting 8 = .ok (.istore_n 2, 1) := by decide +kernel
theorem dX8_writeParting_9 : decode cX8_writeParting 9 = .ok (.iload_n 2, 1) := by decide +kernel
theorem dX8_writeParting_10 : decode cX8_writeParting 10 = .ok (.ifCond .le 30, 3) := by decide +kernel
theorem dX8_writeParting_13 : decode cX8_writeParting 13 = .ok (.iload_n 2, 1) := by decide +kernel
theorem dX8_writeParting_14 : decode cX8_writeParting 14 = .ok (.sipush 3600, 3) := by decide +kernel
theorem dX8_writeParting_17 : decode cX8_writeParting 17 = .ok (.if_icmp .ge 23, 3) := by decide +kernel
theorem dX8_writeParting_20 : decode cX8_writeParting 20 = .ok (.aload_n 1, 1) := by decide +kernel
theorem dX8_writeParting_21 : decode cX8_writeParting 21 = .ok (.aload_n 0, 1) := by decide +kernel
theorem dX8_writeParting_22 : decode cX8_writeParting 22 = .ok (.getfield 38, 3) := by decide +kernel
theorem dX8_writeParting_25 : decode cX8_writeParting 25 = .ok (.iload_n 2, 1) := by decide +kernel
theorem dX8_writeParting_26 : decode cX8_writeParting 26 = .ok (.iaload, 1) := by decide +kernel
theorem dX8_writeParting_27 : decode cX8_writeParting 27 = .ok (.invokevirtual 98, 3) := by decide +kernel
theorem dX8_writeParting_30 : decode cX8_writeParting 30 = .ok (.aload_n 0, 1) := by decide +kernel
theorem dX8_writeParting_31 : decode cX8_writeParting 31 = .ok (.getfield 35, 3) := by decide +kernel
theorem dX8_writeParting_34 : decode cX8_writeParting 34 = .ok (.iload_n 2, 1) := by decide +kernel
theorem dX8_writeParting_35 : decode cX8_writeParting 35 = .ok (.iaload, 1) := by decide +kernel
theorem dX8_writeParting_36 : decode cX8_writeParting 36 = .ok (.istore_n 2, 1) := by decide +kernel
theorem dX8_writeParting_37 : decode cX8_writeParting 37 = .ok (.goto (-28), 3) := by decide +kernel
theorem dX8_writeParting_40 : decode cX8_writeParting 40 = .ok (.aload_n 1, 1) := by decide +kernel
theorem dX8_writeParting_41 : decode cX8_writeParting 41 = .ok (.invokevirtual 102, 3) := by decide +kernel
theorem dX8_writeParting_44 : decode cX8_writeParting 44 = .ok (.return_, 1) := by decide +kernel
theorem dX9_ends_0 : decode cX9_ends 0 = .ok (.iload_n 1, 1) := by decide +kernel
theorem dX9_ends_1 : decode cX9_ends 1 = .ok (.ifCond .lt 30, 3) := by decide +kernel
theorem dX9_ends_4 : decode cX9_ends 4 = .ok (.iload_n 1, 1) := by decide +kernel
theorem dX9_ends_5 : decode cX9_ends 5 = .ok (.aload_n 0, 1) := by decide +kernel
theorem dX9_ends_6 : decode cX9_ends 6 = .ok (.getfield 96, 3) := by decide +kernel
theorem dX9_ends_9 : decode cX9_ends 9 = .ok (.if_icmp .ge 22, 3) := by decide +kernel
theorem dX9_ends_12 : decode cX9_ends 12 = .ok (.aload_n 0, 1) := by decide +kernel
theorem dX9_ends_13 : decode cX9_ends 13 = .ok (.getfield 41, 3) := by decide +kernel
theorem dX9_ends_16 : decode cX9_ends 16 = .ok (.iload_n 1, 1) := by decide +kernel
theorem dX9_ends_17 : decode cX9_ends 17 = .ok (.laload, 1) := by decide +kernel
theorem dX9_ends_18 : decode cX9_ends 18 = .ok (.ldc2_w 124, 3) := by decide +kernel
theorem dX9_ends_21 : decode cX9_ends 21 = .ok (.land, 1) := by decide +kernel
theorem dX9_ends_22 : decode cX9_ends 22 = .ok (.lconst 0, 1) := by decide +kernel
theorem dX9_ends_23 : decode cX9_ends 23 = .ok (.lcmp, 1) := by decide +kernel
theorem dX9_ends_24 : decode cX9_ends 24 = .ok (.ifCond .eq 7, 3) := by decide +kernel
theorem dX9_ends_27 : decode cX9_ends 27 = .ok (.iconst 1, 1) := by decide +kernel
theorem dX9_ends_28 : decode cX9_ends 28 = .ok (.goto 4, 3) := by decide +kernel
theorem dX9_ends_31 : decode cX9_ends 31 = .ok (.iconst 0, 1) := by decide +kernel
theorem dX9_ends_32 : decode cX9_ends 32 = .ok (.ireturn, 1) := by decide +kernel
theorem dX9_fewestStates_0 : decode cX9_fewestStates 0 = .ok (.iconst 0, 1) := by decide +kernel
theorem dX9_fewestStates_1 : decode cX9_fewestStates 1 = .ok (.istore_n 1, 1) := by decide +kernel
theorem dX9_fewestStates_2 : decode cX9_fewestStates 2 = .ok (.iconst 0, 1) := by decide +kernel
theorem dX9_fewestStates_3 : decode cX9_fewestStates 3 = .ok (.istore_n 2, 1) := by decide +kernel
theorem dX9_fewestStates_4 : decode cX9_fewestStates 4 = .ok (.iload_n 2, 1) := by decide +kernel
theorem dX9_fewestStates_5 : decode cX9_fewestStates 5 = .ok (.aload_n 0, 1) := by decide +kernel
theorem dX9_fewestStates_6 : decode cX9_fewestStates 6 = .ok (.getfield 96, 3) := by decide +kernel
theorem dX9_fewestStates_9 : decode cX9_fewestStates 9 = .ok (.if_icmp .ge 28, 3) := by decide +kernel
theorem dX9_fewestStates_12 : decode cX9_fewestStates 12 = .ok (.aload_n 0, 1) := by decide +kernel
theorem dX9_fewestStates_13 : decode cX9_fewestStates 13 = .ok (.getfield 51, 3) := by decide +kernel
theorem dX9_fewestStates_16 : decode cX9_fewestStates 16 = .ok (.iload_n 2, 1) := by decide +kernel
theorem dX9_fewestStates_17 : decode cX9_fewestStates 17 = .ok (.aload_n 0, 1) := by decide +kernel
theorem dX9_fewestStates_18 : decode cX9_fewestStates 18 = .ok (.iload_n 2, 1) := by decide +kernel
theorem dX9_fewestStates_19 : decode cX9_fewestStates 19 = .ok (.invokevirtual 152, 3) := by decide +kernel
theorem dX9_fewestStates_22 : decode cX9_fewestStates 22 = .ok (.ifCond .eq 7, 3) := by decide +kernel
theorem dX9_fewestStates_25 : decode cX9_fewestStates 25 = .ok (.iconst 1, 1) := by decide +kernel
theorem dX9_fewestStates_26 : decode cX9_fewestStates 26 = .ok (.goto 4, 3) := by decide +kernel
theorem dX9_fewestStates_29 : decode cX9_fewestStates 29 = .ok (.iconst 0, 1) := by decide +kernel
theorem dX9_fewestStates_30 : decode cX9_fewestStates 30 = .ok (.iastore, 1) := by decide +kernel
theorem dX9_fewestStates_31 : decode cX9_fewestStates 31 = .ok (.iinc 2 1, 3) := by decide +kernel
theorem dX9_fewestStates_34 : decode cX9_fewestStates 34 = .ok (.goto (-30), 3) := by decide +kernel
theorem dX9_fewestStates_37 : decode cX9_fewestStates 37 = .ok (.iconst 0, 1) := by decide +kernel
theorem dX9_fewestStates_38 : decode cX9_fewestStates 38 = .ok (.istore_n 2, 1) := by decide +kernel
theorem dX9_fewestStates_39 : decode cX9_fewestStates 39 = .ok (.iload_n 2, 1) := by decide +kernel
theorem dX9_fewestStates_40 : decode cX9_fewestStates 40 = .ok (.aload_n 0, 1) := by decide +kernel
theorem dX9_fewestStates_41 : decode cX9_fewestStates 41 = .ok (.getfield 96, 3) := by decide +kernel
theorem dX9_fewestStates_44 : decode cX9_fewestStates 44 = .ok (.if_icmp .gt 39, 3) := by decide +kernel
theorem dX9_fewestStates_47 : decode cX9_fewestStates 47 = .ok (.aload_n 0, 1) := by decide +kernel
theorem dX9_fewestStates_48 : decode cX9_fewestStates 48 = .ok (.invokevirtual 158, 3) := by decide +kernel
theorem dX9_fewestStates_51 : decode cX9_fewestStates 51 = .ok (.istore_n 3, 1) := by decide +kernel
theorem dX9_fewestStates_52 : decode cX9_fewestStates 52 = .ok (.aload_n 0, 1) := by decide +kernel
theorem dX9_fewestStates_53 : decode cX9_fewestStates 53 = .ok (.getfield 54, 3) := by decide +kernel
theorem dX9_fewestStates_56 : decode cX9_fewestStates 56 = .ok (.iconst 0, 1) := by decide +kernel
theorem dX9_fewestStates_57 : decode cX9_fewestStates 57 = .ok (.aload_n 0, 1) := by decide +kernel
theorem dX9_fewestStates_58 : decode cX9_fewestStates 58 = .ok (.getfield 51, 3) := by decide +kernel
theorem dX9_fewestStates_61 : decode cX9_fewestStates 61 = .ok (.iconst 0, 1) := by decide +kernel
theorem dX9_fewestStates_62 : decode cX9_fewestStates 62 = .ok (.bipush 60, 2) := by decide +kernel
theorem dX9_fewestStates_64 : decode cX9_fewestStates 64 = .ok (.invokestatic 162, 3) := by decide +kernel
theorem dX9_fewestStates_67 : decode cX9_fewestStates 67 = .ok (.iload_n 3, 1) := by decide +kernel
theorem dX9_fewestStates_68 : decode cX9_fewestStates 68 = .ok (.iload_n 1, 1) := by decide +kernel
theorem dX9_fewestStates_69 : decode cX9_fewestStates 69 = .ok (.if_icmp .ne 6, 3) := by decide +kernel
theorem dX9_fewestStates_72 : decode cX9_fewestStates 72 = .ok (.goto 11, 3) := by decide +kernel
theorem dX9_fewestStates_75 : decode cX9_fewestStates 75 = .ok (.iload_n 3, 1) := by decide +kernel
theorem dX9_fewestStates_76 : decode cX9_fewestStates 76 = .ok (.istore_n 1, 1) := by decide +kernel
theorem dX9_fewestStates_77 : decode cX9_fewestStates 77 = .ok (.iinc 2 1, 3) := by decide +kernel
theorem dX9_fewestStates_80 : decode cX9_fewestStates 80 = .ok (.goto (-41), 3) := by decide +kernel
theorem dX9_fewestStates_83 : decode cX9_fewestStates 83 = .ok (.iload_n 1, 1) := by decide +kernel
theorem dX9_fewestStates_84 : decode cX9_fewestStates 84 = .ok (.ireturn, 1) := by decide +kernel
