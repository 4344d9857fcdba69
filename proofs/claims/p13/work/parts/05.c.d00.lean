theorem dJ7_fill_53178_0 : decode cJ7_fill_53178 0 = .ok (.iconst 0, 1) := by decide +kernel
theorem dJ7_fill_53178_1 : decode cJ7_fill_53178 1 = .ok (.istore_n 2, 1) := by decide +kernel
theorem dJ7_fill_53178_2 : decode cJ7_fill_53178 2 = .ok (.aload_n 0, 1) := by decide +kernel
theorem dJ7_fill_53178_3 : decode cJ7_fill_53178 3 = .ok (.arraylength, 1) := by decide +kernel
theorem dJ7_fill_53178_4 : decode cJ7_fill_53178 4 = .ok (.istore_n 3, 1) := by decide +kernel
theorem dJ7_fill_53178_5 : decode cJ7_fill_53178 5 = .ok (.iload_n 2, 1) := by decide +kernel
theorem dJ7_fill_53178_6 : decode cJ7_fill_53178 6 = .ok (.iload_n 3, 1) := by decide +kernel
theorem dJ7_fill_53178_7 : decode cJ7_fill_53178 7 = .ok (.if_icmp .ge 13, 3) := by decide +kernel
theorem dJ7_fill_53178_10 : decode cJ7_fill_53178 10 = .ok (.aload_n 0, 1) := by decide +kernel
theorem dJ7_fill_53178_11 : decode cJ7_fill_53178 11 = .ok (.iload_n 2, 1) := by decide +kernel
theorem dJ7_fill_53178_12 : decode cJ7_fill_53178 12 = .ok (.iload_n 1, 1) := by decide +kernel
theorem dJ7_fill_53178_13 : decode cJ7_fill_53178 13 = .ok (.iastore, 1) := by decide +kernel
theorem dJ7_fill_53178_14 : decode cJ7_fill_53178 14 = .ok (.iinc 2 1, 3) := by decide +kernel
theorem dJ7_fill_53178_17 : decode cJ7_fill_53178 17 = .ok (.goto (-12), 3) := by decide +kernel
theorem dJ7_fill_53178_20 : decode cJ7_fill_53178 20 = .ok (.return_, 1) := by decide +kernel
theorem dX0_addBegin_0 : decode cX0_addBegin 0 = .ok (.iconst 0, 1) := by decide +kernel
theorem dX0_addBegin_1 : decode cX0_addBegin 1 = .ok (.istore_n 2, 1) := by decide +kernel
theorem dX0_addBegin_2 : decode cX0_addBegin 2 = .ok (.iload_n 2, 1) := by decide +kernel
theorem dX0_addBegin_3 : decode cX0_addBegin 3 = .ok (.aload_n 0, 1) := by decide +kernel
theorem dX0_addBegin_4 : decode cX0_addBegin 4 = .ok (.getfield 15, 3) := by decide +kernel
theorem dX0_addBegin_7 : decode cX0_addBegin 7 = .ok (.if_icmp .ge 19, 3) := by decide +kernel
theorem dX0_addBegin_10 : decode cX0_addBegin 10 = .ok (.aload_n 0, 1) := by decide +kernel
theorem dX0_addBegin_11 : decode cX0_addBegin 11 = .ok (.getfield 9, 3) := by decide +kernel
theorem dX0_addBegin_14 : decode cX0_addBegin 14 = .ok (.iload_n 2, 1) := by decide +kernel
theorem dX0_addBegin_15 : decode cX0_addBegin 15 = .ok (.iaload, 1) := by decide +kernel
theorem dX0_addBegin_16 : decode cX0_addBegin 16 = .ok (.iload_n 1, 1) := by decide +kernel
theorem dX0_addBegin_17 : decode cX0_addBegin 17 = .ok (.if_icmp .ge 9, 3) := by decide +kernel
theorem dX0_addBegin_20 : decode cX0_addBegin 20 = .ok (.iinc 2 1, 3) := by decide +kernel
theorem dX0_addBegin_23 : decode cX0_addBegin 23 = .ok (.goto (-21), 3) := by decide +kernel
theorem dX0_addBegin_26 : decode cX0_addBegin 26 = .ok (.iload_n 2, 1) := by decide +kernel
theorem dX0_addBegin_27 : decode cX0_addBegin 27 = .ok (.aload_n 0, 1) := by decide +kernel
theorem dX0_addBegin_28 : decode cX0_addBegin 28 = .ok (.getfield 15, 3) := by decide +kernel
theorem dX0_addBegin_31 : decode cX0_addBegin 31 = .ok (.if_icmp .ge 17, 3) := by decide +kernel
theorem dX0_addBegin_34 : decode cX0_addBegin 34 = .ok (.aload_n 0, 1) := by decide +kernel
theorem dX0_addBegin_35 : decode cX0_addBegin 35 = .ok (.getfield 9, 3) := by decide +kernel
theorem dX0_addBegin_38 : decode cX0_addBegin 38 = .ok (.iload_n 2, 1) := by decide +kernel
theorem dX0_addBegin_39 : decode cX0_addBegin 39 = .ok (.iaload, 1) := by decide +kernel
theorem dX0_addBegin_40 : decode cX0_addBegin 40 = .ok (.iload_n 1, 1) := by decide +kernel
theorem dX0_addBegin_41 : decode cX0_addBegin 41 = .ok (.if_icmp .ne 7, 3) := by decide +kernel
theorem dX0_addBegin_44 : decode cX0_addBegin 44 = .ok (.iconst 1, 1) := by decide +kernel
theorem dX0_addBegin_45 : decode cX0_addBegin 45 = .ok (.goto 4, 3) := by decide +kernel
theorem dX0_addBegin_48 : decode cX0_addBegin 48 = .ok (.iconst 0, 1) := by decide +kernel
theorem dX0_addBegin_49 : decode cX0_addBegin 49 = .ok (.istore_n 3, 1) := by decide +kernel
theorem dX0_addBegin_50 : decode cX0_addBegin 50 = .ok (.iload_n 3, 1) := by decide +kernel
theorem dX0_addBegin_51 : decode cX0_addBegin 51 = .ok (.ifCond .ne 19, 3) := by decide +kernel
theorem dX0_addBegin_54 : decode cX0_addBegin 54 = .ok (.iload_n 1, 1) := by decide +kernel
theorem dX0_addBegin_55 : decode cX0_addBegin 55 = .ok (.ldc 69, 2) := by decide +kernel
theorem dX0_addBegin_57 : decode cX0_addBegin 57 = .ok (.if_icmp .gt 13, 3) := by decide +kernel
theorem dX0_addBegin_60 : decode cX0_addBegin 60 = .ok (.aload_n 0, 1) := by decide +kernel
theorem dX0_addBegin_61 : decode cX0_addBegin 61 = .ok (.getfield 15, 3) := by decide +kernel
theorem dX0_addBegin_64 : decode cX0_addBegin 64 = .ok (.sipush 256, 3) := by decide +kernel
theorem dX0_addBegin_67 : decode cX0_addBegin 67 = .ok (.if_icmp .lt 4, 3) := by decide +kernel
theorem dX0_addBegin_70 : decode cX0_addBegin 70 = .ok (.return_, 1) := by decide +kernel
theorem dX0_addBegin_71 : decode cX0_addBegin 71 = .ok (.aload_n 0, 1) := by decide +kernel
theorem dX0_addBegin_72 : decode cX0_addBegin 72 = .ok (.getfield 15, 3) := by decide +kernel
theorem dX0_addBegin_75 : decode cX0_addBegin 75 = .ok (.istore 4, 2) := by decide +kernel
theorem dX0_addBegin_77 : decode cX0_addBegin 77 = .ok (.iload 4, 2) := by decide +kernel
theorem dX0_addBegin_79 : decode cX0_addBegin 79 = .ok (.iload_n 2, 1) := by decide +kernel
theorem dX0_addBegin_80 : decode cX0_addBegin 80 = .ok (.if_icmp .le 25, 3) := by decide +kernel
theorem dX0_addBegin_83 : decode cX0_addBegin 83 = .ok (.aload_n 0, 1) := by decide +kernel
theorem dX0_addBegin_84 : decode cX0_addBegin 84 = .ok (.getfield 9, 3) := by decide +kernel
theorem dX0_addBegin_87 : decode cX0_addBegin 87 = .ok (.iload 4, 2) := by decide +kernel
theorem dX0_addBegin_89 : decode cX0_addBegin 89 = .ok (.aload_n 0, 1) := by decide +kernel
theorem dX0_addBegin_90 : decode cX0_addBegin 90 = .ok (.getfield 9, 3) := by decide +kernel
theorem dX0_addBegin_93 : decode cX0_addBegin 93 = .ok (.iload 4, 2) := by decide +kernel
theorem dX0_addBegin_95 : decode cX0_addBegin 95 = .ok (.iconst 1, 1) := by decide +kernel
theorem dX0_addBegin_96 : decode cX0_addBegin 96 = .ok (.isub, 1) := by decide +kernel
theorem dX0_addBegin_97 : decode cX0_addBegin 97 = .ok (.iaload, 1) := by decide +kernel
theorem dX0_addBegin_98 : decode cX0_addBegin 98 = .ok (.iastore, 1) := by decide +kernel
theorem dX0_addBegin_99 : decode cX0_addBegin 99 = .ok (.iinc 4 (-1), 3) := by decide +kernel
theorem dX0_addBegin_102 : decode cX0_addBegin 102 = .ok (.goto (-25), 3) := by decide +kernel
theorem dX0_addBegin_105 : decode cX0_addBegin 105 = .ok (.aload_n 0, 1) := by decide +kernel
theorem dX0_addBegin_106 : decode cX0_addBegin 106 = .ok (.getfield 9, 3) := by decide +kernel
theorem dX0_addBegin_109 : decode cX0_addBegin 109 = .ok (.iload_n 2, 1) := by decide +kernel
theorem dX0_addBegin_110 : decode cX0_addBegin 110 = .ok (.iload_n 1, 1) := by decide +kernel
theorem dX0_addBegin_111 : decode cX0_addBegin 111 = .ok (.iastore, 1) := by decide +kernel
theorem dX0_addBegin_112 : decode cX0_addBegin 112 = .ok (.aload_n 0, 1) := by decide +kernel
theorem dX0_addBegin_113 : decode cX0_addBegin 113 = .ok (.dup, 1) := by decide +kernel
theorem dX0_addBegin_114 : decode cX0_addBegin 114 = .ok (.getfield 15, 3) := by decide +kernel
theorem dX0_addBegin_117 : decode cX0_addBegin 117 = .ok (.iconst 1, 1) := by decide +kernel
theorem dX0_addBegin_118 : decode cX0_addBegin 118 = .ok (.iadd, 1) := by decide +kernel
theorem dX0_addBegin_119 : decode cX0_addBegin 119 = .ok (.putfield 15, 3) := by decide +kernel
theorem dX0_addBegin_122 : decode cX0_addBegin 122 = .ok (.return_, 1) := by decide +kernel
theorem dX0_addParts_0 : decode cX0_addParts 0 = .ok (.iconst 0, 1) := by decide +kernel
theorem dX0_addParts_1 : decode cX0_addParts 1 = .ok (.istore_n 3, 1) := by decide +kernel
theorem dX0_addParts_2 : decode cX0_addParts 2 = .ok (.iload_n 3, 1) := by decide +kernel
theorem dX0_addParts_3 : decode cX0_addParts 3 = .ok (.aload_n 1, 1) := by decide +kernel
theorem dX0_addParts_4 : decode cX0_addParts 4 = .ok (.iload_n 2, 1) := by decide +kernel
theorem dX0_addParts_5 : decode cX0_addParts 5 = .ok (.invokevirtual 47, 3) := by decide +kernel
theorem dX0_addParts_8 : decode cX0_addParts 8 = .ok (.if_icmp .ge 30, 3) := by decide +kernel
theorem dX0_addParts_11 : decode cX0_addParts 11 = .ok (.aload_n 0, 1) := by decide +kernel
theorem dX0_addParts_12 : decode cX0_addParts 12 = .ok (.aload_n 1, 1) := by decide +kernel
theorem dX0_addParts_13 : decode cX0_addParts 13 = .ok (.iload_n 2, 1) := by decide +kernel
theorem dX0_addParts_14 : decode cX0_addParts 14 = .ok (.iload_n 3, 1) := by decide +kernel
theorem dX0_addParts_15 : decode cX0_addParts 15 = .ok (.invokevirtual 50, 3) := by decide +kernel
theorem dX0_addParts_18 : decode cX0_addParts 18 = .ok (.aload_n 1, 1) := by decide +kernel
theorem dX0_addParts_19 : decode cX0_addParts 19 = .ok (.iload_n 2, 1) := by decide +kernel
theorem dX0_addParts_20 : decode cX0_addParts 20 = .ok (.iload_n 3, 1) := by decide +kernel
theorem dX0_addParts_21 : decode cX0_addParts 21 = .ok (.invokevirtual 54, 3) := by decide +kernel
theorem dX0_addParts_24 : decode cX0_addParts 24 = .ok (.aload_n 1, 1) := by decide +kernel
theorem dX0_addParts_25 : decode cX0_addParts 25 = .ok (.iload_n 2, 1) := by decide +kernel
theorem dX0_addParts_26 : decode cX0_addParts 26 = .ok (.invokevirtual 36, 3) := by decide +kernel
theorem dX0_addParts_29 : decode cX0_addParts 29 = .ok (.invokevirtual 39, 3) := by decide +kernel
theorem dX0_addParts_32 : decode cX0_addParts 32 = .ok (.iinc 3 1, 3) := by decide +kernel
theorem dX0_addParts_35 : decode cX0_addParts 35 = .ok (.goto (-33), 3) := by decide +kernel
theorem dX0_addParts_38 : decode cX0_addParts 38 = .ok (.return_, 1) := by decide +kernel
theorem dX0_addRange_0 : decode cX0_addRange 0 = .ok (.aload_n 0, 1) := by decide +kernel
theorem dX0_addRange_1 : decode cX0_addRange 1 = .ok (.iload_n 1, 1) := by decide +kernel
theorem dX0_addRange_2 : decode cX0_addRange 2 = .ok (.invokevirtual 57, 3) := by decide +kernel
theorem dX0_addRange_5 : decode cX0_addRange 5 = .ok (.aload_n 0, 1) := by decide +kernel
theorem dX0_addRange_6 : decode cX0_addRange 6 = .ok (.iload_n 2, 1) := by decide +kernel
theorem dX0_addRange_7 : decode cX0_addRange 7 = .ok (.iconst 1, 1) := by decide +kernel
theorem dX0_addRange_8 : decode cX0_addRange 8 = .ok (.iadd, 1) := by decide +kernel
theorem dX0_addRange_9 : decode cX0_addRange 9 = .ok (.invokevirtual 57, 3) := by decide +kernel
theorem dX0_addRange_12 : decode cX0_addRange 12 = .ok (.iload_n 3, 1) := by decide +kernel
theorem dX0_addRange_13 : decode cX0_addRange 13 = .ok (.ifCond .eq 41, 3) := by decide +kernel
theorem dX0_addRange_16 : decode cX0_addRange 16 = .ok (.iload_n 1, 1) := by decide +kernel
theorem dX0_addRange_17 : decode cX0_addRange 17 = .ok (.bipush 90, 2) := by decide +kernel
theorem dX0_addRange_19 : decode cX0_addRange 19 = .ok (.if_icmp .gt 35, 3) := by decide +kernel
theorem dX0_addRange_22 : decode cX0_addRange 22 = .ok (.iload_n 2, 1) := by decide +kernel
theorem dX0_addRange_23 : decode cX0_addRange 23 = .ok (.bipush 65, 2) := by decide +kernel
theorem dX0_addRange_25 : decode cX0_addRange 25 = .ok (.if_icmp .lt 29, 3) := by decide +kernel
theorem dX0_addRange_28 : decode cX0_addRange 28 = .ok (.aload_n 0, 1) := by decide +kernel
theorem dX0_addRange_29 : decode cX0_addRange 29 = .ok (.iload_n 1, 1) := by decide +kernel
theorem dX0_addRange_30 : decode cX0_addRange 30 = .ok (.bipush 65, 2) := by decide +kernel
theorem dX0_addRange_32 : decode cX0_addRange 32 = .ok (.invokestatic 61, 3) := by decide +kernel
theorem dX0_addRange_35 : decode cX0_addRange 35 = .ok (.bipush 32, 2) := by decide +kernel
theorem dX0_addRange_37 : decode cX0_addRange 37 = .ok (.iadd, 1) := by decide +kernel
theorem dX0_addRange_38 : decode cX0_addRange 38 = .ok (.invokevirtual 57, 3) := by decide +kernel
theorem dX0_addRange_41 : decode cX0_addRange 41 = .ok (.aload_n 0, 1) := by decide +kernel
theorem dX0_addRange_42 : decode cX0_addRange 42 = .ok (.iload_n 2, 1) := by decide +kernel
theorem dX0_addRange_43 : decode cX0_addRange 43 = .ok (.bipush 90, 2) := by decide +kernel
theorem dX0_addRange_45 : decode cX0_addRange 45 = .ok (.invokestatic 66, 3) := by decide +kernel
theorem dX0_addRange_48 : decode cX0_addRange 48 = .ok (.bipush 33, 2) := by decide +kernel
theorem dX0_addRange_50 : decode cX0_addRange 50 = .ok (.iadd, 1) := by decide +kernel
theorem dX0_addRange_51 : decode cX0_addRange 51 = .ok (.invokevirtual 57, 3) := by decide +kernel
theorem dX0_addRange_54 : decode cX0_addRange 54 = .ok (.iload_n 3, 1) := by decide +kernel
theorem dX0_addRange_55 : decode cX0_addRange 55 = .ok (.ifCond .eq 41, 3) := by decide +kernel
theorem dX0_addRange_58 : decode cX0_addRange 58 = .ok (.iload_n 1, 1) := by decide +kernel
theorem dX0_addRange_59 : decode cX0_addRange 59 = .ok (.bipush 122, 2) := by decide +kernel
theorem dX0_addRange_61 : decode cX0_addRange 61 = .ok (.if_icmp .gt 35, 3) := by decide +kernel
theorem dX0_addRange_64 : decode cX0_addRange 64 = .ok (.iload_n 2, 1) := by decide +kernel
theorem dX0_addRange_65 : decode cX0_addRange 65 = .ok (.bipush 97, 2) := by decide +kernel
theorem dX0_addRange_67 : decode cX0_addRange 67 = .ok (.if_icmp .lt 29, 3) := by decide +kernel
theorem dX0_addRange_70 : decode cX0_addRange 70 = .ok (.aload_n 0, 1) := by decide +kernel
theorem dX0_addRange_71 : decode cX0_addRange 71 = .ok (.iload_n 1, 1) := by decide +kernel
theorem dX0_addRange_72 : decode cX0_addRange 72 = .ok (.bipush 97, 2) := by decide +kernel
theorem dX0_addRange_74 : decode cX0_addRange 74 = .ok (.invokestatic 61, 3) := by decide +kernel
theorem dX0_addRange_77 : decode cX0_addRange 77 = .ok (.bipush 32, 2) := by decide +kernel
theorem dX0_addRange_79 : decode cX0_addRange 79 = .ok (.isub, 1) := by decide +kernel
theorem dX0_addRange_80 : decode cX0_addRange 80 = .ok (.invokevirtual 57, 3) := by decide +kernel
theorem dX0_addRange_83 : decode cX0_addRange 83 = .ok (.aload_n 0, 1) := by decide +kernel
theorem dX0_addRange_84 : decode cX0_addRange 84 = .ok (.iload_n 2, 1) := by decide +kernel
theorem dX0_addRange_85 : decode cX0_addRange 85 = .ok (.bipush 122, 2) := by decide +kernel
theorem dX0_addRange_87 : decode cX0_addRange 87 = .ok (.invokestatic 66, 3) := by decide +kernel
theorem dX0_addRange_90 : decode cX0_addRange 90 = .ok (.bipush 31, 2) := by decide +kernel
theorem dX0_addRange_92 : decode cX0_addRange 92 = .ok (.isub, 1) := by decide +kernel
theorem dX0_addRange_93 : decode cX0_addRange 93 = .ok (.invokevirtual 57, 3) := by decide +kernel
theorem dX0_addRange_96 : decode cX0_addRange 96 = .ok (.return_, 1) := by decide +kernel
theorem dX0_addTree_0 : decode cX0_addTree 0 = .ok (.iconst 0, 1) := by decide +kernel
theorem dX0_addTree_1 : decode cX0_addTree 1 = .ok (.istore_n 2, 1) := by decide +kernel
theorem dX0_addTree_2 : decode cX0_addTree 2 = .ok (.aload_n 1, 1) := by decide +kernel
theorem dX0_addTree_3 : decode cX0_addTree 3 = .ok (.iload_n 2, 1) := by decide +kernel
theorem dX0_addTree_4 : decode cX0_addTree 4 = .ok (.invokevirtual 23, 3) := by decide +kernel
theorem dX0_addTree_7 : decode cX0_addTree 7 = .ok (.ifCond .eq 82, 3) := by decide +kernel
theorem dX0_addTree_10 : decode cX0_addTree 10 = .ok (.aload_n 1, 1) := by decide +kernel
theorem dX0_addTree_11 : decode cX0_addTree 11 = .ok (.iload_n 2, 1) := by decide +kernel
theorem dX0_addTree_12 : decode cX0_addTree 12 = .ok (.invokevirtual 29, 3) := by decide +kernel
theorem dX0_addTree_15 : decode cX0_addTree 15 = .ok (.tableswitch 68 0 2 #[25, 47, 59], 25) := by decide +kernel
theorem dX0_addTree_40 : decode cX0_addTree 40 = .ok (.aload_n 0, 1) := by decide +kernel
theorem dX0_addTree_41 : decode cX0_addTree 41 = .ok (.aload_n 1, 1) := by decide +kernel
theorem dX0_addTree_42 : decode cX0_addTree 42 = .ok (.iload_n 2, 1) := by decide +kernel
theorem dX0_addTree_43 : decode cX0_addTree 43 = .ok (.invokevirtual 33, 3) := by decide +kernel
theorem dX0_addTree_46 : decode cX0_addTree 46 = .ok (.aload_n 1, 1) := by decide +kernel
theorem dX0_addTree_47 : decode cX0_addTree 47 = .ok (.iload_n 2, 1) := by decide +kernel
theorem dX0_addTree_48 : decode cX0_addTree 48 = .ok (.invokevirtual 33, 3) := by decide +kernel
theorem dX0_addTree_51 : decode cX0_addTree 51 = .ok (.aload_n 1, 1) := by decide +kernel
theorem dX0_addTree_52 : decode cX0_addTree 52 = .ok (.iload_n 2, 1) := by decide +kernel
theorem dX0_addTree_53 : decode cX0_addTree 53 = .ok (.invokevirtual 36, 3) := by decide +kernel
theorem dX0_addTree_56 : decode cX0_addTree 56 = .ok (.invokevirtual 39, 3) := by decide +kernel
theorem dX0_addTree_59 : decode cX0_addTree 59 = .ok (.goto 24, 3) := by decide +kernel
theorem dX0_addTree_62 : decode cX0_addTree 62 = .ok (.aload_n 0, 1) := by decide +kernel
theorem dX0_addTree_63 : decode cX0_addTree 63 = .ok (.bipush 10, 2) := by decide +kernel
theorem dX0_addTree_65 : decode cX0_addTree 65 = .ok (.bipush 10, 2) := by decide +kernel
theorem dX0_addTree_67 : decode cX0_addTree 67 = .ok (.iconst 0, 1) := by decide +kernel
theorem dX0_addTree_68 : decode cX0_addTree 68 = .ok (.invokevirtual 39, 3) := by decide +kernel
theorem dX0_addTree_71 : decode cX0_addTree 71 = .ok (.goto 12, 3) := by decide +kernel
theorem dX0_addTree_74 : decode cX0_addTree 74 = .ok (.aload_n 0, 1) := by decide +kernel
theorem dX0_addTree_75 : decode cX0_addTree 75 = .ok (.aload_n 1, 1) := by decide +kernel
theorem dX0_addTree_76 : decode cX0_addTree 76 = .ok (.iload_n 2, 1) := by decide +kernel
theorem dX0_addTree_77 : decode cX0_addTree 77 = .ok (.invokevirtual 43, 3) := by decide +kernel
theorem dX0_addTree_80 : decode cX0_addTree 80 = .ok (.goto 3, 3) := by decide +kernel
theorem dX0_addTree_83 : decode cX0_addTree 83 = .ok (.iinc 2 1, 3) := by decide +kernel
theorem dX0_addTree_86 : decode cX0_addTree 86 = .ok (.goto (-84), 3) := by decide +kernel
theorem dX0_addTree_89 : decode cX0_addTree 89 = .ok (.return_, 1) := by decide +kernel
theorem dX0_classOf_0 : decode cX0_classOf 0 = .ok (.iconst 0, 1) := by decide +kernel
theorem dX0_classOf_1 : decode cX0_classOf 1 = .ok (.istore_n 2, 1) := by decide +kernel
theorem dX0_classOf_2 : decode cX0_classOf 2 = .ok (.iconst 1, 1) := by decide +kernel
theorem dX0_classOf_3 : decode cX0_classOf 3 = .ok (.istore_n 3, 1) := by decide +kernel
theorem dX0_classOf_4 : decode cX0_classOf 4 = .ok (.iload_n 3, 1) := by decide +kernel
theorem dX0_classOf_5 : decode cX0_classOf 5 = .ok (.aload_n 0, 1) := by decide +kernel
theorem dX0_classOf_6 : decode cX0_classOf 6 = .ok (.getfield 15, 3) := by decide +kernel
theorem dX0_classOf_9 : decode cX0_classOf 9 = .ok (.if_icmp .ge 21, 3) := by decide +kernel
theorem dX0_classOf_12 : decode cX0_classOf 12 = .ok (.aload_n 0, 1) := by decide +kernel
theorem dX0_classOf_13 : decode cX0_classOf 13 = .ok (.getfield 9, 3) := by decide +kernel
theorem dX0_classOf_16 : decode cX0_classOf 16 = .ok (.iload_n 3, 1) := by decide +kernel
theorem dX0_classOf_17 : decode cX0_classOf 17 = .ok (.iaload, 1) := by decide +kernel
theorem dX0_classOf_18 : decode cX0_classOf 18 = .ok (.iload_n 1, 1) := by decide +kernel
theorem dX0_classOf_19 : decode cX0_classOf 19 = .ok (.if_icmp .gt 11, 3) := by decide +kernel
theorem dX0_classOf_22 : decode cX0_classOf 22 = .ok (.iload_n 3, 1) := by decide +kernel
theorem dX0_classOf_23 : decode cX0_classOf 23 = .ok (.istore_n 2, 1) := by decide +kernel
theorem dX0_classOf_24 : decode cX0_classOf 24 = .ok (.iinc 3 1, 3) := by decide +kernel
theorem dX0_classOf_27 : decode cX0_classOf 27 = .ok (.goto (-23), 3) := by decide +kernel
theorem dX0_classOf_30 : decode cX0_classOf 30 = .ok (.iload_n 2, 1) := by decide +kernel
theorem dX0_classOf_31 : decode cX0_classOf 31 = .ok (.ireturn, 1) := by decide +kernel
theorem dX0_gather_0 : decode cX0_gather 0 = .ok (.aload_n 0, 1) := by decide +kernel
theorem dX0_gather_1 : decode cX0_gather 1 = .ok (.iconst 1, 1) := by decide +kernel
theorem dX0_gather_2 : decode cX0_gather 2 = .ok (.putfield 15, 3) := by decide +kernel
theorem dX0_gather_5 : decode cX0_gather 5 = .ok (.aload_n 0, 1) := by decide +kernel
theorem dX0_gather_6 : decode cX0_gather 6 = .ok (.getfield 9, 3) := by decide +kernel
theorem dX0_gather_9 : decode cX0_gather 9 = .ok (.iconst 0, 1) := by decide +kernel
theorem dX0_gather_10 : decode cX0_gather 10 = .ok (.iconst 0, 1) := by decide +kernel
theorem dX0_gather_11 : decode cX0_gather 11 = .ok (.iastore, 1) := by decide +kernel
theorem dX0_gather_12 : decode cX0_gather 12 = .ok (.aload_n 0, 1) := by decide +kernel
theorem dX0_gather_13 : decode cX0_gather 13 = .ok (.aload_n 1, 1) := by decide +kernel
theorem dX0_gather_14 : decode cX0_gather 14 = .ok (.invokevirtual 19, 3) := by decide +kernel
theorem dX0_gather_17 : decode cX0_gather 17 = .ok (.aload_n 2, 1) := by decide +kernel
theorem dX0_gather_18 : decode cX0_gather 18 = .ok (.ifnull 8, 3) := by decide +kernel
theorem dX0_gather_21 : decode cX0_gather 21 = .ok (.aload_n 0, 1) := by decide +kernel
theorem dX0_gather_22 : decode cX0_gather 22 = .ok (.aload_n 2, 1) := by decide +kernel
theorem dX0_gather_23 : decode cX0_gather 23 = .ok (.invokevirtual 19, 3) := by decide +kernel
theorem dX0_gather_26 : decode cX0_gather 26 = .ok (.return_, 1) := by decide +kernel
theorem dX0_leastOf_0 : decode cX0_leastOf 0 = .ok (.iload_n 1, 1) := by decide +kernel
theorem dX0_leastOf_1 : decode cX0_leastOf 1 = .ok (.ifCond .lt 20, 3) := by decide +kernel
theorem dX0_leastOf_4 : decode cX0_leastOf 4 = .ok (.iload_n 1, 1) := by decide +kernel
theorem dX0_leastOf_5 : decode cX0_leastOf 5 = .ok (.aload_n 0, 1) := by decide +kernel
theorem dX0_leastOf_6 : decode cX0_leastOf 6 = .ok (.getfield 15, 3) := by decide +kernel
theorem dX0_leastOf_9 : decode cX0_leastOf 9 = .ok (.if_icmp .ge 12, 3) := by decide +kernel
theorem dX0_leastOf_12 : decode cX0_leastOf 12 = .ok (.aload_n 0, 1) := by decide +kernel
theorem dX0_leastOf_13 : decode cX0_leastOf 13 = .ok (.getfield 9, 3) := by decide +kernel
theorem dX0_leastOf_16 : decode cX0_leastOf 16 = .ok (.iload_n 1, 1) := by decide +kernel
theorem dX0_leastOf_17 : decode cX0_leastOf 17 = .ok (.iaload, 1) := by decide +kernel
theorem dX0_leastOf_18 : decode cX0_leastOf 18 = .ok (.goto 4, 3) := by decide +kernel
theorem dX0_leastOf_21 : decode cX0_leastOf 21 = .ok (.iconst 0, 1) := by decide +kernel
theorem dX0_leastOf_22 : decode cX0_leastOf 22 = .ok (.ireturn, 1) := by decide +kernel
theorem dX10_add_0 : decode cX10_add 0 = .ok (.aload_n 0, 1) := by decide +kernel
theorem dX10_add_1 : decode cX10_add 1 = .ok (.getfield 71, 3) := by decide +kernel
theorem dX10_add_4 : decode cX10_add 4 = .ok (.aload_n 0, 1) := by decide +kernel
theorem dX10_add_5 : decode cX10_add 5 = .ok (.getfield 15, 3) := by decide +kernel
theorem dX10_add_8 : decode cX10_add 8 = .ok (.arraylength, 1) := by decide +kernel
theorem dX10_add_9 : decode cX10_add 9 = .ok (.if_icmp .lt 5, 3) := by decide +kernel
theorem dX10_add_12 : decode cX10_add 12 = .ok (.iconst (-1), 1) := by decide +kernel
theorem dX10_add_13 : decode cX10_add 13 = .ok (.ireturn, 1) := by decide +kernel
theorem dX10_add_14 : decode cX10_add 14 = .ok (.aload_n 0, 1) := by decide +kernel
theorem dX10_add_15 : decode cX10_add 15 = .ok (.getfield 71, 3) := by decide +kernel
theorem dX10_add_18 : decode cX10_add 18 = .ok (.istore 6, 2) := by decide +kernel
theorem dX10_add_20 : decode cX10_add 20 = .ok (.aload_n 0, 1) := by decide +kernel
theorem dX10_add_21 : decode cX10_add 21 = .ok (.dup, 1) := by decide +kernel
theorem dX10_add_22 : decode cX10_add 22 = .ok (.getfield 71, 3) := by decide +kernel
theorem dX10_add_25 : decode cX10_add 25 = .ok (.iconst 1, 1) := by decide +kernel
theorem dX10_add_26 : decode cX10_add 26 = .ok (.iadd, 1) := by decide +kernel
theorem dX10_add_27 : decode cX10_add 27 = .ok (.putfield 71, 3) := by decide +kernel
theorem dX10_add_30 : decode cX10_add 30 = .ok (.aload_n 0, 1) := by decide +kernel
theorem dX10_add_31 : decode cX10_add 31 = .ok (.getfield 15, 3) := by decide +kernel
theorem dX10_add_34 : decode cX10_add 34 = .ok (.iload 6, 2) := by decide +kernel
theorem dX10_add_36 : decode cX10_add 36 = .ok (.iload_n 1, 1) := by decide +kernel
theorem dX10_add_37 : decode cX10_add 37 = .ok (.iastore, 1) := by decide +kernel
theorem dX10_add_38 : decode cX10_add 38 = .ok (.aload_n 0, 1) := by decide +kernel
theorem dX10_add_39 : decode cX10_add 39 = .ok (.getfield 36, 3) := by decide +kernel
theorem dX10_add_42 : decode cX10_add 42 = .ok (.iload 6, 2) := by decide +kernel
theorem dX10_add_44 : decode cX10_add 44 = .ok (.iload_n 2, 1) := by decide +kernel
theorem dX10_add_45 : decode cX10_add 45 = .ok (.iastore, 1) := by decide +kernel
theorem dX10_add_46 : decode cX10_add 46 = .ok (.aload_n 0, 1) := by decide +kernel
theorem dX10_add_47 : decode cX10_add 47 = .ok (.getfield 39, 3) := by decide +kernel
theorem dX10_add_50 : decode cX10_add 50 = .ok (.iload 6, 2) := by decide +kernel
theorem dX10_add_52 : decode cX10_add 52 = .ok (.iload_n 3, 1) := by decide +kernel
theorem dX10_add_53 : decode cX10_add 53 = .ok (.iastore, 1) := by decide +kernel
theorem dX10_add_54 : decode cX10_add 54 = .ok (.aload_n 0, 1) := by decide +kernel
theorem dX10_add_55 : decode cX10_add 55 = .ok (.getfield 42, 3) := by decide +kernel
theorem dX10_add_58 : decode cX10_add 58 = .ok (.iload 6, 2) := by decide +kernel
theorem dX10_add_60 : decode cX10_add 60 = .ok (.iload 4, 2) := by decide +kernel
theorem dX10_add_62 : decode cX10_add 62 = .ok (.iastore, 1) := by decide +kernel
theorem dX10_add_63 : decode cX10_add 63 = .ok (.aload_n 0, 1) := by decide +kernel
theorem dX10_add_64 : decode cX10_add 64 = .ok (.getfield 21, 3) := by decide +kernel
theorem dX10_add_67 : decode cX10_add 67 = .ok (.iload 6, 2) := by decide +kernel
theorem dX10_add_69 : decode cX10_add 69 = .ok (.iload 5, 2) := by decide +kernel
theorem dX10_add_71 : decode cX10_add 71 = .ok (.iastore, 1) := by decide +kernel
theorem dX10_add_72 : decode cX10_add 72 = .ok (.aload_n 0, 1) := by decide +kernel
theorem dX10_add_73 : decode cX10_add 73 = .ok (.getfield 33, 3) := by decide +kernel
theorem dX10_add_76 : decode cX10_add 76 = .ok (.iload 6, 2) := by decide +kernel
theorem dX10_add_78 : decode cX10_add 78 = .ok (.iconst 0, 1) := by decide +kernel
theorem dX10_add_79 : decode cX10_add 79 = .ok (.iastore, 1) := by decide +kernel
theorem dX10_add_80 : decode cX10_add 80 = .ok (.aload_n 0, 1) := by decide +kernel
theorem dX10_add_81 : decode cX10_add 81 = .ok (.getfield 30, 3) := by decide +kernel
theorem dX10_add_84 : decode cX10_add 84 = .ok (.iload 6, 2) := by decide +kernel
theorem dX10_add_86 : decode cX10_add 86 = .ok (.iconst (-1), 1) := by decide +kernel
theorem dX10_add_87 : decode cX10_add 87 = .ok (.iastore, 1) := by decide +kernel
theorem dX10_add_88 : decode cX10_add 88 = .ok (.aload_n 0, 1) := by decide +kernel
theorem dX10_add_89 : decode cX10_add 89 = .ok (.getfield 27, 3) := by decide +kernel
theorem dX10_add_92 : decode cX10_add 92 = .ok (.iload 6, 2) := by decide +kernel
theorem dX10_add_94 : decode cX10_add 94 = .ok (.aload_n 0, 1) := by decide +kernel
theorem dX10_add_95 : decode cX10_add 95 = .ok (.iload 5, 2) := by decide +kernel
theorem dX10_add_97 : decode cX10_add 97 = .ok (.invokevirtual 88, 3) := by decide +kernel
theorem dX10_add_100 : decode cX10_add 100 = .ok (.iastore, 1) := by decide +kernel
theorem dX10_add_101 : decode cX10_add 101 = .ok (.aload_n 0, 1) := by decide +kernel
theorem dX10_add_102 : decode cX10_add 102 = .ok (.iload 5, 2) := by decide +kernel
theorem dX10_add_104 : decode cX10_add 104 = .ok (.invokevirtual 91, 3) := by decide +kernel
theorem dX10_add_107 : decode cX10_add 107 = .ok (.ifCond .eq 23, 3) := by decide +kernel
theorem dX10_add_110 : decode cX10_add 110 = .ok (.aload_n 0, 1) := by decide +kernel
theorem dX10_add_111 : decode cX10_add 111 = .ok (.getfield 30, 3) := by decide +kernel
theorem dX10_add_114 : decode cX10_add 114 = .ok (.iload 5, 2) := by decide +kernel
theorem dX10_add_116 : decode cX10_add 116 = .ok (.iload 6, 2) := by decide +kernel
theorem dX10_add_118 : decode cX10_add 118 = .ok (.iastore, 1) := by decide +kernel
theorem dX10_add_119 : decode cX10_add 119 = .ok (.aload_n 0, 1) := by decide +kernel
theorem dX10_add_120 : decode cX10_add 120 = .ok (.getfield 33, 3) := by decide +kernel
theorem dX10_add_123 : decode cX10_add 123 = .ok (.iload 5, 2) := by decide +kernel
theorem dX10_add_125 : decode cX10_add 125 = .ok (.dup2, 1) := by decide +kernel
theorem dX10_add_126 : decode cX10_add 126 = .ok (.iaload, 1) := by decide +kernel
theorem dX10_add_127 : decode cX10_add 127 = .ok (.iconst 1, 1) := by decide +kernel
theorem dX10_add_128 : decode cX10_add 128 = .ok (.iadd, 1) := by decide +kernel
theorem dX10_add_129 : decode cX10_add 129 = .ok (.iastore, 1) := by decide +kernel
theorem dX10_add_130 : decode cX10_add 130 = .ok (.iload 6, 2) := by decide +kernel
theorem dX10_add_132 : decode cX10_add 132 = .ok (.ireturn, 1) := by decide +kernel
theorem dX10_addRange_0 : decode cX10_addRange 0 = .ok (.aload_n 0, 1) := by decide +kernel
theorem dX10_addRange_1 : decode cX10_addRange 1 = .ok (.getfield 78, 3) := by decide +kernel
theorem dX10_addRange_4 : decode cX10_addRange 4 = .ok (.aload_n 0, 1) := by decide +kernel
theorem dX10_addRange_5 : decode cX10_addRange 5 = .ok (.getfield 61, 3) := by decide +kernel
theorem dX10_addRange_8 : decode cX10_addRange 8 = .ok (.arraylength, 1) := by decide +kernel
theorem dX10_addRange_9 : decode cX10_addRange 9 = .ok (.if_icmp .ge 45, 3) := by decide +kernel
theorem dX10_addRange_12 : decode cX10_addRange 12 = .ok (.aload_n 0, 1) := by decide +kernel
theorem dX10_addRange_13 : decode cX10_addRange 13 = .ok (.getfield 78, 3) := by decide +kernel
theorem dX10_addRange_16 : decode cX10_addRange 16 = .ok (.aload_n 0, 1) := by decide +kernel
theorem dX10_addRange_17 : decode cX10_addRange 17 = .ok (.getfield 64, 3) := by decide +kernel
theorem dX10_addRange_20 : decode cX10_addRange 20 = .ok (.arraylength, 1) := by decide +kernel
theorem dX10_addRange_21 : decode cX10_addRange 21 = .ok (.if_icmp .ge 33, 3) := by decide +kernel
theorem dX10_addRange_24 : decode cX10_addRange 24 = .ok (.aload_n 0, 1) := by decide +kernel
theorem dX10_addRange_25 : decode cX10_addRange 25 = .ok (.getfield 61, 3) := by decide +kernel
theorem dX10_addRange_28 : decode cX10_addRange 28 = .ok (.aload_n 0, 1) := by decide +kernel
theorem dX10_addRange_29 : decode cX10_addRange 29 = .ok (.getfield 78, 3) := by decide +kernel
theorem dX10_addRange_32 : decode cX10_addRange 32 = .ok (.iload_n 1, 1) := by decide +kernel
theorem dX10_addRange_33 : decode cX10_addRange 33 = .ok (.iastore, 1) := by decide +kernel
theorem dX10_addRange_34 : decode cX10_addRange 34 = .ok (.aload_n 0, 1) := by decide +kernel
theorem dX10_addRange_35 : decode cX10_addRange 35 = .ok (.getfield 64, 3) := by decide +kernel
theorem dX10_addRange_38 : decode cX10_addRange 38 = .ok (.aload_n 0, 1) := by decide +kernel
theorem dX10_addRange_39 : decode cX10_addRange 39 = .ok (.getfield 78, 3) := by decide +kernel
theorem dX10_addRange_42 : decode cX10_addRange 42 = .ok (.iload_n 2, 1) := by decide +kernel
theorem dX10_addRange_43 : decode cX10_addRange 43 = .ok (.iastore, 1) := by decide +kernel
theorem dX10_addRange_44 : decode cX10_addRange 44 = .ok (.aload_n 0, 1) := by decide +kernel
theorem dX10_addRange_45 : decode cX10_addRange 45 = .ok (.dup, 1) := by decide +kernel
theorem dX10_addRange_46 : decode cX10_addRange 46 = .ok (.getfield 78, 3) := by decide +kernel
theorem dX10_addRange_49 : decode cX10_addRange 49 = .ok (.iconst 1, 1) := by decide +kernel
theorem dX10_addRange_50 : decode cX10_addRange 50 = .ok (.iadd, 1) := by decide +kernel
theorem dX10_addRange_51 : decode cX10_addRange 51 = .ok (.putfield 78, 3) := by decide +kernel
theorem dX10_addRange_54 : decode cX10_addRange 54 = .ok (.return_, 1) := by decide +kernel
theorem dX10_beforeOf_0 : decode cX10_beforeOf 0 = .ok (.iload_n 1, 1) := by decide +kernel
theorem dX10_beforeOf_1 : decode cX10_beforeOf 1 = .ok (.ifCond .lt 20, 3) := by decide +kernel
theorem dX10_beforeOf_4 : decode cX10_beforeOf 4 = .ok (.iload_n 1, 1) := by decide +kernel
theorem dX10_beforeOf_5 : decode cX10_beforeOf 5 = .ok (.aload_n 0, 1) := by decide +kernel
theorem dX10_beforeOf_6 : decode cX10_beforeOf 6 = .ok (.getfield 71, 3) := by decide +kernel
theorem dX10_beforeOf_9 : decode cX10_beforeOf 9 = .ok (.if_icmp .ge 12, 3) := by decide +kernel
theorem dX10_beforeOf_12 : decode cX10_beforeOf 12 = .ok (.aload_n 0, 1) := by decide +kernel
theorem dX10_beforeOf_13 : decode cX10_beforeOf 13 = .ok (.getfield 27, 3) := by decide +kernel
theorem dX10_beforeOf_16 : decode cX10_beforeOf 16 = .ok (.iload_n 1, 1) := by decide +kernel
theorem dX10_beforeOf_17 : decode cX10_beforeOf 17 = .ok (.iaload, 1) := by decide +kernel
theorem dX10_beforeOf_18 : decode cX10_beforeOf 18 = .ok (.goto 4, 3) := by decide +kernel
theorem dX10_beforeOf_21 : decode cX10_beforeOf 21 = .ok (.iconst (-1), 1) := by decide +kernel
theorem dX10_beforeOf_22 : decode cX10_beforeOf 22 = .ok (.ireturn, 1) := by decide +kernel
theorem dX10_beginsWith_0 : decode cX10_beginsWith 0 = .ok (.aload_n 0, 1) := by decide +kernel
theorem dX10_beginsWith_1 : decode cX10_beginsWith 1 = .ok (.iload_n 1, 1) := by decide +kernel
theorem dX10_beginsWith_2 : decode cX10_beginsWith 2 = .ok (.invokevirtual 81, 3) := by decide +kernel
theorem dX10_beginsWith_5 : decode cX10_beginsWith 5 = .ok (.tableswitch 98 0 9 #[55, 55, 55, 64, 62, 66, 98, 72, 98, 64], 55) := by decide +kernel
theorem dX10_beginsWith_60 : decode cX10_beginsWith 60 = .ok (.aload_n 0, 1) := by decide +kernel
theorem dX10_beginsWith_61 : decode cX10_beginsWith 61 = .ok (.iload_n 1, 1) := by decide +kernel
theorem dX10_beginsWith_62 : decode cX10_beginsWith 62 = .ok (.iload_n 2, 1) := by decide +kernel
theorem dX10_beginsWith_63 : decode cX10_beginsWith 63 = .ok (.invokevirtual 143, 3) := by decide +kernel
theorem dX10_beginsWith_66 : decode cX10_beginsWith 66 = .ok (.ireturn, 1) := by decide +kernel
theorem dX10_beginsWith_67 : decode cX10_beginsWith 67 = .ok (.iconst 1, 1) := by decide +kernel
theorem dX10_beginsWith_68 : decode cX10_beginsWith 68 = .ok (.ireturn, 1) := by decide +kernel
theorem dX10_beginsWith_69 : decode cX10_beginsWith 69 = .ok (.iconst 0, 1) := by decide +kernel
theorem dX10_beginsWith_70 : decode cX10_beginsWith 70 = .ok (.ireturn, 1) := by decide +kernel
theorem dX10_beginsWith_71 : decode cX10_beginsWith 71 = .ok (.aload_n 0, 1) := by decide +kernel
theorem dX10_beginsWith_72 : decode cX10_beginsWith 72 = .ok (.iload_n 1, 1) := by decide +kernel
theorem dX10_beginsWith_73 : decode cX10_beginsWith 73 = .ok (.invokevirtual 146, 3) := by decide +kernel
theorem dX10_beginsWith_76 : decode cX10_beginsWith 76 = .ok (.ireturn, 1) := by decide +kernel
theorem dX10_beginsWith_77 : decode cX10_beginsWith 77 = .ok (.aload_n 0, 1) := by decide +kernel
theorem dX10_beginsWith_78 : decode cX10_beginsWith 78 = .ok (.iload_n 1, 1) := by decide +kernel
theorem dX10_beginsWith_79 : decode cX10_beginsWith 79 = .ok (.invokevirtual 85, 3) := by decide +kernel
theorem dX10_beginsWith_82 : decode cX10_beginsWith 82 = .ok (.ifCond .eq 19, 3) := by decide +kernel
theorem dX10_beginsWith_85 : decode cX10_beginsWith 85 = .ok (.aload_n 0, 1) := by decide +kernel
theorem dX10_beginsWith_86 : decode cX10_beginsWith 86 = .ok (.aload_n 0, 1) := by decide +kernel
theorem dX10_beginsWith_87 : decode cX10_beginsWith 87 = .ok (.iload_n 1, 1) := by decide +kernel
theorem dX10_beginsWith_88 : decode cX10_beginsWith 88 = .ok (.invokevirtual 105, 3) := by decide +kernel
theorem dX10_beginsWith_91 : decode cX10_beginsWith 91 = .ok (.invokevirtual 149, 3) := by decide +kernel
theorem dX10_beginsWith_94 : decode cX10_beginsWith 94 = .ok (.ifCond .eq 7, 3) := by decide +kernel
theorem dX10_beginsWith_97 : decode cX10_beginsWith 97 = .ok (.iconst 1, 1) := by decide +kernel
theorem dX10_beginsWith_98 : decode cX10_beginsWith 98 = .ok (.goto 4, 3) := by decide +kernel
theorem dX10_beginsWith_101 : decode cX10_beginsWith 101 = .ok (.iconst 0, 1) := by decide +kernel
theorem dX10_beginsWith_102 : decode cX10_beginsWith 102 = .ok (.ireturn, 1) := by decide +kernel
theorem dX10_beginsWith_103 : decode cX10_beginsWith 103 = .ok (.aload_n 0, 1) := by decide +kernel
theorem dX10_beginsWith_104 : decode cX10_beginsWith 104 = .ok (.iload_n 1, 1) := by decide +kernel
theorem dX10_beginsWith_105 : decode cX10_beginsWith 105 = .ok (.invokevirtual 152, 3) := by decide +kernel
theorem dX10_beginsWith_108 : decode cX10_beginsWith 108 = .ok (.ireturn, 1) := by decide +kernel
theorem dX10_captureNamed_0 : decode cX10_captureNamed 0 = .ok (.iconst 0, 1) := by decide +kernel
theorem dX10_captureNamed_1 : decode cX10_captureNamed 1 = .ok (.istore_n 2, 1) := by decide +kernel
theorem dX10_captureNamed_2 : decode cX10_captureNamed 2 = .ok (.aload_n 0, 1) := by decide +kernel
theorem dX10_captureNamed_3 : decode cX10_captureNamed 3 = .ok (.iload_n 2, 1) := by decide +kernel
theorem dX10_captureNamed_4 : decode cX10_captureNamed 4 = .ok (.invokevirtual 91, 3) := by decide +kernel
theorem dX10_captureNamed_7 : decode cX10_captureNamed 7 = .ok (.ifCond .eq 37, 3) := by decide +kernel
theorem dX10_captureNamed_10 : decode cX10_captureNamed 10 = .ok (.aload_n 0, 1) := by decide +kernel
theorem dX10_captureNamed_11 : decode cX10_captureNamed 11 = .ok (.getfield 15, 3) := by decide +kernel
theorem dX10_captureNamed_14 : decode cX10_captureNamed 14 = .ok (.iload_n 2, 1) := by decide +kernel
theorem dX10_captureNamed_15 : decode cX10_captureNamed 15 = .ok (.iaload, 1) := by decide +kernel
theorem dX10_captureNamed_16 : decode cX10_captureNamed 16 = .ok (.bipush 8, 2) := by decide +kernel
theorem dX10_captureNamed_18 : decode cX10_captureNamed 18 = .ok (.if_icmp .ne 20, 3) := by decide +kernel
theorem dX10_captureNamed_21 : decode cX10_captureNamed 21 = .ok (.aload_n 0, 1) := by decide +kernel
theorem dX10_captureNamed_22 : decode cX10_captureNamed 22 = .ok (.getfield 39, 3) := by decide +kernel
theorem dX10_captureNamed_25 : decode cX10_captureNamed 25 = .ok (.iload_n 2, 1) := by decide +kernel
theorem dX10_captureNamed_26 : decode cX10_captureNamed 26 = .ok (.iaload, 1) := by decide +kernel
theorem dX10_captureNamed_27 : decode cX10_captureNamed 27 = .ok (.iload_n 1, 1) := by decide +kernel
theorem dX10_captureNamed_28 : decode cX10_captureNamed 28 = .ok (.if_icmp .ne 10, 3) := by decide +kernel
theorem dX10_captureNamed_31 : decode cX10_captureNamed 31 = .ok (.aload_n 0, 1) := by decide +kernel
theorem dX10_captureNamed_32 : decode cX10_captureNamed 32 = .ok (.getfield 36, 3) := by decide +kernel
theorem dX10_captureNamed_35 : decode cX10_captureNamed 35 = .ok (.iload_n 2, 1) := by decide +kernel
theorem dX10_captureNamed_36 : decode cX10_captureNamed 36 = .ok (.iaload, 1) := by decide +kernel
theorem dX10_captureNamed_37 : decode cX10_captureNamed 37 = .ok (.ireturn, 1) := by decide +kernel
theorem dX10_captureNamed_38 : decode cX10_captureNamed 38 = .ok (.iinc 2 1, 3) := by decide +kernel
theorem dX10_captureNamed_41 : decode cX10_captureNamed 41 = .ok (.goto (-39), 3) := by decide +kernel
theorem dX10_captureNamed_44 : decode cX10_captureNamed 44 = .ok (.iconst (-1), 1) := by decide +kernel
theorem dX10_captureNamed_45 : decode cX10_captureNamed 45 = .ok (.ireturn, 1) := by decide +kernel
theorem dX10_close_0 : decode cX10_close 0 = .ok (.aload_n 0, 1) := by decide +kernel
theorem dX10_close_1 : decode cX10_close 1 = .ok (.iload_n 1, 1) := by decide +kernel
theorem dX10_close_2 : decode cX10_close 2 = .ok (.invokevirtual 91, 3) := by decide +kernel
theorem dX10_close_5 : decode cX10_close 5 = .ok (.ifCond .eq 13, 3) := by decide +kernel
theorem dX10_close_8 : decode cX10_close 8 = .ok (.aload_n 0, 1) := by decide +kernel
theorem dX10_close_9 : decode cX10_close 9 = .ok (.getfield 24, 3) := by decide +kernel
theorem dX10_close_12 : decode cX10_close 12 = .ok (.iload_n 1, 1) := by decide +kernel
theorem dX10_close_13 : decode cX10_close 13 = .ok (.aload_n 0, 1) := by decide +kernel
theorem dX10_close_14 : decode cX10_close 14 = .ok (.getfield 71, 3) := by decide +kernel
theorem dX10_close_17 : decode cX10_close 17 = .ok (.iastore, 1) := by decide +kernel
theorem dX10_close_18 : decode cX10_close 18 = .ok (.return_, 1) := by decide +kernel
theorem dX10_copies_0 : decode cX10_copies 0 = .ok (.aload_n 0, 1) := by decide +kernel
theorem dX10_copies_1 : decode cX10_copies 1 = .ok (.iload_n 1, 1) := by decide +kernel
theorem dX10_copies_2 : decode cX10_copies 2 = .ok (.invokevirtual 81, 3) := by decide +kernel
theorem dX10_copies_5 : decode cX10_copies 5 = .ok (.bipush 7, 2) := by decide +kernel
theorem dX10_copies_7 : decode cX10_copies 7 = .ok (.if_icmp .eq 5, 3) := by decide +kernel
theorem dX10_copies_10 : decode cX10_copies 10 = .ok (.iconst 1, 1) := by decide +kernel
theorem dX10_copies_11 : decode cX10_copies 11 = .ok (.ireturn, 1) := by decide +kernel
theorem dX10_copies_12 : decode cX10_copies 12 = .ok (.iconst 1, 1) := by decide +kernel
theorem dX10_copies_13 : decode cX10_copies 13 = .ok (.aload_n 0, 1) := by decide +kernel
theorem dX10_copies_14 : decode cX10_copies 14 = .ok (.iload_n 1, 1) := by decide +kernel
