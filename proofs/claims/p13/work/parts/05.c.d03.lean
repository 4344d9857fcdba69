theorem dX10_sameParts_5 : decode cX10_sameParts 5 = .ok (.invokevirtual 124, 3) := by decide +kernel
theorem dX10_sameParts_8 : decode cX10_sameParts 8 = .ok (.if_icmp .ge 41, 3) := by decide +kernel
theorem dX10_sameParts_11 : decode cX10_sameParts 11 = .ok (.aload_n 0, 1) := by decide +kernel
theorem dX10_sameParts_12 : decode cX10_sameParts 12 = .ok (.iload_n 1, 1) := by decide +kernel
theorem dX10_sameParts_13 : decode cX10_sameParts 13 = .ok (.iload_n 3, 1) := by decide +kernel
theorem dX10_sameParts_14 : decode cX10_sameParts 14 = .ok (.invokevirtual 191, 3) := by decide +kernel
theorem dX10_sameParts_17 : decode cX10_sameParts 17 = .ok (.aload_n 0, 1) := by decide +kernel
theorem dX10_sameParts_18 : decode cX10_sameParts 18 = .ok (.iload_n 2, 1) := by decide +kernel
theorem dX10_sameParts_19 : decode cX10_sameParts 19 = .ok (.iload_n 3, 1) := by decide +kernel
theorem dX10_sameParts_20 : decode cX10_sameParts 20 = .ok (.invokevirtual 191, 3) := by decide +kernel
theorem dX10_sameParts_23 : decode cX10_sameParts 23 = .ok (.if_icmp .ne 18, 3) := by decide +kernel
theorem dX10_sameParts_26 : decode cX10_sameParts 26 = .ok (.aload_n 0, 1) := by decide +kernel
theorem dX10_sameParts_27 : decode cX10_sameParts 27 = .ok (.iload_n 1, 1) := by decide +kernel
theorem dX10_sameParts_28 : decode cX10_sameParts 28 = .ok (.iload_n 3, 1) := by decide +kernel
theorem dX10_sameParts_29 : decode cX10_sameParts 29 = .ok (.invokevirtual 194, 3) := by decide +kernel
theorem dX10_sameParts_32 : decode cX10_sameParts 32 = .ok (.aload_n 0, 1) := by decide +kernel
theorem dX10_sameParts_33 : decode cX10_sameParts 33 = .ok (.iload_n 2, 1) := by decide +kernel
theorem dX10_sameParts_34 : decode cX10_sameParts 34 = .ok (.iload_n 3, 1) := by decide +kernel
theorem dX10_sameParts_35 : decode cX10_sameParts 35 = .ok (.invokevirtual 194, 3) := by decide +kernel
theorem dX10_sameParts_38 : decode cX10_sameParts 38 = .ok (.if_icmp .eq 5, 3) := by decide +kernel
theorem dX10_sameParts_41 : decode cX10_sameParts 41 = .ok (.iconst 0, 1) := by decide +kernel
theorem dX10_sameParts_42 : decode cX10_sameParts 42 = .ok (.ireturn, 1) := by decide +kernel
theorem dX10_sameParts_43 : decode cX10_sameParts 43 = .ok (.iinc 3 1, 3) := by decide +kernel
theorem dX10_sameParts_46 : decode cX10_sameParts 46 = .ok (.goto (-44), 3) := by decide +kernel
theorem dX10_sameParts_49 : decode cX10_sameParts 49 = .ok (.iconst 1, 1) := by decide +kernel
theorem dX10_sameParts_50 : decode cX10_sameParts 50 = .ok (.ireturn, 1) := by decide +kernel
theorem dX10_somePartIsMarked_0 : decode cX10_somePartIsMarked 0 = .ok (.aload_n 0, 1) := by decide +kernel
theorem dX10_somePartIsMarked_1 : decode cX10_somePartIsMarked 1 = .ok (.iload_n 1, 1) := by decide +kernel
theorem dX10_somePartIsMarked_2 : decode cX10_somePartIsMarked 2 = .ok (.invokevirtual 105, 3) := by decide +kernel
theorem dX10_somePartIsMarked_5 : decode cX10_somePartIsMarked 5 = .ok (.istore_n 2, 1) := by decide +kernel
theorem dX10_somePartIsMarked_6 : decode cX10_somePartIsMarked 6 = .ok (.aload_n 0, 1) := by decide +kernel
theorem dX10_somePartIsMarked_7 : decode cX10_somePartIsMarked 7 = .ok (.iload_n 2, 1) := by decide +kernel
theorem dX10_somePartIsMarked_8 : decode cX10_somePartIsMarked 8 = .ok (.invokevirtual 91, 3) := by decide +kernel
theorem dX10_somePartIsMarked_11 : decode cX10_somePartIsMarked 11 = .ok (.ifCond .eq 23, 3) := by decide +kernel
theorem dX10_somePartIsMarked_14 : decode cX10_somePartIsMarked 14 = .ok (.aload_n 0, 1) := by decide +kernel
theorem dX10_somePartIsMarked_15 : decode cX10_somePartIsMarked 15 = .ok (.getfield 58, 3) := by decide +kernel
theorem dX10_somePartIsMarked_18 : decode cX10_somePartIsMarked 18 = .ok (.iload_n 2, 1) := by decide +kernel
theorem dX10_somePartIsMarked_19 : decode cX10_somePartIsMarked 19 = .ok (.baload, 1) := by decide +kernel
theorem dX10_somePartIsMarked_20 : decode cX10_somePartIsMarked 20 = .ok (.ifCond .eq 5, 3) := by decide +kernel
theorem dX10_somePartIsMarked_23 : decode cX10_somePartIsMarked 23 = .ok (.iconst 1, 1) := by decide +kernel
theorem dX10_somePartIsMarked_24 : decode cX10_somePartIsMarked 24 = .ok (.ireturn, 1) := by decide +kernel
theorem dX10_somePartIsMarked_25 : decode cX10_somePartIsMarked 25 = .ok (.aload_n 0, 1) := by decide +kernel
theorem dX10_somePartIsMarked_26 : decode cX10_somePartIsMarked 26 = .ok (.iload_n 2, 1) := by decide +kernel
theorem dX10_somePartIsMarked_27 : decode cX10_somePartIsMarked 27 = .ok (.invokevirtual 108, 3) := by decide +kernel
theorem dX10_somePartIsMarked_30 : decode cX10_somePartIsMarked 30 = .ok (.istore_n 2, 1) := by decide +kernel
theorem dX10_somePartIsMarked_31 : decode cX10_somePartIsMarked 31 = .ok (.goto (-25), 3) := by decide +kernel
theorem dX10_somePartIsMarked_34 : decode cX10_somePartIsMarked 34 = .ok (.iconst 0, 1) := by decide +kernel
theorem dX10_somePartIsMarked_35 : decode cX10_somePartIsMarked 35 = .ok (.ireturn, 1) := by decide +kernel
theorem dX10_sortOf_0 : decode cX10_sortOf 0 = .ok (.iload_n 1, 1) := by decide +kernel
theorem dX10_sortOf_1 : decode cX10_sortOf 1 = .ok (.ifCond .lt 20, 3) := by decide +kernel
theorem dX10_sortOf_4 : decode cX10_sortOf 4 = .ok (.iload_n 1, 1) := by decide +kernel
theorem dX10_sortOf_5 : decode cX10_sortOf 5 = .ok (.aload_n 0, 1) := by decide +kernel
theorem dX10_sortOf_6 : decode cX10_sortOf 6 = .ok (.getfield 71, 3) := by decide +kernel
theorem dX10_sortOf_9 : decode cX10_sortOf 9 = .ok (.if_icmp .ge 12, 3) := by decide +kernel
theorem dX10_sortOf_12 : decode cX10_sortOf 12 = .ok (.aload_n 0, 1) := by decide +kernel
theorem dX10_sortOf_13 : decode cX10_sortOf 13 = .ok (.getfield 15, 3) := by decide +kernel
theorem dX10_sortOf_16 : decode cX10_sortOf 16 = .ok (.iload_n 1, 1) := by decide +kernel
theorem dX10_sortOf_17 : decode cX10_sortOf 17 = .ok (.iaload, 1) := by decide +kernel
theorem dX10_sortOf_18 : decode cX10_sortOf 18 = .ok (.goto 4, 3) := by decide +kernel
theorem dX10_sortOf_21 : decode cX10_sortOf 21 = .ok (.iconst 5, 1) := by decide +kernel
theorem dX10_sortOf_22 : decode cX10_sortOf 22 = .ok (.ireturn, 1) := by decide +kernel
theorem dX10_takes_0 : decode cX10_takes 0 = .ok (.aload_n 0, 1) := by decide +kernel
theorem dX10_takes_1 : decode cX10_takes 1 = .ok (.iload_n 1, 1) := by decide +kernel
theorem dX10_takes_2 : decode cX10_takes 2 = .ok (.invokevirtual 81, 3) := by decide +kernel
theorem dX10_takes_5 : decode cX10_takes 5 = .ok (.tableswitch 132 0 2 #[27, 62, 74], 27) := by decide +kernel
theorem dX10_takes_32 : decode cX10_takes 32 = .ok (.iload_n 2, 1) := by decide +kernel
theorem dX10_takes_33 : decode cX10_takes 33 = .ok (.aload_n 0, 1) := by decide +kernel
theorem dX10_takes_34 : decode cX10_takes 34 = .ok (.iload_n 1, 1) := by decide +kernel
theorem dX10_takes_35 : decode cX10_takes 35 = .ok (.invokevirtual 130, 3) := by decide +kernel
theorem dX10_takes_38 : decode cX10_takes 38 = .ok (.if_icmp .eq 23, 3) := by decide +kernel
theorem dX10_takes_41 : decode cX10_takes 41 = .ok (.aload_n 0, 1) := by decide +kernel
theorem dX10_takes_42 : decode cX10_takes 42 = .ok (.iload_n 1, 1) := by decide +kernel
theorem dX10_takes_43 : decode cX10_takes 43 = .ok (.invokevirtual 98, 3) := by decide +kernel
theorem dX10_takes_46 : decode cX10_takes 46 = .ok (.ifCond .eq 19, 3) := by decide +kernel
theorem dX10_takes_49 : decode cX10_takes 49 = .ok (.iload_n 2, 1) := by decide +kernel
theorem dX10_takes_50 : decode cX10_takes 50 = .ok (.invokestatic 133, 3) := by decide +kernel
theorem dX10_takes_53 : decode cX10_takes 53 = .ok (.aload_n 0, 1) := by decide +kernel
theorem dX10_takes_54 : decode cX10_takes 54 = .ok (.iload_n 1, 1) := by decide +kernel
theorem dX10_takes_55 : decode cX10_takes 55 = .ok (.invokevirtual 130, 3) := by decide +kernel
theorem dX10_takes_58 : decode cX10_takes 58 = .ok (.if_icmp .ne 7, 3) := by decide +kernel
theorem dX10_takes_61 : decode cX10_takes 61 = .ok (.iconst 1, 1) := by decide +kernel
theorem dX10_takes_62 : decode cX10_takes 62 = .ok (.goto 4, 3) := by decide +kernel
theorem dX10_takes_65 : decode cX10_takes 65 = .ok (.iconst 0, 1) := by decide +kernel
theorem dX10_takes_66 : decode cX10_takes 66 = .ok (.ireturn, 1) := by decide +kernel
theorem dX10_takes_67 : decode cX10_takes 67 = .ok (.iload_n 2, 1) := by decide +kernel
theorem dX10_takes_68 : decode cX10_takes 68 = .ok (.bipush 10, 2) := by decide +kernel
theorem dX10_takes_70 : decode cX10_takes 70 = .ok (.if_icmp .eq 7, 3) := by decide +kernel
theorem dX10_takes_73 : decode cX10_takes 73 = .ok (.iconst 1, 1) := by decide +kernel
theorem dX10_takes_74 : decode cX10_takes 74 = .ok (.goto 4, 3) := by decide +kernel
theorem dX10_takes_77 : decode cX10_takes 77 = .ok (.iconst 0, 1) := by decide +kernel
theorem dX10_takes_78 : decode cX10_takes 78 = .ok (.ireturn, 1) := by decide +kernel
theorem dX10_takes_79 : decode cX10_takes 79 = .ok (.aload_n 0, 1) := by decide +kernel
theorem dX10_takes_80 : decode cX10_takes 80 = .ok (.iload_n 1, 1) := by decide +kernel
theorem dX10_takes_81 : decode cX10_takes 81 = .ok (.iload_n 2, 1) := by decide +kernel
theorem dX10_takes_82 : decode cX10_takes 82 = .ok (.invokevirtual 136, 3) := by decide +kernel
theorem dX10_takes_85 : decode cX10_takes 85 = .ok (.ifCond .ne 23, 3) := by decide +kernel
theorem dX10_takes_88 : decode cX10_takes 88 = .ok (.aload_n 0, 1) := by decide +kernel
theorem dX10_takes_89 : decode cX10_takes 89 = .ok (.iload_n 1, 1) := by decide +kernel
theorem dX10_takes_90 : decode cX10_takes 90 = .ok (.invokevirtual 98, 3) := by decide +kernel
theorem dX10_takes_93 : decode cX10_takes 93 = .ok (.ifCond .eq 19, 3) := by decide +kernel
theorem dX10_takes_96 : decode cX10_takes 96 = .ok (.aload_n 0, 1) := by decide +kernel
theorem dX10_takes_97 : decode cX10_takes 97 = .ok (.iload_n 1, 1) := by decide +kernel
theorem dX10_takes_98 : decode cX10_takes 98 = .ok (.iload_n 2, 1) := by decide +kernel
theorem dX10_takes_99 : decode cX10_takes 99 = .ok (.invokestatic 133, 3) := by decide +kernel
theorem dX10_takes_102 : decode cX10_takes 102 = .ok (.invokevirtual 136, 3) := by decide +kernel
theorem dX10_takes_105 : decode cX10_takes 105 = .ok (.ifCond .eq 7, 3) := by decide +kernel
theorem dX10_takes_108 : decode cX10_takes 108 = .ok (.iconst 1, 1) := by decide +kernel
theorem dX10_takes_109 : decode cX10_takes 109 = .ok (.goto 4, 3) := by decide +kernel
theorem dX10_takes_112 : decode cX10_takes 112 = .ok (.iconst 0, 1) := by decide +kernel
theorem dX10_takes_113 : decode cX10_takes 113 = .ok (.istore_n 3, 1) := by decide +kernel
theorem dX10_takes_114 : decode cX10_takes 114 = .ok (.iload_n 3, 1) := by decide +kernel
theorem dX10_takes_115 : decode cX10_takes 115 = .ok (.aload_n 0, 1) := by decide +kernel
theorem dX10_takes_116 : decode cX10_takes 116 = .ok (.iload_n 1, 1) := by decide +kernel
theorem dX10_takes_117 : decode cX10_takes 117 = .ok (.invokevirtual 130, 3) := by decide +kernel
theorem dX10_takes_120 : decode cX10_takes 120 = .ok (.ifCond .ne 7, 3) := by decide +kernel
theorem dX10_takes_123 : decode cX10_takes 123 = .ok (.iconst 1, 1) := by decide +kernel
theorem dX10_takes_124 : decode cX10_takes 124 = .ok (.goto 4, 3) := by decide +kernel
theorem dX10_takes_127 : decode cX10_takes 127 = .ok (.iconst 0, 1) := by decide +kernel
theorem dX10_takes_128 : decode cX10_takes 128 = .ok (.if_icmp .ne 7, 3) := by decide +kernel
theorem dX10_takes_131 : decode cX10_takes 131 = .ok (.iconst 1, 1) := by decide +kernel
theorem dX10_takes_132 : decode cX10_takes 132 = .ok (.goto 4, 3) := by decide +kernel
theorem dX10_takes_135 : decode cX10_takes 135 = .ok (.iconst 0, 1) := by decide +kernel
theorem dX10_takes_136 : decode cX10_takes 136 = .ok (.ireturn, 1) := by decide +kernel
theorem dX10_takes_137 : decode cX10_takes 137 = .ok (.iconst 0, 1) := by decide +kernel
theorem dX10_takes_138 : decode cX10_takes 138 = .ok (.ireturn, 1) := by decide +kernel
theorem dX10_takesOneSign_0 : decode cX10_takesOneSign 0 = .ok (.aload_n 0, 1) := by decide +kernel
theorem dX10_takesOneSign_1 : decode cX10_takesOneSign 1 = .ok (.iload_n 1, 1) := by decide +kernel
theorem dX10_takesOneSign_2 : decode cX10_takesOneSign 2 = .ok (.invokevirtual 81, 3) := by decide +kernel
theorem dX10_takesOneSign_5 : decode cX10_takesOneSign 5 = .ok (.iconst 2, 1) := by decide +kernel
theorem dX10_takesOneSign_6 : decode cX10_takesOneSign 6 = .ok (.if_icmp .gt 7, 3) := by decide +kernel
theorem dX10_takesOneSign_9 : decode cX10_takesOneSign 9 = .ok (.iconst 1, 1) := by decide +kernel
theorem dX10_takesOneSign_10 : decode cX10_takesOneSign 10 = .ok (.goto 4, 3) := by decide +kernel
theorem dX10_takesOneSign_13 : decode cX10_takesOneSign 13 = .ok (.iconst 0, 1) := by decide +kernel
theorem dX10_takesOneSign_14 : decode cX10_takesOneSign 14 = .ok (.ireturn, 1) := by decide +kernel
theorem dX10_tellOfAll_0 : decode cX10_tellOfAll 0 = .ok (.aload_n 0, 1) := by decide +kernel
theorem dX10_tellOfAll_1 : decode cX10_tellOfAll 1 = .ok (.iload_n 1, 1) := by decide +kernel
theorem dX10_tellOfAll_2 : decode cX10_tellOfAll 2 = .ok (.invokevirtual 91, 3) := by decide +kernel
theorem dX10_tellOfAll_5 : decode cX10_tellOfAll 5 = .ok (.ifCond .ne 6, 3) := by decide +kernel
theorem dX10_tellOfAll_8 : decode cX10_tellOfAll 8 = .ok (.bipush (-4), 2) := by decide +kernel
theorem dX10_tellOfAll_10 : decode cX10_tellOfAll 10 = .ok (.ireturn, 1) := by decide +kernel
theorem dX10_tellOfAll_11 : decode cX10_tellOfAll 11 = .ok (.iload_n 2, 1) := by decide +kernel
theorem dX10_tellOfAll_12 : decode cX10_tellOfAll 12 = .ok (.tableswitch 89 0 5 #[40, 47, 53, 60, 67, 74], 40) := by decide +kernel
theorem dX10_tellOfAll_52 : decode cX10_tellOfAll 52 = .ok (.aload_n 0, 1) := by decide +kernel
theorem dX10_tellOfAll_53 : decode cX10_tellOfAll 53 = .ok (.getfield 15, 3) := by decide +kernel
theorem dX10_tellOfAll_56 : decode cX10_tellOfAll 56 = .ok (.iload_n 1, 1) := by decide +kernel
theorem dX10_tellOfAll_57 : decode cX10_tellOfAll 57 = .ok (.iaload, 1) := by decide +kernel
theorem dX10_tellOfAll_58 : decode cX10_tellOfAll 58 = .ok (.ireturn, 1) := by decide +kernel
theorem dX10_tellOfAll_59 : decode cX10_tellOfAll 59 = .ok (.aload_n 0, 1) := by decide +kernel
theorem dX10_tellOfAll_60 : decode cX10_tellOfAll 60 = .ok (.iload_n 1, 1) := by decide +kernel
theorem dX10_tellOfAll_61 : decode cX10_tellOfAll 61 = .ok (.invokevirtual 124, 3) := by decide +kernel
theorem dX10_tellOfAll_64 : decode cX10_tellOfAll 64 = .ok (.ireturn, 1) := by decide +kernel
theorem dX10_tellOfAll_65 : decode cX10_tellOfAll 65 = .ok (.aload_n 0, 1) := by decide +kernel
theorem dX10_tellOfAll_66 : decode cX10_tellOfAll 66 = .ok (.getfield 21, 3) := by decide +kernel
theorem dX10_tellOfAll_69 : decode cX10_tellOfAll 69 = .ok (.iload_n 1, 1) := by decide +kernel
theorem dX10_tellOfAll_70 : decode cX10_tellOfAll 70 = .ok (.iaload, 1) := by decide +kernel
theorem dX10_tellOfAll_71 : decode cX10_tellOfAll 71 = .ok (.ireturn, 1) := by decide +kernel
theorem dX10_tellOfAll_72 : decode cX10_tellOfAll 72 = .ok (.aload_n 0, 1) := by decide +kernel
theorem dX10_tellOfAll_73 : decode cX10_tellOfAll 73 = .ok (.getfield 45, 3) := by decide +kernel
theorem dX10_tellOfAll_76 : decode cX10_tellOfAll 76 = .ok (.iload_n 1, 1) := by decide +kernel
theorem dX10_tellOfAll_77 : decode cX10_tellOfAll 77 = .ok (.iaload, 1) := by decide +kernel
theorem dX10_tellOfAll_78 : decode cX10_tellOfAll 78 = .ok (.ireturn, 1) := by decide +kernel
theorem dX10_tellOfAll_79 : decode cX10_tellOfAll 79 = .ok (.aload_n 0, 1) := by decide +kernel
theorem dX10_tellOfAll_80 : decode cX10_tellOfAll 80 = .ok (.getfield 48, 3) := by decide +kernel
theorem dX10_tellOfAll_83 : decode cX10_tellOfAll 83 = .ok (.iload_n 1, 1) := by decide +kernel
theorem dX10_tellOfAll_84 : decode cX10_tellOfAll 84 = .ok (.iaload, 1) := by decide +kernel
theorem dX10_tellOfAll_85 : decode cX10_tellOfAll 85 = .ok (.ireturn, 1) := by decide +kernel
theorem dX10_tellOfAll_86 : decode cX10_tellOfAll 86 = .ok (.aload_n 0, 1) := by decide +kernel
theorem dX10_tellOfAll_87 : decode cX10_tellOfAll 87 = .ok (.getfield 51, 3) := by decide +kernel
theorem dX10_tellOfAll_90 : decode cX10_tellOfAll 90 = .ok (.iload_n 1, 1) := by decide +kernel
theorem dX10_tellOfAll_91 : decode cX10_tellOfAll 91 = .ok (.baload, 1) := by decide +kernel
theorem dX10_tellOfAll_92 : decode cX10_tellOfAll 92 = .ok (.ifCond .eq 7, 3) := by decide +kernel
theorem dX10_tellOfAll_95 : decode cX10_tellOfAll 95 = .ok (.iconst 1, 1) := by decide +kernel
theorem dX10_tellOfAll_96 : decode cX10_tellOfAll 96 = .ok (.goto 4, 3) := by decide +kernel
theorem dX10_tellOfAll_99 : decode cX10_tellOfAll 99 = .ok (.iconst 0, 1) := by decide +kernel
theorem dX10_tellOfAll_100 : decode cX10_tellOfAll 100 = .ok (.ireturn, 1) := by decide +kernel
theorem dX10_tellOfAll_101 : decode cX10_tellOfAll 101 = .ok (.aload_n 0, 1) := by decide +kernel
theorem dX10_tellOfAll_102 : decode cX10_tellOfAll 102 = .ok (.getfield 55, 3) := by decide +kernel
theorem dX10_tellOfAll_105 : decode cX10_tellOfAll 105 = .ok (.iload_n 1, 1) := by decide +kernel
theorem dX10_tellOfAll_106 : decode cX10_tellOfAll 106 = .ok (.baload, 1) := by decide +kernel
theorem dX10_tellOfAll_107 : decode cX10_tellOfAll 107 = .ok (.ifCond .eq 7, 3) := by decide +kernel
theorem dX10_tellOfAll_110 : decode cX10_tellOfAll 110 = .ok (.iconst 1, 1) := by decide +kernel
theorem dX10_tellOfAll_111 : decode cX10_tellOfAll 111 = .ok (.goto 4, 3) := by decide +kernel
theorem dX10_tellOfAll_114 : decode cX10_tellOfAll 114 = .ok (.iconst 0, 1) := by decide +kernel
theorem dX10_tellOfAll_115 : decode cX10_tellOfAll 115 = .ok (.ireturn, 1) := by decide +kernel
theorem dX10_valueOf_0 : decode cX10_valueOf 0 = .ok (.iload_n 1, 1) := by decide +kernel
theorem dX10_valueOf_1 : decode cX10_valueOf 1 = .ok (.ifCond .lt 20, 3) := by decide +kernel
theorem dX10_valueOf_4 : decode cX10_valueOf 4 = .ok (.iload_n 1, 1) := by decide +kernel
theorem dX10_valueOf_5 : decode cX10_valueOf 5 = .ok (.aload_n 0, 1) := by decide +kernel
theorem dX10_valueOf_6 : decode cX10_valueOf 6 = .ok (.getfield 71, 3) := by decide +kernel
theorem dX10_valueOf_9 : decode cX10_valueOf 9 = .ok (.if_icmp .ge 12, 3) := by decide +kernel
theorem dX10_valueOf_12 : decode cX10_valueOf 12 = .ok (.aload_n 0, 1) := by decide +kernel
theorem dX10_valueOf_13 : decode cX10_valueOf 13 = .ok (.getfield 36, 3) := by decide +kernel
theorem dX10_valueOf_16 : decode cX10_valueOf 16 = .ok (.iload_n 1, 1) := by decide +kernel
theorem dX10_valueOf_17 : decode cX10_valueOf 17 = .ok (.iaload, 1) := by decide +kernel
theorem dX10_valueOf_18 : decode cX10_valueOf 18 = .ok (.goto 4, 3) := by decide +kernel
theorem dX10_valueOf_21 : decode cX10_valueOf 21 = .ok (.iconst 0, 1) := by decide +kernel
theorem dX10_valueOf_22 : decode cX10_valueOf 22 = .ok (.ireturn, 1) := by decide +kernel
theorem dX11_edgeHolds_0 : decode cX11_edgeHolds 0 = .ok (.iload_n 0, 1) := by decide +kernel
theorem dX11_edgeHolds_1 : decode cX11_edgeHolds 1 = .ok (.ifCond .ne 13, 3) := by decide +kernel
theorem dX11_edgeHolds_4 : decode cX11_edgeHolds 4 = .ok (.iload_n 2, 1) := by decide +kernel
theorem dX11_edgeHolds_5 : decode cX11_edgeHolds 5 = .ok (.ifCond .ne 7, 3) := by decide +kernel
theorem dX11_edgeHolds_8 : decode cX11_edgeHolds 8 = .ok (.iconst 1, 1) := by decide +kernel
theorem dX11_edgeHolds_9 : decode cX11_edgeHolds 9 = .ok (.goto 4, 3) := by decide +kernel
theorem dX11_edgeHolds_12 : decode cX11_edgeHolds 12 = .ok (.iconst 0, 1) := by decide +kernel
theorem dX11_edgeHolds_13 : decode cX11_edgeHolds 13 = .ok (.ireturn, 1) := by decide +kernel
theorem dX11_edgeHolds_14 : decode cX11_edgeHolds 14 = .ok (.iload_n 0, 1) := by decide +kernel
theorem dX11_edgeHolds_15 : decode cX11_edgeHolds 15 = .ok (.iconst 1, 1) := by decide +kernel
theorem dX11_edgeHolds_16 : decode cX11_edgeHolds 16 = .ok (.if_icmp .ne 17, 3) := by decide +kernel
theorem dX11_edgeHolds_19 : decode cX11_edgeHolds 19 = .ok (.iload_n 2, 1) := by decide +kernel
theorem dX11_edgeHolds_20 : decode cX11_edgeHolds 20 = .ok (.aload_n 1, 1) := by decide +kernel
theorem dX11_edgeHolds_21 : decode cX11_edgeHolds 21 = .ok (.getfield 96, 3) := by decide +kernel
theorem dX11_edgeHolds_24 : decode cX11_edgeHolds 24 = .ok (.if_icmp .ne 7, 3) := by decide +kernel
theorem dX11_edgeHolds_27 : decode cX11_edgeHolds 27 = .ok (.iconst 1, 1) := by decide +kernel
theorem dX11_edgeHolds_28 : decode cX11_edgeHolds 28 = .ok (.goto 4, 3) := by decide +kernel
theorem dX11_edgeHolds_31 : decode cX11_edgeHolds 31 = .ok (.iconst 0, 1) := by decide +kernel
theorem dX11_edgeHolds_32 : decode cX11_edgeHolds 32 = .ok (.ireturn, 1) := by decide +kernel
theorem dX11_edgeHolds_33 : decode cX11_edgeHolds 33 = .ok (.aload_n 1, 1) := by decide +kernel
theorem dX11_edgeHolds_34 : decode cX11_edgeHolds 34 = .ok (.iload_n 2, 1) := by decide +kernel
theorem dX11_edgeHolds_35 : decode cX11_edgeHolds 35 = .ok (.iconst 1, 1) := by decide +kernel
theorem dX11_edgeHolds_36 : decode cX11_edgeHolds 36 = .ok (.isub, 1) := by decide +kernel
theorem dX11_edgeHolds_37 : decode cX11_edgeHolds 37 = .ok (.invokevirtual 222, 3) := by decide +kernel
theorem dX11_edgeHolds_40 : decode cX11_edgeHolds 40 = .ok (.invokestatic 323, 3) := by decide +kernel
theorem dX11_edgeHolds_43 : decode cX11_edgeHolds 43 = .ok (.aload_n 1, 1) := by decide +kernel
theorem dX11_edgeHolds_44 : decode cX11_edgeHolds 44 = .ok (.iload_n 2, 1) := by decide +kernel
theorem dX11_edgeHolds_45 : decode cX11_edgeHolds 45 = .ok (.invokevirtual 222, 3) := by decide +kernel
theorem dX11_edgeHolds_48 : decode cX11_edgeHolds 48 = .ok (.invokestatic 323, 3) := by decide +kernel
theorem dX11_edgeHolds_51 : decode cX11_edgeHolds 51 = .ok (.if_icmp .eq 7, 3) := by decide +kernel
theorem dX11_edgeHolds_54 : decode cX11_edgeHolds 54 = .ok (.iconst 1, 1) := by decide +kernel
theorem dX11_edgeHolds_55 : decode cX11_edgeHolds 55 = .ok (.goto 4, 3) := by decide +kernel
theorem dX11_edgeHolds_58 : decode cX11_edgeHolds 58 = .ok (.iconst 0, 1) := by decide +kernel
theorem dX11_edgeHolds_59 : decode cX11_edgeHolds 59 = .ok (.istore_n 3, 1) := by decide +kernel
theorem dX11_edgeHolds_60 : decode cX11_edgeHolds 60 = .ok (.iload_n 3, 1) := by decide +kernel
theorem dX11_edgeHolds_61 : decode cX11_edgeHolds 61 = .ok (.iload_n 0, 1) := by decide +kernel
theorem dX11_edgeHolds_62 : decode cX11_edgeHolds 62 = .ok (.iconst 2, 1) := by decide +kernel
theorem dX11_edgeHolds_63 : decode cX11_edgeHolds 63 = .ok (.if_icmp .ne 7, 3) := by decide +kernel
theorem dX11_edgeHolds_66 : decode cX11_edgeHolds 66 = .ok (.iconst 1, 1) := by decide +kernel
theorem dX11_edgeHolds_67 : decode cX11_edgeHolds 67 = .ok (.goto 4, 3) := by decide +kernel
theorem dX11_edgeHolds_70 : decode cX11_edgeHolds 70 = .ok (.iconst 0, 1) := by decide +kernel
theorem dX11_edgeHolds_71 : decode cX11_edgeHolds 71 = .ok (.if_icmp .ne 7, 3) := by decide +kernel
theorem dX11_edgeHolds_74 : decode cX11_edgeHolds 74 = .ok (.iconst 1, 1) := by decide +kernel
theorem dX11_edgeHolds_75 : decode cX11_edgeHolds 75 = .ok (.goto 4, 3) := by decide +kernel
theorem dX11_edgeHolds_78 : decode cX11_edgeHolds 78 = .ok (.iconst 0, 1) := by decide +kernel
theorem dX11_edgeHolds_79 : decode cX11_edgeHolds 79 = .ok (.ireturn, 1) := by decide +kernel
theorem dX11_isDigit_0 : decode cX11_isDigit 0 = .ok (.iload_n 0, 1) := by decide +kernel
theorem dX11_isDigit_1 : decode cX11_isDigit 1 = .ok (.bipush 48, 2) := by decide +kernel
theorem dX11_isDigit_3 : decode cX11_isDigit 3 = .ok (.if_icmp .lt 13, 3) := by decide +kernel
theorem dX11_isDigit_6 : decode cX11_isDigit 6 = .ok (.iload_n 0, 1) := by decide +kernel
theorem dX11_isDigit_7 : decode cX11_isDigit 7 = .ok (.bipush 57, 2) := by decide +kernel
theorem dX11_isDigit_9 : decode cX11_isDigit 9 = .ok (.if_icmp .gt 7, 3) := by decide +kernel
theorem dX11_isDigit_12 : decode cX11_isDigit 12 = .ok (.iconst 1, 1) := by decide +kernel
theorem dX11_isDigit_13 : decode cX11_isDigit 13 = .ok (.goto 4, 3) := by decide +kernel
theorem dX11_isDigit_16 : decode cX11_isDigit 16 = .ok (.iconst 0, 1) := by decide +kernel
theorem dX11_isDigit_17 : decode cX11_isDigit 17 = .ok (.ireturn, 1) := by decide +kernel
theorem dX11_isLetter_0 : decode cX11_isLetter 0 = .ok (.iload_n 0, 1) := by decide +kernel
theorem dX11_isLetter_1 : decode cX11_isLetter 1 = .ok (.bipush 32, 2) := by decide +kernel
theorem dX11_isLetter_3 : decode cX11_isLetter 3 = .ok (.ior, 1) := by decide +kernel
theorem dX11_isLetter_4 : decode cX11_isLetter 4 = .ok (.istore_n 1, 1) := by decide +kernel
theorem dX11_isLetter_5 : decode cX11_isLetter 5 = .ok (.iload_n 1, 1) := by decide +kernel
theorem dX11_isLetter_6 : decode cX11_isLetter 6 = .ok (.bipush 97, 2) := by decide +kernel
theorem dX11_isLetter_8 : decode cX11_isLetter 8 = .ok (.if_icmp .lt 13, 3) := by decide +kernel
theorem dX11_isLetter_11 : decode cX11_isLetter 11 = .ok (.iload_n 1, 1) := by decide +kernel
theorem dX11_isLetter_12 : decode cX11_isLetter 12 = .ok (.bipush 122, 2) := by decide +kernel
theorem dX11_isLetter_14 : decode cX11_isLetter 14 = .ok (.if_icmp .gt 7, 3) := by decide +kernel
theorem dX11_isLetter_17 : decode cX11_isLetter 17 = .ok (.iconst 1, 1) := by decide +kernel
theorem dX11_isLetter_18 : decode cX11_isLetter 18 = .ok (.goto 4, 3) := by decide +kernel
theorem dX11_isLetter_21 : decode cX11_isLetter 21 = .ok (.iconst 0, 1) := by decide +kernel
theorem dX11_isLetter_22 : decode cX11_isLetter 22 = .ok (.ireturn, 1) := by decide +kernel
theorem dX11_isPlain_0 : decode cX11_isPlain 0 = .ok (.iload_n 0, 1) := by decide +kernel
theorem dX11_isPlain_1 : decode cX11_isPlain 1 = .ok (.lookupswitch 125 #[(36, 123), (40, 123), (41, 123), (42, 123), (43, 123), (46, 123), (63, 123), (91, 123), (92, 123), (93, 123), (94, 123), (123, 123), (124, 123), (125, 123)], 123) := by decide +kernel
theorem dX11_isPlain_124 : decode cX11_isPlain 124 = .ok (.iconst 0, 1) := by decide +kernel
theorem dX11_isPlain_125 : decode cX11_isPlain 125 = .ok (.ireturn, 1) := by decide +kernel
theorem dX11_isPlain_126 : decode cX11_isPlain 126 = .ok (.iload_n 0, 1) := by decide +kernel
theorem dX11_isPlain_127 : decode cX11_isPlain 127 = .ok (.invokestatic 92, 3) := by decide +kernel
theorem dX11_isPlain_130 : decode cX11_isPlain 130 = .ok (.ireturn, 1) := by decide +kernel
theorem dX11_isSmall_0 : decode cX11_isSmall 0 = .ok (.iload_n 0, 1) := by decide +kernel
theorem dX11_isSmall_1 : decode cX11_isSmall 1 = .ok (.bipush 97, 2) := by decide +kernel
theorem dX11_isSmall_3 : decode cX11_isSmall 3 = .ok (.if_icmp .lt 13, 3) := by decide +kernel
theorem dX11_isSmall_6 : decode cX11_isSmall 6 = .ok (.iload_n 0, 1) := by decide +kernel
theorem dX11_isSmall_7 : decode cX11_isSmall 7 = .ok (.bipush 122, 2) := by decide +kernel
theorem dX11_isSmall_9 : decode cX11_isSmall 9 = .ok (.if_icmp .gt 7, 3) := by decide +kernel
theorem dX11_isSmall_12 : decode cX11_isSmall 12 = .ok (.iconst 1, 1) := by decide +kernel
theorem dX11_isSmall_13 : decode cX11_isSmall 13 = .ok (.goto 4, 3) := by decide +kernel
theorem dX11_isSmall_16 : decode cX11_isSmall 16 = .ok (.iconst 0, 1) := by decide +kernel
theorem dX11_isSmall_17 : decode cX11_isSmall 17 = .ok (.ireturn, 1) := by decide +kernel
theorem dX11_isTapeSign_0 : decode cX11_isTapeSign 0 = .ok (.iload_n 0, 1) := by decide +kernel
theorem dX11_isTapeSign_1 : decode cX11_isTapeSign 1 = .ok (.bipush 32, 2) := by decide +kernel
theorem dX11_isTapeSign_3 : decode cX11_isTapeSign 3 = .ok (.if_icmp .lt 13, 3) := by decide +kernel
theorem dX11_isTapeSign_6 : decode cX11_isTapeSign 6 = .ok (.iload_n 0, 1) := by decide +kernel
theorem dX11_isTapeSign_7 : decode cX11_isTapeSign 7 = .ok (.bipush 126, 2) := by decide +kernel
theorem dX11_isTapeSign_9 : decode cX11_isTapeSign 9 = .ok (.if_icmp .gt 7, 3) := by decide +kernel
theorem dX11_isTapeSign_12 : decode cX11_isTapeSign 12 = .ok (.iconst 1, 1) := by decide +kernel
theorem dX11_isTapeSign_13 : decode cX11_isTapeSign 13 = .ok (.goto 4, 3) := by decide +kernel
theorem dX11_isTapeSign_16 : decode cX11_isTapeSign 16 = .ok (.iconst 0, 1) := by decide +kernel
theorem dX11_isTapeSign_17 : decode cX11_isTapeSign 17 = .ok (.ireturn, 1) := by decide +kernel
theorem dX11_isWordSign_0 : decode cX11_isWordSign 0 = .ok (.iload_n 0, 1) := by decide +kernel
theorem dX11_isWordSign_1 : decode cX11_isWordSign 1 = .ok (.bipush 32, 2) := by decide +kernel
theorem dX11_isWordSign_3 : decode cX11_isWordSign 3 = .ok (.ior, 1) := by decide +kernel
theorem dX11_isWordSign_4 : decode cX11_isWordSign 4 = .ok (.istore_n 1, 1) := by decide +kernel
theorem dX11_isWordSign_5 : decode cX11_isWordSign 5 = .ok (.iload_n 1, 1) := by decide +kernel
theorem dX11_isWordSign_6 : decode cX11_isWordSign 6 = .ok (.bipush 97, 2) := by decide +kernel
theorem dX11_isWordSign_8 : decode cX11_isWordSign 8 = .ok (.if_icmp .lt 9, 3) := by decide +kernel
theorem dX11_isWordSign_11 : decode cX11_isWordSign 11 = .ok (.iload_n 1, 1) := by decide +kernel
theorem dX11_isWordSign_12 : decode cX11_isWordSign 12 = .ok (.bipush 122, 2) := by decide +kernel
theorem dX11_isWordSign_14 : decode cX11_isWordSign 14 = .ok (.if_icmp .le 21, 3) := by decide +kernel
theorem dX11_isWordSign_17 : decode cX11_isWordSign 17 = .ok (.iload_n 0, 1) := by decide +kernel
theorem dX11_isWordSign_18 : decode cX11_isWordSign 18 = .ok (.bipush 48, 2) := by decide +kernel
theorem dX11_isWordSign_20 : decode cX11_isWordSign 20 = .ok (.if_icmp .lt 9, 3) := by decide +kernel
theorem dX11_isWordSign_23 : decode cX11_isWordSign 23 = .ok (.iload_n 0, 1) := by decide +kernel
theorem dX11_isWordSign_24 : decode cX11_isWordSign 24 = .ok (.bipush 57, 2) := by decide +kernel
theorem dX11_isWordSign_26 : decode cX11_isWordSign 26 = .ok (.if_icmp .le 9, 3) := by decide +kernel
theorem dX11_isWordSign_29 : decode cX11_isWordSign 29 = .ok (.iload_n 0, 1) := by decide +kernel
theorem dX11_isWordSign_30 : decode cX11_isWordSign 30 = .ok (.bipush 95, 2) := by decide +kernel
theorem dX11_isWordSign_32 : decode cX11_isWordSign 32 = .ok (.if_icmp .ne 7, 3) := by decide +kernel
theorem dX11_isWordSign_35 : decode cX11_isWordSign 35 = .ok (.iconst 1, 1) := by decide +kernel
theorem dX11_isWordSign_36 : decode cX11_isWordSign 36 = .ok (.goto 4, 3) := by decide +kernel
theorem dX11_isWordSign_39 : decode cX11_isWordSign 39 = .ok (.iconst 0, 1) := by decide +kernel
theorem dX11_isWordSign_40 : decode cX11_isWordSign 40 = .ok (.ireturn, 1) := by decide +kernel
theorem dX11_otherCase_0 : decode cX11_otherCase 0 = .ok (.iload_n 0, 1) := by decide +kernel
theorem dX11_otherCase_1 : decode cX11_otherCase 1 = .ok (.bipush 32, 2) := by decide +kernel
theorem dX11_otherCase_3 : decode cX11_otherCase 3 = .ok (.ior, 1) := by decide +kernel
theorem dX11_otherCase_4 : decode cX11_otherCase 4 = .ok (.istore_n 1, 1) := by decide +kernel
theorem dX11_otherCase_5 : decode cX11_otherCase 5 = .ok (.iload_n 1, 1) := by decide +kernel
theorem dX11_otherCase_6 : decode cX11_otherCase 6 = .ok (.bipush 97, 2) := by decide +kernel
theorem dX11_otherCase_8 : decode cX11_otherCase 8 = .ok (.if_icmp .lt 16, 3) := by decide +kernel
theorem dX11_otherCase_11 : decode cX11_otherCase 11 = .ok (.iload_n 1, 1) := by decide +kernel
theorem dX11_otherCase_12 : decode cX11_otherCase 12 = .ok (.bipush 122, 2) := by decide +kernel
theorem dX11_otherCase_14 : decode cX11_otherCase 14 = .ok (.if_icmp .gt 10, 3) := by decide +kernel
theorem dX11_otherCase_17 : decode cX11_otherCase 17 = .ok (.iload_n 0, 1) := by decide +kernel
theorem dX11_otherCase_18 : decode cX11_otherCase 18 = .ok (.bipush 32, 2) := by decide +kernel
theorem dX11_otherCase_20 : decode cX11_otherCase 20 = .ok (.ixor, 1) := by decide +kernel
theorem dX11_otherCase_21 : decode cX11_otherCase 21 = .ok (.goto 4, 3) := by decide +kernel
theorem dX11_otherCase_24 : decode cX11_otherCase 24 = .ok (.iload_n 0, 1) := by decide +kernel
theorem dX11_otherCase_25 : decode cX11_otherCase 25 = .ok (.ireturn, 1) := by decide +kernel
theorem dX1_askBack_0 : decode cX1_askBack 0 = .ok (.aload_n 0, 1) := by decide +kernel
theorem dX1_askBack_1 : decode cX1_askBack 1 = .ok (.getfield 14, 3) := by decide +kernel
theorem dX1_askBack_4 : decode cX1_askBack 4 = .ok (.aload_n 0, 1) := by decide +kernel
theorem dX1_askBack_5 : decode cX1_askBack 5 = .ok (.getfield 68, 3) := by decide +kernel
theorem dX1_askBack_8 : decode cX1_askBack 8 = .ok (.invokevirtual 181, 3) := by decide +kernel
theorem dX1_askBack_11 : decode cX1_askBack 11 = .ok (.istore_n 1, 1) := by decide +kernel
theorem dX1_askBack_12 : decode cX1_askBack 12 = .ok (.aload_n 0, 1) := by decide +kernel
theorem dX1_askBack_13 : decode cX1_askBack 13 = .ok (.iload_n 1, 1) := by decide +kernel
theorem dX1_askBack_14 : decode cX1_askBack 14 = .ok (.invokevirtual 130, 3) := by decide +kernel
theorem dX1_askBack_17 : decode cX1_askBack 17 = .ok (.istore_n 2, 1) := by decide +kernel
theorem dX1_askBack_18 : decode cX1_askBack 18 = .ok (.aload_n 0, 1) := by decide +kernel
theorem dX1_askBack_19 : decode cX1_askBack 19 = .ok (.iload_n 1, 1) := by decide +kernel
theorem dX1_askBack_20 : decode cX1_askBack 20 = .ok (.invokevirtual 134, 3) := by decide +kernel
theorem dX1_askBack_23 : decode cX1_askBack 23 = .ok (.iload_n 2, 1) := by decide +kernel
theorem dX1_askBack_24 : decode cX1_askBack 24 = .ok (.isub, 1) := by decide +kernel
theorem dX1_askBack_25 : decode cX1_askBack 25 = .ok (.istore_n 3, 1) := by decide +kernel
theorem dX1_askBack_26 : decode cX1_askBack 26 = .ok (.aload_n 0, 1) := by decide +kernel
theorem dX1_askBack_27 : decode cX1_askBack 27 = .ok (.iload_n 2, 1) := by decide +kernel
theorem dX1_askBack_28 : decode cX1_askBack 28 = .ok (.iconst (-1), 1) := by decide +kernel
theorem dX1_askBack_29 : decode cX1_askBack 29 = .ok (.if_icmp .eq 19, 3) := by decide +kernel
theorem dX1_askBack_32 : decode cX1_askBack 32 = .ok (.aload_n 0, 1) := by decide +kernel
theorem dX1_askBack_33 : decode cX1_askBack 33 = .ok (.getfield 65, 3) := by decide +kernel
theorem dX1_askBack_36 : decode cX1_askBack 36 = .ok (.iload_n 3, 1) := by decide +kernel
theorem dX1_askBack_37 : decode cX1_askBack 37 = .ok (.iadd, 1) := by decide +kernel
theorem dX1_askBack_38 : decode cX1_askBack 38 = .ok (.aload_n 0, 1) := by decide +kernel
theorem dX1_askBack_39 : decode cX1_askBack 39 = .ok (.getfield 25, 3) := by decide +kernel
theorem dX1_askBack_42 : decode cX1_askBack 42 = .ok (.getfield 171, 3) := by decide +kernel
theorem dX1_askBack_45 : decode cX1_askBack 45 = .ok (.if_icmp .le 7, 3) := by decide +kernel
theorem dX1_askBack_48 : decode cX1_askBack 48 = .ok (.iconst 2, 1) := by decide +kernel
theorem dX1_askBack_49 : decode cX1_askBack 49 = .ok (.goto 4, 3) := by decide +kernel
theorem dX1_askBack_52 : decode cX1_askBack 52 = .ok (.iconst 1, 1) := by decide +kernel
theorem dX1_askBack_53 : decode cX1_askBack 53 = .ok (.putfield 71, 3) := by decide +kernel
theorem dX1_askBack_56 : decode cX1_askBack 56 = .ok (.iconst 0, 1) := by decide +kernel
theorem dX1_askBack_57 : decode cX1_askBack 57 = .ok (.istore 4, 2) := by decide +kernel
theorem dX1_askBack_59 : decode cX1_askBack 59 = .ok (.iload 4, 2) := by decide +kernel
theorem dX1_askBack_61 : decode cX1_askBack 61 = .ok (.iload_n 3, 1) := by decide +kernel
theorem dX1_askBack_62 : decode cX1_askBack 62 = .ok (.if_icmp .ge 82, 3) := by decide +kernel
theorem dX1_askBack_65 : decode cX1_askBack 65 = .ok (.aload_n 0, 1) := by decide +kernel
theorem dX1_askBack_66 : decode cX1_askBack 66 = .ok (.getfield 71, 3) := by decide +kernel
theorem dX1_askBack_69 : decode cX1_askBack 69 = .ok (.iconst 1, 1) := by decide +kernel
theorem dX1_askBack_70 : decode cX1_askBack 70 = .ok (.if_icmp .ne 74, 3) := by decide +kernel
theorem dX1_askBack_73 : decode cX1_askBack 73 = .ok (.aload_n 0, 1) := by decide +kernel
theorem dX1_askBack_74 : decode cX1_askBack 74 = .ok (.getfield 25, 3) := by decide +kernel
theorem dX1_askBack_77 : decode cX1_askBack 77 = .ok (.aload_n 0, 1) := by decide +kernel
theorem dX1_askBack_78 : decode cX1_askBack 78 = .ok (.getfield 65, 3) := by decide +kernel
theorem dX1_askBack_81 : decode cX1_askBack 81 = .ok (.iload 4, 2) := by decide +kernel
theorem dX1_askBack_83 : decode cX1_askBack 83 = .ok (.iadd, 1) := by decide +kernel
theorem dX1_askBack_84 : decode cX1_askBack 84 = .ok (.invokevirtual 174, 3) := by decide +kernel
theorem dX1_askBack_87 : decode cX1_askBack 87 = .ok (.istore 5, 2) := by decide +kernel
theorem dX1_askBack_89 : decode cX1_askBack 89 = .ok (.aload_n 0, 1) := by decide +kernel
theorem dX1_askBack_90 : decode cX1_askBack 90 = .ok (.getfield 25, 3) := by decide +kernel
theorem dX1_askBack_93 : decode cX1_askBack 93 = .ok (.iload_n 2, 1) := by decide +kernel
theorem dX1_askBack_94 : decode cX1_askBack 94 = .ok (.iload 4, 2) := by decide +kernel
theorem dX1_askBack_96 : decode cX1_askBack 96 = .ok (.iadd, 1) := by decide +kernel
theorem dX1_askBack_97 : decode cX1_askBack 97 = .ok (.invokevirtual 174, 3) := by decide +kernel
theorem dX1_askBack_100 : decode cX1_askBack 100 = .ok (.istore 6, 2) := by decide +kernel
theorem dX1_askBack_102 : decode cX1_askBack 102 = .ok (.iload 5, 2) := by decide +kernel
theorem dX1_askBack_104 : decode cX1_askBack 104 = .ok (.iload 6, 2) := by decide +kernel
theorem dX1_askBack_106 : decode cX1_askBack 106 = .ok (.if_icmp .eq 32, 3) := by decide +kernel
theorem dX1_askBack_109 : decode cX1_askBack 109 = .ok (.aload_n 0, 1) := by decide +kernel
theorem dX1_askBack_110 : decode cX1_askBack 110 = .ok (.getfield 14, 3) := by decide +kernel
theorem dX1_askBack_113 : decode cX1_askBack 113 = .ok (.aload_n 0, 1) := by decide +kernel
theorem dX1_askBack_114 : decode cX1_askBack 114 = .ok (.getfield 68, 3) := by decide +kernel
theorem dX1_askBack_117 : decode cX1_askBack 117 = .ok (.invokevirtual 188, 3) := by decide +kernel
theorem dX1_askBack_120 : decode cX1_askBack 120 = .ok (.ifCond .eq 13, 3) := by decide +kernel
theorem dX1_askBack_123 : decode cX1_askBack 123 = .ok (.iload 5, 2) := by decide +kernel
theorem dX1_askBack_125 : decode cX1_askBack 125 = .ok (.invokestatic 192, 3) := by decide +kernel
theorem dX1_askBack_128 : decode cX1_askBack 128 = .ok (.iload 6, 2) := by decide +kernel
theorem dX1_askBack_130 : decode cX1_askBack 130 = .ok (.if_icmp .eq 8, 3) := by decide +kernel
theorem dX1_askBack_133 : decode cX1_askBack 133 = .ok (.aload_n 0, 1) := by decide +kernel
theorem dX1_askBack_134 : decode cX1_askBack 134 = .ok (.iconst 2, 1) := by decide +kernel
theorem dX1_askBack_135 : decode cX1_askBack 135 = .ok (.putfield 71, 3) := by decide +kernel
theorem dX1_askBack_138 : decode cX1_askBack 138 = .ok (.iinc 4 1, 3) := by decide +kernel
theorem dX1_askBack_141 : decode cX1_askBack 141 = .ok (.goto (-82), 3) := by decide +kernel
theorem dX1_askBack_144 : decode cX1_askBack 144 = .ok (.aload_n 0, 1) := by decide +kernel
theorem dX1_askBack_145 : decode cX1_askBack 145 = .ok (.dup, 1) := by decide +kernel
theorem dX1_askBack_146 : decode cX1_askBack 146 = .ok (.getfield 65, 3) := by decide +kernel
theorem dX1_askBack_149 : decode cX1_askBack 149 = .ok (.aload_n 0, 1) := by decide +kernel
theorem dX1_askBack_150 : decode cX1_askBack 150 = .ok (.getfield 71, 3) := by decide +kernel
theorem dX1_askBack_153 : decode cX1_askBack 153 = .ok (.iconst 1, 1) := by decide +kernel
theorem dX1_askBack_154 : decode cX1_askBack 154 = .ok (.if_icmp .ne 7, 3) := by decide +kernel
theorem dX1_askBack_157 : decode cX1_askBack 157 = .ok (.iload_n 3, 1) := by decide +kernel
theorem dX1_askBack_158 : decode cX1_askBack 158 = .ok (.goto 4, 3) := by decide +kernel
theorem dX1_askBack_161 : decode cX1_askBack 161 = .ok (.iconst 0, 1) := by decide +kernel
theorem dX1_askBack_162 : decode cX1_askBack 162 = .ok (.iadd, 1) := by decide +kernel
theorem dX1_askBack_163 : decode cX1_askBack 163 = .ok (.putfield 65, 3) := by decide +kernel
theorem dX1_askBack_166 : decode cX1_askBack 166 = .ok (.return_, 1) := by decide +kernel
theorem dX1_askEdge_0 : decode cX1_askEdge 0 = .ok (.aload_n 0, 1) := by decide +kernel
theorem dX1_askEdge_1 : decode cX1_askEdge 1 = .ok (.aload_n 0, 1) := by decide +kernel
theorem dX1_askEdge_2 : decode cX1_askEdge 2 = .ok (.getfield 14, 3) := by decide +kernel
theorem dX1_askEdge_5 : decode cX1_askEdge 5 = .ok (.aload_n 0, 1) := by decide +kernel
theorem dX1_askEdge_6 : decode cX1_askEdge 6 = .ok (.getfield 68, 3) := by decide +kernel
theorem dX1_askEdge_9 : decode cX1_askEdge 9 = .ok (.invokevirtual 181, 3) := by decide +kernel
theorem dX1_askEdge_12 : decode cX1_askEdge 12 = .ok (.aload_n 0, 1) := by decide +kernel
theorem dX1_askEdge_13 : decode cX1_askEdge 13 = .ok (.getfield 25, 3) := by decide +kernel
theorem dX1_askEdge_16 : decode cX1_askEdge 16 = .ok (.aload_n 0, 1) := by decide +kernel
theorem dX1_askEdge_17 : decode cX1_askEdge 17 = .ok (.getfield 65, 3) := by decide +kernel
theorem dX1_askEdge_20 : decode cX1_askEdge 20 = .ok (.invokestatic 184, 3) := by decide +kernel
theorem dX1_askEdge_23 : decode cX1_askEdge 23 = .ok (.ifCond .eq 7, 3) := by decide +kernel
theorem dX1_askEdge_26 : decode cX1_askEdge 26 = .ok (.iconst 1, 1) := by decide +kernel
theorem dX1_askEdge_27 : decode cX1_askEdge 27 = .ok (.goto 4, 3) := by decide +kernel
theorem dX1_askEdge_30 : decode cX1_askEdge 30 = .ok (.iconst 2, 1) := by decide +kernel
theorem dX1_askEdge_31 : decode cX1_askEdge 31 = .ok (.putfield 71, 3) := by decide +kernel
theorem dX1_askEdge_34 : decode cX1_askEdge 34 = .ok (.return_, 1) := by decide +kernel
theorem dX1_askSign_0 : decode cX1_askSign 0 = .ok (.aload_n 0, 1) := by decide +kernel
theorem dX1_askSign_1 : decode cX1_askSign 1 = .ok (.getfield 65, 3) := by decide +kernel
theorem dX1_askSign_4 : decode cX1_askSign 4 = .ok (.aload_n 0, 1) := by decide +kernel
theorem dX1_askSign_5 : decode cX1_askSign 5 = .ok (.getfield 25, 3) := by decide +kernel
theorem dX1_askSign_8 : decode cX1_askSign 8 = .ok (.getfield 171, 3) := by decide +kernel
theorem dX1_askSign_11 : decode cX1_askSign 11 = .ok (.if_icmp .ge 32, 3) := by decide +kernel
theorem dX1_askSign_14 : decode cX1_askSign 14 = .ok (.aload_n 0, 1) := by decide +kernel
theorem dX1_askSign_15 : decode cX1_askSign 15 = .ok (.getfield 14, 3) := by decide +kernel
theorem dX1_askSign_18 : decode cX1_askSign 18 = .ok (.aload_n 0, 1) := by decide +kernel
theorem dX1_askSign_19 : decode cX1_askSign 19 = .ok (.getfield 68, 3) := by decide +kernel
theorem dX1_askSign_22 : decode cX1_askSign 22 = .ok (.aload_n 0, 1) := by decide +kernel
theorem dX1_askSign_23 : decode cX1_askSign 23 = .ok (.getfield 25, 3) := by decide +kernel
theorem dX1_askSign_26 : decode cX1_askSign 26 = .ok (.aload_n 0, 1) := by decide +kernel
