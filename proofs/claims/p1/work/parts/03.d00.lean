theorem dJ7_fill_53178_0 : decode cJ7_fill_53178 0 = .ok (.iconst 0, 1) := by decide +kernel
theorem dJ7_fill_53178_1 : decode cJ7_fill_53178 1 = .ok (.istore_n 2, 1) := by decide +kernel
theorem dJ7_fill_53178_2 : decode cJ7_fill_53178 2 = .ok (.aload_n 0, 1) := by decide +kernel
theorem dJ7_fill_53178_3 : decode cJ7_fill_53178 3 = .ok (.arraylength, 1) := by decide +kernel
theorem dJ7_fill_53178_4 : decode cJ7_fill_53178 4 = .ok (.istore_n 3, 1) := by decide +kernel
theorem dJ7_fill_53178_5 : decode cJ7_fill_53178 5 = .ok (.iload_n 2, 1) := by decide +kernel
theorem dJ7_fill_53178_6 : decode cJ7_fill_53178 6 = .ok (.iload_n 3, 1) := by decide +kernel
theorem dJ7_fill_53178_7 : decode cJ7_fill_53178 7 = .ok (.if_icmp .ge 13, 3) := by decide +kernel
theorem dJ7_fill_53178_10 : decode cJ7_fill_53178 10 = .ok (.aload_n 0, 1) := by decide +kernel
theorem dJ7_fill_53178_11 : decode cJ7_fill_53178 11 = .ok (.iload_n 2, 1) := by decide +kernel
theorem dJ7_fill_53178_12 : decode cJ7_fill_53178 12 = .ok (.iload_n 1, 1) := by decide +kernel
theorem dJ7_fill_53178_13 : decode cJ7_fill_53178 13 = .ok (.iastore, 1) := by decide +kernel
theorem dJ7_fill_53178_14 : decode cJ7_fill_53178 14 = .ok (.iinc 2 1, 3) := by decide +kernel
theorem dJ7_fill_53178_17 : decode cJ7_fill_53178 17 = .ok (.goto (-12), 3) := by decide +kernel
theorem dJ7_fill_53178_20 : decode cJ7_fill_53178 20 = .ok (.return_, 1) := by decide +kernel
theorem dX0_init_0 : decode cX0_init 0 = .ok (.aload_n 0, 1) := by decide +kernel
theorem dX0_init_1 : decode cX0_init 1 = .ok (.invokespecial 3, 3) := by decide +kernel
theorem dX0_init_4 : decode cX0_init 4 = .ok (.aload_n 0, 1) := by decide +kernel
theorem dX0_init_5 : decode cX0_init 5 = .ok (.sipush 256, 3) := by decide +kernel
theorem dX0_init_8 : decode cX0_init 8 = .ok (.newarray .int, 2) := by decide +kernel
theorem dX0_init_10 : decode cX0_init 10 = .ok (.putfield 9, 3) := by decide +kernel
theorem dX0_init_13 : decode cX0_init 13 = .ok (.return_, 1) := by decide +kernel
theorem dX10_add_0 : decode cX10_add 0 = .ok (.aload_n 0, 1) := by decide +kernel
theorem dX10_add_1 : decode cX10_add 1 = .ok (.getfield 71, 3) := by decide +kernel
theorem dX10_add_4 : decode cX10_add 4 = .ok (.aload_n 0, 1) := by decide +kernel
theorem dX10_add_5 : decode cX10_add 5 = .ok (.getfield 15, 3) := by decide +kernel
theorem dX10_add_8 : decode cX10_add 8 = .ok (.arraylength, 1) := by decide +kernel
theorem dX10_add_9 : decode cX10_add 9 = .ok (.if_icmp .lt 5, 3) := by decide +kernel
theorem dX10_add_14 : decode cX10_add 14 = .ok (.aload_n 0, 1) := by decide +kernel
theorem dX10_add_15 : decode cX10_add 15 = .ok (.getfield 71, 3) := by decide +kernel
theorem dX10_add_18 : decode cX10_add 18 = .ok (.istore 6, 2) := by decide +kernel
theorem dX10_add_20 : decode cX10_add 20 = .ok (.aload_n 0, 1) := by decide +kernel
theorem dX10_add_21 : decode cX10_add 21 = .ok (.dup, 1) := by decide +kernel
theorem dX10_add_22 : decode cX10_add 22 = .ok (.getfield 71, 3) := by decide +kernel
theorem dX10_add_25 : decode cX10_add 25 = .ok (.iconst 1, 1) := by decide +kernel
theorem dX10_add_26 : decode cX10_add 26 = .ok (.iadd, 1) := by decide +kernel
theorem dX10_add_27 : decode cX10_add 27 = .ok (.putfield 71, 3) := by decide +kernel
theorem dX10_add_30 : decode cX10_add 30 = .ok (.aload_n 0, 1) := by decide +kernel
theorem dX10_add_31 : decode cX10_add 31 = .ok (.getfield 15, 3) := by decide +kernel
theorem dX10_add_34 : decode cX10_add 34 = .ok (.iload 6, 2) := by decide +kernel
theorem dX10_add_36 : decode cX10_add 36 = .ok (.iload_n 1, 1) := by decide +kernel
theorem dX10_add_37 : decode cX10_add 37 = .ok (.iastore, 1) := by decide +kernel
theorem dX10_add_38 : decode cX10_add 38 = .ok (.aload_n 0, 1) := by decide +kernel
theorem dX10_add_39 : decode cX10_add 39 = .ok (.getfield 36, 3) := by decide +kernel
theorem dX10_add_42 : decode cX10_add 42 = .ok (.iload 6, 2) := by decide +kernel
theorem dX10_add_44 : decode cX10_add 44 = .ok (.iload_n 2, 1) := by decide +kernel
theorem dX10_add_45 : decode cX10_add 45 = .ok (.iastore, 1) := by decide +kernel
theorem dX10_add_46 : decode cX10_add 46 = .ok (.aload_n 0, 1) := by decide +kernel
theorem dX10_add_47 : decode cX10_add 47 = .ok (.getfield 39, 3) := by decide +kernel
theorem dX10_add_50 : decode cX10_add 50 = .ok (.iload 6, 2) := by decide +kernel
theorem dX10_add_52 : decode cX10_add 52 = .ok (.iload_n 3, 1) := by decide +kernel
theorem dX10_add_53 : decode cX10_add 53 = .ok (.iastore, 1) := by decide +kernel
theorem dX10_add_54 : decode cX10_add 54 = .ok (.aload_n 0, 1) := by decide +kernel
theorem dX10_add_55 : decode cX10_add 55 = .ok (.getfield 42, 3) := by decide +kernel
theorem dX10_add_58 : decode cX10_add 58 = .ok (.iload 6, 2) := by decide +kernel
theorem dX10_add_60 : decode cX10_add 60 = .ok (.iload 4, 2) := by decide +kernel
theorem dX10_add_62 : decode cX10_add 62 = .ok (.iastore, 1) := by decide +kernel
theorem dX10_add_63 : decode cX10_add 63 = .ok (.aload_n 0, 1) := by decide +kernel
theorem dX10_add_64 : decode cX10_add 64 = .ok (.getfield 21, 3) := by decide +kernel
theorem dX10_add_67 : decode cX10_add 67 = .ok (.iload 6, 2) := by decide +kernel
theorem dX10_add_69 : decode cX10_add 69 = .ok (.iload 5, 2) := by decide +kernel
theorem dX10_add_71 : decode cX10_add 71 = .ok (.iastore, 1) := by decide +kernel
theorem dX10_add_72 : decode cX10_add 72 = .ok (.aload_n 0, 1) := by decide +kernel
theorem dX10_add_73 : decode cX10_add 73 = .ok (.getfield 33, 3) := by decide +kernel
theorem dX10_add_76 : decode cX10_add 76 = .ok (.iload 6, 2) := by decide +kernel
theorem dX10_add_78 : decode cX10_add 78 = .ok (.iconst 0, 1) := by decide +kernel
theorem dX10_add_79 : decode cX10_add 79 = .ok (.iastore, 1) := by decide +kernel
theorem dX10_add_80 : decode cX10_add 80 = .ok (.aload_n 0, 1) := by decide +kernel
theorem dX10_add_81 : decode cX10_add 81 = .ok (.getfield 30, 3) := by decide +kernel
theorem dX10_add_84 : decode cX10_add 84 = .ok (.iload 6, 2) := by decide +kernel
theorem dX10_add_86 : decode cX10_add 86 = .ok (.iconst (-1), 1) := by decide +kernel
theorem dX10_add_87 : decode cX10_add 87 = .ok (.iastore, 1) := by decide +kernel
theorem dX10_add_88 : decode cX10_add 88 = .ok (.aload_n 0, 1) := by decide +kernel
theorem dX10_add_89 : decode cX10_add 89 = .ok (.getfield 27, 3) := by decide +kernel
theorem dX10_add_92 : decode cX10_add 92 = .ok (.iload 6, 2) := by decide +kernel
theorem dX10_add_94 : decode cX10_add 94 = .ok (.aload_n 0, 1) := by decide +kernel
theorem dX10_add_95 : decode cX10_add 95 = .ok (.iload 5, 2) := by decide +kernel
theorem dX10_add_97 : decode cX10_add 97 = .ok (.invokevirtual 88, 3) := by decide +kernel
theorem dX10_add_100 : decode cX10_add 100 = .ok (.iastore, 1) := by decide +kernel
theorem dX10_add_101 : decode cX10_add 101 = .ok (.aload_n 0, 1) := by decide +kernel
theorem dX10_add_102 : decode cX10_add 102 = .ok (.iload 5, 2) := by decide +kernel
theorem dX10_add_104 : decode cX10_add 104 = .ok (.invokevirtual 91, 3) := by decide +kernel
theorem dX10_add_107 : decode cX10_add 107 = .ok (.ifCond .eq 23, 3) := by decide +kernel
theorem dX10_add_130 : decode cX10_add 130 = .ok (.iload 6, 2) := by decide +kernel
theorem dX10_add_132 : decode cX10_add 132 = .ok (.ireturn, 1) := by decide +kernel
theorem dX10_close_0 : decode cX10_close 0 = .ok (.aload_n 0, 1) := by decide +kernel
theorem dX10_close_1 : decode cX10_close 1 = .ok (.iload_n 1, 1) := by decide +kernel
theorem dX10_close_2 : decode cX10_close 2 = .ok (.invokevirtual 91, 3) := by decide +kernel
theorem dX10_close_5 : decode cX10_close 5 = .ok (.ifCond .eq 13, 3) := by decide +kernel
theorem dX10_close_8 : decode cX10_close 8 = .ok (.aload_n 0, 1) := by decide +kernel
theorem dX10_close_9 : decode cX10_close 9 = .ok (.getfield 24, 3) := by decide +kernel
theorem dX10_close_12 : decode cX10_close 12 = .ok (.iload_n 1, 1) := by decide +kernel
theorem dX10_close_13 : decode cX10_close 13 = .ok (.aload_n 0, 1) := by decide +kernel
theorem dX10_close_14 : decode cX10_close 14 = .ok (.getfield 71, 3) := by decide +kernel
theorem dX10_close_17 : decode cX10_close 17 = .ok (.iastore, 1) := by decide +kernel
theorem dX10_close_18 : decode cX10_close 18 = .ok (.return_, 1) := by decide +kernel
theorem dX10_copies_0 : decode cX10_copies 0 = .ok (.aload_n 0, 1) := by decide +kernel
theorem dX10_copies_1 : decode cX10_copies 1 = .ok (.iload_n 1, 1) := by decide +kernel
theorem dX10_copies_2 : decode cX10_copies 2 = .ok (.invokevirtual 81, 3) := by decide +kernel
theorem dX10_copies_5 : decode cX10_copies 5 = .ok (.bipush 7, 2) := by decide +kernel
theorem dX10_copies_7 : decode cX10_copies 7 = .ok (.if_icmp .eq 5, 3) := by decide +kernel
theorem dX10_copies_10 : decode cX10_copies 10 = .ok (.iconst 1, 1) := by decide +kernel
theorem dX10_copies_11 : decode cX10_copies 11 = .ok (.ireturn, 1) := by decide +kernel
theorem dX10_firstOf_0 : decode cX10_firstOf 0 = .ok (.iload_n 1, 1) := by decide +kernel
theorem dX10_firstOf_1 : decode cX10_firstOf 1 = .ok (.ifCond .lt 29, 3) := by decide +kernel
theorem dX10_firstOf_4 : decode cX10_firstOf 4 = .ok (.iload_n 1, 1) := by decide +kernel
theorem dX10_firstOf_5 : decode cX10_firstOf 5 = .ok (.aload_n 0, 1) := by decide +kernel
theorem dX10_firstOf_6 : decode cX10_firstOf 6 = .ok (.getfield 71, 3) := by decide +kernel
theorem dX10_firstOf_9 : decode cX10_firstOf 9 = .ok (.if_icmp .ge 21, 3) := by decide +kernel
theorem dX10_firstOf_12 : decode cX10_firstOf 12 = .ok (.aload_n 0, 1) := by decide +kernel
theorem dX10_firstOf_13 : decode cX10_firstOf 13 = .ok (.getfield 24, 3) := by decide +kernel
theorem dX10_firstOf_16 : decode cX10_firstOf 16 = .ok (.iload_n 1, 1) := by decide +kernel
theorem dX10_firstOf_17 : decode cX10_firstOf 17 = .ok (.iaload, 1) := by decide +kernel
theorem dX10_firstOf_18 : decode cX10_firstOf 18 = .ok (.iload_n 1, 1) := by decide +kernel
theorem dX10_firstOf_19 : decode cX10_firstOf 19 = .ok (.iconst 1, 1) := by decide +kernel
theorem dX10_firstOf_20 : decode cX10_firstOf 20 = .ok (.iadd, 1) := by decide +kernel
theorem dX10_firstOf_21 : decode cX10_firstOf 21 = .ok (.if_icmp .le 9, 3) := by decide +kernel
theorem dX10_firstOf_30 : decode cX10_firstOf 30 = .ok (.iconst (-1), 1) := by decide +kernel
theorem dX10_firstOf_31 : decode cX10_firstOf 31 = .ok (.ireturn, 1) := by decide +kernel
theorem dX10_has_0 : decode cX10_has 0 = .ok (.iload_n 1, 1) := by decide +kernel
theorem dX10_has_1 : decode cX10_has 1 = .ok (.ifCond .lt 15, 3) := by decide +kernel
theorem dX10_has_4 : decode cX10_has 4 = .ok (.iload_n 1, 1) := by decide +kernel
theorem dX10_has_5 : decode cX10_has 5 = .ok (.aload_n 0, 1) := by decide +kernel
theorem dX10_has_6 : decode cX10_has 6 = .ok (.getfield 71, 3) := by decide +kernel
theorem dX10_has_9 : decode cX10_has 9 = .ok (.if_icmp .ge 7, 3) := by decide +kernel
theorem dX10_has_12 : decode cX10_has 12 = .ok (.iconst 1, 1) := by decide +kernel
theorem dX10_has_13 : decode cX10_has 13 = .ok (.goto 4, 3) := by decide +kernel
theorem dX10_has_16 : decode cX10_has 16 = .ok (.iconst 0, 1) := by decide +kernel
theorem dX10_has_17 : decode cX10_has 17 = .ok (.ireturn, 1) := by decide +kernel
theorem dX10_init_0 : decode cX10_init 0 = .ok (.aload_n 0, 1) := by decide +kernel
theorem dX10_init_1 : decode cX10_init 1 = .ok (.invokespecial 3, 3) := by decide +kernel
theorem dX10_init_4 : decode cX10_init 4 = .ok (.iload_n 1, 1) := by decide +kernel
theorem dX10_init_5 : decode cX10_init 5 = .ok (.iconst 0, 1) := by decide +kernel
theorem dX10_init_6 : decode cX10_init 6 = .ok (.invokestatic 9, 3) := by decide +kernel
theorem dX10_init_9 : decode cX10_init 9 = .ok (.istore_n 3, 1) := by decide +kernel
theorem dX10_init_10 : decode cX10_init 10 = .ok (.aload_n 0, 1) := by decide +kernel
theorem dX10_init_11 : decode cX10_init 11 = .ok (.iload_n 3, 1) := by decide +kernel
theorem dX10_init_12 : decode cX10_init 12 = .ok (.newarray .int, 2) := by decide +kernel
theorem dX10_init_14 : decode cX10_init 14 = .ok (.putfield 15, 3) := by decide +kernel
theorem dX10_init_17 : decode cX10_init 17 = .ok (.aload_n 0, 1) := by decide +kernel
theorem dX10_init_18 : decode cX10_init 18 = .ok (.iload_n 3, 1) := by decide +kernel
theorem dX10_init_19 : decode cX10_init 19 = .ok (.newarray .int, 2) := by decide +kernel
theorem dX10_init_21 : decode cX10_init 21 = .ok (.putfield 21, 3) := by decide +kernel
theorem dX10_init_24 : decode cX10_init 24 = .ok (.aload_n 0, 1) := by decide +kernel
theorem dX10_init_25 : decode cX10_init 25 = .ok (.iload_n 3, 1) := by decide +kernel
theorem dX10_init_26 : decode cX10_init 26 = .ok (.newarray .int, 2) := by decide +kernel
theorem dX10_init_28 : decode cX10_init 28 = .ok (.putfield 24, 3) := by decide +kernel
theorem dX10_init_31 : decode cX10_init 31 = .ok (.aload_n 0, 1) := by decide +kernel
theorem dX10_init_32 : decode cX10_init 32 = .ok (.iload_n 3, 1) := by decide +kernel
theorem dX10_init_33 : decode cX10_init 33 = .ok (.newarray .int, 2) := by decide +kernel
theorem dX10_init_35 : decode cX10_init 35 = .ok (.putfield 27, 3) := by decide +kernel
theorem dX10_init_38 : decode cX10_init 38 = .ok (.aload_n 0, 1) := by decide +kernel
theorem dX10_init_39 : decode cX10_init 39 = .ok (.iload_n 3, 1) := by decide +kernel
theorem dX10_init_40 : decode cX10_init 40 = .ok (.newarray .int, 2) := by decide +kernel
theorem dX10_init_42 : decode cX10_init 42 = .ok (.putfield 30, 3) := by decide +kernel
theorem dX10_init_45 : decode cX10_init 45 = .ok (.aload_n 0, 1) := by decide +kernel
theorem dX10_init_46 : decode cX10_init 46 = .ok (.iload_n 3, 1) := by decide +kernel
theorem dX10_init_47 : decode cX10_init 47 = .ok (.newarray .int, 2) := by decide +kernel
theorem dX10_init_49 : decode cX10_init 49 = .ok (.putfield 33, 3) := by decide +kernel
theorem dX10_init_52 : decode cX10_init 52 = .ok (.aload_n 0, 1) := by decide +kernel
theorem dX10_init_53 : decode cX10_init 53 = .ok (.iload_n 3, 1) := by decide +kernel
theorem dX10_init_54 : decode cX10_init 54 = .ok (.newarray .int, 2) := by decide +kernel
theorem dX10_init_56 : decode cX10_init 56 = .ok (.putfield 36, 3) := by decide +kernel
theorem dX10_init_59 : decode cX10_init 59 = .ok (.aload_n 0, 1) := by decide +kernel
theorem dX10_init_60 : decode cX10_init 60 = .ok (.iload_n 3, 1) := by decide +kernel
theorem dX10_init_61 : decode cX10_init 61 = .ok (.newarray .int, 2) := by decide +kernel
theorem dX10_init_63 : decode cX10_init 63 = .ok (.putfield 39, 3) := by decide +kernel
theorem dX10_init_66 : decode cX10_init 66 = .ok (.aload_n 0, 1) := by decide +kernel
theorem dX10_init_67 : decode cX10_init 67 = .ok (.iload_n 3, 1) := by decide +kernel
theorem dX10_init_68 : decode cX10_init 68 = .ok (.newarray .int, 2) := by decide +kernel
theorem dX10_init_70 : decode cX10_init 70 = .ok (.putfield 42, 3) := by decide +kernel
theorem dX10_init_73 : decode cX10_init 73 = .ok (.aload_n 0, 1) := by decide +kernel
theorem dX10_init_74 : decode cX10_init 74 = .ok (.iload_n 3, 1) := by decide +kernel
theorem dX10_init_75 : decode cX10_init 75 = .ok (.newarray .int, 2) := by decide +kernel
theorem dX10_init_77 : decode cX10_init 77 = .ok (.putfield 45, 3) := by decide +kernel
theorem dX10_init_80 : decode cX10_init 80 = .ok (.aload_n 0, 1) := by decide +kernel
theorem dX10_init_81 : decode cX10_init 81 = .ok (.iload_n 3, 1) := by decide +kernel
theorem dX10_init_82 : decode cX10_init 82 = .ok (.newarray .int, 2) := by decide +kernel
theorem dX10_init_84 : decode cX10_init 84 = .ok (.putfield 48, 3) := by decide +kernel
theorem dX10_init_87 : decode cX10_init 87 = .ok (.aload_n 0, 1) := by decide +kernel
theorem dX10_init_88 : decode cX10_init 88 = .ok (.iload_n 3, 1) := by decide +kernel
theorem dX10_init_89 : decode cX10_init 89 = .ok (.newarray .boolean, 2) := by decide +kernel
theorem dX10_init_91 : decode cX10_init 91 = .ok (.putfield 51, 3) := by decide +kernel
theorem dX10_init_94 : decode cX10_init 94 = .ok (.aload_n 0, 1) := by decide +kernel
theorem dX10_init_95 : decode cX10_init 95 = .ok (.iload_n 3, 1) := by decide +kernel
theorem dX10_init_96 : decode cX10_init 96 = .ok (.newarray .boolean, 2) := by decide +kernel
theorem dX10_init_98 : decode cX10_init 98 = .ok (.putfield 55, 3) := by decide +kernel
theorem dX10_init_101 : decode cX10_init 101 = .ok (.aload_n 0, 1) := by decide +kernel
theorem dX10_init_102 : decode cX10_init 102 = .ok (.iload_n 3, 1) := by decide +kernel
theorem dX10_init_103 : decode cX10_init 103 = .ok (.newarray .boolean, 2) := by decide +kernel
theorem dX10_init_105 : decode cX10_init 105 = .ok (.putfield 58, 3) := by decide +kernel
theorem dX10_init_108 : decode cX10_init 108 = .ok (.aload_n 0, 1) := by decide +kernel
theorem dX10_init_109 : decode cX10_init 109 = .ok (.iload_n 2, 1) := by decide +kernel
theorem dX10_init_110 : decode cX10_init 110 = .ok (.iconst 0, 1) := by decide +kernel
theorem dX10_init_111 : decode cX10_init 111 = .ok (.invokestatic 9, 3) := by decide +kernel
theorem dX10_init_114 : decode cX10_init 114 = .ok (.newarray .int, 2) := by decide +kernel
theorem dX10_init_116 : decode cX10_init 116 = .ok (.putfield 61, 3) := by decide +kernel
theorem dX10_init_119 : decode cX10_init 119 = .ok (.aload_n 0, 1) := by decide +kernel
theorem dX10_init_120 : decode cX10_init 120 = .ok (.iload_n 2, 1) := by decide +kernel
theorem dX10_init_121 : decode cX10_init 121 = .ok (.iconst 0, 1) := by decide +kernel
theorem dX10_init_122 : decode cX10_init 122 = .ok (.invokestatic 9, 3) := by decide +kernel
theorem dX10_init_125 : decode cX10_init 125 = .ok (.newarray .int, 2) := by decide +kernel
theorem dX10_init_127 : decode cX10_init 127 = .ok (.putfield 64, 3) := by decide +kernel
theorem dX10_init_130 : decode cX10_init 130 = .ok (.return_, 1) := by decide +kernel
theorem dX10_isWithinCase_0 : decode cX10_isWithinCase 0 = .ok (.iload_n 1, 1) := by decide +kernel
theorem dX10_isWithinCase_1 : decode cX10_isWithinCase 1 = .ok (.ifCond .lt 24, 3) := by decide +kernel
theorem dX10_isWithinCase_25 : decode cX10_isWithinCase 25 = .ok (.iconst 0, 1) := by decide +kernel
theorem dX10_isWithinCase_26 : decode cX10_isWithinCase 26 = .ok (.ireturn, 1) := by decide +kernel
theorem dX10_lastOf_0 : decode cX10_lastOf 0 = .ok (.iload_n 1, 1) := by decide +kernel
theorem dX10_lastOf_1 : decode cX10_lastOf 1 = .ok (.ifCond .lt 20, 3) := by decide +kernel
theorem dX10_lastOf_21 : decode cX10_lastOf 21 = .ok (.iconst (-1), 1) := by decide +kernel
theorem dX10_lastOf_22 : decode cX10_lastOf 22 = .ok (.ireturn, 1) := by decide +kernel
theorem dX10_maybeEmpty_0 : decode cX10_maybeEmpty 0 = .ok (.aload_n 0, 1) := by decide +kernel
theorem dX10_maybeEmpty_1 : decode cX10_maybeEmpty 1 = .ok (.iload_n 1, 1) := by decide +kernel
theorem dX10_maybeEmpty_2 : decode cX10_maybeEmpty 2 = .ok (.invokevirtual 81, 3) := by decide +kernel
theorem dX10_maybeEmpty_5 : decode cX10_maybeEmpty 5 = .ok (.tableswitch 79 0 9 #[55, 55, 55, 57, 57, 79, 59, 61, 79, 57], 55) := by decide +kernel
theorem dX10_maybeEmpty_84 : decode cX10_maybeEmpty 84 = .ok (.iload_n 2, 1) := by decide +kernel
theorem dX10_maybeEmpty_85 : decode cX10_maybeEmpty 85 = .ok (.ireturn, 1) := by decide +kernel
theorem dX10_measure_0 : decode cX10_measure 0 = .ok (.iconst 0, 1) := by decide +kernel
theorem dX10_measure_1 : decode cX10_measure 1 = .ok (.istore_n 1, 1) := by decide +kernel
theorem dX10_measure_2 : decode cX10_measure 2 = .ok (.aload_n 0, 1) := by decide +kernel
theorem dX10_measure_3 : decode cX10_measure 3 = .ok (.iload_n 1, 1) := by decide +kernel
theorem dX10_measure_4 : decode cX10_measure 4 = .ok (.invokevirtual 91, 3) := by decide +kernel
theorem dX10_measure_7 : decode cX10_measure 7 = .ok (.ifCond .eq 62, 3) := by decide +kernel
theorem dX10_measure_10 : decode cX10_measure 10 = .ok (.aload_n 0, 1) := by decide +kernel
theorem dX10_measure_11 : decode cX10_measure 11 = .ok (.getfield 55, 3) := by decide +kernel
theorem dX10_measure_14 : decode cX10_measure 14 = .ok (.iload_n 1, 1) := by decide +kernel
theorem dX10_measure_15 : decode cX10_measure 15 = .ok (.aload_n 0, 1) := by decide +kernel
theorem dX10_measure_16 : decode cX10_measure 16 = .ok (.aload_n 0, 1) := by decide +kernel
theorem dX10_measure_17 : decode cX10_measure 17 = .ok (.getfield 21, 3) := by decide +kernel
theorem dX10_measure_20 : decode cX10_measure 20 = .ok (.iload_n 1, 1) := by decide +kernel
theorem dX10_measure_21 : decode cX10_measure 21 = .ok (.iaload, 1) := by decide +kernel
theorem dX10_measure_22 : decode cX10_measure 22 = .ok (.invokevirtual 98, 3) := by decide +kernel
theorem dX10_measure_25 : decode cX10_measure 25 = .ok (.ifCond .ne 32, 3) := by decide +kernel
theorem dX10_measure_28 : decode cX10_measure 28 = .ok (.aload_n 0, 1) := by decide +kernel
theorem dX10_measure_29 : decode cX10_measure 29 = .ok (.aload_n 0, 1) := by decide +kernel
theorem dX10_measure_30 : decode cX10_measure 30 = .ok (.getfield 21, 3) := by decide +kernel
theorem dX10_measure_33 : decode cX10_measure 33 = .ok (.iload_n 1, 1) := by decide +kernel
theorem dX10_measure_34 : decode cX10_measure 34 = .ok (.iaload, 1) := by decide +kernel
theorem dX10_measure_35 : decode cX10_measure 35 = .ok (.invokevirtual 91, 3) := by decide +kernel
theorem dX10_measure_38 : decode cX10_measure 38 = .ok (.ifCond .eq 23, 3) := by decide +kernel
theorem dX10_measure_61 : decode cX10_measure 61 = .ok (.iconst 0, 1) := by decide +kernel
theorem dX10_measure_62 : decode cX10_measure 62 = .ok (.bastore, 1) := by decide +kernel
theorem dX10_measure_63 : decode cX10_measure 63 = .ok (.iinc 1 1, 3) := by decide +kernel
theorem dX10_measure_66 : decode cX10_measure 66 = .ok (.goto (-64), 3) := by decide +kernel
theorem dX10_measure_69 : decode cX10_measure 69 = .ok (.aload_n 0, 1) := by decide +kernel
theorem dX10_measure_70 : decode cX10_measure 70 = .ok (.getfield 71, 3) := by decide +kernel
theorem dX10_measure_73 : decode cX10_measure 73 = .ok (.iconst 1, 1) := by decide +kernel
theorem dX10_measure_74 : decode cX10_measure 74 = .ok (.isub, 1) := by decide +kernel
theorem dX10_measure_75 : decode cX10_measure 75 = .ok (.istore_n 1, 1) := by decide +kernel
theorem dX10_measure_76 : decode cX10_measure 76 = .ok (.aload_n 0, 1) := by decide +kernel
theorem dX10_measure_77 : decode cX10_measure 77 = .ok (.iload_n 1, 1) := by decide +kernel
theorem dX10_measure_78 : decode cX10_measure 78 = .ok (.invokevirtual 91, 3) := by decide +kernel
theorem dX10_measure_81 : decode cX10_measure 81 = .ok (.ifCond .eq 14, 3) := by decide +kernel
theorem dX10_measure_84 : decode cX10_measure 84 = .ok (.aload_n 0, 1) := by decide +kernel
theorem dX10_measure_85 : decode cX10_measure 85 = .ok (.iload_n 1, 1) := by decide +kernel
theorem dX10_measure_86 : decode cX10_measure 86 = .ok (.invokevirtual 101, 3) := by decide +kernel
theorem dX10_measure_89 : decode cX10_measure 89 = .ok (.iinc 1 (-1), 3) := by decide +kernel
theorem dX10_measure_92 : decode cX10_measure 92 = .ok (.goto (-16), 3) := by decide +kernel
theorem dX10_measure_95 : decode cX10_measure 95 = .ok (.return_, 1) := by decide +kernel
theorem dX10_measureNode_0 : decode cX10_measureNode 0 = .ok (.aload_n 0, 1) := by decide +kernel
theorem dX10_measureNode_1 : decode cX10_measureNode 1 = .ok (.iload_n 1, 1) := by decide +kernel
theorem dX10_measureNode_2 : decode cX10_measureNode 2 = .ok (.invokevirtual 91, 3) := by decide +kernel
theorem dX10_measureNode_5 : decode cX10_measureNode 5 = .ok (.ifCond .ne 4, 3) := by decide +kernel
theorem dX10_measureNode_9 : decode cX10_measureNode 9 = .ok (.iconst 0, 1) := by decide +kernel
theorem dX10_measureNode_10 : decode cX10_measureNode 10 = .ok (.istore_n 2, 1) := by decide +kernel
theorem dX10_measureNode_11 : decode cX10_measureNode 11 = .ok (.iconst 0, 1) := by decide +kernel
theorem dX10_measureNode_12 : decode cX10_measureNode 12 = .ok (.istore_n 3, 1) := by decide +kernel
theorem dX10_measureNode_13 : decode cX10_measureNode 13 = .ok (.iconst 1, 1) := by decide +kernel
theorem dX10_measureNode_14 : decode cX10_measureNode 14 = .ok (.istore 4, 2) := by decide +kernel
theorem dX10_measureNode_16 : decode cX10_measureNode 16 = .ok (.iconst 0, 1) := by decide +kernel
theorem dX10_measureNode_17 : decode cX10_measureNode 17 = .ok (.istore 5, 2) := by decide +kernel
theorem dX10_measureNode_19 : decode cX10_measureNode 19 = .ok (.aload_n 0, 1) := by decide +kernel
theorem dX10_measureNode_20 : decode cX10_measureNode 20 = .ok (.iload_n 1, 1) := by decide +kernel
theorem dX10_measureNode_21 : decode cX10_measureNode 21 = .ok (.invokevirtual 105, 3) := by decide +kernel
theorem dX10_measureNode_24 : decode cX10_measureNode 24 = .ok (.istore 6, 2) := by decide +kernel
theorem dX10_measureNode_26 : decode cX10_measureNode 26 = .ok (.aload_n 0, 1) := by decide +kernel
theorem dX10_measureNode_27 : decode cX10_measureNode 27 = .ok (.iload 6, 2) := by decide +kernel
theorem dX10_measureNode_29 : decode cX10_measureNode 29 = .ok (.invokevirtual 91, 3) := by decide +kernel
theorem dX10_measureNode_32 : decode cX10_measureNode 32 = .ok (.ifCond .eq 58, 3) := by decide +kernel
theorem dX10_measureNode_90 : decode cX10_measureNode 90 = .ok (.aload_n 0, 1) := by decide +kernel
theorem dX10_measureNode_91 : decode cX10_measureNode 91 = .ok (.iload_n 1, 1) := by decide +kernel
theorem dX10_measureNode_92 : decode cX10_measureNode 92 = .ok (.invokevirtual 111, 3) := by decide +kernel
theorem dX10_measureNode_95 : decode cX10_measureNode 95 = .ok (.istore 6, 2) := by decide +kernel
theorem dX10_measureNode_97 : decode cX10_measureNode 97 = .ok (.aload_n 0, 1) := by decide +kernel
theorem dX10_measureNode_98 : decode cX10_measureNode 98 = .ok (.getfield 45, 3) := by decide +kernel
theorem dX10_measureNode_101 : decode cX10_measureNode 101 = .ok (.iload_n 1, 1) := by decide +kernel
theorem dX10_measureNode_102 : decode cX10_measureNode 102 = .ok (.sipush 20000, 3) := by decide +kernel
theorem dX10_measureNode_105 : decode cX10_measureNode 105 = .ok (.iconst 1, 1) := by decide +kernel
theorem dX10_measureNode_106 : decode cX10_measureNode 106 = .ok (.iload 6, 2) := by decide +kernel
theorem dX10_measureNode_108 : decode cX10_measureNode 108 = .ok (.iload_n 2, 1) := by decide +kernel
theorem dX10_measureNode_109 : decode cX10_measureNode 109 = .ok (.imul, 1) := by decide +kernel
theorem dX10_measureNode_110 : decode cX10_measureNode 110 = .ok (.iadd, 1) := by decide +kernel
theorem dX10_measureNode_111 : decode cX10_measureNode 111 = .ok (.invokestatic 114, 3) := by decide +kernel
theorem dX10_measureNode_114 : decode cX10_measureNode 114 = .ok (.iastore, 1) := by decide +kernel
theorem dX10_measureNode_115 : decode cX10_measureNode 115 = .ok (.aload_n 0, 1) := by decide +kernel
theorem dX10_measureNode_116 : decode cX10_measureNode 116 = .ok (.getfield 48, 3) := by decide +kernel
theorem dX10_measureNode_119 : decode cX10_measureNode 119 = .ok (.iload_n 1, 1) := by decide +kernel
theorem dX10_measureNode_120 : decode cX10_measureNode 120 = .ok (.aload_n 0, 1) := by decide +kernel
theorem dX10_measureNode_121 : decode cX10_measureNode 121 = .ok (.iload_n 1, 1) := by decide +kernel
theorem dX10_measureNode_122 : decode cX10_measureNode 122 = .ok (.invokevirtual 117, 3) := by decide +kernel
theorem dX10_measureNode_125 : decode cX10_measureNode 125 = .ok (.ifCond .eq 7, 3) := by decide +kernel
theorem dX10_measureNode_132 : decode cX10_measureNode 132 = .ok (.sipush 20000, 3) := by decide +kernel
theorem dX10_measureNode_135 : decode cX10_measureNode 135 = .ok (.iload 6, 2) := by decide +kernel
theorem dX10_measureNode_137 : decode cX10_measureNode 137 = .ok (.iload_n 3, 1) := by decide +kernel
theorem dX10_measureNode_138 : decode cX10_measureNode 138 = .ok (.imul, 1) := by decide +kernel
theorem dX10_measureNode_139 : decode cX10_measureNode 139 = .ok (.invokestatic 114, 3) := by decide +kernel
theorem dX10_measureNode_142 : decode cX10_measureNode 142 = .ok (.iastore, 1) := by decide +kernel
theorem dX10_measureNode_143 : decode cX10_measureNode 143 = .ok (.aload_n 0, 1) := by decide +kernel
theorem dX10_measureNode_144 : decode cX10_measureNode 144 = .ok (.getfield 51, 3) := by decide +kernel
theorem dX10_measureNode_147 : decode cX10_measureNode 147 = .ok (.iload_n 1, 1) := by decide +kernel
theorem dX10_measureNode_148 : decode cX10_measureNode 148 = .ok (.aload_n 0, 1) := by decide +kernel
theorem dX10_measureNode_149 : decode cX10_measureNode 149 = .ok (.iload_n 1, 1) := by decide +kernel
theorem dX10_measureNode_150 : decode cX10_measureNode 150 = .ok (.iload 4, 2) := by decide +kernel
theorem dX10_measureNode_152 : decode cX10_measureNode 152 = .ok (.iload 5, 2) := by decide +kernel
theorem dX10_measureNode_154 : decode cX10_measureNode 154 = .ok (.invokevirtual 120, 3) := by decide +kernel
theorem dX10_measureNode_157 : decode cX10_measureNode 157 = .ok (.bastore, 1) := by decide +kernel
theorem dX10_measureNode_158 : decode cX10_measureNode 158 = .ok (.return_, 1) := by decide +kernel
theorem dX10_reset_0 : decode cX10_reset 0 = .ok (.aload_n 0, 1) := by decide +kernel
theorem dX10_reset_1 : decode cX10_reset 1 = .ok (.iconst 0, 1) := by decide +kernel
theorem dX10_reset_2 : decode cX10_reset 2 = .ok (.putfield 67, 3) := by decide +kernel
theorem dX10_reset_5 : decode cX10_reset 5 = .ok (.aload_n 0, 1) := by decide +kernel
theorem dX10_reset_6 : decode cX10_reset 6 = .ok (.iconst 0, 1) := by decide +kernel
theorem dX10_reset_7 : decode cX10_reset 7 = .ok (.putfield 71, 3) := by decide +kernel
theorem dX10_reset_10 : decode cX10_reset 10 = .ok (.aload_n 0, 1) := by decide +kernel
theorem dX10_reset_11 : decode cX10_reset 11 = .ok (.iconst 0, 1) := by decide +kernel
theorem dX10_reset_12 : decode cX10_reset 12 = .ok (.putfield 75, 3) := by decide +kernel
theorem dX10_reset_15 : decode cX10_reset 15 = .ok (.aload_n 0, 1) := by decide +kernel
theorem dX10_reset_16 : decode cX10_reset 16 = .ok (.iconst 0, 1) := by decide +kernel
theorem dX10_reset_17 : decode cX10_reset 17 = .ok (.putfield 78, 3) := by decide +kernel
theorem dX10_reset_20 : decode cX10_reset 20 = .ok (.return_, 1) := by decide +kernel
theorem dX10_sortOf_0 : decode cX10_sortOf 0 = .ok (.iload_n 1, 1) := by decide +kernel
theorem dX10_sortOf_1 : decode cX10_sortOf 1 = .ok (.ifCond .lt 20, 3) := by decide +kernel
theorem dX10_sortOf_4 : decode cX10_sortOf 4 = .ok (.iload_n 1, 1) := by decide +kernel
theorem dX10_sortOf_5 : decode cX10_sortOf 5 = .ok (.aload_n 0, 1) := by decide +kernel
theorem dX10_sortOf_6 : decode cX10_sortOf 6 = .ok (.getfield 71, 3) := by decide +kernel
theorem dX10_sortOf_9 : decode cX10_sortOf 9 = .ok (.if_icmp .ge 12, 3) := by decide +kernel
theorem dX10_sortOf_12 : decode cX10_sortOf 12 = .ok (.aload_n 0, 1) := by decide +kernel
theorem dX10_sortOf_13 : decode cX10_sortOf 13 = .ok (.getfield 15, 3) := by decide +kernel
theorem dX10_sortOf_16 : decode cX10_sortOf 16 = .ok (.iload_n 1, 1) := by decide +kernel
theorem dX10_sortOf_17 : decode cX10_sortOf 17 = .ok (.iaload, 1) := by decide +kernel
theorem dX10_sortOf_18 : decode cX10_sortOf 18 = .ok (.goto 4, 3) := by decide +kernel
theorem dX10_sortOf_22 : decode cX10_sortOf 22 = .ok (.ireturn, 1) := by decide +kernel
theorem dX10_takesOneSign_0 : decode cX10_takesOneSign 0 = .ok (.aload_n 0, 1) := by decide +kernel
theorem dX10_takesOneSign_1 : decode cX10_takesOneSign 1 = .ok (.iload_n 1, 1) := by decide +kernel
theorem dX10_takesOneSign_2 : decode cX10_takesOneSign 2 = .ok (.invokevirtual 81, 3) := by decide +kernel
theorem dX10_takesOneSign_5 : decode cX10_takesOneSign 5 = .ok (.iconst 2, 1) := by decide +kernel
theorem dX10_takesOneSign_6 : decode cX10_takesOneSign 6 = .ok (.if_icmp .gt 7, 3) := by decide +kernel
theorem dX10_takesOneSign_13 : decode cX10_takesOneSign 13 = .ok (.iconst 0, 1) := by decide +kernel
theorem dX10_takesOneSign_14 : decode cX10_takesOneSign 14 = .ok (.ireturn, 1) := by decide +kernel
theorem dX11_all_0 : decode cX11_all 0 = .ok (.aload_n 0, 1) := by decide +kernel
theorem dX11_all_1 : decode cX11_all 1 = .ok (.iload_n 1, 1) := by decide +kernel
theorem dX11_all_2 : decode cX11_all 2 = .ok (.invokevirtual 128, 3) := by decide +kernel
theorem dX11_all_5 : decode cX11_all 5 = .ok (.astore 4, 2) := by decide +kernel
theorem dX11_all_7 : decode cX11_all 7 = .ok (.aload 4, 2) := by decide +kernel
theorem dX11_all_9 : decode cX11_all 9 = .ok (.ifnonnull 6, 3) := by decide +kernel
theorem dX11_all_12 : decode cX11_all 12 = .ok (.bipush (-2), 2) := by decide +kernel
theorem dX11_all_14 : decode cX11_all 14 = .ok (.ireturn, 1) := by decide +kernel
theorem dX11_begins_0 : decode cX11_begins 0 = .ok (.aload_n 0, 1) := by decide +kernel
theorem dX11_begins_1 : decode cX11_begins 1 = .ok (.iload_n 1, 1) := by decide +kernel
theorem dX11_begins_2 : decode cX11_begins 2 = .ok (.invokevirtual 128, 3) := by decide +kernel
theorem dX11_begins_5 : decode cX11_begins 5 = .ok (.astore_n 3, 1) := by decide +kernel
theorem dX11_begins_6 : decode cX11_begins 6 = .ok (.aload_n 3, 1) := by decide +kernel
theorem dX11_begins_7 : decode cX11_begins 7 = .ok (.ifnonnull 6, 3) := by decide +kernel
theorem dX11_begins_10 : decode cX11_begins 10 = .ok (.bipush (-2), 2) := by decide +kernel
theorem dX11_begins_12 : decode cX11_begins 12 = .ok (.ireturn, 1) := by decide +kernel
theorem dX11_capturesOfFound_0 : decode cX11_capturesOfFound 0 = .ok (.aload_n 0, 1) := by decide +kernel
theorem dX11_capturesOfFound_1 : decode cX11_capturesOfFound 1 = .ok (.getfield 37, 3) := by decide +kernel
theorem dX11_capturesOfFound_4 : decode cX11_capturesOfFound 4 = .ok (.getfield 96, 3) := by decide +kernel
theorem dX11_capturesOfFound_7 : decode cX11_capturesOfFound 7 = .ok (.ifCond .ne 7, 3) := by decide +kernel
theorem dX11_capturesOfFound_10 : decode cX11_capturesOfFound 10 = .ok (.iconst 0, 1) := by decide +kernel
theorem dX11_capturesOfFound_11 : decode cX11_capturesOfFound 11 = .ok (.goto 14, 3) := by decide +kernel
theorem dX11_capturesOfFound_25 : decode cX11_capturesOfFound 25 = .ok (.ireturn, 1) := by decide +kernel
theorem dX11_clear_0 : decode cX11_clear 0 = .ok (.aload_n 0, 1) := by decide +kernel
theorem dX11_clear_1 : decode cX11_clear 1 = .ok (.invokevirtual 314, 3) := by decide +kernel
theorem dX11_clear_4 : decode cX11_clear 4 = .ok (.istore_n 1, 1) := by decide +kernel
theorem dX11_clear_5 : decode cX11_clear 5 = .ok (.iconst 0, 1) := by decide +kernel
theorem dX11_clear_6 : decode cX11_clear 6 = .ok (.istore_n 2, 1) := by decide +kernel
theorem dX11_clear_7 : decode cX11_clear 7 = .ok (.iload_n 2, 1) := by decide +kernel
theorem dX11_clear_8 : decode cX11_clear 8 = .ok (.aload_n 0, 1) := by decide +kernel
theorem dX11_clear_9 : decode cX11_clear 9 = .ok (.getfield 20, 3) := by decide +kernel
theorem dX11_clear_12 : decode cX11_clear 12 = .ok (.arraylength, 1) := by decide +kernel
theorem dX11_clear_13 : decode cX11_clear 13 = .ok (.if_icmp .ge 19, 3) := by decide +kernel
theorem dX11_clear_16 : decode cX11_clear 16 = .ok (.aload_n 0, 1) := by decide +kernel
theorem dX11_clear_17 : decode cX11_clear 17 = .ok (.getfield 20, 3) := by decide +kernel
theorem dX11_clear_20 : decode cX11_clear 20 = .ok (.iload_n 2, 1) := by decide +kernel
theorem dX11_clear_21 : decode cX11_clear 21 = .ok (.aaload, 1) := by decide +kernel
theorem dX11_clear_22 : decode cX11_clear 22 = .ok (.iconst 0, 1) := by decide +kernel
theorem dX11_clear_23 : decode cX11_clear 23 = .ok (.putfield 120, 3) := by decide +kernel
theorem dX11_clear_26 : decode cX11_clear 26 = .ok (.iinc 2 1, 3) := by decide +kernel
theorem dX11_clear_29 : decode cX11_clear 29 = .ok (.goto (-22), 3) := by decide +kernel
theorem dX11_clear_32 : decode cX11_clear 32 = .ok (.iconst 0, 1) := by decide +kernel
theorem dX11_clear_33 : decode cX11_clear 33 = .ok (.istore_n 2, 1) := by decide +kernel
theorem dX11_clear_34 : decode cX11_clear 34 = .ok (.iload_n 2, 1) := by decide +kernel
theorem dX11_clear_35 : decode cX11_clear 35 = .ok (.aload_n 0, 1) := by decide +kernel
theorem dX11_clear_36 : decode cX11_clear 36 = .ok (.getfield 24, 3) := by decide +kernel
theorem dX11_clear_39 : decode cX11_clear 39 = .ok (.arraylength, 1) := by decide +kernel
theorem dX11_clear_40 : decode cX11_clear 40 = .ok (.if_icmp .ge 28, 3) := by decide +kernel
theorem dX11_clear_43 : decode cX11_clear 43 = .ok (.aload_n 0, 1) := by decide +kernel
theorem dX11_clear_44 : decode cX11_clear 44 = .ok (.getfield 24, 3) := by decide +kernel
