theorem dX12_compileCopies_10 : decode cX12_compileCopies 10 = .ok (.iaload, 1) := by decide +kernel
theorem dX12_compileCopies_11 : decode cX12_compileCopies 11 = .ok (.iconst 1, 1) := by decide +kernel
theorem dX12_compileCopies_12 : decode cX12_compileCopies 12 = .ok (.if_icmp .ne 7, 3) := by decide +kernel
theorem dX12_compileCopies_15 : decode cX12_compileCopies 15 = .ok (.iconst 4, 1) := by decide +kernel
theorem dX12_compileCopies_16 : decode cX12_compileCopies 16 = .ok (.goto 4, 3) := by decide +kernel
theorem dX12_compileCopies_19 : decode cX12_compileCopies 19 = .ok (.iconst 3, 1) := by decide +kernel
theorem dX12_compileCopies_20 : decode cX12_compileCopies 20 = .ok (.istore 4, 2) := by decide +kernel
theorem dX12_compileCopies_22 : decode cX12_compileCopies 22 = .ok (.aload_n 0, 1) := by decide +kernel
theorem dX12_compileCopies_23 : decode cX12_compileCopies 23 = .ok (.bipush 101, 2) := by decide +kernel
theorem dX12_compileCopies_25 : decode cX12_compileCopies 25 = .ok (.iload_n 3, 1) := by decide +kernel
theorem dX12_compileCopies_26 : decode cX12_compileCopies 26 = .ok (.iconst 0, 1) := by decide +kernel
theorem dX12_compileCopies_27 : decode cX12_compileCopies 27 = .ok (.invokevirtual 554, 3) := by decide +kernel
theorem dX12_compileCopies_30 : decode cX12_compileCopies 30 = .ok (.aload_n 0, 1) := by decide +kernel
theorem dX12_compileCopies_31 : decode cX12_compileCopies 31 = .ok (.getfield 53, 3) := by decide +kernel
theorem dX12_compileCopies_34 : decode cX12_compileCopies 34 = .ok (.iload_n 1, 1) := by decide +kernel
theorem dX12_compileCopies_35 : decode cX12_compileCopies 35 = .ok (.iaload, 1) := by decide +kernel
theorem dX12_compileCopies_36 : decode cX12_compileCopies 36 = .ok (.iconst (-1), 1) := by decide +kernel
theorem dX12_compileCopies_37 : decode cX12_compileCopies 37 = .ok (.if_icmp .ne 44, 3) := by decide +kernel
theorem dX12_compileCopies_40 : decode cX12_compileCopies 40 = .ok (.aload_n 0, 1) := by decide +kernel
theorem dX12_compileCopies_41 : decode cX12_compileCopies 41 = .ok (.invokevirtual 574, 3) := by decide +kernel
theorem dX12_compileCopies_44 : decode cX12_compileCopies 44 = .ok (.istore 5, 2) := by decide +kernel
theorem dX12_compileCopies_46 : decode cX12_compileCopies 46 = .ok (.aload_n 0, 1) := by decide +kernel
theorem dX12_compileCopies_47 : decode cX12_compileCopies 47 = .ok (.iconst 5, 1) := by decide +kernel
theorem dX12_compileCopies_48 : decode cX12_compileCopies 48 = .ok (.iload 5, 2) := by decide +kernel
theorem dX12_compileCopies_50 : decode cX12_compileCopies 50 = .ok (.iconst 0, 1) := by decide +kernel
theorem dX12_compileCopies_51 : decode cX12_compileCopies 51 = .ok (.invokevirtual 554, 3) := by decide +kernel
theorem dX12_compileCopies_54 : decode cX12_compileCopies 54 = .ok (.aload_n 0, 1) := by decide +kernel
theorem dX12_compileCopies_55 : decode cX12_compileCopies 55 = .ok (.bipush 100, 2) := by decide +kernel
theorem dX12_compileCopies_57 : decode cX12_compileCopies 57 = .ok (.iload_n 2, 1) := by decide +kernel
theorem dX12_compileCopies_58 : decode cX12_compileCopies 58 = .ok (.iconst 1, 1) := by decide +kernel
theorem dX12_compileCopies_59 : decode cX12_compileCopies 59 = .ok (.iadd, 1) := by decide +kernel
theorem dX12_compileCopies_60 : decode cX12_compileCopies 60 = .ok (.iconst 0, 1) := by decide +kernel
theorem dX12_compileCopies_61 : decode cX12_compileCopies 61 = .ok (.invokevirtual 554, 3) := by decide +kernel
theorem dX12_compileCopies_64 : decode cX12_compileCopies 64 = .ok (.aload_n 0, 1) := by decide +kernel
theorem dX12_compileCopies_65 : decode cX12_compileCopies 65 = .ok (.iload 4, 2) := by decide +kernel
theorem dX12_compileCopies_67 : decode cX12_compileCopies 67 = .ok (.iload_n 3, 1) := by decide +kernel
theorem dX12_compileCopies_68 : decode cX12_compileCopies 68 = .ok (.iconst 0, 1) := by decide +kernel
theorem dX12_compileCopies_69 : decode cX12_compileCopies 69 = .ok (.invokevirtual 554, 3) := by decide +kernel
theorem dX12_compileCopies_72 : decode cX12_compileCopies 72 = .ok (.aload_n 0, 1) := by decide +kernel
theorem dX12_compileCopies_73 : decode cX12_compileCopies 73 = .ok (.bipush 101, 2) := by decide +kernel
theorem dX12_compileCopies_75 : decode cX12_compileCopies 75 = .ok (.iload 5, 2) := by decide +kernel
theorem dX12_compileCopies_77 : decode cX12_compileCopies 77 = .ok (.iconst 0, 1) := by decide +kernel
theorem dX12_compileCopies_78 : decode cX12_compileCopies 78 = .ok (.invokevirtual 554, 3) := by decide +kernel
theorem dX12_compileCopies_81 : decode cX12_compileCopies 81 = .ok (.aload_n 0, 1) := by decide +kernel
theorem dX12_compileCopies_82 : decode cX12_compileCopies 82 = .ok (.getfield 50, 3) := by decide +kernel
theorem dX12_compileCopies_85 : decode cX12_compileCopies 85 = .ok (.iload_n 1, 1) := by decide +kernel
theorem dX12_compileCopies_86 : decode cX12_compileCopies 86 = .ok (.iaload, 1) := by decide +kernel
theorem dX12_compileCopies_87 : decode cX12_compileCopies 87 = .ok (.istore 5, 2) := by decide +kernel
theorem dX12_compileCopies_89 : decode cX12_compileCopies 89 = .ok (.iload 5, 2) := by decide +kernel
theorem dX12_compileCopies_91 : decode cX12_compileCopies 91 = .ok (.aload_n 0, 1) := by decide +kernel
theorem dX12_compileCopies_92 : decode cX12_compileCopies 92 = .ok (.getfield 53, 3) := by decide +kernel
theorem dX12_compileCopies_95 : decode cX12_compileCopies 95 = .ok (.iload_n 1, 1) := by decide +kernel
theorem dX12_compileCopies_96 : decode cX12_compileCopies 96 = .ok (.iaload, 1) := by decide +kernel
theorem dX12_compileCopies_97 : decode cX12_compileCopies 97 = .ok (.if_icmp .ge 27, 3) := by decide +kernel
theorem dX12_compileCopies_100 : decode cX12_compileCopies 100 = .ok (.aload_n 0, 1) := by decide +kernel
theorem dX12_compileCopies_101 : decode cX12_compileCopies 101 = .ok (.bipush 100, 2) := by decide +kernel
theorem dX12_compileCopies_103 : decode cX12_compileCopies 103 = .ok (.iload_n 2, 1) := by decide +kernel
theorem dX12_compileCopies_104 : decode cX12_compileCopies 104 = .ok (.iconst 1, 1) := by decide +kernel
theorem dX12_compileCopies_105 : decode cX12_compileCopies 105 = .ok (.iadd, 1) := by decide +kernel
theorem dX12_compileCopies_106 : decode cX12_compileCopies 106 = .ok (.iconst 0, 1) := by decide +kernel
theorem dX12_compileCopies_107 : decode cX12_compileCopies 107 = .ok (.invokevirtual 554, 3) := by decide +kernel
theorem dX12_compileCopies_110 : decode cX12_compileCopies 110 = .ok (.aload_n 0, 1) := by decide +kernel
theorem dX12_compileCopies_111 : decode cX12_compileCopies 111 = .ok (.iload 4, 2) := by decide +kernel
theorem dX12_compileCopies_113 : decode cX12_compileCopies 113 = .ok (.iload_n 3, 1) := by decide +kernel
theorem dX12_compileCopies_114 : decode cX12_compileCopies 114 = .ok (.iconst 0, 1) := by decide +kernel
theorem dX12_compileCopies_115 : decode cX12_compileCopies 115 = .ok (.invokevirtual 554, 3) := by decide +kernel
theorem dX12_compileCopies_118 : decode cX12_compileCopies 118 = .ok (.iinc 5 1, 3) := by decide +kernel
theorem dX12_compileCopies_121 : decode cX12_compileCopies 121 = .ok (.goto (-32), 3) := by decide +kernel
theorem dX12_compileCopies_124 : decode cX12_compileCopies 124 = .ok (.iconst 0, 1) := by decide +kernel
theorem dX12_compileCopies_125 : decode cX12_compileCopies 125 = .ok (.istore 5, 2) := by decide +kernel
theorem dX12_compileCopies_127 : decode cX12_compileCopies 127 = .ok (.iload 5, 2) := by decide +kernel
theorem dX12_compileCopies_129 : decode cX12_compileCopies 129 = .ok (.aload_n 0, 1) := by decide +kernel
theorem dX12_compileCopies_130 : decode cX12_compileCopies 130 = .ok (.getfield 50, 3) := by decide +kernel
theorem dX12_compileCopies_133 : decode cX12_compileCopies 133 = .ok (.iload_n 1, 1) := by decide +kernel
theorem dX12_compileCopies_134 : decode cX12_compileCopies 134 = .ok (.iaload, 1) := by decide +kernel
theorem dX12_compileCopies_135 : decode cX12_compileCopies 135 = .ok (.if_icmp .ge 19, 3) := by decide +kernel
theorem dX12_compileCopies_138 : decode cX12_compileCopies 138 = .ok (.aload_n 0, 1) := by decide +kernel
theorem dX12_compileCopies_139 : decode cX12_compileCopies 139 = .ok (.bipush 100, 2) := by decide +kernel
theorem dX12_compileCopies_141 : decode cX12_compileCopies 141 = .ok (.iload_n 2, 1) := by decide +kernel
theorem dX12_compileCopies_142 : decode cX12_compileCopies 142 = .ok (.iconst 1, 1) := by decide +kernel
theorem dX12_compileCopies_143 : decode cX12_compileCopies 143 = .ok (.iadd, 1) := by decide +kernel
theorem dX12_compileCopies_144 : decode cX12_compileCopies 144 = .ok (.iconst 0, 1) := by decide +kernel
theorem dX12_compileCopies_145 : decode cX12_compileCopies 145 = .ok (.invokevirtual 554, 3) := by decide +kernel
theorem dX12_compileCopies_148 : decode cX12_compileCopies 148 = .ok (.iinc 5 1, 3) := by decide +kernel
theorem dX12_compileCopies_151 : decode cX12_compileCopies 151 = .ok (.goto (-24), 3) := by decide +kernel
theorem dX12_compileCopies_154 : decode cX12_compileCopies 154 = .ok (.return_, 1) := by decide +kernel
theorem dX12_compileLook_0 : decode cX12_compileLook 0 = .ok (.aload_n 0, 1) := by decide +kernel
theorem dX12_compileLook_1 : decode cX12_compileLook 1 = .ok (.invokevirtual 574, 3) := by decide +kernel
theorem dX12_compileLook_4 : decode cX12_compileLook 4 = .ok (.istore_n 3, 1) := by decide +kernel
theorem dX12_compileLook_5 : decode cX12_compileLook 5 = .ok (.aload_n 0, 1) := by decide +kernel
theorem dX12_compileLook_6 : decode cX12_compileLook 6 = .ok (.getfield 47, 3) := by decide +kernel
theorem dX12_compileLook_9 : decode cX12_compileLook 9 = .ok (.iload_n 1, 1) := by decide +kernel
theorem dX12_compileLook_10 : decode cX12_compileLook 10 = .ok (.iaload, 1) := by decide +kernel
theorem dX12_compileLook_11 : decode cX12_compileLook 11 = .ok (.istore 4, 2) := by decide +kernel
theorem dX12_compileLook_13 : decode cX12_compileLook 13 = .ok (.aload_n 0, 1) := by decide +kernel
theorem dX12_compileLook_14 : decode cX12_compileLook 14 = .ok (.bipush 101, 2) := by decide +kernel
theorem dX12_compileLook_16 : decode cX12_compileLook 16 = .ok (.iload_n 3, 1) := by decide +kernel
theorem dX12_compileLook_17 : decode cX12_compileLook 17 = .ok (.iconst 0, 1) := by decide +kernel
theorem dX12_compileLook_18 : decode cX12_compileLook 18 = .ok (.invokevirtual 554, 3) := by decide +kernel
theorem dX12_compileLook_21 : decode cX12_compileLook 21 = .ok (.aload_n 0, 1) := by decide +kernel
theorem dX12_compileLook_22 : decode cX12_compileLook 22 = .ok (.iload 4, 2) := by decide +kernel
theorem dX12_compileLook_24 : decode cX12_compileLook 24 = .ok (.ifCond .ne 8, 3) := by decide +kernel
theorem dX12_compileLook_27 : decode cX12_compileLook 27 = .ok (.bipush 14, 2) := by decide +kernel
theorem dX12_compileLook_29 : decode cX12_compileLook 29 = .ok (.goto 27, 3) := by decide +kernel
theorem dX12_compileLook_32 : decode cX12_compileLook 32 = .ok (.iload 4, 2) := by decide +kernel
theorem dX12_compileLook_34 : decode cX12_compileLook 34 = .ok (.iconst 1, 1) := by decide +kernel
theorem dX12_compileLook_35 : decode cX12_compileLook 35 = .ok (.if_icmp .ne 8, 3) := by decide +kernel
theorem dX12_compileLook_38 : decode cX12_compileLook 38 = .ok (.bipush 16, 2) := by decide +kernel
theorem dX12_compileLook_40 : decode cX12_compileLook 40 = .ok (.goto 16, 3) := by decide +kernel
theorem dX12_compileLook_43 : decode cX12_compileLook 43 = .ok (.iload 4, 2) := by decide +kernel
theorem dX12_compileLook_45 : decode cX12_compileLook 45 = .ok (.iconst 2, 1) := by decide +kernel
theorem dX12_compileLook_46 : decode cX12_compileLook 46 = .ok (.if_icmp .ne 8, 3) := by decide +kernel
theorem dX12_compileLook_49 : decode cX12_compileLook 49 = .ok (.bipush 18, 2) := by decide +kernel
theorem dX12_compileLook_51 : decode cX12_compileLook 51 = .ok (.goto 5, 3) := by decide +kernel
theorem dX12_compileLook_54 : decode cX12_compileLook 54 = .ok (.bipush 20, 2) := by decide +kernel
theorem dX12_compileLook_56 : decode cX12_compileLook 56 = .ok (.iload_n 2, 1) := by decide +kernel
theorem dX12_compileLook_57 : decode cX12_compileLook 57 = .ok (.iconst 0, 1) := by decide +kernel
theorem dX12_compileLook_58 : decode cX12_compileLook 58 = .ok (.invokevirtual 554, 3) := by decide +kernel
theorem dX12_compileLook_61 : decode cX12_compileLook 61 = .ok (.aload_n 0, 1) := by decide +kernel
theorem dX12_compileLook_62 : decode cX12_compileLook 62 = .ok (.bipush 100, 2) := by decide +kernel
theorem dX12_compileLook_64 : decode cX12_compileLook 64 = .ok (.iload_n 2, 1) := by decide +kernel
theorem dX12_compileLook_65 : decode cX12_compileLook 65 = .ok (.iconst 1, 1) := by decide +kernel
theorem dX12_compileLook_66 : decode cX12_compileLook 66 = .ok (.iadd, 1) := by decide +kernel
theorem dX12_compileLook_67 : decode cX12_compileLook 67 = .ok (.iconst 0, 1) := by decide +kernel
theorem dX12_compileLook_68 : decode cX12_compileLook 68 = .ok (.invokevirtual 554, 3) := by decide +kernel
theorem dX12_compileLook_71 : decode cX12_compileLook 71 = .ok (.aload_n 0, 1) := by decide +kernel
theorem dX12_compileLook_72 : decode cX12_compileLook 72 = .ok (.iload 4, 2) := by decide +kernel
theorem dX12_compileLook_74 : decode cX12_compileLook 74 = .ok (.ifCond .ne 8, 3) := by decide +kernel
theorem dX12_compileLook_77 : decode cX12_compileLook 77 = .ok (.bipush 13, 2) := by decide +kernel
theorem dX12_compileLook_79 : decode cX12_compileLook 79 = .ok (.goto 16, 3) := by decide +kernel
theorem dX12_compileLook_82 : decode cX12_compileLook 82 = .ok (.iload 4, 2) := by decide +kernel
theorem dX12_compileLook_84 : decode cX12_compileLook 84 = .ok (.iconst 1, 1) := by decide +kernel
theorem dX12_compileLook_85 : decode cX12_compileLook 85 = .ok (.if_icmp .ne 8, 3) := by decide +kernel
theorem dX12_compileLook_88 : decode cX12_compileLook 88 = .ok (.bipush 15, 2) := by decide +kernel
theorem dX12_compileLook_90 : decode cX12_compileLook 90 = .ok (.goto 5, 3) := by decide +kernel
theorem dX12_compileLook_93 : decode cX12_compileLook 93 = .ok (.bipush 17, 2) := by decide +kernel
theorem dX12_compileLook_95 : decode cX12_compileLook 95 = .ok (.iload_n 2, 1) := by decide +kernel
theorem dX12_compileLook_96 : decode cX12_compileLook 96 = .ok (.iload 4, 2) := by decide +kernel
theorem dX12_compileLook_98 : decode cX12_compileLook 98 = .ok (.iconst 3, 1) := by decide +kernel
theorem dX12_compileLook_99 : decode cX12_compileLook 99 = .ok (.if_icmp .eq 9, 3) := by decide +kernel
theorem dX12_compileLook_102 : decode cX12_compileLook 102 = .ok (.iload 4, 2) := by decide +kernel
theorem dX12_compileLook_104 : decode cX12_compileLook 104 = .ok (.iconst 1, 1) := by decide +kernel
theorem dX12_compileLook_105 : decode cX12_compileLook 105 = .ok (.if_icmp .ne 7, 3) := by decide +kernel
theorem dX12_compileLook_108 : decode cX12_compileLook 108 = .ok (.iload_n 3, 1) := by decide +kernel
theorem dX12_compileLook_109 : decode cX12_compileLook 109 = .ok (.goto 4, 3) := by decide +kernel
theorem dX12_compileLook_112 : decode cX12_compileLook 112 = .ok (.iconst (-1), 1) := by decide +kernel
theorem dX12_compileLook_113 : decode cX12_compileLook 113 = .ok (.invokevirtual 554, 3) := by decide +kernel
theorem dX12_compileLook_116 : decode cX12_compileLook 116 = .ok (.return_, 1) := by decide +kernel
theorem dX12_compileLoop_0 : decode cX12_compileLoop 0 = .ok (.aload_n 0, 1) := by decide +kernel
theorem dX12_compileLoop_1 : decode cX12_compileLoop 1 = .ok (.invokevirtual 574, 3) := by decide +kernel
theorem dX12_compileLoop_4 : decode cX12_compileLoop 4 = .ok (.istore_n 3, 1) := by decide +kernel
theorem dX12_compileLoop_5 : decode cX12_compileLoop 5 = .ok (.aload_n 0, 1) := by decide +kernel
theorem dX12_compileLoop_6 : decode cX12_compileLoop 6 = .ok (.invokevirtual 574, 3) := by decide +kernel
theorem dX12_compileLoop_9 : decode cX12_compileLoop 9 = .ok (.istore 4, 2) := by decide +kernel
theorem dX12_compileLoop_11 : decode cX12_compileLoop 11 = .ok (.aload_n 0, 1) := by decide +kernel
theorem dX12_compileLoop_12 : decode cX12_compileLoop 12 = .ok (.getfield 47, 3) := by decide +kernel
theorem dX12_compileLoop_15 : decode cX12_compileLoop 15 = .ok (.iload_n 1, 1) := by decide +kernel
theorem dX12_compileLoop_16 : decode cX12_compileLoop 16 = .ok (.iaload, 1) := by decide +kernel
theorem dX12_compileLoop_17 : decode cX12_compileLoop 17 = .ok (.iconst 2, 1) := by decide +kernel
theorem dX12_compileLoop_18 : decode cX12_compileLoop 18 = .ok (.if_icmp .ne 7, 3) := by decide +kernel
theorem dX12_compileLoop_21 : decode cX12_compileLoop 21 = .ok (.iconst 1, 1) := by decide +kernel
theorem dX12_compileLoop_22 : decode cX12_compileLoop 22 = .ok (.goto 4, 3) := by decide +kernel
theorem dX12_compileLoop_25 : decode cX12_compileLoop 25 = .ok (.iconst 0, 1) := by decide +kernel
theorem dX12_compileLoop_26 : decode cX12_compileLoop 26 = .ok (.istore 5, 2) := by decide +kernel
theorem dX12_compileLoop_28 : decode cX12_compileLoop 28 = .ok (.iload 5, 2) := by decide +kernel
theorem dX12_compileLoop_30 : decode cX12_compileLoop 30 = .ok (.ifCond .eq 11, 3) := by decide +kernel
theorem dX12_compileLoop_33 : decode cX12_compileLoop 33 = .ok (.aload_n 0, 1) := by decide +kernel
theorem dX12_compileLoop_34 : decode cX12_compileLoop 34 = .ok (.bipush 12, 2) := by decide +kernel
theorem dX12_compileLoop_36 : decode cX12_compileLoop 36 = .ok (.iload_n 2, 1) := by decide +kernel
theorem dX12_compileLoop_37 : decode cX12_compileLoop 37 = .ok (.iconst 0, 1) := by decide +kernel
theorem dX12_compileLoop_38 : decode cX12_compileLoop 38 = .ok (.invokevirtual 554, 3) := by decide +kernel
theorem dX12_compileLoop_41 : decode cX12_compileLoop 41 = .ok (.aload_n 0, 1) := by decide +kernel
theorem dX12_compileLoop_42 : decode cX12_compileLoop 42 = .ok (.bipush 101, 2) := by decide +kernel
theorem dX12_compileLoop_44 : decode cX12_compileLoop 44 = .ok (.iload 4, 2) := by decide +kernel
theorem dX12_compileLoop_46 : decode cX12_compileLoop 46 = .ok (.iconst 0, 1) := by decide +kernel
theorem dX12_compileLoop_47 : decode cX12_compileLoop 47 = .ok (.invokevirtual 554, 3) := by decide +kernel
theorem dX12_compileLoop_50 : decode cX12_compileLoop 50 = .ok (.aload_n 0, 1) := by decide +kernel
theorem dX12_compileLoop_51 : decode cX12_compileLoop 51 = .ok (.bipush 10, 2) := by decide +kernel
theorem dX12_compileLoop_53 : decode cX12_compileLoop 53 = .ok (.iload_n 2, 1) := by decide +kernel
theorem dX12_compileLoop_54 : decode cX12_compileLoop 54 = .ok (.iload_n 3, 1) := by decide +kernel
theorem dX12_compileLoop_55 : decode cX12_compileLoop 55 = .ok (.invokevirtual 554, 3) := by decide +kernel
theorem dX12_compileLoop_58 : decode cX12_compileLoop 58 = .ok (.aload_n 0, 1) := by decide +kernel
theorem dX12_compileLoop_59 : decode cX12_compileLoop 59 = .ok (.bipush 100, 2) := by decide +kernel
theorem dX12_compileLoop_61 : decode cX12_compileLoop 61 = .ok (.iload_n 2, 1) := by decide +kernel
theorem dX12_compileLoop_62 : decode cX12_compileLoop 62 = .ok (.iconst 1, 1) := by decide +kernel
theorem dX12_compileLoop_63 : decode cX12_compileLoop 63 = .ok (.iadd, 1) := by decide +kernel
theorem dX12_compileLoop_64 : decode cX12_compileLoop 64 = .ok (.iconst 0, 1) := by decide +kernel
theorem dX12_compileLoop_65 : decode cX12_compileLoop 65 = .ok (.invokevirtual 554, 3) := by decide +kernel
theorem dX12_compileLoop_68 : decode cX12_compileLoop 68 = .ok (.aload_n 0, 1) := by decide +kernel
theorem dX12_compileLoop_69 : decode cX12_compileLoop 69 = .ok (.bipush 9, 2) := by decide +kernel
theorem dX12_compileLoop_71 : decode cX12_compileLoop 71 = .ok (.iload_n 2, 1) := by decide +kernel
theorem dX12_compileLoop_72 : decode cX12_compileLoop 72 = .ok (.iload 4, 2) := by decide +kernel
theorem dX12_compileLoop_74 : decode cX12_compileLoop 74 = .ok (.invokevirtual 554, 3) := by decide +kernel
theorem dX12_compileLoop_77 : decode cX12_compileLoop 77 = .ok (.aload_n 0, 1) := by decide +kernel
theorem dX12_compileLoop_78 : decode cX12_compileLoop 78 = .ok (.bipush 101, 2) := by decide +kernel
theorem dX12_compileLoop_80 : decode cX12_compileLoop 80 = .ok (.iload_n 3, 1) := by decide +kernel
theorem dX12_compileLoop_81 : decode cX12_compileLoop 81 = .ok (.iconst 0, 1) := by decide +kernel
theorem dX12_compileLoop_82 : decode cX12_compileLoop 82 = .ok (.invokevirtual 554, 3) := by decide +kernel
theorem dX12_compileLoop_85 : decode cX12_compileLoop 85 = .ok (.aload_n 0, 1) := by decide +kernel
theorem dX12_compileLoop_86 : decode cX12_compileLoop 86 = .ok (.bipush 8, 2) := by decide +kernel
theorem dX12_compileLoop_88 : decode cX12_compileLoop 88 = .ok (.iload_n 2, 1) := by decide +kernel
theorem dX12_compileLoop_89 : decode cX12_compileLoop 89 = .ok (.iconst 0, 1) := by decide +kernel
theorem dX12_compileLoop_90 : decode cX12_compileLoop 90 = .ok (.invokevirtual 554, 3) := by decide +kernel
theorem dX12_compileLoop_93 : decode cX12_compileLoop 93 = .ok (.iload 5, 2) := by decide +kernel
theorem dX12_compileLoop_95 : decode cX12_compileLoop 95 = .ok (.ifCond .eq 11, 3) := by decide +kernel
theorem dX12_compileLoop_98 : decode cX12_compileLoop 98 = .ok (.aload_n 0, 1) := by decide +kernel
theorem dX12_compileLoop_99 : decode cX12_compileLoop 99 = .ok (.bipush 11, 2) := by decide +kernel
theorem dX12_compileLoop_101 : decode cX12_compileLoop 101 = .ok (.iload_n 2, 1) := by decide +kernel
theorem dX12_compileLoop_102 : decode cX12_compileLoop 102 = .ok (.iconst 0, 1) := by decide +kernel
theorem dX12_compileLoop_103 : decode cX12_compileLoop 103 = .ok (.invokevirtual 554, 3) := by decide +kernel
theorem dX12_compileLoop_106 : decode cX12_compileLoop 106 = .ok (.return_, 1) := by decide +kernel
theorem dX12_compileNode_0 : decode cX12_compileNode 0 = .ok (.sipush 220, 3) := by decide +kernel
theorem dX12_compileNode_3 : decode cX12_compileNode 3 = .ok (.iload_n 1, 1) := by decide +kernel
theorem dX12_compileNode_4 : decode cX12_compileNode 4 = .ok (.imul, 1) := by decide +kernel
theorem dX12_compileNode_5 : decode cX12_compileNode 5 = .ok (.istore 4, 2) := by decide +kernel
theorem dX12_compileNode_7 : decode cX12_compileNode 7 = .ok (.iload 4, 2) := by decide +kernel
theorem dX12_compileNode_9 : decode cX12_compileNode 9 = .ok (.iload_n 2, 1) := by decide +kernel
theorem dX12_compileNode_10 : decode cX12_compileNode 10 = .ok (.iadd, 1) := by decide +kernel
theorem dX12_compileNode_11 : decode cX12_compileNode 11 = .ok (.istore 5, 2) := by decide +kernel
theorem dX12_compileNode_13 : decode cX12_compileNode 13 = .ok (.iconst 0, 1) := by decide +kernel
theorem dX12_compileNode_14 : decode cX12_compileNode 14 = .ok (.istore 6, 2) := by decide +kernel
theorem dX12_compileNode_16 : decode cX12_compileNode 16 = .ok (.iload_n 2, 1) := by decide +kernel
theorem dX12_compileNode_17 : decode cX12_compileNode 17 = .ok (.iconst 1, 1) := by decide +kernel
theorem dX12_compileNode_18 : decode cX12_compileNode 18 = .ok (.iadd, 1) := by decide +kernel
theorem dX12_compileNode_19 : decode cX12_compileNode 19 = .ok (.istore 7, 2) := by decide +kernel
theorem dX12_compileNode_21 : decode cX12_compileNode 21 = .ok (.iload 7, 2) := by decide +kernel
theorem dX12_compileNode_23 : decode cX12_compileNode 23 = .ok (.aload_n 0, 1) := by decide +kernel
theorem dX12_compileNode_24 : decode cX12_compileNode 24 = .ok (.getfield 62, 3) := by decide +kernel
theorem dX12_compileNode_27 : decode cX12_compileNode 27 = .ok (.iload 5, 2) := by decide +kernel
theorem dX12_compileNode_29 : decode cX12_compileNode 29 = .ok (.iaload, 1) := by decide +kernel
theorem dX12_compileNode_30 : decode cX12_compileNode 30 = .ok (.if_icmp .ge 30, 3) := by decide +kernel
theorem dX12_compileNode_33 : decode cX12_compileNode 33 = .ok (.aload_n 0, 1) := by decide +kernel
theorem dX12_compileNode_34 : decode cX12_compileNode 34 = .ok (.getfield 201, 3) := by decide +kernel
theorem dX12_compileNode_37 : decode cX12_compileNode 37 = .ok (.iload 6, 2) := by decide +kernel
theorem dX12_compileNode_39 : decode cX12_compileNode 39 = .ok (.iload 7, 2) := by decide +kernel
theorem dX12_compileNode_41 : decode cX12_compileNode 41 = .ok (.iastore, 1) := by decide +kernel
theorem dX12_compileNode_42 : decode cX12_compileNode 42 = .ok (.iinc 6 1, 3) := by decide +kernel
theorem dX12_compileNode_45 : decode cX12_compileNode 45 = .ok (.aload_n 0, 1) := by decide +kernel
theorem dX12_compileNode_46 : decode cX12_compileNode 46 = .ok (.getfield 62, 3) := by decide +kernel
theorem dX12_compileNode_49 : decode cX12_compileNode 49 = .ok (.iload 4, 2) := by decide +kernel
theorem dX12_compileNode_51 : decode cX12_compileNode 51 = .ok (.iload 7, 2) := by decide +kernel
theorem dX12_compileNode_53 : decode cX12_compileNode 53 = .ok (.iadd, 1) := by decide +kernel
theorem dX12_compileNode_54 : decode cX12_compileNode 54 = .ok (.iaload, 1) := by decide +kernel
theorem dX12_compileNode_55 : decode cX12_compileNode 55 = .ok (.istore 7, 2) := by decide +kernel
theorem dX12_compileNode_57 : decode cX12_compileNode 57 = .ok (.goto (-36), 3) := by decide +kernel
theorem dX12_compileNode_60 : decode cX12_compileNode 60 = .ok (.aload_n 0, 1) := by decide +kernel
theorem dX12_compileNode_61 : decode cX12_compileNode 61 = .ok (.getfield 44, 3) := by decide +kernel
theorem dX12_compileNode_64 : decode cX12_compileNode 64 = .ok (.iload 5, 2) := by decide +kernel
theorem dX12_compileNode_66 : decode cX12_compileNode 66 = .ok (.iaload, 1) := by decide +kernel
theorem dX12_compileNode_67 : decode cX12_compileNode 67 = .ok (.tableswitch 241 3 11 #[49, 59, 69, 103, 124, 148, 189, 199, 228], 49) := by decide +kernel
theorem dX12_compileNode_116 : decode cX12_compileNode 116 = .ok (.aload_n 0, 1) := by decide +kernel
theorem dX12_compileNode_117 : decode cX12_compileNode 117 = .ok (.iconst 1, 1) := by decide +kernel
theorem dX12_compileNode_118 : decode cX12_compileNode 118 = .ok (.iload_n 2, 1) := by decide +kernel
theorem dX12_compileNode_119 : decode cX12_compileNode 119 = .ok (.iconst 0, 1) := by decide +kernel
theorem dX12_compileNode_120 : decode cX12_compileNode 120 = .ok (.invokevirtual 554, 3) := by decide +kernel
theorem dX12_compileNode_123 : decode cX12_compileNode 123 = .ok (.goto 192, 3) := by decide +kernel
theorem dX12_compileNode_126 : decode cX12_compileNode 126 = .ok (.aload_n 0, 1) := by decide +kernel
theorem dX12_compileNode_127 : decode cX12_compileNode 127 = .ok (.iconst 2, 1) := by decide +kernel
theorem dX12_compileNode_128 : decode cX12_compileNode 128 = .ok (.iload_n 2, 1) := by decide +kernel
theorem dX12_compileNode_129 : decode cX12_compileNode 129 = .ok (.iconst 0, 1) := by decide +kernel
theorem dX12_compileNode_130 : decode cX12_compileNode 130 = .ok (.invokevirtual 554, 3) := by decide +kernel
theorem dX12_compileNode_133 : decode cX12_compileNode 133 = .ok (.goto 182, 3) := by decide +kernel
theorem dX12_compileNode_136 : decode cX12_compileNode 136 = .ok (.iload 6, 2) := by decide +kernel
theorem dX12_compileNode_138 : decode cX12_compileNode 138 = .ok (.iconst 1, 1) := by decide +kernel
theorem dX12_compileNode_139 : decode cX12_compileNode 139 = .ok (.isub, 1) := by decide +kernel
theorem dX12_compileNode_140 : decode cX12_compileNode 140 = .ok (.istore 7, 2) := by decide +kernel
theorem dX12_compileNode_142 : decode cX12_compileNode 142 = .ok (.iload 7, 2) := by decide +kernel
theorem dX12_compileNode_144 : decode cX12_compileNode 144 = .ok (.ifCond .lt 23, 3) := by decide +kernel
theorem dX12_compileNode_147 : decode cX12_compileNode 147 = .ok (.aload_n 0, 1) := by decide +kernel
theorem dX12_compileNode_148 : decode cX12_compileNode 148 = .ok (.bipush 100, 2) := by decide +kernel
theorem dX12_compileNode_150 : decode cX12_compileNode 150 = .ok (.aload_n 0, 1) := by decide +kernel
theorem dX12_compileNode_151 : decode cX12_compileNode 151 = .ok (.getfield 201, 3) := by decide +kernel
theorem dX12_compileNode_154 : decode cX12_compileNode 154 = .ok (.iload 7, 2) := by decide +kernel
theorem dX12_compileNode_156 : decode cX12_compileNode 156 = .ok (.iaload, 1) := by decide +kernel
theorem dX12_compileNode_157 : decode cX12_compileNode 157 = .ok (.iconst 0, 1) := by decide +kernel
theorem dX12_compileNode_158 : decode cX12_compileNode 158 = .ok (.invokevirtual 554, 3) := by decide +kernel
theorem dX12_compileNode_161 : decode cX12_compileNode 161 = .ok (.iinc 7 (-1), 3) := by decide +kernel
theorem dX12_compileNode_164 : decode cX12_compileNode 164 = .ok (.goto (-22), 3) := by decide +kernel
theorem dX12_compileNode_167 : decode cX12_compileNode 167 = .ok (.goto 148, 3) := by decide +kernel
theorem dX12_compileNode_170 : decode cX12_compileNode 170 = .ok (.aload_n 0, 1) := by decide +kernel
theorem dX12_compileNode_171 : decode cX12_compileNode 171 = .ok (.iload 6, 2) := by decide +kernel
theorem dX12_compileNode_173 : decode cX12_compileNode 173 = .ok (.invokevirtual 562, 3) := by decide +kernel
theorem dX12_compileNode_176 : decode cX12_compileNode 176 = .ok (.iload_n 3, 1) := by decide +kernel
theorem dX12_compileNode_177 : decode cX12_compileNode 177 = .ok (.ifCond .ne 138, 3) := by decide +kernel
theorem dX12_compileNode_180 : decode cX12_compileNode 180 = .ok (.aload_n 0, 1) := by decide +kernel
theorem dX12_compileNode_181 : decode cX12_compileNode 181 = .ok (.bipush 21, 2) := by decide +kernel
theorem dX12_compileNode_183 : decode cX12_compileNode 183 = .ok (.iconst 0, 1) := by decide +kernel
theorem dX12_compileNode_184 : decode cX12_compileNode 184 = .ok (.iconst 0, 1) := by decide +kernel
theorem dX12_compileNode_185 : decode cX12_compileNode 185 = .ok (.invokevirtual 554, 3) := by decide +kernel
theorem dX12_compileNode_188 : decode cX12_compileNode 188 = .ok (.goto 127, 3) := by decide +kernel
theorem dX12_compileNode_191 : decode cX12_compileNode 191 = .ok (.iload_n 3, 1) := by decide +kernel
theorem dX12_compileNode_192 : decode cX12_compileNode 192 = .ok (.ifCond .eq 13, 3) := by decide +kernel
theorem dX12_compileNode_195 : decode cX12_compileNode 195 = .ok (.aload_n 0, 1) := by decide +kernel
theorem dX12_compileNode_196 : decode cX12_compileNode 196 = .ok (.iload 5, 2) := by decide +kernel
theorem dX12_compileNode_198 : decode cX12_compileNode 198 = .ok (.iload_n 2, 1) := by decide +kernel
theorem dX12_compileNode_199 : decode cX12_compileNode 199 = .ok (.invokevirtual 565, 3) := by decide +kernel
theorem dX12_compileNode_202 : decode cX12_compileNode 202 = .ok (.goto 113, 3) := by decide +kernel
theorem dX12_compileNode_205 : decode cX12_compileNode 205 = .ok (.aload_n 0, 1) := by decide +kernel
theorem dX12_compileNode_206 : decode cX12_compileNode 206 = .ok (.iload 5, 2) := by decide +kernel
theorem dX12_compileNode_208 : decode cX12_compileNode 208 = .ok (.iload_n 2, 1) := by decide +kernel
theorem dX12_compileNode_209 : decode cX12_compileNode 209 = .ok (.invokevirtual 568, 3) := by decide +kernel
theorem dX12_compileNode_212 : decode cX12_compileNode 212 = .ok (.goto 103, 3) := by decide +kernel
theorem dX12_compileNode_215 : decode cX12_compileNode 215 = .ok (.aload_n 0, 1) := by decide +kernel
theorem dX12_compileNode_216 : decode cX12_compileNode 216 = .ok (.bipush 7, 2) := by decide +kernel
theorem dX12_compileNode_218 : decode cX12_compileNode 218 = .ok (.aload_n 0, 1) := by decide +kernel
theorem dX12_compileNode_219 : decode cX12_compileNode 219 = .ok (.getfield 47, 3) := by decide +kernel
theorem dX12_compileNode_222 : decode cX12_compileNode 222 = .ok (.iload 5, 2) := by decide +kernel
theorem dX12_compileNode_224 : decode cX12_compileNode 224 = .ok (.iaload, 1) := by decide +kernel
theorem dX12_compileNode_225 : decode cX12_compileNode 225 = .ok (.iconst 0, 1) := by decide +kernel
theorem dX12_compileNode_226 : decode cX12_compileNode 226 = .ok (.invokevirtual 554, 3) := by decide +kernel
theorem dX12_compileNode_229 : decode cX12_compileNode 229 = .ok (.aload_n 0, 1) := by decide +kernel
theorem dX12_compileNode_230 : decode cX12_compileNode 230 = .ok (.bipush 100, 2) := by decide +kernel
theorem dX12_compileNode_232 : decode cX12_compileNode 232 = .ok (.iload_n 2, 1) := by decide +kernel
theorem dX12_compileNode_233 : decode cX12_compileNode 233 = .ok (.iconst 1, 1) := by decide +kernel
theorem dX12_compileNode_234 : decode cX12_compileNode 234 = .ok (.iadd, 1) := by decide +kernel
theorem dX12_compileNode_235 : decode cX12_compileNode 235 = .ok (.iconst 0, 1) := by decide +kernel
theorem dX12_compileNode_236 : decode cX12_compileNode 236 = .ok (.invokevirtual 554, 3) := by decide +kernel
theorem dX12_compileNode_239 : decode cX12_compileNode 239 = .ok (.aload_n 0, 1) := by decide +kernel
theorem dX12_compileNode_240 : decode cX12_compileNode 240 = .ok (.bipush 6, 2) := by decide +kernel
theorem dX12_compileNode_242 : decode cX12_compileNode 242 = .ok (.aload_n 0, 1) := by decide +kernel
theorem dX12_compileNode_243 : decode cX12_compileNode 243 = .ok (.getfield 47, 3) := by decide +kernel
theorem dX12_compileNode_246 : decode cX12_compileNode 246 = .ok (.iload 5, 2) := by decide +kernel
theorem dX12_compileNode_248 : decode cX12_compileNode 248 = .ok (.iaload, 1) := by decide +kernel
theorem dX12_compileNode_249 : decode cX12_compileNode 249 = .ok (.iconst 0, 1) := by decide +kernel
theorem dX12_compileNode_250 : decode cX12_compileNode 250 = .ok (.invokevirtual 554, 3) := by decide +kernel
theorem dX12_compileNode_253 : decode cX12_compileNode 253 = .ok (.goto 62, 3) := by decide +kernel
theorem dX12_compileNode_256 : decode cX12_compileNode 256 = .ok (.aload_n 0, 1) := by decide +kernel
theorem dX12_compileNode_257 : decode cX12_compileNode 257 = .ok (.iload 5, 2) := by decide +kernel
theorem dX12_compileNode_259 : decode cX12_compileNode 259 = .ok (.iload_n 2, 1) := by decide +kernel
theorem dX12_compileNode_260 : decode cX12_compileNode 260 = .ok (.invokevirtual 571, 3) := by decide +kernel
theorem dX12_compileNode_263 : decode cX12_compileNode 263 = .ok (.goto 52, 3) := by decide +kernel
theorem dX12_compileNode_266 : decode cX12_compileNode 266 = .ok (.aload_n 0, 1) := by decide +kernel
theorem dX12_compileNode_267 : decode cX12_compileNode 267 = .ok (.bipush 12, 2) := by decide +kernel
theorem dX12_compileNode_269 : decode cX12_compileNode 269 = .ok (.iload_n 2, 1) := by decide +kernel
theorem dX12_compileNode_270 : decode cX12_compileNode 270 = .ok (.iconst 0, 1) := by decide +kernel
theorem dX12_compileNode_271 : decode cX12_compileNode 271 = .ok (.invokevirtual 554, 3) := by decide +kernel
theorem dX12_compileNode_274 : decode cX12_compileNode 274 = .ok (.aload_n 0, 1) := by decide +kernel
theorem dX12_compileNode_275 : decode cX12_compileNode 275 = .ok (.bipush 100, 2) := by decide +kernel
theorem dX12_compileNode_277 : decode cX12_compileNode 277 = .ok (.iload_n 2, 1) := by decide +kernel
theorem dX12_compileNode_278 : decode cX12_compileNode 278 = .ok (.iconst 1, 1) := by decide +kernel
theorem dX12_compileNode_279 : decode cX12_compileNode 279 = .ok (.iadd, 1) := by decide +kernel
theorem dX12_compileNode_280 : decode cX12_compileNode 280 = .ok (.iconst 0, 1) := by decide +kernel
theorem dX12_compileNode_281 : decode cX12_compileNode 281 = .ok (.invokevirtual 554, 3) := by decide +kernel
theorem dX12_compileNode_284 : decode cX12_compileNode 284 = .ok (.aload_n 0, 1) := by decide +kernel
theorem dX12_compileNode_285 : decode cX12_compileNode 285 = .ok (.bipush 11, 2) := by decide +kernel
theorem dX12_compileNode_287 : decode cX12_compileNode 287 = .ok (.iload_n 2, 1) := by decide +kernel
theorem dX12_compileNode_288 : decode cX12_compileNode 288 = .ok (.iconst 0, 1) := by decide +kernel
theorem dX12_compileNode_289 : decode cX12_compileNode 289 = .ok (.invokevirtual 554, 3) := by decide +kernel
theorem dX12_compileNode_292 : decode cX12_compileNode 292 = .ok (.goto 23, 3) := by decide +kernel
theorem dX12_compileNode_295 : decode cX12_compileNode 295 = .ok (.aload_n 0, 1) := by decide +kernel
theorem dX12_compileNode_296 : decode cX12_compileNode 296 = .ok (.bipush 100, 2) := by decide +kernel
theorem dX12_compileNode_298 : decode cX12_compileNode 298 = .ok (.iload_n 2, 1) := by decide +kernel
theorem dX12_compileNode_299 : decode cX12_compileNode 299 = .ok (.iconst 1, 1) := by decide +kernel
theorem dX12_compileNode_300 : decode cX12_compileNode 300 = .ok (.iadd, 1) := by decide +kernel
theorem dX12_compileNode_301 : decode cX12_compileNode 301 = .ok (.iconst 0, 1) := by decide +kernel
theorem dX12_compileNode_302 : decode cX12_compileNode 302 = .ok (.invokevirtual 554, 3) := by decide +kernel
theorem dX12_compileNode_305 : decode cX12_compileNode 305 = .ok (.goto 10, 3) := by decide +kernel
theorem dX12_compileNode_308 : decode cX12_compileNode 308 = .ok (.aload_n 0, 1) := by decide +kernel
theorem dX12_compileNode_309 : decode cX12_compileNode 309 = .ok (.iconst 0, 1) := by decide +kernel
theorem dX12_compileNode_310 : decode cX12_compileNode 310 = .ok (.iload_n 2, 1) := by decide +kernel
theorem dX12_compileNode_311 : decode cX12_compileNode 311 = .ok (.iconst 0, 1) := by decide +kernel
theorem dX12_compileNode_312 : decode cX12_compileNode 312 = .ok (.invokevirtual 554, 3) := by decide +kernel
theorem dX12_compileNode_315 : decode cX12_compileNode 315 = .ok (.return_, 1) := by decide +kernel
theorem dX12_countItem_0 : decode cX12_countItem 0 = .ok (.aload_n 0, 1) := by decide +kernel
theorem dX12_countItem_1 : decode cX12_countItem 1 = .ok (.getfield 342, 3) := by decide +kernel
theorem dX12_countItem_4 : decode cX12_countItem 4 = .ok (.bipush 100, 2) := by decide +kernel
theorem dX12_countItem_6 : decode cX12_countItem 6 = .ok (.if_icmp .ne 9, 3) := by decide +kernel
theorem dX12_countItem_9 : decode cX12_countItem 9 = .ok (.aload_n 0, 1) := by decide +kernel
theorem dX12_countItem_10 : decode cX12_countItem 10 = .ok (.iconst 2, 1) := by decide +kernel
theorem dX12_countItem_11 : decode cX12_countItem 11 = .ok (.iload_n 1, 1) := by decide +kernel
theorem dX12_countItem_12 : decode cX12_countItem 12 = .ok (.invokevirtual 345, 3) := by decide +kernel
theorem dX12_countItem_15 : decode cX12_countItem 15 = .ok (.aload_n 0, 1) := by decide +kernel
theorem dX12_countItem_16 : decode cX12_countItem 16 = .ok (.dup, 1) := by decide +kernel
theorem dX12_countItem_17 : decode cX12_countItem 17 = .ok (.getfield 342, 3) := by decide +kernel
theorem dX12_countItem_20 : decode cX12_countItem 20 = .ok (.iconst 1, 1) := by decide +kernel
theorem dX12_countItem_21 : decode cX12_countItem 21 = .ok (.iadd, 1) := by decide +kernel
theorem dX12_countItem_22 : decode cX12_countItem 22 = .ok (.putfield 342, 3) := by decide +kernel
theorem dX12_countItem_25 : decode cX12_countItem 25 = .ok (.return_, 1) := by decide +kernel
theorem dX12_dead_0 : decode cX12_dead 0 = .ok (.aload_n 0, 1) := by decide +kernel
theorem dX12_dead_1 : decode cX12_dead 1 = .ok (.iconst 0, 1) := by decide +kernel
theorem dX12_dead_2 : decode cX12_dead 2 = .ok (.putfield 1, 3) := by decide +kernel
theorem dX12_dead_5 : decode cX12_dead 5 = .ok (.aload_n 0, 1) := by decide +kernel
theorem dX12_dead_6 : decode cX12_dead 6 = .ok (.iload_n 1, 1) := by decide +kernel
theorem dX12_dead_7 : decode cX12_dead 7 = .ok (.invokevirtual 459, 3) := by decide +kernel
theorem dX12_dead_10 : decode cX12_dead 10 = .ok (.ifCond .eq 6, 3) := by decide +kernel
theorem dX12_dead_13 : decode cX12_dead 13 = .ok (.bipush (-2), 2) := by decide +kernel
theorem dX12_dead_15 : decode cX12_dead 15 = .ok (.ireturn, 1) := by decide +kernel
theorem dX12_dead_16 : decode cX12_dead 16 = .ok (.iload_n 2, 1) := by decide +kernel
theorem dX12_dead_17 : decode cX12_dead 17 = .ok (.ifCond .ge 6, 3) := by decide +kernel
theorem dX12_dead_20 : decode cX12_dead 20 = .ok (.bipush (-4), 2) := by decide +kernel
theorem dX12_dead_22 : decode cX12_dead 22 = .ok (.ireturn, 1) := by decide +kernel
theorem dX12_dead_23 : decode cX12_dead 23 = .ok (.sipush 220, 3) := by decide +kernel
theorem dX12_dead_26 : decode cX12_dead 26 = .ok (.iload_n 1, 1) := by decide +kernel
theorem dX12_dead_27 : decode cX12_dead 27 = .ok (.imul, 1) := by decide +kernel
theorem dX12_dead_28 : decode cX12_dead 28 = .ok (.istore_n 3, 1) := by decide +kernel
theorem dX12_dead_29 : decode cX12_dead 29 = .ok (.iload_n 2, 1) := by decide +kernel
theorem dX12_dead_30 : decode cX12_dead 30 = .ok (.istore 4, 2) := by decide +kernel
theorem dX12_dead_32 : decode cX12_dead 32 = .ok (.iconst 1, 1) := by decide +kernel
theorem dX12_dead_33 : decode cX12_dead 33 = .ok (.istore 5, 2) := by decide +kernel
theorem dX12_dead_35 : decode cX12_dead 35 = .ok (.iload 5, 2) := by decide +kernel
theorem dX12_dead_37 : decode cX12_dead 37 = .ok (.aload_n 0, 1) := by decide +kernel
theorem dX12_dead_38 : decode cX12_dead 38 = .ok (.getfield 35, 3) := by decide +kernel
theorem dX12_dead_41 : decode cX12_dead 41 = .ok (.iload_n 1, 1) := by decide +kernel
theorem dX12_dead_42 : decode cX12_dead 42 = .ok (.iaload, 1) := by decide +kernel
theorem dX12_dead_43 : decode cX12_dead 43 = .ok (.if_icmp .ge 116, 3) := by decide +kernel
theorem dX12_dead_46 : decode cX12_dead 46 = .ok (.aload_n 0, 1) := by decide +kernel
theorem dX12_dead_47 : decode cX12_dead 47 = .ok (.getfield 56, 3) := by decide +kernel
theorem dX12_dead_50 : decode cX12_dead 50 = .ok (.iload_n 3, 1) := by decide +kernel
theorem dX12_dead_51 : decode cX12_dead 51 = .ok (.iload 5, 2) := by decide +kernel
theorem dX12_dead_53 : decode cX12_dead 53 = .ok (.iadd, 1) := by decide +kernel
theorem dX12_dead_54 : decode cX12_dead 54 = .ok (.iaload, 1) := by decide +kernel
theorem dX12_dead_55 : decode cX12_dead 55 = .ok (.istore 6, 2) := by decide +kernel
theorem dX12_dead_57 : decode cX12_dead 57 = .ok (.iconst 0, 1) := by decide +kernel
theorem dX12_dead_58 : decode cX12_dead 58 = .ok (.istore 7, 2) := by decide +kernel
theorem dX12_dead_60 : decode cX12_dead 60 = .ok (.aload_n 0, 1) := by decide +kernel
theorem dX12_dead_61 : decode cX12_dead 61 = .ok (.getfield 44, 3) := by decide +kernel
theorem dX12_dead_64 : decode cX12_dead 64 = .ok (.iload_n 3, 1) := by decide +kernel
theorem dX12_dead_65 : decode cX12_dead 65 = .ok (.iload 6, 2) := by decide +kernel
theorem dX12_dead_67 : decode cX12_dead 67 = .ok (.iadd, 1) := by decide +kernel
theorem dX12_dead_68 : decode cX12_dead 68 = .ok (.iaload, 1) := by decide +kernel
theorem dX12_dead_69 : decode cX12_dead 69 = .ok (.bipush 6, 2) := by decide +kernel
theorem dX12_dead_71 : decode cX12_dead 71 = .ok (.if_icmp .ne 54, 3) := by decide +kernel
theorem dX12_dead_74 : decode cX12_dead 74 = .ok (.iload 6, 2) := by decide +kernel
theorem dX12_dead_76 : decode cX12_dead 76 = .ok (.iconst 1, 1) := by decide +kernel
theorem dX12_dead_77 : decode cX12_dead 77 = .ok (.iadd, 1) := by decide +kernel
theorem dX12_dead_78 : decode cX12_dead 78 = .ok (.istore 8, 2) := by decide +kernel
theorem dX12_dead_80 : decode cX12_dead 80 = .ok (.iload 8, 2) := by decide +kernel
theorem dX12_dead_82 : decode cX12_dead 82 = .ok (.iload 5, 2) := by decide +kernel
theorem dX12_dead_84 : decode cX12_dead 84 = .ok (.if_icmp .ge 41, 3) := by decide +kernel
theorem dX12_dead_87 : decode cX12_dead 87 = .ok (.iload 7, 2) := by decide +kernel
theorem dX12_dead_89 : decode cX12_dead 89 = .ok (.ifCond .ne 15, 3) := by decide +kernel
theorem dX12_dead_92 : decode cX12_dead 92 = .ok (.aload_n 0, 1) := by decide +kernel
theorem dX12_dead_93 : decode cX12_dead 93 = .ok (.iload_n 1, 1) := by decide +kernel
theorem dX12_dead_94 : decode cX12_dead 94 = .ok (.iload 8, 2) := by decide +kernel
theorem dX12_dead_96 : decode cX12_dead 96 = .ok (.iload 5, 2) := by decide +kernel
theorem dX12_dead_98 : decode cX12_dead 98 = .ok (.invokevirtual 508, 3) := by decide +kernel
theorem dX12_dead_101 : decode cX12_dead 101 = .ok (.ifCond .eq 7, 3) := by decide +kernel
theorem dX12_dead_104 : decode cX12_dead 104 = .ok (.iconst 1, 1) := by decide +kernel
theorem dX12_dead_105 : decode cX12_dead 105 = .ok (.goto 4, 3) := by decide +kernel
theorem dX12_dead_108 : decode cX12_dead 108 = .ok (.iconst 0, 1) := by decide +kernel
theorem dX12_dead_109 : decode cX12_dead 109 = .ok (.istore 7, 2) := by decide +kernel
theorem dX12_dead_111 : decode cX12_dead 111 = .ok (.aload_n 0, 1) := by decide +kernel
theorem dX12_dead_112 : decode cX12_dead 112 = .ok (.getfield 62, 3) := by decide +kernel
theorem dX12_dead_115 : decode cX12_dead 115 = .ok (.iload_n 3, 1) := by decide +kernel
theorem dX12_dead_116 : decode cX12_dead 116 = .ok (.iload 8, 2) := by decide +kernel
theorem dX12_dead_118 : decode cX12_dead 118 = .ok (.iadd, 1) := by decide +kernel
theorem dX12_dead_119 : decode cX12_dead 119 = .ok (.iaload, 1) := by decide +kernel
theorem dX12_dead_120 : decode cX12_dead 120 = .ok (.istore 8, 2) := by decide +kernel
theorem dX12_dead_122 : decode cX12_dead 122 = .ok (.goto (-42), 3) := by decide +kernel
theorem dX12_dead_125 : decode cX12_dead 125 = .ok (.iload 7, 2) := by decide +kernel
