theorem dX12_putMember_20 : decode cX12_putMember 20 = .ok (.if_icmp .eq 27, 3) := by decide +kernel
theorem dX12_putMember_23 : decode cX12_putMember 23 = .ok (.iload_n 1, 1) := by decide +kernel
theorem dX12_putMember_24 : decode cX12_putMember 24 = .ok (.bipush 93, 2) := by decide +kernel
theorem dX12_putMember_26 : decode cX12_putMember 26 = .ok (.if_icmp .eq 21, 3) := by decide +kernel
theorem dX12_putMember_29 : decode cX12_putMember 29 = .ok (.iload_n 1, 1) := by decide +kernel
theorem dX12_putMember_30 : decode cX12_putMember 30 = .ok (.bipush 94, 2) := by decide +kernel
theorem dX12_putMember_32 : decode cX12_putMember 32 = .ok (.if_icmp .eq 15, 3) := by decide +kernel
theorem dX12_putMember_35 : decode cX12_putMember 35 = .ok (.iload_n 1, 1) := by decide +kernel
theorem dX12_putMember_36 : decode cX12_putMember 36 = .ok (.bipush 45, 2) := by decide +kernel
theorem dX12_putMember_38 : decode cX12_putMember 38 = .ok (.if_icmp .eq 9, 3) := by decide +kernel
theorem dX12_putMember_41 : decode cX12_putMember 41 = .ok (.iload_n 1, 1) := by decide +kernel
theorem dX12_putMember_42 : decode cX12_putMember 42 = .ok (.bipush 92, 2) := by decide +kernel
theorem dX12_putMember_44 : decode cX12_putMember 44 = .ok (.if_icmp .ne 9, 3) := by decide +kernel
theorem dX12_putMember_47 : decode cX12_putMember 47 = .ok (.aload_n 0, 1) := by decide +kernel
theorem dX12_putMember_48 : decode cX12_putMember 48 = .ok (.bipush 92, 2) := by decide +kernel
theorem dX12_putMember_50 : decode cX12_putMember 50 = .ok (.invokevirtual 468, 3) := by decide +kernel
theorem dX12_putMember_53 : decode cX12_putMember 53 = .ok (.aload_n 0, 1) := by decide +kernel
theorem dX12_putMember_54 : decode cX12_putMember 54 = .ok (.iload_n 1, 1) := by decide +kernel
theorem dX12_putMember_55 : decode cX12_putMember 55 = .ok (.invokevirtual 468, 3) := by decide +kernel
theorem dX12_putMember_58 : decode cX12_putMember 58 = .ok (.return_, 1) := by decide +kernel
theorem dX12_putNumber_0 : decode cX12_putNumber 0 = .ok (.iload_n 1, 1) := by decide +kernel
theorem dX12_putNumber_1 : decode cX12_putNumber 1 = .ok (.bipush 9, 2) := by decide +kernel
theorem dX12_putNumber_3 : decode cX12_putNumber 3 = .ok (.if_icmp .le 14, 3) := by decide +kernel
theorem dX12_putNumber_6 : decode cX12_putNumber 6 = .ok (.aload_n 0, 1) := by decide +kernel
theorem dX12_putNumber_7 : decode cX12_putNumber 7 = .ok (.bipush 48, 2) := by decide +kernel
theorem dX12_putNumber_9 : decode cX12_putNumber 9 = .ok (.iload_n 1, 1) := by decide +kernel
theorem dX12_putNumber_10 : decode cX12_putNumber 10 = .ok (.bipush 10, 2) := by decide +kernel
theorem dX12_putNumber_12 : decode cX12_putNumber 12 = .ok (.idiv, 1) := by decide +kernel
theorem dX12_putNumber_13 : decode cX12_putNumber 13 = .ok (.iadd, 1) := by decide +kernel
theorem dX12_putNumber_14 : decode cX12_putNumber 14 = .ok (.invokevirtual 468, 3) := by decide +kernel
theorem dX12_putNumber_17 : decode cX12_putNumber 17 = .ok (.aload_n 0, 1) := by decide +kernel
theorem dX12_putNumber_18 : decode cX12_putNumber 18 = .ok (.bipush 48, 2) := by decide +kernel
theorem dX12_putNumber_20 : decode cX12_putNumber 20 = .ok (.iload_n 1, 1) := by decide +kernel
theorem dX12_putNumber_21 : decode cX12_putNumber 21 = .ok (.bipush 10, 2) := by decide +kernel
theorem dX12_putNumber_23 : decode cX12_putNumber 23 = .ok (.irem, 1) := by decide +kernel
theorem dX12_putNumber_24 : decode cX12_putNumber 24 = .ok (.iadd, 1) := by decide +kernel
theorem dX12_putNumber_25 : decode cX12_putNumber 25 = .ok (.invokevirtual 468, 3) := by decide +kernel
theorem dX12_putNumber_28 : decode cX12_putNumber 28 = .ok (.return_, 1) := by decide +kernel
theorem dX12_put__0 : decode cX12_put_ 0 = .ok (.aload_n 0, 1) := by decide +kernel
theorem dX12_put__1 : decode cX12_put_ 1 = .ok (.iconst 0, 1) := by decide +kernel
theorem dX12_put__2 : decode cX12_put_ 2 = .ok (.putfield 1, 3) := by decide +kernel
theorem dX12_put__5 : decode cX12_put_ 5 = .ok (.iload_n 1, 1) := by decide +kernel
theorem dX12_put__6 : decode cX12_put_ 6 = .ok (.iconst 0, 1) := by decide +kernel
theorem dX12_put__7 : decode cX12_put_ 7 = .ok (.iconst 3, 1) := by decide +kernel
theorem dX12_put__8 : decode cX12_put_ 8 = .ok (.invokestatic 7, 3) := by decide +kernel
theorem dX12_put__11 : decode cX12_put_ 11 = .ok (.ifCond .ne 6, 3) := by decide +kernel
theorem dX12_put__14 : decode cX12_put_ 14 = .ok (.bipush (-2), 2) := by decide +kernel
theorem dX12_put__16 : decode cX12_put_ 16 = .ok (.ireturn, 1) := by decide +kernel
theorem dX12_put__17 : decode cX12_put_ 17 = .ok (.iload_n 2, 1) := by decide +kernel
theorem dX12_put__18 : decode cX12_put_ 18 = .ok (.iconst 0, 1) := by decide +kernel
theorem dX12_put__19 : decode cX12_put_ 19 = .ok (.iconst 4, 1) := by decide +kernel
theorem dX12_put__20 : decode cX12_put_ 20 = .ok (.invokestatic 7, 3) := by decide +kernel
theorem dX12_put__23 : decode cX12_put_ 23 = .ok (.ifCond .ne 6, 3) := by decide +kernel
theorem dX12_put__26 : decode cX12_put_ 26 = .ok (.bipush (-4), 2) := by decide +kernel
theorem dX12_put__28 : decode cX12_put_ 28 = .ok (.ireturn, 1) := by decide +kernel
theorem dX12_put__29 : decode cX12_put_ 29 = .ok (.aload_n 0, 1) := by decide +kernel
theorem dX12_put__30 : decode cX12_put_ 30 = .ok (.getfield 171, 3) := by decide +kernel
theorem dX12_put__33 : decode cX12_put_ 33 = .ok (.iload_n 1, 1) := by decide +kernel
theorem dX12_put__34 : decode cX12_put_ 34 = .ok (.baload, 1) := by decide +kernel
theorem dX12_put__35 : decode cX12_put_ 35 = .ok (.ifCond .eq 12, 3) := by decide +kernel
theorem dX12_put__38 : decode cX12_put_ 38 = .ok (.aload_n 0, 1) := by decide +kernel
theorem dX12_put__39 : decode cX12_put_ 39 = .ok (.getfield 174, 3) := by decide +kernel
theorem dX12_put__42 : decode cX12_put_ 42 = .ok (.iload_n 1, 1) := by decide +kernel
theorem dX12_put__43 : decode cX12_put_ 43 = .ok (.iaload, 1) := by decide +kernel
theorem dX12_put__44 : decode cX12_put_ 44 = .ok (.goto 4, 3) := by decide +kernel
theorem dX12_put__47 : decode cX12_put_ 47 = .ok (.iconst 0, 1) := by decide +kernel
theorem dX12_put__48 : decode cX12_put_ 48 = .ok (.istore 5, 2) := by decide +kernel
theorem dX12_put__50 : decode cX12_put_ 50 = .ok (.iload 5, 2) := by decide +kernel
theorem dX12_put__52 : decode cX12_put_ 52 = .ok (.iload_n 2, 1) := by decide +kernel
theorem dX12_put__53 : decode cX12_put_ 53 = .ok (.iadd, 1) := by decide +kernel
theorem dX12_put__54 : decode cX12_put_ 54 = .ok (.bipush 100, 2) := by decide +kernel
theorem dX12_put__56 : decode cX12_put_ 56 = .ok (.if_icmp .le 6, 3) := by decide +kernel
theorem dX12_put__59 : decode cX12_put_ 59 = .ok (.bipush (-9), 2) := by decide +kernel
theorem dX12_put__61 : decode cX12_put_ 61 = .ok (.ireturn, 1) := by decide +kernel
theorem dX12_put__62 : decode cX12_put_ 62 = .ok (.iconst 0, 1) := by decide +kernel
theorem dX12_put__63 : decode cX12_put_ 63 = .ok (.istore 6, 2) := by decide +kernel
theorem dX12_put__65 : decode cX12_put_ 65 = .ok (.iload 6, 2) := by decide +kernel
theorem dX12_put__67 : decode cX12_put_ 67 = .ok (.iload_n 2, 1) := by decide +kernel
theorem dX12_put__68 : decode cX12_put_ 68 = .ok (.if_icmp .ge 40, 3) := by decide +kernel
theorem dX12_put__71 : decode cX12_put_ 71 = .ok (.aload_n 0, 1) := by decide +kernel
theorem dX12_put__72 : decode cX12_put_ 72 = .ok (.getfield 177, 3) := by decide +kernel
theorem dX12_put__75 : decode cX12_put_ 75 = .ok (.bipush 100, 2) := by decide +kernel
theorem dX12_put__77 : decode cX12_put_ 77 = .ok (.iload_n 1, 1) := by decide +kernel
theorem dX12_put__78 : decode cX12_put_ 78 = .ok (.imul, 1) := by decide +kernel
theorem dX12_put__79 : decode cX12_put_ 79 = .ok (.iload 5, 2) := by decide +kernel
theorem dX12_put__81 : decode cX12_put_ 81 = .ok (.iadd, 1) := by decide +kernel
theorem dX12_put__82 : decode cX12_put_ 82 = .ok (.iload 6, 2) := by decide +kernel
theorem dX12_put__84 : decode cX12_put_ 84 = .ok (.iadd, 1) := by decide +kernel
theorem dX12_put__85 : decode cX12_put_ 85 = .ok (.lload_n 3, 1) := by decide +kernel
theorem dX12_put__86 : decode cX12_put_ 86 = .ok (.bipush 16, 2) := by decide +kernel
theorem dX12_put__88 : decode cX12_put_ 88 = .ok (.iload_n 2, 1) := by decide +kernel
theorem dX12_put__89 : decode cX12_put_ 89 = .ok (.iconst 1, 1) := by decide +kernel
theorem dX12_put__90 : decode cX12_put_ 90 = .ok (.isub, 1) := by decide +kernel
theorem dX12_put__91 : decode cX12_put_ 91 = .ok (.iload 6, 2) := by decide +kernel
theorem dX12_put__93 : decode cX12_put_ 93 = .ok (.isub, 1) := by decide +kernel
theorem dX12_put__94 : decode cX12_put_ 94 = .ok (.imul, 1) := by decide +kernel
theorem dX12_put__95 : decode cX12_put_ 95 = .ok (.lshr, 1) := by decide +kernel
theorem dX12_put__96 : decode cX12_put_ 96 = .ok (.ldc2_w 537, 3) := by decide +kernel
theorem dX12_put__99 : decode cX12_put_ 99 = .ok (.land, 1) := by decide +kernel
theorem dX12_put__100 : decode cX12_put_ 100 = .ok (.l2i, 1) := by decide +kernel
theorem dX12_put__101 : decode cX12_put_ 101 = .ok (.iastore, 1) := by decide +kernel
theorem dX12_put__102 : decode cX12_put_ 102 = .ok (.iinc 6 1, 3) := by decide +kernel
theorem dX12_put__105 : decode cX12_put_ 105 = .ok (.goto (-40), 3) := by decide +kernel
theorem dX12_put__108 : decode cX12_put_ 108 = .ok (.aload_n 0, 1) := by decide +kernel
theorem dX12_put__109 : decode cX12_put_ 109 = .ok (.getfield 171, 3) := by decide +kernel
theorem dX12_put__112 : decode cX12_put_ 112 = .ok (.iload_n 1, 1) := by decide +kernel
theorem dX12_put__113 : decode cX12_put_ 113 = .ok (.iconst 1, 1) := by decide +kernel
theorem dX12_put__114 : decode cX12_put_ 114 = .ok (.bastore, 1) := by decide +kernel
theorem dX12_put__115 : decode cX12_put_ 115 = .ok (.aload_n 0, 1) := by decide +kernel
theorem dX12_put__116 : decode cX12_put_ 116 = .ok (.getfield 174, 3) := by decide +kernel
theorem dX12_put__119 : decode cX12_put_ 119 = .ok (.iload_n 1, 1) := by decide +kernel
theorem dX12_put__120 : decode cX12_put_ 120 = .ok (.iload 5, 2) := by decide +kernel
theorem dX12_put__122 : decode cX12_put_ 122 = .ok (.iload_n 2, 1) := by decide +kernel
theorem dX12_put__123 : decode cX12_put_ 123 = .ok (.iadd, 1) := by decide +kernel
theorem dX12_put__124 : decode cX12_put_ 124 = .ok (.iastore, 1) := by decide +kernel
theorem dX12_put__125 : decode cX12_put_ 125 = .ok (.aload_n 0, 1) := by decide +kernel
theorem dX12_put__126 : decode cX12_put_ 126 = .ok (.aload_n 0, 1) := by decide +kernel
theorem dX12_put__127 : decode cX12_put_ 127 = .ok (.getfield 449, 3) := by decide +kernel
theorem dX12_put__130 : decode cX12_put_ 130 = .ok (.ifCond .eq 15, 3) := by decide +kernel
theorem dX12_put__133 : decode cX12_put_ 133 = .ok (.aload_n 0, 1) := by decide +kernel
theorem dX12_put__134 : decode cX12_put_ 134 = .ok (.getfield 539, 3) := by decide +kernel
theorem dX12_put__137 : decode cX12_put_ 137 = .ok (.iload_n 1, 1) := by decide +kernel
theorem dX12_put__138 : decode cX12_put_ 138 = .ok (.if_icmp .eq 7, 3) := by decide +kernel
theorem dX12_put__141 : decode cX12_put_ 141 = .ok (.iconst 1, 1) := by decide +kernel
theorem dX12_put__142 : decode cX12_put_ 142 = .ok (.goto 4, 3) := by decide +kernel
theorem dX12_put__145 : decode cX12_put_ 145 = .ok (.iconst 0, 1) := by decide +kernel
theorem dX12_put__146 : decode cX12_put_ 146 = .ok (.putfield 449, 3) := by decide +kernel
theorem dX12_put__149 : decode cX12_put_ 149 = .ok (.iload 5, 2) := by decide +kernel
theorem dX12_put__151 : decode cX12_put_ 151 = .ok (.iload_n 2, 1) := by decide +kernel
theorem dX12_put__152 : decode cX12_put_ 152 = .ok (.iadd, 1) := by decide +kernel
theorem dX12_put__153 : decode cX12_put_ 153 = .ok (.ireturn, 1) := by decide +kernel
theorem dX12_reach_0 : decode cX12_reach 0 = .ok (.iconst 0, 1) := by decide +kernel
theorem dX12_reach_1 : decode cX12_reach 1 = .ok (.istore_n 2, 1) := by decide +kernel
theorem dX12_reach_2 : decode cX12_reach 2 = .ok (.iload_n 2, 1) := by decide +kernel
theorem dX12_reach_3 : decode cX12_reach 3 = .ok (.aload_n 0, 1) := by decide +kernel
theorem dX12_reach_4 : decode cX12_reach 4 = .ok (.getfield 551, 3) := by decide +kernel
theorem dX12_reach_7 : decode cX12_reach 7 = .ok (.if_icmp .ge 16, 3) := by decide +kernel
theorem dX12_reach_10 : decode cX12_reach 10 = .ok (.aload_n 0, 1) := by decide +kernel
theorem dX12_reach_11 : decode cX12_reach 11 = .ok (.getfield 256, 3) := by decide +kernel
theorem dX12_reach_14 : decode cX12_reach 14 = .ok (.iload_n 2, 1) := by decide +kernel
theorem dX12_reach_15 : decode cX12_reach 15 = .ok (.iconst 0, 1) := by decide +kernel
theorem dX12_reach_16 : decode cX12_reach 16 = .ok (.bastore, 1) := by decide +kernel
theorem dX12_reach_17 : decode cX12_reach 17 = .ok (.iinc 2 1, 3) := by decide +kernel
theorem dX12_reach_20 : decode cX12_reach 20 = .ok (.goto (-18), 3) := by decide +kernel
theorem dX12_reach_23 : decode cX12_reach 23 = .ok (.aload_n 0, 1) := by decide +kernel
theorem dX12_reach_24 : decode cX12_reach 24 = .ok (.lconst 0, 1) := by decide +kernel
theorem dX12_reach_25 : decode cX12_reach 25 = .ok (.putfield 714, 3) := by decide +kernel
theorem dX12_reach_28 : decode cX12_reach 28 = .ok (.aload_n 0, 1) := by decide +kernel
theorem dX12_reach_29 : decode cX12_reach 29 = .ok (.iconst 0, 1) := by decide +kernel
theorem dX12_reach_30 : decode cX12_reach 30 = .ok (.putfield 718, 3) := by decide +kernel
theorem dX12_reach_33 : decode cX12_reach 33 = .ok (.iconst 1, 1) := by decide +kernel
theorem dX12_reach_34 : decode cX12_reach 34 = .ok (.istore_n 2, 1) := by decide +kernel
theorem dX12_reach_35 : decode cX12_reach 35 = .ok (.aload_n 0, 1) := by decide +kernel
theorem dX12_reach_36 : decode cX12_reach 36 = .ok (.getfield 259, 3) := by decide +kernel
theorem dX12_reach_39 : decode cX12_reach 39 = .ok (.iconst 0, 1) := by decide +kernel
theorem dX12_reach_40 : decode cX12_reach 40 = .ok (.iload_n 1, 1) := by decide +kernel
theorem dX12_reach_41 : decode cX12_reach 41 = .ok (.iastore, 1) := by decide +kernel
theorem dX12_reach_42 : decode cX12_reach 42 = .ok (.iload_n 2, 1) := by decide +kernel
theorem dX12_reach_43 : decode cX12_reach 43 = .ok (.ifCond .le 152, 3) := by decide +kernel
theorem dX12_reach_46 : decode cX12_reach 46 = .ok (.iinc 2 (-1), 3) := by decide +kernel
theorem dX12_reach_49 : decode cX12_reach 49 = .ok (.aload_n 0, 1) := by decide +kernel
theorem dX12_reach_50 : decode cX12_reach 50 = .ok (.getfield 259, 3) := by decide +kernel
theorem dX12_reach_53 : decode cX12_reach 53 = .ok (.iload_n 2, 1) := by decide +kernel
theorem dX12_reach_54 : decode cX12_reach 54 = .ok (.iaload, 1) := by decide +kernel
theorem dX12_reach_55 : decode cX12_reach 55 = .ok (.istore_n 3, 1) := by decide +kernel
theorem dX12_reach_56 : decode cX12_reach 56 = .ok (.aload_n 0, 1) := by decide +kernel
theorem dX12_reach_57 : decode cX12_reach 57 = .ok (.getfield 256, 3) := by decide +kernel
theorem dX12_reach_60 : decode cX12_reach 60 = .ok (.iload_n 3, 1) := by decide +kernel
theorem dX12_reach_61 : decode cX12_reach 61 = .ok (.baload, 1) := by decide +kernel
theorem dX12_reach_62 : decode cX12_reach 62 = .ok (.ifCond .ne 130, 3) := by decide +kernel
theorem dX12_reach_65 : decode cX12_reach 65 = .ok (.aload_n 0, 1) := by decide +kernel
theorem dX12_reach_66 : decode cX12_reach 66 = .ok (.getfield 256, 3) := by decide +kernel
theorem dX12_reach_69 : decode cX12_reach 69 = .ok (.iload_n 3, 1) := by decide +kernel
theorem dX12_reach_70 : decode cX12_reach 70 = .ok (.iconst 1, 1) := by decide +kernel
theorem dX12_reach_71 : decode cX12_reach 71 = .ok (.bastore, 1) := by decide +kernel
theorem dX12_reach_72 : decode cX12_reach 72 = .ok (.aload_n 0, 1) := by decide +kernel
theorem dX12_reach_73 : decode cX12_reach 73 = .ok (.getfield 180, 3) := by decide +kernel
theorem dX12_reach_76 : decode cX12_reach 76 = .ok (.iload_n 3, 1) := by decide +kernel
theorem dX12_reach_77 : decode cX12_reach 77 = .ok (.iaload, 1) := by decide +kernel
theorem dX12_reach_78 : decode cX12_reach 78 = .ok (.ifCond .ne 23, 3) := by decide +kernel
theorem dX12_reach_81 : decode cX12_reach 81 = .ok (.aload_n 0, 1) := by decide +kernel
theorem dX12_reach_82 : decode cX12_reach 82 = .ok (.aload_n 0, 1) := by decide +kernel
theorem dX12_reach_83 : decode cX12_reach 83 = .ok (.getfield 714, 3) := by decide +kernel
theorem dX12_reach_86 : decode cX12_reach 86 = .ok (.lconst 1, 1) := by decide +kernel
theorem dX12_reach_87 : decode cX12_reach 87 = .ok (.aload_n 0, 1) := by decide +kernel
theorem dX12_reach_88 : decode cX12_reach 88 = .ok (.getfield 250, 3) := by decide +kernel
theorem dX12_reach_91 : decode cX12_reach 91 = .ok (.iload_n 3, 1) := by decide +kernel
theorem dX12_reach_92 : decode cX12_reach 92 = .ok (.iaload, 1) := by decide +kernel
theorem dX12_reach_93 : decode cX12_reach 93 = .ok (.lshl, 1) := by decide +kernel
theorem dX12_reach_94 : decode cX12_reach 94 = .ok (.lor, 1) := by decide +kernel
theorem dX12_reach_95 : decode cX12_reach 95 = .ok (.putfield 714, 3) := by decide +kernel
theorem dX12_reach_98 : decode cX12_reach 98 = .ok (.goto 94, 3) := by decide +kernel
theorem dX12_reach_101 : decode cX12_reach 101 = .ok (.aload_n 0, 1) := by decide +kernel
theorem dX12_reach_102 : decode cX12_reach 102 = .ok (.getfield 180, 3) := by decide +kernel
theorem dX12_reach_105 : decode cX12_reach 105 = .ok (.iload_n 3, 1) := by decide +kernel
theorem dX12_reach_106 : decode cX12_reach 106 = .ok (.iaload, 1) := by decide +kernel
theorem dX12_reach_107 : decode cX12_reach 107 = .ok (.bipush 19, 2) := by decide +kernel
theorem dX12_reach_109 : decode cX12_reach 109 = .ok (.if_icmp .ne 11, 3) := by decide +kernel
theorem dX12_reach_112 : decode cX12_reach 112 = .ok (.aload_n 0, 1) := by decide +kernel
theorem dX12_reach_113 : decode cX12_reach 113 = .ok (.iconst 1, 1) := by decide +kernel
theorem dX12_reach_114 : decode cX12_reach 114 = .ok (.putfield 718, 3) := by decide +kernel
theorem dX12_reach_117 : decode cX12_reach 117 = .ok (.goto 75, 3) := by decide +kernel
theorem dX12_reach_120 : decode cX12_reach 120 = .ok (.aload_n 0, 1) := by decide +kernel
theorem dX12_reach_121 : decode cX12_reach 121 = .ok (.getfield 180, 3) := by decide +kernel
theorem dX12_reach_124 : decode cX12_reach 124 = .ok (.iload_n 3, 1) := by decide +kernel
theorem dX12_reach_125 : decode cX12_reach 125 = .ok (.iaload, 1) := by decide +kernel
theorem dX12_reach_126 : decode cX12_reach 126 = .ok (.iconst 5, 1) := by decide +kernel
theorem dX12_reach_127 : decode cX12_reach 127 = .ok (.if_icmp .eq 15, 3) := by decide +kernel
theorem dX12_reach_130 : decode cX12_reach 130 = .ok (.aload_n 0, 1) := by decide +kernel
theorem dX12_reach_131 : decode cX12_reach 131 = .ok (.getfield 259, 3) := by decide +kernel
theorem dX12_reach_134 : decode cX12_reach 134 = .ok (.iload_n 2, 1) := by decide +kernel
theorem dX12_reach_135 : decode cX12_reach 135 = .ok (.iload_n 3, 1) := by decide +kernel
theorem dX12_reach_136 : decode cX12_reach 136 = .ok (.iconst 1, 1) := by decide +kernel
theorem dX12_reach_137 : decode cX12_reach 137 = .ok (.iadd, 1) := by decide +kernel
theorem dX12_reach_138 : decode cX12_reach 138 = .ok (.iastore, 1) := by decide +kernel
theorem dX12_reach_139 : decode cX12_reach 139 = .ok (.iinc 2 1, 3) := by decide +kernel
theorem dX12_reach_142 : decode cX12_reach 142 = .ok (.aload_n 0, 1) := by decide +kernel
theorem dX12_reach_143 : decode cX12_reach 143 = .ok (.getfield 180, 3) := by decide +kernel
theorem dX12_reach_146 : decode cX12_reach 146 = .ok (.iload_n 3, 1) := by decide +kernel
theorem dX12_reach_147 : decode cX12_reach 147 = .ok (.iaload, 1) := by decide +kernel
theorem dX12_reach_148 : decode cX12_reach 148 = .ok (.iconst 5, 1) := by decide +kernel
theorem dX12_reach_149 : decode cX12_reach 149 = .ok (.if_icmp .eq 23, 3) := by decide +kernel
theorem dX12_reach_152 : decode cX12_reach 152 = .ok (.aload_n 0, 1) := by decide +kernel
theorem dX12_reach_153 : decode cX12_reach 153 = .ok (.getfield 180, 3) := by decide +kernel
theorem dX12_reach_156 : decode cX12_reach 156 = .ok (.iload_n 3, 1) := by decide +kernel
theorem dX12_reach_157 : decode cX12_reach 157 = .ok (.iaload, 1) := by decide +kernel
theorem dX12_reach_158 : decode cX12_reach 158 = .ok (.iconst 3, 1) := by decide +kernel
theorem dX12_reach_159 : decode cX12_reach 159 = .ok (.if_icmp .eq 13, 3) := by decide +kernel
theorem dX12_reach_162 : decode cX12_reach 162 = .ok (.aload_n 0, 1) := by decide +kernel
theorem dX12_reach_163 : decode cX12_reach 163 = .ok (.getfield 180, 3) := by decide +kernel
theorem dX12_reach_166 : decode cX12_reach 166 = .ok (.iload_n 3, 1) := by decide +kernel
theorem dX12_reach_167 : decode cX12_reach 167 = .ok (.iaload, 1) := by decide +kernel
theorem dX12_reach_168 : decode cX12_reach 168 = .ok (.iconst 4, 1) := by decide +kernel
theorem dX12_reach_169 : decode cX12_reach 169 = .ok (.if_icmp .ne 23, 3) := by decide +kernel
theorem dX12_reach_172 : decode cX12_reach 172 = .ok (.aload_n 0, 1) := by decide +kernel
theorem dX12_reach_173 : decode cX12_reach 173 = .ok (.getfield 259, 3) := by decide +kernel
theorem dX12_reach_176 : decode cX12_reach 176 = .ok (.iload_n 2, 1) := by decide +kernel
theorem dX12_reach_177 : decode cX12_reach 177 = .ok (.aload_n 0, 1) := by decide +kernel
theorem dX12_reach_178 : decode cX12_reach 178 = .ok (.getfield 189, 3) := by decide +kernel
theorem dX12_reach_181 : decode cX12_reach 181 = .ok (.aload_n 0, 1) := by decide +kernel
theorem dX12_reach_182 : decode cX12_reach 182 = .ok (.getfield 183, 3) := by decide +kernel
theorem dX12_reach_185 : decode cX12_reach 185 = .ok (.iload_n 3, 1) := by decide +kernel
theorem dX12_reach_186 : decode cX12_reach 186 = .ok (.iaload, 1) := by decide +kernel
theorem dX12_reach_187 : decode cX12_reach 187 = .ok (.iaload, 1) := by decide +kernel
theorem dX12_reach_188 : decode cX12_reach 188 = .ok (.iastore, 1) := by decide +kernel
theorem dX12_reach_189 : decode cX12_reach 189 = .ok (.iinc 2 1, 3) := by decide +kernel
theorem dX12_reach_192 : decode cX12_reach 192 = .ok (.goto (-150), 3) := by decide +kernel
theorem dX12_reach_195 : decode cX12_reach 195 = .ok (.return_, 1) := by decide +kernel
theorem dX12_readAll_0 : decode cX12_readAll 0 = .ok (.aload_n 0, 1) := by decide +kernel
theorem dX12_readAll_1 : decode cX12_readAll 1 = .ok (.iconst 0, 1) := by decide +kernel
theorem dX12_readAll_2 : decode cX12_readAll 2 = .ok (.putfield 326, 3) := by decide +kernel
theorem dX12_readAll_5 : decode cX12_readAll 5 = .ok (.aload_n 0, 1) := by decide +kernel
theorem dX12_readAll_6 : decode cX12_readAll 6 = .ok (.iconst 0, 1) := by decide +kernel
theorem dX12_readAll_7 : decode cX12_readAll 7 = .ok (.putfield 396, 3) := by decide +kernel
theorem dX12_readAll_10 : decode cX12_readAll 10 = .ok (.aload_n 0, 1) := by decide +kernel
theorem dX12_readAll_11 : decode cX12_readAll 11 = .ok (.iconst 0, 1) := by decide +kernel
theorem dX12_readAll_12 : decode cX12_readAll 12 = .ok (.putfield 377, 3) := by decide +kernel
theorem dX12_readAll_15 : decode cX12_readAll 15 = .ok (.aload_n 0, 1) := by decide +kernel
theorem dX12_readAll_16 : decode cX12_readAll 16 = .ok (.iconst 0, 1) := by decide +kernel
theorem dX12_readAll_17 : decode cX12_readAll 17 = .ok (.putfield 320, 3) := by decide +kernel
theorem dX12_readAll_20 : decode cX12_readAll 20 = .ok (.aload_n 0, 1) := by decide +kernel
theorem dX12_readAll_21 : decode cX12_readAll 21 = .ok (.iconst 0, 1) := by decide +kernel
theorem dX12_readAll_22 : decode cX12_readAll 22 = .ok (.putfield 362, 3) := by decide +kernel
theorem dX12_readAll_25 : decode cX12_readAll 25 = .ok (.aload_n 0, 1) := by decide +kernel
theorem dX12_readAll_26 : decode cX12_readAll 26 = .ok (.iconst 0, 1) := by decide +kernel
theorem dX12_readAll_27 : decode cX12_readAll 27 = .ok (.putfield 342, 3) := by decide +kernel
theorem dX12_readAll_30 : decode cX12_readAll 30 = .ok (.aload_n 0, 1) := by decide +kernel
theorem dX12_readAll_31 : decode cX12_readAll 31 = .ok (.iconst 0, 1) := by decide +kernel
theorem dX12_readAll_32 : decode cX12_readAll 32 = .ok (.putfield 329, 3) := by decide +kernel
theorem dX12_readAll_35 : decode cX12_readAll 35 = .ok (.aload_n 0, 1) := by decide +kernel
theorem dX12_readAll_36 : decode cX12_readAll 36 = .ok (.iconst 5, 1) := by decide +kernel
theorem dX12_readAll_37 : decode cX12_readAll 37 = .ok (.iconst 0, 1) := by decide +kernel
theorem dX12_readAll_38 : decode cX12_readAll 38 = .ok (.invokevirtual 383, 3) := by decide +kernel
theorem dX12_readAll_41 : decode cX12_readAll 41 = .ok (.aload_n 0, 1) := by decide +kernel
theorem dX12_readAll_42 : decode cX12_readAll 42 = .ok (.getfield 320, 3) := by decide +kernel
theorem dX12_readAll_45 : decode cX12_readAll 45 = .ok (.ifCond .ne 80, 3) := by decide +kernel
theorem dX12_readAll_48 : decode cX12_readAll 48 = .ok (.aload_n 0, 1) := by decide +kernel
theorem dX12_readAll_49 : decode cX12_readAll 49 = .ok (.getfield 362, 3) := by decide +kernel
theorem dX12_readAll_52 : decode cX12_readAll 52 = .ok (.aload_n 0, 1) := by decide +kernel
theorem dX12_readAll_53 : decode cX12_readAll 53 = .ok (.getfield 317, 3) := by decide +kernel
theorem dX12_readAll_56 : decode cX12_readAll 56 = .ok (.if_icmp .ge 69, 3) := by decide +kernel
theorem dX12_readAll_59 : decode cX12_readAll 59 = .ok (.aload_n 0, 1) := by decide +kernel
theorem dX12_readAll_60 : decode cX12_readAll 60 = .ok (.aload_n 0, 1) := by decide +kernel
theorem dX12_readAll_61 : decode cX12_readAll 61 = .ok (.getfield 362, 3) := by decide +kernel
theorem dX12_readAll_64 : decode cX12_readAll 64 = .ok (.invokevirtual 349, 3) := by decide +kernel
theorem dX12_readAll_67 : decode cX12_readAll 67 = .ok (.istore_n 1, 1) := by decide +kernel
theorem dX12_readAll_68 : decode cX12_readAll 68 = .ok (.iload_n 1, 1) := by decide +kernel
theorem dX12_readAll_69 : decode cX12_readAll 69 = .ok (.bipush 124, 2) := by decide +kernel
theorem dX12_readAll_71 : decode cX12_readAll 71 = .ok (.if_icmp .ne 20, 3) := by decide +kernel
theorem dX12_readAll_74 : decode cX12_readAll 74 = .ok (.aload_n 0, 1) := by decide +kernel
theorem dX12_readAll_75 : decode cX12_readAll 75 = .ok (.invokevirtual 339, 3) := by decide +kernel
theorem dX12_readAll_78 : decode cX12_readAll 78 = .ok (.aload_n 0, 1) := by decide +kernel
theorem dX12_readAll_79 : decode cX12_readAll 79 = .ok (.dup, 1) := by decide +kernel
theorem dX12_readAll_80 : decode cX12_readAll 80 = .ok (.getfield 362, 3) := by decide +kernel
theorem dX12_readAll_83 : decode cX12_readAll 83 = .ok (.iconst 1, 1) := by decide +kernel
theorem dX12_readAll_84 : decode cX12_readAll 84 = .ok (.iadd, 1) := by decide +kernel
theorem dX12_readAll_85 : decode cX12_readAll 85 = .ok (.putfield 362, 3) := by decide +kernel
theorem dX12_readAll_88 : decode cX12_readAll 88 = .ok (.goto 34, 3) := by decide +kernel
theorem dX12_readAll_91 : decode cX12_readAll 91 = .ok (.iload_n 1, 1) := by decide +kernel
theorem dX12_readAll_92 : decode cX12_readAll 92 = .ok (.bipush 41, 2) := by decide +kernel
theorem dX12_readAll_94 : decode cX12_readAll 94 = .ok (.if_icmp .ne 10, 3) := by decide +kernel
theorem dX12_readAll_97 : decode cX12_readAll 97 = .ok (.aload_n 0, 1) := by decide +kernel
theorem dX12_readAll_98 : decode cX12_readAll 98 = .ok (.invokevirtual 426, 3) := by decide +kernel
theorem dX12_readAll_101 : decode cX12_readAll 101 = .ok (.goto 21, 3) := by decide +kernel
theorem dX12_readAll_104 : decode cX12_readAll 104 = .ok (.iload_n 1, 1) := by decide +kernel
theorem dX12_readAll_105 : decode cX12_readAll 105 = .ok (.bipush 40, 2) := by decide +kernel
theorem dX12_readAll_107 : decode cX12_readAll 107 = .ok (.if_icmp .ne 10, 3) := by decide +kernel
theorem dX12_readAll_110 : decode cX12_readAll 110 = .ok (.aload_n 0, 1) := by decide +kernel
theorem dX12_readAll_111 : decode cX12_readAll 111 = .ok (.invokevirtual 429, 3) := by decide +kernel
theorem dX12_readAll_114 : decode cX12_readAll 114 = .ok (.goto 8, 3) := by decide +kernel
theorem dX12_readAll_117 : decode cX12_readAll 117 = .ok (.aload_n 0, 1) := by decide +kernel
theorem dX12_readAll_118 : decode cX12_readAll 118 = .ok (.iload_n 1, 1) := by decide +kernel
theorem dX12_readAll_119 : decode cX12_readAll 119 = .ok (.invokevirtual 432, 3) := by decide +kernel
theorem dX12_readAll_122 : decode cX12_readAll 122 = .ok (.goto (-81), 3) := by decide +kernel
theorem dX12_readAll_125 : decode cX12_readAll 125 = .ok (.aload_n 0, 1) := by decide +kernel
theorem dX12_readAll_126 : decode cX12_readAll 126 = .ok (.getfield 329, 3) := by decide +kernel
theorem dX12_readAll_129 : decode cX12_readAll 129 = .ok (.ifCond .le 12, 3) := by decide +kernel
theorem dX12_readAll_132 : decode cX12_readAll 132 = .ok (.aload_n 0, 1) := by decide +kernel
theorem dX12_readAll_133 : decode cX12_readAll 133 = .ok (.iconst 1, 1) := by decide +kernel
theorem dX12_readAll_134 : decode cX12_readAll 134 = .ok (.aload_n 0, 1) := by decide +kernel
theorem dX12_readAll_135 : decode cX12_readAll 135 = .ok (.getfield 317, 3) := by decide +kernel
theorem dX12_readAll_138 : decode cX12_readAll 138 = .ok (.invokevirtual 345, 3) := by decide +kernel
theorem dX12_readAll_141 : decode cX12_readAll 141 = .ok (.aload_n 0, 1) := by decide +kernel
theorem dX12_readAll_142 : decode cX12_readAll 142 = .ok (.getfield 320, 3) := by decide +kernel
theorem dX12_readAll_145 : decode cX12_readAll 145 = .ok (.ifCond .ne 10, 3) := by decide +kernel
theorem dX12_readAll_148 : decode cX12_readAll 148 = .ok (.aload_n 0, 1) := by decide +kernel
theorem dX12_readAll_149 : decode cX12_readAll 149 = .ok (.invokevirtual 386, 3) := by decide +kernel
theorem dX12_readAll_152 : decode cX12_readAll 152 = .ok (.goto 4, 3) := by decide +kernel
theorem dX12_readAll_155 : decode cX12_readAll 155 = .ok (.iconst (-1), 1) := by decide +kernel
theorem dX12_readAll_156 : decode cX12_readAll 156 = .ok (.ireturn, 1) := by decide +kernel
theorem dX12_readOne_0 : decode cX12_readOne 0 = .ok (.iload_n 1, 1) := by decide +kernel
theorem dX12_readOne_1 : decode cX12_readOne 1 = .ok (.bipush 42, 2) := by decide +kernel
theorem dX12_readOne_3 : decode cX12_readOne 3 = .ok (.if_icmp .eq 33, 3) := by decide +kernel
theorem dX12_readOne_6 : decode cX12_readOne 6 = .ok (.iload_n 1, 1) := by decide +kernel
theorem dX12_readOne_7 : decode cX12_readOne 7 = .ok (.bipush 43, 2) := by decide +kernel
theorem dX12_readOne_9 : decode cX12_readOne 9 = .ok (.if_icmp .eq 27, 3) := by decide +kernel
theorem dX12_readOne_12 : decode cX12_readOne 12 = .ok (.iload_n 1, 1) := by decide +kernel
theorem dX12_readOne_13 : decode cX12_readOne 13 = .ok (.bipush 63, 2) := by decide +kernel
theorem dX12_readOne_15 : decode cX12_readOne 15 = .ok (.if_icmp .eq 21, 3) := by decide +kernel
theorem dX12_readOne_18 : decode cX12_readOne 18 = .ok (.iload_n 1, 1) := by decide +kernel
theorem dX12_readOne_19 : decode cX12_readOne 19 = .ok (.bipush 123, 2) := by decide +kernel
theorem dX12_readOne_21 : decode cX12_readOne 21 = .ok (.if_icmp .eq 15, 3) := by decide +kernel
theorem dX12_readOne_24 : decode cX12_readOne 24 = .ok (.iload_n 1, 1) := by decide +kernel
theorem dX12_readOne_25 : decode cX12_readOne 25 = .ok (.bipush 125, 2) := by decide +kernel
theorem dX12_readOne_27 : decode cX12_readOne 27 = .ok (.if_icmp .eq 9, 3) := by decide +kernel
theorem dX12_readOne_30 : decode cX12_readOne 30 = .ok (.iload_n 1, 1) := by decide +kernel
theorem dX12_readOne_31 : decode cX12_readOne 31 = .ok (.bipush 93, 2) := by decide +kernel
theorem dX12_readOne_33 : decode cX12_readOne 33 = .ok (.if_icmp .ne 13, 3) := by decide +kernel
theorem dX12_readOne_36 : decode cX12_readOne 36 = .ok (.aload_n 0, 1) := by decide +kernel
theorem dX12_readOne_37 : decode cX12_readOne 37 = .ok (.iconst 1, 1) := by decide +kernel
theorem dX12_readOne_38 : decode cX12_readOne 38 = .ok (.aload_n 0, 1) := by decide +kernel
theorem dX12_readOne_39 : decode cX12_readOne 39 = .ok (.getfield 362, 3) := by decide +kernel
theorem dX12_readOne_42 : decode cX12_readOne 42 = .ok (.invokevirtual 345, 3) := by decide +kernel
theorem dX12_readOne_45 : decode cX12_readOne 45 = .ok (.return_, 1) := by decide +kernel
theorem dX12_readOne_46 : decode cX12_readOne 46 = .ok (.aload_n 0, 1) := by decide +kernel
theorem dX12_readOne_47 : decode cX12_readOne 47 = .ok (.aload_n 0, 1) := by decide +kernel
theorem dX12_readOne_48 : decode cX12_readOne 48 = .ok (.getfield 362, 3) := by decide +kernel
theorem dX12_readOne_51 : decode cX12_readOne 51 = .ok (.invokevirtual 365, 3) := by decide +kernel
theorem dX12_readOne_54 : decode cX12_readOne 54 = .ok (.aload_n 0, 1) := by decide +kernel
theorem dX12_readOne_55 : decode cX12_readOne 55 = .ok (.getfield 320, 3) := by decide +kernel
theorem dX12_readOne_58 : decode cX12_readOne 58 = .ok (.ifCond .le 4, 3) := by decide +kernel
theorem dX12_readOne_61 : decode cX12_readOne 61 = .ok (.return_, 1) := by decide +kernel
theorem dX12_readOne_62 : decode cX12_readOne 62 = .ok (.iconst (-1), 1) := by decide +kernel
theorem dX12_readOne_63 : decode cX12_readOne 63 = .ok (.istore_n 2, 1) := by decide +kernel
theorem dX12_readOne_64 : decode cX12_readOne 64 = .ok (.iload_n 1, 1) := by decide +kernel
theorem dX12_readOne_65 : decode cX12_readOne 65 = .ok (.bipush 92, 2) := by decide +kernel
theorem dX12_readOne_67 : decode cX12_readOne 67 = .ok (.if_icmp .ne 11, 3) := by decide +kernel
theorem dX12_readOne_70 : decode cX12_readOne 70 = .ok (.aload_n 0, 1) := by decide +kernel
theorem dX12_readOne_71 : decode cX12_readOne 71 = .ok (.invokevirtual 420, 3) := by decide +kernel
theorem dX12_readOne_74 : decode cX12_readOne 74 = .ok (.istore_n 2, 1) := by decide +kernel
theorem dX12_readOne_75 : decode cX12_readOne 75 = .ok (.goto 79, 3) := by decide +kernel
theorem dX12_readOne_78 : decode cX12_readOne 78 = .ok (.iload_n 1, 1) := by decide +kernel
theorem dX12_readOne_79 : decode cX12_readOne 79 = .ok (.bipush 91, 2) := by decide +kernel
theorem dX12_readOne_81 : decode cX12_readOne 81 = .ok (.if_icmp .ne 11, 3) := by decide +kernel
theorem dX12_readOne_84 : decode cX12_readOne 84 = .ok (.aload_n 0, 1) := by decide +kernel
theorem dX12_readOne_85 : decode cX12_readOne 85 = .ok (.invokevirtual 423, 3) := by decide +kernel
theorem dX12_readOne_88 : decode cX12_readOne 88 = .ok (.istore_n 2, 1) := by decide +kernel
theorem dX12_readOne_89 : decode cX12_readOne 89 = .ok (.goto 65, 3) := by decide +kernel
theorem dX12_readOne_92 : decode cX12_readOne 92 = .ok (.aload_n 0, 1) := by decide +kernel
theorem dX12_readOne_93 : decode cX12_readOne 93 = .ok (.dup, 1) := by decide +kernel
theorem dX12_readOne_94 : decode cX12_readOne 94 = .ok (.getfield 362, 3) := by decide +kernel
theorem dX12_readOne_97 : decode cX12_readOne 97 = .ok (.iconst 1, 1) := by decide +kernel
theorem dX12_readOne_98 : decode cX12_readOne 98 = .ok (.iadd, 1) := by decide +kernel
theorem dX12_readOne_99 : decode cX12_readOne 99 = .ok (.putfield 362, 3) := by decide +kernel
theorem dX12_readOne_102 : decode cX12_readOne 102 = .ok (.iload_n 1, 1) := by decide +kernel
theorem dX12_readOne_103 : decode cX12_readOne 103 = .ok (.bipush 46, 2) := by decide +kernel
theorem dX12_readOne_105 : decode cX12_readOne 105 = .ok (.if_icmp .ne 12, 3) := by decide +kernel
theorem dX12_readOne_108 : decode cX12_readOne 108 = .ok (.aload_n 0, 1) := by decide +kernel
theorem dX12_readOne_109 : decode cX12_readOne 109 = .ok (.iconst 1, 1) := by decide +kernel
theorem dX12_readOne_110 : decode cX12_readOne 110 = .ok (.iconst 0, 1) := by decide +kernel
theorem dX12_readOne_111 : decode cX12_readOne 111 = .ok (.invokevirtual 335, 3) := by decide +kernel
theorem dX12_readOne_114 : decode cX12_readOne 114 = .ok (.goto 39, 3) := by decide +kernel
theorem dX12_readOne_117 : decode cX12_readOne 117 = .ok (.iload_n 1, 1) := by decide +kernel
theorem dX12_readOne_118 : decode cX12_readOne 118 = .ok (.bipush 94, 2) := by decide +kernel
theorem dX12_readOne_120 : decode cX12_readOne 120 = .ok (.if_icmp .ne 12, 3) := by decide +kernel
theorem dX12_readOne_123 : decode cX12_readOne 123 = .ok (.aload_n 0, 1) := by decide +kernel
theorem dX12_readOne_124 : decode cX12_readOne 124 = .ok (.iconst 3, 1) := by decide +kernel
theorem dX12_readOne_125 : decode cX12_readOne 125 = .ok (.iconst 0, 1) := by decide +kernel
theorem dX12_readOne_126 : decode cX12_readOne 126 = .ok (.invokevirtual 335, 3) := by decide +kernel
theorem dX12_readOne_129 : decode cX12_readOne 129 = .ok (.goto 24, 3) := by decide +kernel
theorem dX12_readOne_132 : decode cX12_readOne 132 = .ok (.iload_n 1, 1) := by decide +kernel
theorem dX12_readOne_133 : decode cX12_readOne 133 = .ok (.bipush 36, 2) := by decide +kernel
theorem dX12_readOne_135 : decode cX12_readOne 135 = .ok (.if_icmp .ne 12, 3) := by decide +kernel
theorem dX12_readOne_138 : decode cX12_readOne 138 = .ok (.aload_n 0, 1) := by decide +kernel
theorem dX12_readOne_139 : decode cX12_readOne 139 = .ok (.iconst 3, 1) := by decide +kernel
theorem dX12_readOne_140 : decode cX12_readOne 140 = .ok (.iconst 1, 1) := by decide +kernel
theorem dX12_readOne_141 : decode cX12_readOne 141 = .ok (.invokevirtual 335, 3) := by decide +kernel
theorem dX12_readOne_144 : decode cX12_readOne 144 = .ok (.goto 9, 3) := by decide +kernel
theorem dX12_readOne_147 : decode cX12_readOne 147 = .ok (.aload_n 0, 1) := by decide +kernel
theorem dX12_readOne_148 : decode cX12_readOne 148 = .ok (.iconst 0, 1) := by decide +kernel
theorem dX12_readOne_149 : decode cX12_readOne 149 = .ok (.iload_n 1, 1) := by decide +kernel
theorem dX12_readOne_150 : decode cX12_readOne 150 = .ok (.invokevirtual 335, 3) := by decide +kernel
theorem dX12_readOne_153 : decode cX12_readOne 153 = .ok (.istore_n 2, 1) := by decide +kernel
theorem dX12_readOne_154 : decode cX12_readOne 154 = .ok (.aload_n 0, 1) := by decide +kernel
theorem dX12_readOne_155 : decode cX12_readOne 155 = .ok (.aload_n 0, 1) := by decide +kernel
theorem dX12_readOne_156 : decode cX12_readOne 156 = .ok (.iload_n 2, 1) := by decide +kernel
theorem dX12_readOne_157 : decode cX12_readOne 157 = .ok (.invokevirtual 390, 3) := by decide +kernel
theorem dX12_readOne_160 : decode cX12_readOne 160 = .ok (.invokevirtual 393, 3) := by decide +kernel
theorem dX12_readOne_163 : decode cX12_readOne 163 = .ok (.return_, 1) := by decide +kernel
theorem dX12_readSet_0 : decode cX12_readSet 0 = .ok (.aload_n 0, 1) := by decide +kernel
theorem dX12_readSet_1 : decode cX12_readSet 1 = .ok (.getfield 396, 3) := by decide +kernel
theorem dX12_readSet_4 : decode cX12_readSet 4 = .ok (.istore_n 1, 1) := by decide +kernel
theorem dX12_readSet_5 : decode cX12_readSet 5 = .ok (.aload_n 0, 1) := by decide +kernel
theorem dX12_readSet_6 : decode cX12_readSet 6 = .ok (.getfield 362, 3) := by decide +kernel
theorem dX12_readSet_9 : decode cX12_readSet 9 = .ok (.iconst 1, 1) := by decide +kernel
theorem dX12_readSet_10 : decode cX12_readSet 10 = .ok (.iadd, 1) := by decide +kernel
theorem dX12_readSet_11 : decode cX12_readSet 11 = .ok (.istore_n 2, 1) := by decide +kernel
theorem dX12_readSet_12 : decode cX12_readSet 12 = .ok (.aload_n 0, 1) := by decide +kernel
theorem dX12_readSet_13 : decode cX12_readSet 13 = .ok (.iload_n 2, 1) := by decide +kernel
theorem dX12_readSet_14 : decode cX12_readSet 14 = .ok (.invokevirtual 349, 3) := by decide +kernel
theorem dX12_readSet_17 : decode cX12_readSet 17 = .ok (.bipush 94, 2) := by decide +kernel
theorem dX12_readSet_19 : decode cX12_readSet 19 = .ok (.if_icmp .ne 7, 3) := by decide +kernel
theorem dX12_readSet_22 : decode cX12_readSet 22 = .ok (.iconst 1, 1) := by decide +kernel
theorem dX12_readSet_23 : decode cX12_readSet 23 = .ok (.goto 4, 3) := by decide +kernel
theorem dX12_readSet_26 : decode cX12_readSet 26 = .ok (.iconst 0, 1) := by decide +kernel
theorem dX12_readSet_27 : decode cX12_readSet 27 = .ok (.istore_n 3, 1) := by decide +kernel
theorem dX12_readSet_28 : decode cX12_readSet 28 = .ok (.iload_n 2, 1) := by decide +kernel
theorem dX12_readSet_29 : decode cX12_readSet 29 = .ok (.iload_n 3, 1) := by decide +kernel
theorem dX12_readSet_30 : decode cX12_readSet 30 = .ok (.ifCond .eq 7, 3) := by decide +kernel
theorem dX12_readSet_33 : decode cX12_readSet 33 = .ok (.iconst 1, 1) := by decide +kernel
theorem dX12_readSet_34 : decode cX12_readSet 34 = .ok (.goto 4, 3) := by decide +kernel
theorem dX12_readSet_37 : decode cX12_readSet 37 = .ok (.iconst 0, 1) := by decide +kernel
theorem dX12_readSet_38 : decode cX12_readSet 38 = .ok (.iadd, 1) := by decide +kernel
theorem dX12_readSet_39 : decode cX12_readSet 39 = .ok (.istore_n 2, 1) := by decide +kernel
theorem dX12_readSet_40 : decode cX12_readSet 40 = .ok (.iconst 1, 1) := by decide +kernel
theorem dX12_readSet_41 : decode cX12_readSet 41 = .ok (.istore 4, 2) := by decide +kernel
theorem dX12_readSet_43 : decode cX12_readSet 43 = .ok (.iload 4, 2) := by decide +kernel
theorem dX12_readSet_45 : decode cX12_readSet 45 = .ok (.ifCond .eq 118, 3) := by decide +kernel
theorem dX12_readSet_48 : decode cX12_readSet 48 = .ok (.aload_n 0, 1) := by decide +kernel
theorem dX12_readSet_49 : decode cX12_readSet 49 = .ok (.getfield 320, 3) := by decide +kernel
