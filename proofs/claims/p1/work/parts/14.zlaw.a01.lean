theorem dX12_feed_92 : decode cX12_feed 92 = .ok (.aload_n 0, 1) := by decide +kernel
theorem dX12_feed_93 : decode cX12_feed 93 = .ok (.getfield 317, 3) := by decide +kernel
theorem dX12_feed_96 : decode cX12_feed 96 = .ok (.lload_n 2, 1) := by decide +kernel
theorem dX12_feed_97 : decode cX12_feed 97 = .ok (.bipush 8, 2) := by decide +kernel
theorem dX12_feed_99 : decode cX12_feed 99 = .ok (.iload 5, 2) := by decide +kernel
theorem dX12_feed_101 : decode cX12_feed 101 = .ok (.imul, 1) := by decide +kernel
theorem dX12_feed_102 : decode cX12_feed 102 = .ok (.lshr, 1) := by decide +kernel
theorem dX12_feed_103 : decode cX12_feed 103 = .ok (.ldc2_w 441, 3) := by decide +kernel
theorem dX12_feed_106 : decode cX12_feed 106 = .ok (.land, 1) := by decide +kernel
theorem dX12_feed_107 : decode cX12_feed 107 = .ok (.l2i, 1) := by decide +kernel
theorem dX12_feed_108 : decode cX12_feed 108 = .ok (.iastore, 1) := by decide +kernel
theorem dX12_feed_109 : decode cX12_feed 109 = .ok (.aload_n 0, 1) := by decide +kernel
theorem dX12_feed_110 : decode cX12_feed 110 = .ok (.dup, 1) := by decide +kernel
theorem dX12_feed_111 : decode cX12_feed 111 = .ok (.getfield 317, 3) := by decide +kernel
theorem dX12_feed_114 : decode cX12_feed 114 = .ok (.iconst 1, 1) := by decide +kernel
theorem dX12_feed_115 : decode cX12_feed 115 = .ok (.iadd, 1) := by decide +kernel
theorem dX12_feed_116 : decode cX12_feed 116 = .ok (.putfield 317, 3) := by decide +kernel
theorem dX12_feed_119 : decode cX12_feed 119 = .ok (.iinc 5 (-1), 3) := by decide +kernel
theorem dX12_feed_122 : decode cX12_feed 122 = .ok (.goto (-39), 3) := by decide +kernel
theorem dX12_feed_125 : decode cX12_feed 125 = .ok (.aload_n 0, 1) := by decide +kernel
theorem dX12_feed_126 : decode cX12_feed 126 = .ok (.getfield 317, 3) := by decide +kernel
theorem dX12_feed_129 : decode cX12_feed 129 = .ok (.ireturn, 1) := by decide +kernel
theorem dX12_first_0 : decode cX12_first 0 = .ok (.aload_n 0, 1) := by decide +kernel
theorem dX12_first_1 : decode cX12_first 1 = .ok (.iconst 0, 1) := by decide +kernel
theorem dX12_first_2 : decode cX12_first 2 = .ok (.putfield 1, 3) := by decide +kernel
theorem dX12_first_5 : decode cX12_first 5 = .ok (.iload_n 1, 1) := by decide +kernel
theorem dX12_first_6 : decode cX12_first 6 = .ok (.iconst 1, 1) := by decide +kernel
theorem dX12_first_7 : decode cX12_first 7 = .ok (.bipush 63, 2) := by decide +kernel
theorem dX12_first_9 : decode cX12_first 9 = .ok (.invokestatic 7, 3) := by decide +kernel
theorem dX12_first_12 : decode cX12_first 12 = .ok (.ifCond .ne 6, 3) := by decide +kernel
theorem dX12_first_15 : decode cX12_first 15 = .ok (.bipush (-2), 2) := by decide +kernel
theorem dX12_first_17 : decode cX12_first 17 = .ok (.ireturn, 1) := by decide +kernel
theorem dX12_first_18 : decode cX12_first 18 = .ok (.iconst 0, 1) := by decide +kernel
theorem dX12_first_19 : decode cX12_first 19 = .ok (.istore 5, 2) := by decide +kernel
theorem dX12_first_21 : decode cX12_first 21 = .ok (.iconst 0, 1) := by decide +kernel
theorem dX12_first_22 : decode cX12_first 22 = .ok (.istore 6, 2) := by decide +kernel
theorem dX12_first_24 : decode cX12_first 24 = .ok (.iconst 0, 1) := by decide +kernel
theorem dX12_first_25 : decode cX12_first 25 = .ok (.istore 7, 2) := by decide +kernel
theorem dX12_first_27 : decode cX12_first 27 = .ok (.iload 7, 2) := by decide +kernel
theorem dX12_first_29 : decode cX12_first 29 = .ok (.bipush 6, 2) := by decide +kernel
theorem dX12_first_31 : decode cX12_first 31 = .ok (.if_icmp .ge 31, 3) := by decide +kernel
theorem dX12_first_34 : decode cX12_first 34 = .ok (.iload_n 1, 1) := by decide +kernel
theorem dX12_first_35 : decode cX12_first 35 = .ok (.iload 7, 2) := by decide +kernel
theorem dX12_first_37 : decode cX12_first 37 = .ok (.ishr, 1) := by decide +kernel
theorem dX12_first_38 : decode cX12_first 38 = .ok (.iconst 1, 1) := by decide +kernel
theorem dX12_first_39 : decode cX12_first 39 = .ok (.iand, 1) := by decide +kernel
theorem dX12_first_40 : decode cX12_first 40 = .ok (.iconst 1, 1) := by decide +kernel
theorem dX12_first_41 : decode cX12_first 41 = .ok (.if_icmp .ne 15, 3) := by decide +kernel
theorem dX12_first_44 : decode cX12_first 44 = .ok (.aload_n 0, 1) := by decide +kernel
theorem dX12_first_45 : decode cX12_first 45 = .ok (.iload 7, 2) := by decide +kernel
theorem dX12_first_47 : decode cX12_first 47 = .ok (.invokevirtual 459, 3) := by decide +kernel
theorem dX12_first_50 : decode cX12_first 50 = .ok (.ifCond .eq 6, 3) := by decide +kernel
theorem dX12_first_53 : decode cX12_first 53 = .ok (.bipush (-2), 2) := by decide +kernel
theorem dX12_first_55 : decode cX12_first 55 = .ok (.ireturn, 1) := by decide +kernel
theorem dX12_first_56 : decode cX12_first 56 = .ok (.iinc 7 1, 3) := by decide +kernel
theorem dX12_first_59 : decode cX12_first 59 = .ok (.goto (-32), 3) := by decide +kernel
theorem dX12_put__0 : decode cX12_put_ 0 = .ok (.aload_n 0, 1) := by decide +kernel
theorem dX12_put__1 : decode cX12_put_ 1 = .ok (.iconst 0, 1) := by decide +kernel
theorem dX12_put__2 : decode cX12_put_ 2 = .ok (.putfield 1, 3) := by decide +kernel
theorem dX12_put__5 : decode cX12_put_ 5 = .ok (.iload_n 1, 1) := by decide +kernel
theorem dX12_put__6 : decode cX12_put_ 6 = .ok (.iconst 0, 1) := by decide +kernel
theorem dX12_put__7 : decode cX12_put_ 7 = .ok (.iconst 3, 1) := by decide +kernel
theorem dX12_put__8 : decode cX12_put_ 8 = .ok (.invokestatic 7, 3) := by decide +kernel
theorem dX12_put__11 : decode cX12_put_ 11 = .ok (.ifCond .ne 6, 3) := by decide +kernel
theorem dX12_put__14 : decode cX12_put_ 14 = .ok (.bipush (-2), 2) := by decide +kernel
theorem dX12_put__16 : decode cX12_put_ 16 = .ok (.ireturn, 1) := by decide +kernel
theorem dX12_put__17 : decode cX12_put_ 17 = .ok (.iload_n 2, 1) := by decide +kernel
theorem dX12_put__18 : decode cX12_put_ 18 = .ok (.iconst 0, 1) := by decide +kernel
theorem dX12_put__19 : decode cX12_put_ 19 = .ok (.iconst 4, 1) := by decide +kernel
theorem dX12_put__20 : decode cX12_put_ 20 = .ok (.invokestatic 7, 3) := by decide +kernel
theorem dX12_put__23 : decode cX12_put_ 23 = .ok (.ifCond .ne 6, 3) := by decide +kernel
theorem dX12_put__26 : decode cX12_put_ 26 = .ok (.bipush (-4), 2) := by decide +kernel
theorem dX12_put__28 : decode cX12_put_ 28 = .ok (.ireturn, 1) := by decide +kernel
theorem dX12_put__29 : decode cX12_put_ 29 = .ok (.aload_n 0, 1) := by decide +kernel
theorem dX12_put__30 : decode cX12_put_ 30 = .ok (.getfield 171, 3) := by decide +kernel
theorem dX12_put__33 : decode cX12_put_ 33 = .ok (.iload_n 1, 1) := by decide +kernel
theorem dX12_put__34 : decode cX12_put_ 34 = .ok (.baload, 1) := by decide +kernel
theorem dX12_put__35 : decode cX12_put_ 35 = .ok (.ifCond .eq 12, 3) := by decide +kernel
theorem dX12_put__47 : decode cX12_put_ 47 = .ok (.iconst 0, 1) := by decide +kernel
theorem dX12_put__48 : decode cX12_put_ 48 = .ok (.istore 5, 2) := by decide +kernel
theorem dX12_put__50 : decode cX12_put_ 50 = .ok (.iload 5, 2) := by decide +kernel
theorem dX12_put__52 : decode cX12_put_ 52 = .ok (.iload_n 2, 1) := by decide +kernel
theorem dX12_put__53 : decode cX12_put_ 53 = .ok (.iadd, 1) := by decide +kernel
theorem dX12_put__54 : decode cX12_put_ 54 = .ok (.bipush 100, 2) := by decide +kernel
theorem dX12_put__56 : decode cX12_put_ 56 = .ok (.if_icmp .le 6, 3) := by decide +kernel
theorem dX12_put__62 : decode cX12_put_ 62 = .ok (.iconst 0, 1) := by decide +kernel
theorem dX12_put__63 : decode cX12_put_ 63 = .ok (.istore 6, 2) := by decide +kernel
theorem dX12_put__65 : decode cX12_put_ 65 = .ok (.iload 6, 2) := by decide +kernel
theorem dX12_put__67 : decode cX12_put_ 67 = .ok (.iload_n 2, 1) := by decide +kernel
theorem dX12_put__68 : decode cX12_put_ 68 = .ok (.if_icmp .ge 40, 3) := by decide +kernel
theorem dX12_put__71 : decode cX12_put_ 71 = .ok (.aload_n 0, 1) := by decide +kernel
theorem dX12_put__72 : decode cX12_put_ 72 = .ok (.getfield 177, 3) := by decide +kernel
theorem dX12_put__75 : decode cX12_put_ 75 = .ok (.bipush 100, 2) := by decide +kernel
theorem dX12_put__77 : decode cX12_put_ 77 = .ok (.iload_n 1, 1) := by decide +kernel
theorem dX12_put__78 : decode cX12_put_ 78 = .ok (.imul, 1) := by decide +kernel
theorem dX12_put__79 : decode cX12_put_ 79 = .ok (.iload 5, 2) := by decide +kernel
theorem dX12_put__81 : decode cX12_put_ 81 = .ok (.iadd, 1) := by decide +kernel
theorem dX12_put__82 : decode cX12_put_ 82 = .ok (.iload 6, 2) := by decide +kernel
theorem dX12_put__84 : decode cX12_put_ 84 = .ok (.iadd, 1) := by decide +kernel
theorem dX12_put__85 : decode cX12_put_ 85 = .ok (.lload_n 3, 1) := by decide +kernel
theorem dX12_put__86 : decode cX12_put_ 86 = .ok (.bipush 16, 2) := by decide +kernel
theorem dX12_put__88 : decode cX12_put_ 88 = .ok (.iload_n 2, 1) := by decide +kernel
theorem dX12_put__89 : decode cX12_put_ 89 = .ok (.iconst 1, 1) := by decide +kernel
theorem dX12_put__90 : decode cX12_put_ 90 = .ok (.isub, 1) := by decide +kernel
theorem dX12_put__91 : decode cX12_put_ 91 = .ok (.iload 6, 2) := by decide +kernel
theorem dX12_put__93 : decode cX12_put_ 93 = .ok (.isub, 1) := by decide +kernel
theorem dX12_put__94 : decode cX12_put_ 94 = .ok (.imul, 1) := by decide +kernel
theorem dX12_put__95 : decode cX12_put_ 95 = .ok (.lshr, 1) := by decide +kernel
theorem dX12_put__96 : decode cX12_put_ 96 = .ok (.ldc2_w 537, 3) := by decide +kernel
theorem dX12_put__99 : decode cX12_put_ 99 = .ok (.land, 1) := by decide +kernel
theorem dX12_put__100 : decode cX12_put_ 100 = .ok (.l2i, 1) := by decide +kernel
theorem dX12_put__101 : decode cX12_put_ 101 = .ok (.iastore, 1) := by decide +kernel
theorem dX12_put__102 : decode cX12_put_ 102 = .ok (.iinc 6 1, 3) := by decide +kernel
theorem dX12_put__105 : decode cX12_put_ 105 = .ok (.goto (-40), 3) := by decide +kernel
theorem dX12_put__108 : decode cX12_put_ 108 = .ok (.aload_n 0, 1) := by decide +kernel
theorem dX12_put__109 : decode cX12_put_ 109 = .ok (.getfield 171, 3) := by decide +kernel
theorem dX12_put__112 : decode cX12_put_ 112 = .ok (.iload_n 1, 1) := by decide +kernel
theorem dX12_put__113 : decode cX12_put_ 113 = .ok (.iconst 1, 1) := by decide +kernel
theorem dX12_put__114 : decode cX12_put_ 114 = .ok (.bastore, 1) := by decide +kernel
theorem dX12_put__115 : decode cX12_put_ 115 = .ok (.aload_n 0, 1) := by decide +kernel
theorem dX12_put__116 : decode cX12_put_ 116 = .ok (.getfield 174, 3) := by decide +kernel
theorem dX12_put__119 : decode cX12_put_ 119 = .ok (.iload_n 1, 1) := by decide +kernel
theorem dX12_put__120 : decode cX12_put_ 120 = .ok (.iload 5, 2) := by decide +kernel
theorem dX12_put__122 : decode cX12_put_ 122 = .ok (.iload_n 2, 1) := by decide +kernel
theorem dX12_put__123 : decode cX12_put_ 123 = .ok (.iadd, 1) := by decide +kernel
theorem dX12_put__124 : decode cX12_put_ 124 = .ok (.iastore, 1) := by decide +kernel
theorem dX12_put__125 : decode cX12_put_ 125 = .ok (.aload_n 0, 1) := by decide +kernel
theorem dX12_put__126 : decode cX12_put_ 126 = .ok (.aload_n 0, 1) := by decide +kernel
theorem dX12_put__127 : decode cX12_put_ 127 = .ok (.getfield 449, 3) := by decide +kernel
theorem dX12_put__130 : decode cX12_put_ 130 = .ok (.ifCond .eq 15, 3) := by decide +kernel
theorem dX12_put__145 : decode cX12_put_ 145 = .ok (.iconst 0, 1) := by decide +kernel
theorem dX12_put__146 : decode cX12_put_ 146 = .ok (.putfield 449, 3) := by decide +kernel
theorem dX12_put__149 : decode cX12_put_ 149 = .ok (.iload 5, 2) := by decide +kernel
theorem dX12_put__151 : decode cX12_put_ 151 = .ok (.iload_n 2, 1) := by decide +kernel
theorem dX12_put__152 : decode cX12_put_ 152 = .ok (.iadd, 1) := by decide +kernel
theorem dX12_put__153 : decode cX12_put_ 153 = .ok (.ireturn, 1) := by decide +kernel
theorem dX7_add_0 : decode cX7_add 0 = .ok (.aload_n 0, 1) := by decide +kernel
theorem dX7_add_1 : decode cX7_add 1 = .ok (.getfield 21, 3) := by decide +kernel
theorem dX7_add_4 : decode cX7_add 4 = .ok (.ifCond .lt 38, 3) := by decide +kernel
theorem dX7_add_7 : decode cX7_add 7 = .ok (.aload_n 0, 1) := by decide +kernel
theorem dX7_add_8 : decode cX7_add 8 = .ok (.getfield 21, 3) := by decide +kernel
theorem dX7_add_11 : decode cX7_add 11 = .ok (.aload_n 0, 1) := by decide +kernel
theorem dX7_add_12 : decode cX7_add 12 = .ok (.getfield 15, 3) := by decide +kernel
theorem dX7_add_15 : decode cX7_add 15 = .ok (.arraylength, 1) := by decide +kernel
theorem dX7_add_16 : decode cX7_add 16 = .ok (.if_icmp .ge 26, 3) := by decide +kernel
theorem dX7_add_19 : decode cX7_add 19 = .ok (.aload_n 0, 1) := by decide +kernel
theorem dX7_add_20 : decode cX7_add 20 = .ok (.getfield 15, 3) := by decide +kernel
theorem dX7_add_23 : decode cX7_add 23 = .ok (.aload_n 0, 1) := by decide +kernel
theorem dX7_add_24 : decode cX7_add 24 = .ok (.getfield 21, 3) := by decide +kernel
theorem dX7_add_27 : decode cX7_add 27 = .ok (.iload_n 1, 1) := by decide +kernel
theorem dX7_add_28 : decode cX7_add 28 = .ok (.iastore, 1) := by decide +kernel
theorem dX7_add_29 : decode cX7_add 29 = .ok (.aload_n 0, 1) := by decide +kernel
theorem dX7_add_30 : decode cX7_add 30 = .ok (.dup, 1) := by decide +kernel
theorem dX7_add_31 : decode cX7_add 31 = .ok (.getfield 21, 3) := by decide +kernel
theorem dX7_add_34 : decode cX7_add 34 = .ok (.iconst 1, 1) := by decide +kernel
theorem dX7_add_35 : decode cX7_add 35 = .ok (.iadd, 1) := by decide +kernel
theorem dX7_add_36 : decode cX7_add 36 = .ok (.putfield 21, 3) := by decide +kernel
theorem dX7_add_39 : decode cX7_add 39 = .ok (.goto 8, 3) := by decide +kernel
theorem dX7_add_47 : decode cX7_add 47 = .ok (.return_, 1) := by decide +kernel
