theorem dX11_areThere_0 : decode cX11_areThere 0 = .ok (.iconst 0, 1) := by decide +kernel
theorem dX11_areThere_1 : decode cX11_areThere 1 = .ok (.istore_n 2, 1) := by decide +kernel
theorem dX11_areThere_2 : decode cX11_areThere 2 = .ok (.iload_n 2, 1) := by decide +kernel
theorem dX11_areThere_3 : decode cX11_areThere 3 = .ok (.bipush 6, 2) := by decide +kernel
theorem dX11_areThere_5 : decode cX11_areThere 5 = .ok (.if_icmp .ge 27, 3) := by decide +kernel
theorem dX11_areThere_8 : decode cX11_areThere 8 = .ok (.iload_n 1, 1) := by decide +kernel
theorem dX11_areThere_9 : decode cX11_areThere 9 = .ok (.iload_n 2, 1) := by decide +kernel
theorem dX11_areThere_10 : decode cX11_areThere 10 = .ok (.invokestatic 361, 3) := by decide +kernel
theorem dX11_areThere_13 : decode cX11_areThere 13 = .ok (.ifCond .eq 13, 3) := by decide +kernel
theorem dX11_areThere_16 : decode cX11_areThere 16 = .ok (.aload_n 0, 1) := by decide +kernel
theorem dX11_areThere_17 : decode cX11_areThere 17 = .ok (.iload_n 2, 1) := by decide +kernel
theorem dX11_areThere_18 : decode cX11_areThere 18 = .ok (.invokevirtual 128, 3) := by decide +kernel
theorem dX11_areThere_21 : decode cX11_areThere 21 = .ok (.ifnonnull 5, 3) := by decide +kernel
theorem dX11_areThere_24 : decode cX11_areThere 24 = .ok (.iconst 0, 1) := by decide +kernel
theorem dX11_areThere_25 : decode cX11_areThere 25 = .ok (.ireturn, 1) := by decide +kernel
theorem dX11_areThere_26 : decode cX11_areThere 26 = .ok (.iinc 2 1, 3) := by decide +kernel
theorem dX11_areThere_29 : decode cX11_areThere 29 = .ok (.goto (-27), 3) := by decide +kernel
theorem dX11_areThere_32 : decode cX11_areThere 32 = .ok (.iconst 1, 1) := by decide +kernel
theorem dX11_areThere_33 : decode cX11_areThere 33 = .ok (.ireturn, 1) := by decide +kernel
theorem dX11_begins_0 : decode cX11_begins 0 = .ok (.aload_n 0, 1) := by decide +kernel
theorem dX11_begins_1 : decode cX11_begins 1 = .ok (.iload_n 1, 1) := by decide +kernel
theorem dX11_begins_2 : decode cX11_begins 2 = .ok (.invokevirtual 128, 3) := by decide +kernel
theorem dX11_begins_5 : decode cX11_begins 5 = .ok (.astore_n 3, 1) := by decide +kernel
theorem dX11_begins_6 : decode cX11_begins 6 = .ok (.aload_n 3, 1) := by decide +kernel
theorem dX11_begins_7 : decode cX11_begins 7 = .ok (.ifnonnull 6, 3) := by decide +kernel
theorem dX11_begins_10 : decode cX11_begins 10 = .ok (.bipush (-2), 2) := by decide +kernel
theorem dX11_begins_12 : decode cX11_begins 12 = .ok (.ireturn, 1) := by decide +kernel
theorem dX11_begins_13 : decode cX11_begins 13 = .ok (.iload_n 2, 1) := by decide +kernel
theorem dX11_begins_14 : decode cX11_begins 14 = .ok (.ifCond .lt 9, 3) := by decide +kernel
theorem dX11_begins_17 : decode cX11_begins 17 = .ok (.iload_n 2, 1) := by decide +kernel
theorem dX11_begins_18 : decode cX11_begins 18 = .ok (.ldc 178, 2) := by decide +kernel
theorem dX11_begins_20 : decode cX11_begins 20 = .ok (.if_icmp .le 6, 3) := by decide +kernel
theorem dX11_begins_23 : decode cX11_begins 23 = .ok (.bipush (-4), 2) := by decide +kernel
theorem dX11_begins_25 : decode cX11_begins 25 = .ok (.ireturn, 1) := by decide +kernel
theorem dX11_begins_26 : decode cX11_begins 26 = .ok (.aload_n 3, 1) := by decide +kernel
theorem dX11_begins_27 : decode cX11_begins 27 = .ok (.iload_n 2, 1) := by decide +kernel
theorem dX11_begins_28 : decode cX11_begins 28 = .ok (.invokevirtual 179, 3) := by decide +kernel
theorem dX11_begins_31 : decode cX11_begins 31 = .ok (.aload_n 3, 1) := by decide +kernel
theorem dX11_begins_32 : decode cX11_begins 32 = .ok (.iconst 0, 1) := by decide +kernel
theorem dX11_begins_33 : decode cX11_begins 33 = .ok (.invokevirtual 182, 3) := by decide +kernel
theorem dX11_begins_36 : decode cX11_begins 36 = .ok (.ifCond .eq 7, 3) := by decide +kernel
theorem dX11_begins_39 : decode cX11_begins 39 = .ok (.iconst 1, 1) := by decide +kernel
theorem dX11_begins_40 : decode cX11_begins 40 = .ok (.goto 4, 3) := by decide +kernel
theorem dX11_begins_43 : decode cX11_begins 43 = .ok (.iconst 0, 1) := by decide +kernel
theorem dX11_begins_44 : decode cX11_begins 44 = .ok (.ireturn, 1) := by decide +kernel
theorem dX11_byteOf_0 : decode cX11_byteOf 0 = .ok (.lload_n 0, 1) := by decide +kernel
theorem dX11_byteOf_1 : decode cX11_byteOf 1 = .ok (.bipush 8, 2) := by decide +kernel
theorem dX11_byteOf_3 : decode cX11_byteOf 3 = .ok (.iload_n 2, 1) := by decide +kernel
theorem dX11_byteOf_4 : decode cX11_byteOf 4 = .ok (.imul, 1) := by decide +kernel
theorem dX11_byteOf_5 : decode cX11_byteOf 5 = .ok (.lushr, 1) := by decide +kernel
theorem dX11_byteOf_6 : decode cX11_byteOf 6 = .ok (.l2i, 1) := by decide +kernel
theorem dX11_byteOf_7 : decode cX11_byteOf 7 = .ok (.sipush 255, 3) := by decide +kernel
theorem dX11_byteOf_10 : decode cX11_byteOf 10 = .ok (.iand, 1) := by decide +kernel
theorem dX11_byteOf_11 : decode cX11_byteOf 11 = .ok (.ireturn, 1) := by decide +kernel
theorem dX11_capturesOfFound_0 : decode cX11_capturesOfFound 0 = .ok (.aload_n 0, 1) := by decide +kernel
theorem dX11_capturesOfFound_1 : decode cX11_capturesOfFound 1 = .ok (.getfield 37, 3) := by decide +kernel
theorem dX11_capturesOfFound_4 : decode cX11_capturesOfFound 4 = .ok (.getfield 96, 3) := by decide +kernel
theorem dX11_capturesOfFound_7 : decode cX11_capturesOfFound 7 = .ok (.ifCond .ne 7, 3) := by decide +kernel
theorem dX11_capturesOfFound_10 : decode cX11_capturesOfFound 10 = .ok (.iconst 0, 1) := by decide +kernel
theorem dX11_capturesOfFound_11 : decode cX11_capturesOfFound 11 = .ok (.goto 14, 3) := by decide +kernel
theorem dX11_capturesOfFound_14 : decode cX11_capturesOfFound 14 = .ok (.aload_n 0, 1) := by decide +kernel
theorem dX11_capturesOfFound_15 : decode cX11_capturesOfFound 15 = .ok (.getfield 37, 3) := by decide +kernel
theorem dX11_capturesOfFound_18 : decode cX11_capturesOfFound 18 = .ok (.getfield 96, 3) := by decide +kernel
theorem dX11_capturesOfFound_21 : decode cX11_capturesOfFound 21 = .ok (.iconst 2, 1) := by decide +kernel
theorem dX11_capturesOfFound_22 : decode cX11_capturesOfFound 22 = .ok (.idiv, 1) := by decide +kernel
theorem dX11_capturesOfFound_23 : decode cX11_capturesOfFound 23 = .ok (.iconst 1, 1) := by decide +kernel
theorem dX11_capturesOfFound_24 : decode cX11_capturesOfFound 24 = .ok (.isub, 1) := by decide +kernel
theorem dX11_capturesOfFound_25 : decode cX11_capturesOfFound 25 = .ok (.ireturn, 1) := by decide +kernel
theorem dX11_clear_0 : decode cX11_clear 0 = .ok (.aload_n 0, 1) := by decide +kernel
theorem dX11_clear_1 : decode cX11_clear 1 = .ok (.invokevirtual 314, 3) := by decide +kernel
theorem dX11_clear_4 : decode cX11_clear 4 = .ok (.istore_n 1, 1) := by decide +kernel
theorem dX11_clear_5 : decode cX11_clear 5 = .ok (.iconst 0, 1) := by decide +kernel
theorem dX11_clear_6 : decode cX11_clear 6 = .ok (.istore_n 2, 1) := by decide +kernel
theorem dX11_clear_7 : decode cX11_clear 7 = .ok (.iload_n 2, 1) := by decide +kernel
theorem dX11_clear_8 : decode cX11_clear 8 = .ok (.aload_n 0, 1) := by decide +kernel
theorem dX11_clear_9 : decode cX11_clear 9 = .ok (.getfield 20, 3) := by decide +kernel
theorem dX11_clear_12 : decode cX11_clear 12 = .ok (.arraylength, 1) := by decide +kernel
theorem dX11_clear_13 : decode cX11_clear 13 = .ok (.if_icmp .ge 19, 3) := by decide +kernel
theorem dX11_clear_16 : decode cX11_clear 16 = .ok (.aload_n 0, 1) := by decide +kernel
theorem dX11_clear_17 : decode cX11_clear 17 = .ok (.getfield 20, 3) := by decide +kernel
theorem dX11_clear_20 : decode cX11_clear 20 = .ok (.iload_n 2, 1) := by decide +kernel
theorem dX11_clear_21 : decode cX11_clear 21 = .ok (.aaload, 1) := by decide +kernel
theorem dX11_clear_22 : decode cX11_clear 22 = .ok (.iconst 0, 1) := by decide +kernel
theorem dX11_clear_23 : decode cX11_clear 23 = .ok (.putfield 120, 3) := by decide +kernel
theorem dX11_clear_26 : decode cX11_clear 26 = .ok (.iinc 2 1, 3) := by decide +kernel
theorem dX11_clear_29 : decode cX11_clear 29 = .ok (.goto (-22), 3) := by decide +kernel
theorem dX11_clear_32 : decode cX11_clear 32 = .ok (.iconst 0, 1) := by decide +kernel
theorem dX11_clear_33 : decode cX11_clear 33 = .ok (.istore_n 2, 1) := by decide +kernel
theorem dX11_clear_34 : decode cX11_clear 34 = .ok (.iload_n 2, 1) := by decide +kernel
theorem dX11_clear_35 : decode cX11_clear 35 = .ok (.aload_n 0, 1) := by decide +kernel
theorem dX11_clear_36 : decode cX11_clear 36 = .ok (.getfield 24, 3) := by decide +kernel
theorem dX11_clear_39 : decode cX11_clear 39 = .ok (.arraylength, 1) := by decide +kernel
theorem dX11_clear_40 : decode cX11_clear 40 = .ok (.if_icmp .ge 28, 3) := by decide +kernel
theorem dX11_clear_43 : decode cX11_clear 43 = .ok (.aload_n 0, 1) := by decide +kernel
theorem dX11_clear_44 : decode cX11_clear 44 = .ok (.getfield 24, 3) := by decide +kernel
theorem dX11_clear_47 : decode cX11_clear 47 = .ok (.iload_n 2, 1) := by decide +kernel
theorem dX11_clear_48 : decode cX11_clear 48 = .ok (.aaload, 1) := by decide +kernel
theorem dX11_clear_49 : decode cX11_clear 49 = .ok (.invokevirtual 109, 3) := by decide +kernel
theorem dX11_clear_52 : decode cX11_clear 52 = .ok (.aload_n 0, 1) := by decide +kernel
theorem dX11_clear_53 : decode cX11_clear 53 = .ok (.getfield 24, 3) := by decide +kernel
theorem dX11_clear_56 : decode cX11_clear 56 = .ok (.iload_n 2, 1) := by decide +kernel
theorem dX11_clear_57 : decode cX11_clear 57 = .ok (.aaload, 1) := by decide +kernel
theorem dX11_clear_58 : decode cX11_clear 58 = .ok (.iconst 0, 1) := by decide +kernel
theorem dX11_clear_59 : decode cX11_clear 59 = .ok (.putfield 205, 3) := by decide +kernel
theorem dX11_clear_62 : decode cX11_clear 62 = .ok (.iinc 2 1, 3) := by decide +kernel
theorem dX11_clear_65 : decode cX11_clear 65 = .ok (.goto (-31), 3) := by decide +kernel
theorem dX11_clear_68 : decode cX11_clear 68 = .ok (.aload_n 0, 1) := by decide +kernel
theorem dX11_clear_69 : decode cX11_clear 69 = .ok (.getfield 14, 3) := by decide +kernel
theorem dX11_clear_72 : decode cX11_clear 72 = .ok (.invokevirtual 109, 3) := by decide +kernel
theorem dX11_clear_75 : decode cX11_clear 75 = .ok (.aload_n 0, 1) := by decide +kernel
theorem dX11_clear_76 : decode cX11_clear 76 = .ok (.getfield 28, 3) := by decide +kernel
theorem dX11_clear_79 : decode cX11_clear 79 = .ok (.invokevirtual 109, 3) := by decide +kernel
theorem dX11_clear_82 : decode cX11_clear 82 = .ok (.aload_n 0, 1) := by decide +kernel
theorem dX11_clear_83 : decode cX11_clear 83 = .ok (.iconst 0, 1) := by decide +kernel
theorem dX11_clear_84 : decode cX11_clear 84 = .ok (.putfield 320, 3) := by decide +kernel
theorem dX11_clear_87 : decode cX11_clear 87 = .ok (.aload_n 0, 1) := by decide +kernel
theorem dX11_clear_88 : decode cX11_clear 88 = .ok (.getfield 37, 3) := by decide +kernel
theorem dX11_clear_91 : decode cX11_clear 91 = .ok (.invokevirtual 109, 3) := by decide +kernel
theorem dX11_clear_94 : decode cX11_clear 94 = .ok (.aload_n 0, 1) := by decide +kernel
theorem dX11_clear_95 : decode cX11_clear 95 = .ok (.iconst (-1), 1) := by decide +kernel
theorem dX11_clear_96 : decode cX11_clear 96 = .ok (.putfield 75, 3) := by decide +kernel
theorem dX11_clear_99 : decode cX11_clear 99 = .ok (.aload_n 0, 1) := by decide +kernel
theorem dX11_clear_100 : decode cX11_clear 100 = .ok (.iconst 0, 1) := by decide +kernel
theorem dX11_clear_101 : decode cX11_clear 101 = .ok (.putfield 146, 3) := by decide +kernel
theorem dX11_clear_104 : decode cX11_clear 104 = .ok (.aload_n 0, 1) := by decide +kernel
theorem dX11_clear_105 : decode cX11_clear 105 = .ok (.iconst 0, 1) := by decide +kernel
theorem dX11_clear_106 : decode cX11_clear 106 = .ok (.putfield 249, 3) := by decide +kernel
theorem dX11_clear_109 : decode cX11_clear 109 = .ok (.aload_n 0, 1) := by decide +kernel
theorem dX11_clear_110 : decode cX11_clear 110 = .ok (.invokevirtual 252, 3) := by decide +kernel
theorem dX11_clear_113 : decode cX11_clear 113 = .ok (.iload_n 1, 1) := by decide +kernel
theorem dX11_clear_114 : decode cX11_clear 114 = .ok (.ireturn, 1) := by decide +kernel
theorem dX11_compare_0 : decode cX11_compare 0 = .ok (.aload_n 0, 1) := by decide +kernel
theorem dX11_compare_1 : decode cX11_compare 1 = .ok (.iload_n 1, 1) := by decide +kernel
theorem dX11_compare_2 : decode cX11_compare 2 = .ok (.invokevirtual 128, 3) := by decide +kernel
theorem dX11_compare_5 : decode cX11_compare 5 = .ok (.astore_n 3, 1) := by decide +kernel
theorem dX11_compare_6 : decode cX11_compare 6 = .ok (.aload_n 3, 1) := by decide +kernel
theorem dX11_compare_7 : decode cX11_compare 7 = .ok (.ifnonnull 7, 3) := by decide +kernel
theorem dX11_compare_10 : decode cX11_compare 10 = .ok (.aconst_null, 1) := by decide +kernel
theorem dX11_compare_11 : decode cX11_compare 11 = .ok (.goto 8, 3) := by decide +kernel
theorem dX11_compare_14 : decode cX11_compare 14 = .ok (.aload_n 0, 1) := by decide +kernel
theorem dX11_compare_15 : decode cX11_compare 15 = .ok (.iload_n 2, 1) := by decide +kernel
theorem dX11_compare_16 : decode cX11_compare 16 = .ok (.invokevirtual 128, 3) := by decide +kernel
theorem dX11_compare_19 : decode cX11_compare 19 = .ok (.astore 4, 2) := by decide +kernel
theorem dX11_compare_21 : decode cX11_compare 21 = .ok (.aload_n 3, 1) := by decide +kernel
theorem dX11_compare_22 : decode cX11_compare 22 = .ok (.ifnull 8, 3) := by decide +kernel
theorem dX11_compare_25 : decode cX11_compare 25 = .ok (.aload 4, 2) := by decide +kernel
theorem dX11_compare_27 : decode cX11_compare 27 = .ok (.ifnonnull 6, 3) := by decide +kernel
theorem dX11_compare_30 : decode cX11_compare 30 = .ok (.bipush (-2), 2) := by decide +kernel
theorem dX11_compare_32 : decode cX11_compare 32 = .ok (.ireturn, 1) := by decide +kernel
theorem dX11_compare_33 : decode cX11_compare 33 = .ok (.aload_n 0, 1) := by decide +kernel
theorem dX11_compare_34 : decode cX11_compare 34 = .ok (.aload_n 3, 1) := by decide +kernel
theorem dX11_compare_35 : decode cX11_compare 35 = .ok (.aload 4, 2) := by decide +kernel
theorem dX11_compare_37 : decode cX11_compare 37 = .ok (.invokevirtual 283, 3) := by decide +kernel
theorem dX11_compare_40 : decode cX11_compare 40 = .ok (.istore 5, 2) := by decide +kernel
theorem dX11_compare_42 : decode cX11_compare 42 = .ok (.iload 5, 2) := by decide +kernel
theorem dX11_compare_44 : decode cX11_compare 44 = .ok (.ifCond .eq 6, 3) := by decide +kernel
theorem dX11_compare_47 : decode cX11_compare 47 = .ok (.iload 5, 2) := by decide +kernel
theorem dX11_compare_49 : decode cX11_compare 49 = .ok (.ireturn, 1) := by decide +kernel
theorem dX11_compare_50 : decode cX11_compare 50 = .ok (.aload_n 0, 1) := by decide +kernel
theorem dX11_compare_51 : decode cX11_compare 51 = .ok (.getfield 71, 3) := by decide +kernel
theorem dX11_compare_54 : decode cX11_compare 54 = .ok (.invokevirtual 301, 3) := by decide +kernel
theorem dX11_compare_57 : decode cX11_compare 57 = .ok (.aload_n 0, 1) := by decide +kernel
theorem dX11_compare_58 : decode cX11_compare 58 = .ok (.getfield 71, 3) := by decide +kernel
theorem dX11_compare_61 : decode cX11_compare 61 = .ok (.getfield 304, 3) := by decide +kernel
theorem dX11_compare_64 : decode cX11_compare 64 = .ok (.ifCond .eq 7, 3) := by decide +kernel
theorem dX11_compare_67 : decode cX11_compare 67 = .ok (.iconst 0, 1) := by decide +kernel
theorem dX11_compare_68 : decode cX11_compare 68 = .ok (.goto 4, 3) := by decide +kernel
theorem dX11_compare_71 : decode cX11_compare 71 = .ok (.iconst 1, 1) := by decide +kernel
theorem dX11_compare_72 : decode cX11_compare 72 = .ok (.aload_n 0, 1) := by decide +kernel
theorem dX11_compare_73 : decode cX11_compare 73 = .ok (.getfield 71, 3) := by decide +kernel
theorem dX11_compare_76 : decode cX11_compare 76 = .ok (.getfield 307, 3) := by decide +kernel
theorem dX11_compare_79 : decode cX11_compare 79 = .ok (.ifCond .eq 7, 3) := by decide +kernel
theorem dX11_compare_82 : decode cX11_compare 82 = .ok (.iconst 0, 1) := by decide +kernel
theorem dX11_compare_83 : decode cX11_compare 83 = .ok (.goto 4, 3) := by decide +kernel
theorem dX11_compare_86 : decode cX11_compare 86 = .ok (.iconst 2, 1) := by decide +kernel
theorem dX11_compare_87 : decode cX11_compare 87 = .ok (.iadd, 1) := by decide +kernel
theorem dX11_compare_88 : decode cX11_compare 88 = .ok (.ireturn, 1) := by decide +kernel
theorem dX11_dead_0 : decode cX11_dead 0 = .ok (.aload_n 0, 1) := by decide +kernel
theorem dX11_dead_1 : decode cX11_dead 1 = .ok (.iload_n 1, 1) := by decide +kernel
theorem dX11_dead_2 : decode cX11_dead 2 = .ok (.invokevirtual 128, 3) := by decide +kernel
theorem dX11_dead_5 : decode cX11_dead 5 = .ok (.astore_n 3, 1) := by decide +kernel
theorem dX11_dead_6 : decode cX11_dead 6 = .ok (.aload_n 3, 1) := by decide +kernel
theorem dX11_dead_7 : decode cX11_dead 7 = .ok (.ifnonnull 6, 3) := by decide +kernel
theorem dX11_dead_10 : decode cX11_dead 10 = .ok (.bipush (-2), 2) := by decide +kernel
theorem dX11_dead_12 : decode cX11_dead 12 = .ok (.ireturn, 1) := by decide +kernel
theorem dX11_dead_13 : decode cX11_dead 13 = .ok (.iload_n 2, 1) := by decide +kernel
theorem dX11_dead_14 : decode cX11_dead 14 = .ok (.ifCond .ge 8, 3) := by decide +kernel
theorem dX11_dead_17 : decode cX11_dead 17 = .ok (.bipush (-4), 2) := by decide +kernel
theorem dX11_dead_19 : decode cX11_dead 19 = .ok (.goto 8, 3) := by decide +kernel
theorem dX11_dead_22 : decode cX11_dead 22 = .ok (.aload_n 3, 1) := by decide +kernel
theorem dX11_dead_23 : decode cX11_dead 23 = .ok (.iload_n 2, 1) := by decide +kernel
theorem dX11_dead_24 : decode cX11_dead 24 = .ok (.invokevirtual 199, 3) := by decide +kernel
theorem dX11_dead_27 : decode cX11_dead 27 = .ok (.ireturn, 1) := by decide +kernel
theorem dX11_draftReplacement_0 : decode cX11_draftReplacement 0 = .ok (.iconst 0, 1) := by decide +kernel
theorem dX11_draftReplacement_1 : decode cX11_draftReplacement 1 = .ok (.istore_n 2, 1) := by decide +kernel
theorem dX11_draftReplacement_2 : decode cX11_draftReplacement 2 = .ok (.iload_n 2, 1) := by decide +kernel
theorem dX11_draftReplacement_3 : decode cX11_draftReplacement 3 = .ok (.aload_n 0, 1) := by decide +kernel
theorem dX11_draftReplacement_4 : decode cX11_draftReplacement 4 = .ok (.getfield 14, 3) := by decide +kernel
theorem dX11_draftReplacement_7 : decode cX11_draftReplacement 7 = .ok (.getfield 96, 3) := by decide +kernel
theorem dX11_draftReplacement_10 : decode cX11_draftReplacement 10 = .ok (.if_icmp .ge 107, 3) := by decide +kernel
theorem dX11_draftReplacement_13 : decode cX11_draftReplacement 13 = .ok (.aload_n 0, 1) := by decide +kernel
theorem dX11_draftReplacement_14 : decode cX11_draftReplacement 14 = .ok (.getfield 14, 3) := by decide +kernel
theorem dX11_draftReplacement_17 : decode cX11_draftReplacement 17 = .ok (.iload_n 2, 1) := by decide +kernel
theorem dX11_draftReplacement_18 : decode cX11_draftReplacement 18 = .ok (.invokevirtual 222, 3) := by decide +kernel
theorem dX11_draftReplacement_21 : decode cX11_draftReplacement 21 = .ok (.istore_n 3, 1) := by decide +kernel
theorem dX11_draftReplacement_22 : decode cX11_draftReplacement 22 = .ok (.iload_n 3, 1) := by decide +kernel
theorem dX11_draftReplacement_23 : decode cX11_draftReplacement 23 = .ok (.bipush 36, 2) := by decide +kernel
theorem dX11_draftReplacement_25 : decode cX11_draftReplacement 25 = .ok (.if_icmp .eq 14, 3) := by decide +kernel
theorem dX11_draftReplacement_28 : decode cX11_draftReplacement 28 = .ok (.aload_n 0, 1) := by decide +kernel
theorem dX11_draftReplacement_29 : decode cX11_draftReplacement 29 = .ok (.getfield 31, 3) := by decide +kernel
theorem dX11_draftReplacement_32 : decode cX11_draftReplacement 32 = .ok (.iload_n 3, 1) := by decide +kernel
theorem dX11_draftReplacement_33 : decode cX11_draftReplacement 33 = .ok (.invokevirtual 99, 3) := by decide +kernel
theorem dX11_draftReplacement_36 : decode cX11_draftReplacement 36 = .ok (.goto 75, 3) := by decide +kernel
theorem dX11_draftReplacement_39 : decode cX11_draftReplacement 39 = .ok (.iinc 2 1, 3) := by decide +kernel
theorem dX11_draftReplacement_42 : decode cX11_draftReplacement 42 = .ok (.aload_n 0, 1) := by decide +kernel
theorem dX11_draftReplacement_43 : decode cX11_draftReplacement 43 = .ok (.getfield 14, 3) := by decide +kernel
theorem dX11_draftReplacement_46 : decode cX11_draftReplacement 46 = .ok (.iload_n 2, 1) := by decide +kernel
theorem dX11_draftReplacement_47 : decode cX11_draftReplacement 47 = .ok (.invokevirtual 222, 3) := by decide +kernel
theorem dX11_draftReplacement_50 : decode cX11_draftReplacement 50 = .ok (.istore 4, 2) := by decide +kernel
theorem dX11_draftReplacement_52 : decode cX11_draftReplacement 52 = .ok (.iload 4, 2) := by decide +kernel
theorem dX11_draftReplacement_54 : decode cX11_draftReplacement 54 = .ok (.invokestatic 355, 3) := by decide +kernel
theorem dX11_draftReplacement_57 : decode cX11_draftReplacement 57 = .ok (.ifCond .eq 45, 3) := by decide +kernel
theorem dX11_draftReplacement_60 : decode cX11_draftReplacement 60 = .ok (.iload 4, 2) := by decide +kernel
theorem dX11_draftReplacement_62 : decode cX11_draftReplacement 62 = .ok (.bipush 48, 2) := by decide +kernel
theorem dX11_draftReplacement_64 : decode cX11_draftReplacement 64 = .ok (.isub, 1) := by decide +kernel
theorem dX11_draftReplacement_65 : decode cX11_draftReplacement 65 = .ok (.istore 5, 2) := by decide +kernel
theorem dX11_draftReplacement_67 : decode cX11_draftReplacement 67 = .ok (.aload_n 0, 1) := by decide +kernel
theorem dX11_draftReplacement_68 : decode cX11_draftReplacement 68 = .ok (.getfield 31, 3) := by decide +kernel
theorem dX11_draftReplacement_71 : decode cX11_draftReplacement 71 = .ok (.aload_n 1, 1) := by decide +kernel
theorem dX11_draftReplacement_72 : decode cX11_draftReplacement 72 = .ok (.aload_n 0, 1) := by decide +kernel
theorem dX11_draftReplacement_73 : decode cX11_draftReplacement 73 = .ok (.getfield 34, 3) := by decide +kernel
theorem dX11_draftReplacement_76 : decode cX11_draftReplacement 76 = .ok (.iconst 2, 1) := by decide +kernel
theorem dX11_draftReplacement_77 : decode cX11_draftReplacement 77 = .ok (.iload 5, 2) := by decide +kernel
theorem dX11_draftReplacement_79 : decode cX11_draftReplacement 79 = .ok (.imul, 1) := by decide +kernel
theorem dX11_draftReplacement_80 : decode cX11_draftReplacement 80 = .ok (.invokevirtual 222, 3) := by decide +kernel
theorem dX11_draftReplacement_83 : decode cX11_draftReplacement 83 = .ok (.aload_n 0, 1) := by decide +kernel
theorem dX11_draftReplacement_84 : decode cX11_draftReplacement 84 = .ok (.getfield 34, 3) := by decide +kernel
theorem dX11_draftReplacement_87 : decode cX11_draftReplacement 87 = .ok (.iconst 2, 1) := by decide +kernel
theorem dX11_draftReplacement_88 : decode cX11_draftReplacement 88 = .ok (.iload 5, 2) := by decide +kernel
theorem dX11_draftReplacement_90 : decode cX11_draftReplacement 90 = .ok (.imul, 1) := by decide +kernel
theorem dX11_draftReplacement_91 : decode cX11_draftReplacement 91 = .ok (.iconst 1, 1) := by decide +kernel
theorem dX11_draftReplacement_92 : decode cX11_draftReplacement 92 = .ok (.iadd, 1) := by decide +kernel
theorem dX11_draftReplacement_93 : decode cX11_draftReplacement 93 = .ok (.invokevirtual 222, 3) := by decide +kernel
theorem dX11_draftReplacement_96 : decode cX11_draftReplacement 96 = .ok (.invokevirtual 343, 3) := by decide +kernel
theorem dX11_draftReplacement_99 : decode cX11_draftReplacement 99 = .ok (.goto 12, 3) := by decide +kernel
theorem dX11_draftReplacement_102 : decode cX11_draftReplacement 102 = .ok (.aload_n 0, 1) := by decide +kernel
theorem dX11_draftReplacement_103 : decode cX11_draftReplacement 103 = .ok (.getfield 31, 3) := by decide +kernel
theorem dX11_draftReplacement_106 : decode cX11_draftReplacement 106 = .ok (.iload 4, 2) := by decide +kernel
theorem dX11_draftReplacement_108 : decode cX11_draftReplacement 108 = .ok (.invokevirtual 99, 3) := by decide +kernel
theorem dX11_draftReplacement_111 : decode cX11_draftReplacement 111 = .ok (.iinc 2 1, 3) := by decide +kernel
theorem dX11_draftReplacement_114 : decode cX11_draftReplacement 114 = .ok (.goto (-112), 3) := by decide +kernel
theorem dX11_draftReplacement_117 : decode cX11_draftReplacement 117 = .ok (.return_, 1) := by decide +kernel
theorem dX11_drop_0 : decode cX11_drop 0 = .ok (.aload_n 0, 1) := by decide +kernel
theorem dX11_drop_1 : decode cX11_drop 1 = .ok (.iload_n 1, 1) := by decide +kernel
theorem dX11_drop_2 : decode cX11_drop 2 = .ok (.invokevirtual 209, 3) := by decide +kernel
theorem dX11_drop_5 : decode cX11_drop 5 = .ok (.astore_n 2, 1) := by decide +kernel
theorem dX11_drop_6 : decode cX11_drop 6 = .ok (.aload_n 2, 1) := by decide +kernel
theorem dX11_drop_7 : decode cX11_drop 7 = .ok (.ifnonnull 9, 3) := by decide +kernel
theorem dX11_drop_10 : decode cX11_drop 10 = .ok (.aload_n 0, 1) := by decide +kernel
theorem dX11_drop_11 : decode cX11_drop 11 = .ok (.iload_n 1, 1) := by decide +kernel
theorem dX11_drop_12 : decode cX11_drop 12 = .ok (.invokevirtual 213, 3) := by decide +kernel
theorem dX11_drop_15 : decode cX11_drop 15 = .ok (.ireturn, 1) := by decide +kernel
theorem dX11_drop_16 : decode cX11_drop 16 = .ok (.aload_n 2, 1) := by decide +kernel
theorem dX11_drop_17 : decode cX11_drop 17 = .ok (.getfield 96, 3) := by decide +kernel
theorem dX11_drop_20 : decode cX11_drop 20 = .ok (.istore_n 3, 1) := by decide +kernel
theorem dX11_drop_21 : decode cX11_drop 21 = .ok (.aload_n 2, 1) := by decide +kernel
theorem dX11_drop_22 : decode cX11_drop 22 = .ok (.invokevirtual 109, 3) := by decide +kernel
theorem dX11_drop_25 : decode cX11_drop 25 = .ok (.aload_n 2, 1) := by decide +kernel
theorem dX11_drop_26 : decode cX11_drop 26 = .ok (.iconst 0, 1) := by decide +kernel
theorem dX11_drop_27 : decode cX11_drop 27 = .ok (.putfield 205, 3) := by decide +kernel
theorem dX11_drop_30 : decode cX11_drop 30 = .ok (.aload_n 0, 1) := by decide +kernel
theorem dX11_drop_31 : decode cX11_drop 31 = .ok (.iload_n 1, 1) := by decide +kernel
theorem dX11_drop_32 : decode cX11_drop 32 = .ok (.invokevirtual 206, 3) := by decide +kernel
theorem dX11_drop_35 : decode cX11_drop 35 = .ok (.iload_n 3, 1) := by decide +kernel
theorem dX11_drop_36 : decode cX11_drop 36 = .ok (.ireturn, 1) := by decide +kernel
theorem dX11_endSearch_0 : decode cX11_endSearch 0 = .ok (.aload_n 0, 1) := by decide +kernel
theorem dX11_endSearch_1 : decode cX11_endSearch 1 = .ok (.iconst (-1), 1) := by decide +kernel
theorem dX11_endSearch_2 : decode cX11_endSearch 2 = .ok (.putfield 79, 3) := by decide +kernel
theorem dX11_endSearch_5 : decode cX11_endSearch 5 = .ok (.aload_n 0, 1) := by decide +kernel
theorem dX11_endSearch_6 : decode cX11_endSearch 6 = .ok (.iconst (-1), 1) := by decide +kernel
theorem dX11_endSearch_7 : decode cX11_endSearch 7 = .ok (.putfield 82, 3) := by decide +kernel
theorem dX11_endSearch_10 : decode cX11_endSearch 10 = .ok (.return_, 1) := by decide +kernel
theorem dX11_endSearchOver_0 : decode cX11_endSearchOver 0 = .ok (.aload_n 0, 1) := by decide +kernel
theorem dX11_endSearchOver_1 : decode cX11_endSearchOver 1 = .ok (.getfield 82, 3) := by decide +kernel
theorem dX11_endSearchOver_4 : decode cX11_endSearchOver 4 = .ok (.iload_n 1, 1) := by decide +kernel
theorem dX11_endSearchOver_5 : decode cX11_endSearchOver 5 = .ok (.if_icmp .ne 7, 3) := by decide +kernel
theorem dX11_endSearchOver_8 : decode cX11_endSearchOver 8 = .ok (.aload_n 0, 1) := by decide +kernel
theorem dX11_endSearchOver_9 : decode cX11_endSearchOver 9 = .ok (.invokevirtual 252, 3) := by decide +kernel
theorem dX11_endSearchOver_12 : decode cX11_endSearchOver 12 = .ok (.return_, 1) := by decide +kernel
theorem dX11_endSearchWithSlot_0 : decode cX11_endSearchWithSlot 0 = .ok (.aload_n 0, 1) := by decide +kernel
theorem dX11_endSearchWithSlot_1 : decode cX11_endSearchWithSlot 1 = .ok (.getfield 79, 3) := by decide +kernel
theorem dX11_endSearchWithSlot_4 : decode cX11_endSearchWithSlot 4 = .ok (.iload_n 1, 1) := by decide +kernel
theorem dX11_endSearchWithSlot_5 : decode cX11_endSearchWithSlot 5 = .ok (.if_icmp .ne 7, 3) := by decide +kernel
theorem dX11_endSearchWithSlot_8 : decode cX11_endSearchWithSlot 8 = .ok (.aload_n 0, 1) := by decide +kernel
theorem dX11_endSearchWithSlot_9 : decode cX11_endSearchWithSlot 9 = .ok (.invokevirtual 252, 3) := by decide +kernel
theorem dX11_endSearchWithSlot_12 : decode cX11_endSearchWithSlot 12 = .ok (.return_, 1) := by decide +kernel
theorem dX11_feed_0 : decode cX11_feed 0 = .ok (.iload_n 1, 1) := by decide +kernel
theorem dX11_feed_1 : decode cX11_feed 1 = .ok (.iconst 1, 1) := by decide +kernel
theorem dX11_feed_2 : decode cX11_feed 2 = .ok (.if_icmp .lt 9, 3) := by decide +kernel
theorem dX11_feed_5 : decode cX11_feed 5 = .ok (.iload_n 1, 1) := by decide +kernel
theorem dX11_feed_6 : decode cX11_feed 6 = .ok (.bipush 8, 2) := by decide +kernel
theorem dX11_feed_8 : decode cX11_feed 8 = .ok (.if_icmp .le 6, 3) := by decide +kernel
theorem dX11_feed_11 : decode cX11_feed 11 = .ok (.bipush (-4), 2) := by decide +kernel
theorem dX11_feed_13 : decode cX11_feed 13 = .ok (.ireturn, 1) := by decide +kernel
theorem dX11_feed_14 : decode cX11_feed 14 = .ok (.iconst 0, 1) := by decide +kernel
theorem dX11_feed_15 : decode cX11_feed 15 = .ok (.istore 4, 2) := by decide +kernel
theorem dX11_feed_17 : decode cX11_feed 17 = .ok (.iload 4, 2) := by decide +kernel
theorem dX11_feed_19 : decode cX11_feed 19 = .ok (.iload_n 1, 1) := by decide +kernel
theorem dX11_feed_20 : decode cX11_feed 20 = .ok (.if_icmp .ge 24, 3) := by decide +kernel
theorem dX11_feed_23 : decode cX11_feed 23 = .ok (.lload_n 2, 1) := by decide +kernel
theorem dX11_feed_24 : decode cX11_feed 24 = .ok (.iload 4, 2) := by decide +kernel
theorem dX11_feed_26 : decode cX11_feed 26 = .ok (.invokestatic 88, 3) := by decide +kernel
theorem dX11_feed_29 : decode cX11_feed 29 = .ok (.invokestatic 92, 3) := by decide +kernel
theorem dX11_feed_32 : decode cX11_feed 32 = .ok (.ifCond .ne 6, 3) := by decide +kernel
theorem dX11_feed_35 : decode cX11_feed 35 = .ok (.bipush (-4), 2) := by decide +kernel
theorem dX11_feed_37 : decode cX11_feed 37 = .ok (.ireturn, 1) := by decide +kernel
theorem dX11_feed_38 : decode cX11_feed 38 = .ok (.iinc 4 1, 3) := by decide +kernel
theorem dX11_feed_41 : decode cX11_feed 41 = .ok (.goto (-24), 3) := by decide +kernel
theorem dX11_feed_44 : decode cX11_feed 44 = .ok (.aload_n 0, 1) := by decide +kernel
theorem dX11_feed_45 : decode cX11_feed 45 = .ok (.getfield 14, 3) := by decide +kernel
theorem dX11_feed_48 : decode cX11_feed 48 = .ok (.getfield 96, 3) := by decide +kernel
theorem dX11_feed_51 : decode cX11_feed 51 = .ok (.iload_n 1, 1) := by decide +kernel
theorem dX11_feed_52 : decode cX11_feed 52 = .ok (.iadd, 1) := by decide +kernel
theorem dX11_feed_53 : decode cX11_feed 53 = .ok (.sipush 200, 3) := by decide +kernel
theorem dX11_feed_56 : decode cX11_feed 56 = .ok (.if_icmp .le 6, 3) := by decide +kernel
theorem dX11_feed_59 : decode cX11_feed 59 = .ok (.bipush (-9), 2) := by decide +kernel
theorem dX11_feed_61 : decode cX11_feed 61 = .ok (.ireturn, 1) := by decide +kernel
theorem dX11_feed_62 : decode cX11_feed 62 = .ok (.iload_n 1, 1) := by decide +kernel
theorem dX11_feed_63 : decode cX11_feed 63 = .ok (.iconst 1, 1) := by decide +kernel
theorem dX11_feed_64 : decode cX11_feed 64 = .ok (.isub, 1) := by decide +kernel
theorem dX11_feed_65 : decode cX11_feed 65 = .ok (.istore 4, 2) := by decide +kernel
theorem dX11_feed_67 : decode cX11_feed 67 = .ok (.iload 4, 2) := by decide +kernel
theorem dX11_feed_69 : decode cX11_feed 69 = .ok (.ifCond .lt 22, 3) := by decide +kernel
theorem dX11_feed_72 : decode cX11_feed 72 = .ok (.aload_n 0, 1) := by decide +kernel
theorem dX11_feed_73 : decode cX11_feed 73 = .ok (.getfield 14, 3) := by decide +kernel
theorem dX11_feed_76 : decode cX11_feed 76 = .ok (.lload_n 2, 1) := by decide +kernel
theorem dX11_feed_77 : decode cX11_feed 77 = .ok (.iload 4, 2) := by decide +kernel
theorem dX11_feed_79 : decode cX11_feed 79 = .ok (.invokestatic 88, 3) := by decide +kernel
theorem dX11_feed_82 : decode cX11_feed 82 = .ok (.invokevirtual 99, 3) := by decide +kernel
theorem dX11_feed_85 : decode cX11_feed 85 = .ok (.iinc 4 (-1), 3) := by decide +kernel
theorem dX11_feed_88 : decode cX11_feed 88 = .ok (.goto (-21), 3) := by decide +kernel
theorem dX11_feed_91 : decode cX11_feed 91 = .ok (.aload_n 0, 1) := by decide +kernel
theorem dX11_feed_92 : decode cX11_feed 92 = .ok (.getfield 14, 3) := by decide +kernel
theorem dX11_feed_95 : decode cX11_feed 95 = .ok (.getfield 96, 3) := by decide +kernel
theorem dX11_feed_98 : decode cX11_feed 98 = .ok (.ireturn, 1) := by decide +kernel
theorem dX11_finding_0 : decode cX11_finding 0 = .ok (.aload_n 0, 1) := by decide +kernel
theorem dX11_finding_1 : decode cX11_finding 1 = .ok (.getfield 146, 3) := by decide +kernel
theorem dX11_finding_4 : decode cX11_finding 4 = .ok (.ireturn, 1) := by decide +kernel
theorem dX11_forget_0 : decode cX11_forget 0 = .ok (.aload_n 0, 1) := by decide +kernel
theorem dX11_forget_1 : decode cX11_forget 1 = .ok (.iload_n 1, 1) := by decide +kernel
theorem dX11_forget_2 : decode cX11_forget 2 = .ok (.invokevirtual 128, 3) := by decide +kernel
theorem dX11_forget_5 : decode cX11_forget 5 = .ok (.astore_n 2, 1) := by decide +kernel
theorem dX11_forget_6 : decode cX11_forget 6 = .ok (.aload_n 2, 1) := by decide +kernel
theorem dX11_forget_7 : decode cX11_forget 7 = .ok (.ifnonnull 6, 3) := by decide +kernel
theorem dX11_forget_10 : decode cX11_forget 10 = .ok (.bipush (-2), 2) := by decide +kernel
theorem dX11_forget_12 : decode cX11_forget 12 = .ok (.ireturn, 1) := by decide +kernel
theorem dX11_forget_13 : decode cX11_forget 13 = .ok (.aload_n 2, 1) := by decide +kernel
theorem dX11_forget_14 : decode cX11_forget 14 = .ok (.iconst 0, 1) := by decide +kernel
theorem dX11_forget_15 : decode cX11_forget 15 = .ok (.putfield 120, 3) := by decide +kernel
theorem dX11_forget_18 : decode cX11_forget 18 = .ok (.aload_n 0, 1) := by decide +kernel
theorem dX11_forget_19 : decode cX11_forget 19 = .ok (.iload_n 1, 1) := by decide +kernel
theorem dX11_forget_20 : decode cX11_forget 20 = .ok (.invokevirtual 124, 3) := by decide +kernel
theorem dX11_forget_23 : decode cX11_forget 23 = .ok (.iconst 1, 1) := by decide +kernel
theorem dX11_forget_24 : decode cX11_forget 24 = .ok (.ireturn, 1) := by decide +kernel
theorem dX11_isMachine_0 : decode cX11_isMachine 0 = .ok (.iload_n 0, 1) := by decide +kernel
theorem dX11_isMachine_1 : decode cX11_isMachine 1 = .ok (.ifCond .lt 12, 3) := by decide +kernel
theorem dX11_isMachine_4 : decode cX11_isMachine 4 = .ok (.iload_n 0, 1) := by decide +kernel
theorem dX11_isMachine_5 : decode cX11_isMachine 5 = .ok (.iconst 2, 1) := by decide +kernel
theorem dX11_isMachine_6 : decode cX11_isMachine 6 = .ok (.if_icmp .gt 7, 3) := by decide +kernel
theorem dX11_isMachine_9 : decode cX11_isMachine 9 = .ok (.iconst 1, 1) := by decide +kernel
theorem dX11_isMachine_10 : decode cX11_isMachine 10 = .ok (.goto 4, 3) := by decide +kernel
theorem dX11_isMachine_13 : decode cX11_isMachine 13 = .ok (.iconst 0, 1) := by decide +kernel
theorem dX11_isMachine_14 : decode cX11_isMachine 14 = .ok (.ireturn, 1) := by decide +kernel
theorem dX11_isSlot_0 : decode cX11_isSlot 0 = .ok (.iload_n 0, 1) := by decide +kernel
theorem dX11_isSlot_1 : decode cX11_isSlot 1 = .ok (.ifCond .lt 13, 3) := by decide +kernel
theorem dX11_isSlot_4 : decode cX11_isSlot 4 = .ok (.iload_n 0, 1) := by decide +kernel
theorem dX11_isSlot_5 : decode cX11_isSlot 5 = .ok (.bipush 6, 2) := by decide +kernel
theorem dX11_isSlot_7 : decode cX11_isSlot 7 = .ok (.if_icmp .ge 7, 3) := by decide +kernel
theorem dX11_isSlot_10 : decode cX11_isSlot 10 = .ok (.iconst 1, 1) := by decide +kernel
theorem dX11_isSlot_11 : decode cX11_isSlot 11 = .ok (.goto 4, 3) := by decide +kernel
theorem dX11_isSlot_14 : decode cX11_isSlot 14 = .ok (.iconst 0, 1) := by decide +kernel
theorem dX11_isSlot_15 : decode cX11_isSlot 15 = .ok (.ireturn, 1) := by decide +kernel
theorem dX11_isStepCount_0 : decode cX11_isStepCount 0 = .ok (.iload_n 0, 1) := by decide +kernel
theorem dX11_isStepCount_1 : decode cX11_isStepCount 1 = .ok (.iconst 1, 1) := by decide +kernel
theorem dX11_isStepCount_2 : decode cX11_isStepCount 2 = .ok (.if_icmp .lt 14, 3) := by decide +kernel
theorem dX11_isStepCount_5 : decode cX11_isStepCount 5 = .ok (.iload_n 0, 1) := by decide +kernel
theorem dX11_isStepCount_6 : decode cX11_isStepCount 6 = .ok (.sipush 3000, 3) := by decide +kernel
theorem dX11_isStepCount_9 : decode cX11_isStepCount 9 = .ok (.if_icmp .gt 7, 3) := by decide +kernel
theorem dX11_isStepCount_12 : decode cX11_isStepCount 12 = .ok (.iconst 1, 1) := by decide +kernel
theorem dX11_isStepCount_13 : decode cX11_isStepCount 13 = .ok (.goto 4, 3) := by decide +kernel
theorem dX11_isStepCount_16 : decode cX11_isStepCount 16 = .ok (.iconst 0, 1) := by decide +kernel
theorem dX11_isStepCount_17 : decode cX11_isStepCount 17 = .ok (.ireturn, 1) := by decide +kernel
theorem dX11_isSubject_0 : decode cX11_isSubject 0 = .ok (.iload_n 0, 1) := by decide +kernel
theorem dX11_isSubject_1 : decode cX11_isSubject 1 = .ok (.ifCond .lt 12, 3) := by decide +kernel
theorem dX11_isSubject_4 : decode cX11_isSubject 4 = .ok (.iload_n 0, 1) := by decide +kernel
theorem dX11_isSubject_5 : decode cX11_isSubject 5 = .ok (.iconst 4, 1) := by decide +kernel
theorem dX11_isSubject_6 : decode cX11_isSubject 6 = .ok (.if_icmp .ge 7, 3) := by decide +kernel
theorem dX11_isSubject_9 : decode cX11_isSubject 9 = .ok (.iconst 1, 1) := by decide +kernel
theorem dX11_isSubject_10 : decode cX11_isSubject 10 = .ok (.goto 4, 3) := by decide +kernel
theorem dX11_isSubject_13 : decode cX11_isSubject 13 = .ok (.iconst 0, 1) := by decide +kernel
theorem dX11_isSubject_14 : decode cX11_isSubject 14 = .ok (.ireturn, 1) := by decide +kernel
theorem dX11_isTold_0 : decode cX11_isTold 0 = .ok (.iload_n 0, 1) := by decide +kernel
theorem dX11_isTold_1 : decode cX11_isTold 1 = .ok (.iload_n 1, 1) := by decide +kernel
theorem dX11_isTold_2 : decode cX11_isTold 2 = .ok (.ishr, 1) := by decide +kernel
theorem dX11_isTold_3 : decode cX11_isTold 3 = .ok (.iconst 1, 1) := by decide +kernel
theorem dX11_isTold_4 : decode cX11_isTold 4 = .ok (.iand, 1) := by decide +kernel
theorem dX11_isTold_5 : decode cX11_isTold 5 = .ok (.iconst 1, 1) := by decide +kernel
theorem dX11_isTold_6 : decode cX11_isTold 6 = .ok (.if_icmp .ne 7, 3) := by decide +kernel
theorem dX11_isTold_9 : decode cX11_isTold 9 = .ok (.iconst 1, 1) := by decide +kernel
theorem dX11_isTold_10 : decode cX11_isTold 10 = .ok (.goto 4, 3) := by decide +kernel
theorem dX11_isTold_13 : decode cX11_isTold 13 = .ok (.iconst 0, 1) := by decide +kernel
theorem dX11_isTold_14 : decode cX11_isTold 14 = .ok (.ireturn, 1) := by decide +kernel
theorem dX11_keepSpans_0 : decode cX11_keepSpans 0 = .ok (.iload_n 1, 1) := by decide +kernel
theorem dX11_keepSpans_1 : decode cX11_keepSpans 1 = .ok (.iconst 1, 1) := by decide +kernel
theorem dX11_keepSpans_2 : decode cX11_keepSpans 2 = .ok (.if_icmp .ne 17, 3) := by decide +kernel
theorem dX11_keepSpans_5 : decode cX11_keepSpans 5 = .ok (.aload_n 0, 1) := by decide +kernel
theorem dX11_keepSpans_6 : decode cX11_keepSpans 6 = .ok (.getfield 37, 3) := by decide +kernel
theorem dX11_keepSpans_9 : decode cX11_keepSpans 9 = .ok (.aload_n 0, 1) := by decide +kernel
theorem dX11_keepSpans_10 : decode cX11_keepSpans 10 = .ok (.getfield 34, 3) := by decide +kernel
theorem dX11_keepSpans_13 : decode cX11_keepSpans 13 = .ok (.invokevirtual 332, 3) := by decide +kernel
theorem dX11_keepSpans_16 : decode cX11_keepSpans 16 = .ok (.goto 14, 3) := by decide +kernel
theorem dX11_keepSpans_19 : decode cX11_keepSpans 19 = .ok (.iload_n 1, 1) := by decide +kernel
theorem dX11_keepSpans_20 : decode cX11_keepSpans 20 = .ok (.ifCond .ne 10, 3) := by decide +kernel
theorem dX11_keepSpans_23 : decode cX11_keepSpans 23 = .ok (.aload_n 0, 1) := by decide +kernel
theorem dX11_keepSpans_24 : decode cX11_keepSpans 24 = .ok (.getfield 37, 3) := by decide +kernel
theorem dX11_keepSpans_27 : decode cX11_keepSpans 27 = .ok (.invokevirtual 109, 3) := by decide +kernel
theorem dX11_keepSpans_30 : decode cX11_keepSpans 30 = .ok (.iload_n 1, 1) := by decide +kernel
theorem dX11_keepSpans_31 : decode cX11_keepSpans 31 = .ok (.ireturn, 1) := by decide +kernel
theorem dX11_least_0 : decode cX11_least 0 = .ok (.aload_n 0, 1) := by decide +kernel
theorem dX11_least_1 : decode cX11_least 1 = .ok (.iload_n 1, 1) := by decide +kernel
theorem dX11_least_2 : decode cX11_least 2 = .ok (.invokevirtual 128, 3) := by decide +kernel
theorem dX11_least_5 : decode cX11_least 5 = .ok (.astore_n 2, 1) := by decide +kernel
theorem dX11_least_6 : decode cX11_least 6 = .ok (.aload_n 2, 1) := by decide +kernel
theorem dX11_least_7 : decode cX11_least 7 = .ok (.ifnonnull 6, 3) := by decide +kernel
theorem dX11_least_10 : decode cX11_least 10 = .ok (.bipush (-2), 2) := by decide +kernel
theorem dX11_least_12 : decode cX11_least 12 = .ok (.ireturn, 1) := by decide +kernel
theorem dX11_least_13 : decode cX11_least 13 = .ok (.aload_n 0, 1) := by decide +kernel
theorem dX11_least_14 : decode cX11_least 14 = .ok (.aload_n 2, 1) := by decide +kernel
theorem dX11_least_15 : decode cX11_least 15 = .ok (.aconst_null, 1) := by decide +kernel
theorem dX11_least_16 : decode cX11_least 16 = .ok (.invokevirtual 283, 3) := by decide +kernel
theorem dX11_least_19 : decode cX11_least 19 = .ok (.istore_n 3, 1) := by decide +kernel
theorem dX11_least_20 : decode cX11_least 20 = .ok (.iload_n 3, 1) := by decide +kernel
theorem dX11_least_21 : decode cX11_least 21 = .ok (.ifCond .eq 7, 3) := by decide +kernel
theorem dX11_least_24 : decode cX11_least 24 = .ok (.iload_n 3, 1) := by decide +kernel
theorem dX11_least_25 : decode cX11_least 25 = .ok (.goto 13, 3) := by decide +kernel
theorem dX11_least_28 : decode cX11_least 28 = .ok (.aload_n 0, 1) := by decide +kernel
theorem dX11_least_29 : decode cX11_least 29 = .ok (.getfield 71, 3) := by decide +kernel
theorem dX11_least_32 : decode cX11_least 32 = .ok (.getfield 291, 3) := by decide +kernel
theorem dX11_least_35 : decode cX11_least 35 = .ok (.invokevirtual 298, 3) := by decide +kernel
theorem dX11_least_38 : decode cX11_least 38 = .ok (.ireturn, 1) := by decide +kernel
