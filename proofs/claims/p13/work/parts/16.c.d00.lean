theorem dX11_pattern_0 : decode cX11_pattern 0 = .ok (.iload_n 1, 1) := by decide +kernel
theorem dX11_pattern_1 : decode cX11_pattern 1 = .ok (.invokestatic 102, 3) := by decide +kernel
theorem dX11_pattern_4 : decode cX11_pattern 4 = .ok (.ifCond .ne 6, 3) := by decide +kernel
theorem dX11_pattern_7 : decode cX11_pattern 7 = .ok (.bipush (-2), 2) := by decide +kernel
theorem dX11_pattern_9 : decode cX11_pattern 9 = .ok (.ireturn, 1) := by decide +kernel
theorem dX11_pattern_10 : decode cX11_pattern 10 = .ok (.aload_n 0, 1) := by decide +kernel
theorem dX11_pattern_11 : decode cX11_pattern 11 = .ok (.getfield 43, 3) := by decide +kernel
theorem dX11_pattern_14 : decode cX11_pattern 14 = .ok (.aload_n 0, 1) := by decide +kernel
theorem dX11_pattern_15 : decode cX11_pattern 15 = .ok (.getfield 14, 3) := by decide +kernel
theorem dX11_pattern_18 : decode cX11_pattern 18 = .ok (.invokevirtual 105, 3) := by decide +kernel
theorem dX11_pattern_21 : decode cX11_pattern 21 = .ok (.istore_n 2, 1) := by decide +kernel
theorem dX11_pattern_22 : decode cX11_pattern 22 = .ok (.aload_n 0, 1) := by decide +kernel
theorem dX11_pattern_23 : decode cX11_pattern 23 = .ok (.getfield 14, 3) := by decide +kernel
theorem dX11_pattern_26 : decode cX11_pattern 26 = .ok (.invokevirtual 109, 3) := by decide +kernel
theorem dX11_pattern_29 : decode cX11_pattern 29 = .ok (.aload_n 0, 1) := by decide +kernel
theorem dX11_pattern_30 : decode cX11_pattern 30 = .ok (.aload_n 0, 1) := by decide +kernel
theorem dX11_pattern_31 : decode cX11_pattern 31 = .ok (.getfield 43, 3) := by decide +kernel
theorem dX11_pattern_34 : decode cX11_pattern 34 = .ok (.getfield 112, 3) := by decide +kernel
theorem dX11_pattern_37 : decode cX11_pattern 37 = .ok (.putfield 75, 3) := by decide +kernel
theorem dX11_pattern_40 : decode cX11_pattern 40 = .ok (.iload_n 2, 1) := by decide +kernel
theorem dX11_pattern_41 : decode cX11_pattern 41 = .ok (.ifCond .ne 14, 3) := by decide +kernel
theorem dX11_pattern_44 : decode cX11_pattern 44 = .ok (.bipush (-20), 2) := by decide +kernel
theorem dX11_pattern_46 : decode cX11_pattern 46 = .ok (.aload_n 0, 1) := by decide +kernel
theorem dX11_pattern_47 : decode cX11_pattern 47 = .ok (.getfield 43, 3) := by decide +kernel
theorem dX11_pattern_50 : decode cX11_pattern 50 = .ok (.getfield 113, 3) := by decide +kernel
theorem dX11_pattern_53 : decode cX11_pattern 53 = .ok (.isub, 1) := by decide +kernel
theorem dX11_pattern_54 : decode cX11_pattern 54 = .ok (.ireturn, 1) := by decide +kernel
theorem dX11_pattern_55 : decode cX11_pattern 55 = .ok (.aload_n 0, 1) := by decide +kernel
theorem dX11_pattern_56 : decode cX11_pattern 56 = .ok (.getfield 20, 3) := by decide +kernel
theorem dX11_pattern_59 : decode cX11_pattern 59 = .ok (.iload_n 1, 1) := by decide +kernel
theorem dX11_pattern_60 : decode cX11_pattern 60 = .ok (.aload_n 0, 1) := by decide +kernel
theorem dX11_pattern_61 : decode cX11_pattern 61 = .ok (.getfield 43, 3) := by decide +kernel
theorem dX11_pattern_64 : decode cX11_pattern 64 = .ok (.aload_n 0, 1) := by decide +kernel
theorem dX11_pattern_65 : decode cX11_pattern 65 = .ok (.getfield 20, 3) := by decide +kernel
theorem dX11_pattern_68 : decode cX11_pattern 68 = .ok (.iload_n 1, 1) := by decide +kernel
theorem dX11_pattern_69 : decode cX11_pattern 69 = .ok (.aaload, 1) := by decide +kernel
theorem dX11_pattern_70 : decode cX11_pattern 70 = .ok (.invokevirtual 116, 3) := by decide +kernel
theorem dX11_pattern_73 : decode cX11_pattern 73 = .ok (.aastore, 1) := by decide +kernel
theorem dX11_pattern_74 : decode cX11_pattern 74 = .ok (.aload_n 0, 1) := by decide +kernel
theorem dX11_pattern_75 : decode cX11_pattern 75 = .ok (.getfield 20, 3) := by decide +kernel
theorem dX11_pattern_78 : decode cX11_pattern 78 = .ok (.iload_n 1, 1) := by decide +kernel
theorem dX11_pattern_79 : decode cX11_pattern 79 = .ok (.aaload, 1) := by decide +kernel
theorem dX11_pattern_80 : decode cX11_pattern 80 = .ok (.iconst 1, 1) := by decide +kernel
theorem dX11_pattern_81 : decode cX11_pattern 81 = .ok (.putfield 120, 3) := by decide +kernel
theorem dX11_pattern_84 : decode cX11_pattern 84 = .ok (.aload_n 0, 1) := by decide +kernel
theorem dX11_pattern_85 : decode cX11_pattern 85 = .ok (.iload_n 1, 1) := by decide +kernel
theorem dX11_pattern_86 : decode cX11_pattern 86 = .ok (.invokevirtual 124, 3) := by decide +kernel
theorem dX11_pattern_89 : decode cX11_pattern 89 = .ok (.aload_n 0, 1) := by decide +kernel
theorem dX11_pattern_90 : decode cX11_pattern 90 = .ok (.getfield 20, 3) := by decide +kernel
theorem dX11_pattern_93 : decode cX11_pattern 93 = .ok (.iload_n 1, 1) := by decide +kernel
theorem dX11_pattern_94 : decode cX11_pattern 94 = .ok (.aaload, 1) := by decide +kernel
theorem dX11_pattern_95 : decode cX11_pattern 95 = .ok (.getfield 127, 3) := by decide +kernel
theorem dX11_pattern_98 : decode cX11_pattern 98 = .ok (.ireturn, 1) := by decide +kernel
theorem dX6_addLeaf_0 : decode cX6_addLeaf 0 = .ok (.aload_n 0, 1) := by decide +kernel
theorem dX6_addLeaf_1 : decode cX6_addLeaf 1 = .ok (.aload_n 0, 1) := by decide +kernel
theorem dX6_addLeaf_2 : decode cX6_addLeaf 2 = .ok (.iload_n 1, 1) := by decide +kernel
theorem dX6_addLeaf_3 : decode cX6_addLeaf 3 = .ok (.iload_n 2, 1) := by decide +kernel
theorem dX6_addLeaf_4 : decode cX6_addLeaf 4 = .ok (.iconst 0, 1) := by decide +kernel
theorem dX6_addLeaf_5 : decode cX6_addLeaf 5 = .ok (.iconst 0, 1) := by decide +kernel
theorem dX6_addLeaf_6 : decode cX6_addLeaf 6 = .ok (.invokevirtual 156, 3) := by decide +kernel
theorem dX6_addLeaf_9 : decode cX6_addLeaf 9 = .ok (.invokevirtual 160, 3) := by decide +kernel
theorem dX6_addLeaf_12 : decode cX6_addLeaf 12 = .ok (.aload_n 0, 1) := by decide +kernel
theorem dX6_addLeaf_13 : decode cX6_addLeaf 13 = .ok (.dup, 1) := by decide +kernel
theorem dX6_addLeaf_14 : decode cX6_addLeaf 14 = .ok (.getfield 68, 3) := by decide +kernel
theorem dX6_addLeaf_17 : decode cX6_addLeaf 17 = .ok (.iconst 1, 1) := by decide +kernel
theorem dX6_addLeaf_18 : decode cX6_addLeaf 18 = .ok (.iadd, 1) := by decide +kernel
theorem dX6_addLeaf_19 : decode cX6_addLeaf 19 = .ok (.putfield 68, 3) := by decide +kernel
theorem dX6_addLeaf_22 : decode cX6_addLeaf 22 = .ok (.return_, 1) := by decide +kernel
theorem dX6_addOne_0 : decode cX6_addOne 0 = .ok (.aload_n 0, 1) := by decide +kernel
theorem dX6_addOne_1 : decode cX6_addOne 1 = .ok (.invokevirtual 91, 3) := by decide +kernel
theorem dX6_addOne_4 : decode cX6_addOne 4 = .ok (.astore_n 2, 1) := by decide +kernel
theorem dX6_addOne_5 : decode cX6_addOne 5 = .ok (.aload_n 0, 1) := by decide +kernel
theorem dX6_addOne_6 : decode cX6_addOne 6 = .ok (.aload_n 2, 1) := by decide +kernel
theorem dX6_addOne_7 : decode cX6_addOne 7 = .ok (.invokevirtual 163, 3) := by decide +kernel
theorem dX6_addOne_10 : decode cX6_addOne 10 = .ok (.aload_n 2, 1) := by decide +kernel
theorem dX6_addOne_11 : decode cX6_addOne 11 = .ok (.iload_n 1, 1) := by decide +kernel
theorem dX6_addOne_12 : decode cX6_addOne 12 = .ok (.putfield 166, 3) := by decide +kernel
theorem dX6_addOne_15 : decode cX6_addOne 15 = .ok (.aload_n 2, 1) := by decide +kernel
theorem dX6_addOne_16 : decode cX6_addOne 16 = .ok (.iconst 1, 1) := by decide +kernel
theorem dX6_addOne_17 : decode cX6_addOne 17 = .ok (.putfield 169, 3) := by decide +kernel
theorem dX6_addOne_20 : decode cX6_addOne 20 = .ok (.return_, 1) := by decide +kernel
theorem dX6_begin_0 : decode cX6_begin 0 = .ok (.aload_n 0, 1) := by decide +kernel
theorem dX6_begin_1 : decode cX6_begin 1 = .ok (.aload_n 1, 1) := by decide +kernel
theorem dX6_begin_2 : decode cX6_begin 2 = .ok (.putfield 41, 3) := by decide +kernel
theorem dX6_begin_5 : decode cX6_begin 5 = .ok (.aload_n 0, 1) := by decide +kernel
theorem dX6_begin_6 : decode cX6_begin 6 = .ok (.getfield 50, 3) := by decide +kernel
theorem dX6_begin_9 : decode cX6_begin 9 = .ok (.invokevirtual 110, 3) := by decide +kernel
theorem dX6_begin_12 : decode cX6_begin 12 = .ok (.aload_n 0, 1) := by decide +kernel
theorem dX6_begin_13 : decode cX6_begin 13 = .ok (.iconst 0, 1) := by decide +kernel
theorem dX6_begin_14 : decode cX6_begin 14 = .ok (.putfield 75, 3) := by decide +kernel
theorem dX6_begin_17 : decode cX6_begin 17 = .ok (.aload_n 0, 1) := by decide +kernel
theorem dX6_begin_18 : decode cX6_begin 18 = .ok (.iconst (-1), 1) := by decide +kernel
theorem dX6_begin_19 : decode cX6_begin 19 = .ok (.putfield 113, 3) := by decide +kernel
theorem dX6_begin_22 : decode cX6_begin 22 = .ok (.aload_n 0, 1) := by decide +kernel
theorem dX6_begin_23 : decode cX6_begin 23 = .ok (.iconst 0, 1) := by decide +kernel
theorem dX6_begin_24 : decode cX6_begin 24 = .ok (.putfield 116, 3) := by decide +kernel
theorem dX6_begin_27 : decode cX6_begin 27 = .ok (.aload_n 0, 1) := by decide +kernel
theorem dX6_begin_28 : decode cX6_begin 28 = .ok (.iconst 0, 1) := by decide +kernel
theorem dX6_begin_29 : decode cX6_begin 29 = .ok (.putfield 85, 3) := by decide +kernel
theorem dX6_begin_32 : decode cX6_begin 32 = .ok (.aload_n 0, 1) := by decide +kernel
theorem dX6_begin_33 : decode cX6_begin 33 = .ok (.iconst 0, 1) := by decide +kernel
theorem dX6_begin_34 : decode cX6_begin 34 = .ok (.putfield 68, 3) := by decide +kernel
theorem dX6_begin_37 : decode cX6_begin 37 = .ok (.aload_n 0, 1) := by decide +kernel
theorem dX6_begin_38 : decode cX6_begin 38 = .ok (.iconst 0, 1) := by decide +kernel
theorem dX6_begin_39 : decode cX6_begin 39 = .ok (.putfield 117, 3) := by decide +kernel
theorem dX6_begin_42 : decode cX6_begin 42 = .ok (.aload_n 0, 1) := by decide +kernel
theorem dX6_begin_43 : decode cX6_begin 43 = .ok (.getfield 54, 3) := by decide +kernel
theorem dX6_begin_46 : decode cX6_begin 46 = .ok (.iconst 0, 1) := by decide +kernel
theorem dX6_begin_47 : decode cX6_begin 47 = .ok (.invokestatic 120, 3) := by decide +kernel
theorem dX6_begin_50 : decode cX6_begin 50 = .ok (.aload_n 0, 1) := by decide +kernel
theorem dX6_begin_51 : decode cX6_begin 51 = .ok (.invokevirtual 91, 3) := by decide +kernel
theorem dX6_begin_54 : decode cX6_begin 54 = .ok (.iconst (-1), 1) := by decide +kernel
theorem dX6_begin_55 : decode cX6_begin 55 = .ok (.iconst 0, 1) := by decide +kernel
theorem dX6_begin_56 : decode cX6_begin 56 = .ok (.iconst 0, 1) := by decide +kernel
theorem dX6_begin_57 : decode cX6_begin 57 = .ok (.invokevirtual 126, 3) := by decide +kernel
theorem dX6_begin_60 : decode cX6_begin 60 = .ok (.return_, 1) := by decide +kernel
theorem dX6_closeGroup_0 : decode cX6_closeGroup 0 = .ok (.aload_n 0, 1) := by decide +kernel
theorem dX6_closeGroup_1 : decode cX6_closeGroup 1 = .ok (.getfield 85, 3) := by decide +kernel
theorem dX6_closeGroup_4 : decode cX6_closeGroup 4 = .ok (.ifCond .ne 13, 3) := by decide +kernel
theorem dX6_closeGroup_7 : decode cX6_closeGroup 7 = .ok (.aload_n 0, 1) := by decide +kernel
theorem dX6_closeGroup_8 : decode cX6_closeGroup 8 = .ok (.iconst 1, 1) := by decide +kernel
theorem dX6_closeGroup_9 : decode cX6_closeGroup 9 = .ok (.aload_n 0, 1) := by decide +kernel
theorem dX6_closeGroup_10 : decode cX6_closeGroup 10 = .ok (.getfield 68, 3) := by decide +kernel
theorem dX6_closeGroup_13 : decode cX6_closeGroup 13 = .ok (.invokevirtual 88, 3) := by decide +kernel
theorem dX6_closeGroup_16 : decode cX6_closeGroup 16 = .ok (.return_, 1) := by decide +kernel
theorem dX6_closeGroup_17 : decode cX6_closeGroup 17 = .ok (.aload_n 0, 1) := by decide +kernel
theorem dX6_closeGroup_18 : decode cX6_closeGroup 18 = .ok (.invokevirtual 91, 3) := by decide +kernel
theorem dX6_closeGroup_21 : decode cX6_closeGroup 21 = .ok (.astore_n 1, 1) := by decide +kernel
theorem dX6_closeGroup_22 : decode cX6_closeGroup 22 = .ok (.aload_n 0, 1) := by decide +kernel
theorem dX6_closeGroup_23 : decode cX6_closeGroup 23 = .ok (.aload_n 1, 1) := by decide +kernel
theorem dX6_closeGroup_24 : decode cX6_closeGroup 24 = .ok (.invokevirtual 95, 3) := by decide +kernel
theorem dX6_closeGroup_27 : decode cX6_closeGroup 27 = .ok (.aload_n 0, 1) := by decide +kernel
theorem dX6_closeGroup_28 : decode cX6_closeGroup 28 = .ok (.aload_n 1, 1) := by decide +kernel
theorem dX6_closeGroup_29 : decode cX6_closeGroup 29 = .ok (.invokevirtual 99, 3) := by decide +kernel
theorem dX6_closeGroup_32 : decode cX6_closeGroup 32 = .ok (.istore_n 2, 1) := by decide +kernel
theorem dX6_closeGroup_33 : decode cX6_closeGroup 33 = .ok (.aload_n 1, 1) := by decide +kernel
theorem dX6_closeGroup_34 : decode cX6_closeGroup 34 = .ok (.getfield 198, 3) := by decide +kernel
theorem dX6_closeGroup_37 : decode cX6_closeGroup 37 = .ok (.iconst (-1), 1) := by decide +kernel
theorem dX6_closeGroup_38 : decode cX6_closeGroup 38 = .ok (.if_icmp .eq 22, 3) := by decide +kernel
theorem dX6_closeGroup_41 : decode cX6_closeGroup 41 = .ok (.aload_n 0, 1) := by decide +kernel
theorem dX6_closeGroup_42 : decode cX6_closeGroup 42 = .ok (.aload_n 1, 1) := by decide +kernel
theorem dX6_closeGroup_43 : decode cX6_closeGroup 43 = .ok (.getfield 198, 3) := by decide +kernel
theorem dX6_closeGroup_46 : decode cX6_closeGroup 46 = .ok (.aload_n 1, 1) := by decide +kernel
theorem dX6_closeGroup_47 : decode cX6_closeGroup 47 = .ok (.getfield 200, 3) := by decide +kernel
theorem dX6_closeGroup_50 : decode cX6_closeGroup 50 = .ok (.aload_n 1, 1) := by decide +kernel
theorem dX6_closeGroup_51 : decode cX6_closeGroup 51 = .ok (.getfield 202, 3) := by decide +kernel
theorem dX6_closeGroup_54 : decode cX6_closeGroup 54 = .ok (.iconst 0, 1) := by decide +kernel
theorem dX6_closeGroup_55 : decode cX6_closeGroup 55 = .ok (.iload_n 2, 1) := by decide +kernel
theorem dX6_closeGroup_56 : decode cX6_closeGroup 56 = .ok (.invokevirtual 182, 3) := by decide +kernel
theorem dX6_closeGroup_59 : decode cX6_closeGroup 59 = .ok (.istore_n 2, 1) := by decide +kernel
theorem dX6_closeGroup_60 : decode cX6_closeGroup 60 = .ok (.aload_n 0, 1) := by decide +kernel
theorem dX6_closeGroup_61 : decode cX6_closeGroup 61 = .ok (.dup, 1) := by decide +kernel
theorem dX6_closeGroup_62 : decode cX6_closeGroup 62 = .ok (.getfield 85, 3) := by decide +kernel
theorem dX6_closeGroup_65 : decode cX6_closeGroup 65 = .ok (.iconst 1, 1) := by decide +kernel
theorem dX6_closeGroup_66 : decode cX6_closeGroup 66 = .ok (.isub, 1) := by decide +kernel
theorem dX6_closeGroup_67 : decode cX6_closeGroup 67 = .ok (.putfield 85, 3) := by decide +kernel
theorem dX6_closeGroup_70 : decode cX6_closeGroup 70 = .ok (.aload_n 0, 1) := by decide +kernel
theorem dX6_closeGroup_71 : decode cX6_closeGroup 71 = .ok (.iload_n 2, 1) := by decide +kernel
theorem dX6_closeGroup_72 : decode cX6_closeGroup 72 = .ok (.invokevirtual 160, 3) := by decide +kernel
theorem dX6_closeGroup_75 : decode cX6_closeGroup 75 = .ok (.aload_n 0, 1) := by decide +kernel
theorem dX6_closeGroup_76 : decode cX6_closeGroup 76 = .ok (.dup, 1) := by decide +kernel
theorem dX6_closeGroup_77 : decode cX6_closeGroup 77 = .ok (.getfield 68, 3) := by decide +kernel
theorem dX6_closeGroup_80 : decode cX6_closeGroup 80 = .ok (.iconst 1, 1) := by decide +kernel
theorem dX6_closeGroup_81 : decode cX6_closeGroup 81 = .ok (.iadd, 1) := by decide +kernel
theorem dX6_closeGroup_82 : decode cX6_closeGroup 82 = .ok (.putfield 68, 3) := by decide +kernel
theorem dX6_closeGroup_85 : decode cX6_closeGroup 85 = .ok (.return_, 1) := by decide +kernel
theorem dX6_exchange_0 : decode cX6_exchange 0 = .ok (.aload_n 0, 1) := by decide +kernel
theorem dX6_exchange_1 : decode cX6_exchange 1 = .ok (.getfield 50, 3) := by decide +kernel
theorem dX6_exchange_4 : decode cX6_exchange 4 = .ok (.astore_n 2, 1) := by decide +kernel
theorem dX6_exchange_5 : decode cX6_exchange 5 = .ok (.aload_n 0, 1) := by decide +kernel
theorem dX6_exchange_6 : decode cX6_exchange 6 = .ok (.aload_n 1, 1) := by decide +kernel
theorem dX6_exchange_7 : decode cX6_exchange 7 = .ok (.putfield 50, 3) := by decide +kernel
theorem dX6_exchange_10 : decode cX6_exchange 10 = .ok (.aload_n 2, 1) := by decide +kernel
theorem dX6_exchange_11 : decode cX6_exchange 11 = .ok (.areturn, 1) := by decide +kernel
theorem dX6_openGroup_0 : decode cX6_openGroup 0 = .ok (.aload_n 0, 1) := by decide +kernel
theorem dX6_openGroup_1 : decode cX6_openGroup 1 = .ok (.getfield 32, 3) := by decide +kernel
theorem dX6_openGroup_4 : decode cX6_openGroup 4 = .ok (.aload_n 0, 1) := by decide +kernel
theorem dX6_openGroup_5 : decode cX6_openGroup 5 = .ok (.getfield 85, 3) := by decide +kernel
theorem dX6_openGroup_8 : decode cX6_openGroup 8 = .ok (.ifCond .lt 22, 3) := by decide +kernel
theorem dX6_openGroup_11 : decode cX6_openGroup 11 = .ok (.aload_n 0, 1) := by decide +kernel
theorem dX6_openGroup_12 : decode cX6_openGroup 12 = .ok (.getfield 85, 3) := by decide +kernel
theorem dX6_openGroup_15 : decode cX6_openGroup 15 = .ok (.aload_n 0, 1) := by decide +kernel
theorem dX6_openGroup_16 : decode cX6_openGroup 16 = .ok (.getfield 32, 3) := by decide +kernel
theorem dX6_openGroup_19 : decode cX6_openGroup 19 = .ok (.arraylength, 1) := by decide +kernel
theorem dX6_openGroup_20 : decode cX6_openGroup 20 = .ok (.if_icmp .ge 10, 3) := by decide +kernel
theorem dX6_openGroup_23 : decode cX6_openGroup 23 = .ok (.aload_n 0, 1) := by decide +kernel
theorem dX6_openGroup_24 : decode cX6_openGroup 24 = .ok (.getfield 85, 3) := by decide +kernel
theorem dX6_openGroup_27 : decode cX6_openGroup 27 = .ok (.goto 4, 3) := by decide +kernel
theorem dX6_openGroup_30 : decode cX6_openGroup 30 = .ok (.iconst 0, 1) := by decide +kernel
theorem dX6_openGroup_31 : decode cX6_openGroup 31 = .ok (.aaload, 1) := by decide +kernel
theorem dX6_openGroup_32 : decode cX6_openGroup 32 = .ok (.areturn, 1) := by decide +kernel
theorem dX6_read_0 : decode cX6_read 0 = .ok (.aload_n 0, 1) := by decide +kernel
theorem dX6_read_1 : decode cX6_read 1 = .ok (.aload_n 1, 1) := by decide +kernel
theorem dX6_read_2 : decode cX6_read 2 = .ok (.invokevirtual 64, 3) := by decide +kernel
theorem dX6_read_5 : decode cX6_read 5 = .ok (.iconst 0, 1) := by decide +kernel
theorem dX6_read_6 : decode cX6_read 6 = .ok (.istore_n 2, 1) := by decide +kernel
theorem dX6_read_7 : decode cX6_read 7 = .ok (.iload_n 2, 1) := by decide +kernel
theorem dX6_read_8 : decode cX6_read 8 = .ok (.sipush 200, 3) := by decide +kernel
theorem dX6_read_11 : decode cX6_read 11 = .ok (.if_icmp .gt 38, 3) := by decide +kernel
theorem dX6_read_14 : decode cX6_read 14 = .ok (.aload_n 0, 1) := by decide +kernel
theorem dX6_read_15 : decode cX6_read 15 = .ok (.getfield 68, 3) := by decide +kernel
theorem dX6_read_18 : decode cX6_read 18 = .ok (.aload_n 0, 1) := by decide +kernel
theorem dX6_read_19 : decode cX6_read 19 = .ok (.getfield 41, 3) := by decide +kernel
theorem dX6_read_22 : decode cX6_read 22 = .ok (.getfield 72, 3) := by decide +kernel
theorem dX6_read_25 : decode cX6_read 25 = .ok (.if_icmp .ge 24, 3) := by decide +kernel
theorem dX6_read_28 : decode cX6_read 28 = .ok (.aload_n 0, 1) := by decide +kernel
theorem dX6_read_29 : decode cX6_read 29 = .ok (.getfield 75, 3) := by decide +kernel
theorem dX6_read_32 : decode cX6_read 32 = .ok (.ifCond .ne 17, 3) := by decide +kernel
theorem dX6_read_35 : decode cX6_read 35 = .ok (.aload_n 0, 1) := by decide +kernel
theorem dX6_read_36 : decode cX6_read 36 = .ok (.aload_n 0, 1) := by decide +kernel
theorem dX6_read_37 : decode cX6_read 37 = .ok (.invokevirtual 78, 3) := by decide +kernel
theorem dX6_read_40 : decode cX6_read 40 = .ok (.invokevirtual 82, 3) := by decide +kernel
theorem dX6_read_43 : decode cX6_read 43 = .ok (.iinc 2 1, 3) := by decide +kernel
theorem dX6_read_46 : decode cX6_read 46 = .ok (.goto (-39), 3) := by decide +kernel
theorem dX6_read_49 : decode cX6_read 49 = .ok (.aload_n 0, 1) := by decide +kernel
theorem dX6_read_50 : decode cX6_read 50 = .ok (.getfield 85, 3) := by decide +kernel
theorem dX6_read_53 : decode cX6_read 53 = .ok (.ifCond .le 12, 3) := by decide +kernel
theorem dX6_read_56 : decode cX6_read 56 = .ok (.aload_n 0, 1) := by decide +kernel
theorem dX6_read_57 : decode cX6_read 57 = .ok (.iconst 1, 1) := by decide +kernel
theorem dX6_read_58 : decode cX6_read 58 = .ok (.aload_n 0, 1) := by decide +kernel
theorem dX6_read_59 : decode cX6_read 59 = .ok (.getfield 68, 3) := by decide +kernel
theorem dX6_read_62 : decode cX6_read 62 = .ok (.invokevirtual 88, 3) := by decide +kernel
theorem dX6_read_65 : decode cX6_read 65 = .ok (.aload_n 0, 1) := by decide +kernel
theorem dX6_read_66 : decode cX6_read 66 = .ok (.getfield 75, 3) := by decide +kernel
theorem dX6_read_69 : decode cX6_read 69 = .ok (.ifCond .eq 5, 3) := by decide +kernel
theorem dX6_read_72 : decode cX6_read 72 = .ok (.iconst 0, 1) := by decide +kernel
theorem dX6_read_73 : decode cX6_read 73 = .ok (.ireturn, 1) := by decide +kernel
theorem dX6_read_74 : decode cX6_read 74 = .ok (.aload_n 0, 1) := by decide +kernel
theorem dX6_read_75 : decode cX6_read 75 = .ok (.aload_n 0, 1) := by decide +kernel
theorem dX6_read_76 : decode cX6_read 76 = .ok (.invokevirtual 91, 3) := by decide +kernel
theorem dX6_read_79 : decode cX6_read 79 = .ok (.invokevirtual 95, 3) := by decide +kernel
theorem dX6_read_82 : decode cX6_read 82 = .ok (.aload_n 0, 1) := by decide +kernel
theorem dX6_read_83 : decode cX6_read 83 = .ok (.aload_n 0, 1) := by decide +kernel
theorem dX6_read_84 : decode cX6_read 84 = .ok (.aload_n 0, 1) := by decide +kernel
theorem dX6_read_85 : decode cX6_read 85 = .ok (.invokevirtual 91, 3) := by decide +kernel
theorem dX6_read_88 : decode cX6_read 88 = .ok (.invokevirtual 99, 3) := by decide +kernel
theorem dX6_read_91 : decode cX6_read 91 = .ok (.iconst (-1), 1) := by decide +kernel
theorem dX6_read_92 : decode cX6_read 92 = .ok (.iconst 0, 1) := by decide +kernel
theorem dX6_read_93 : decode cX6_read 93 = .ok (.invokevirtual 103, 3) := by decide +kernel
theorem dX6_read_96 : decode cX6_read 96 = .ok (.aload_n 0, 1) := by decide +kernel
theorem dX6_read_97 : decode cX6_read 97 = .ok (.getfield 50, 3) := by decide +kernel
theorem dX6_read_100 : decode cX6_read 100 = .ok (.invokevirtual 107, 3) := by decide +kernel
theorem dX6_read_103 : decode cX6_read 103 = .ok (.iconst 1, 1) := by decide +kernel
theorem dX6_read_104 : decode cX6_read 104 = .ok (.ireturn, 1) := by decide +kernel
theorem dX6_readBackByName_0 : decode cX6_readBackByName 0 = .ok (.aload_n 0, 1) := by decide +kernel
theorem dX6_readBackByName_1 : decode cX6_readBackByName 1 = .ok (.dup, 1) := by decide +kernel
theorem dX6_readBackByName_2 : decode cX6_readBackByName 2 = .ok (.getfield 68, 3) := by decide +kernel
theorem dX6_readBackByName_5 : decode cX6_readBackByName 5 = .ok (.iconst 1, 1) := by decide +kernel
theorem dX6_readBackByName_6 : decode cX6_readBackByName 6 = .ok (.iadd, 1) := by decide +kernel
theorem dX6_readBackByName_7 : decode cX6_readBackByName 7 = .ok (.putfield 68, 3) := by decide +kernel
theorem dX6_readBackByName_10 : decode cX6_readBackByName 10 = .ok (.aload_n 0, 1) := by decide +kernel
theorem dX6_readBackByName_11 : decode cX6_readBackByName 11 = .ok (.invokevirtual 78, 3) := by decide +kernel
theorem dX6_readBackByName_14 : decode cX6_readBackByName 14 = .ok (.istore_n 1, 1) := by decide +kernel
theorem dX6_readBackByName_15 : decode cX6_readBackByName 15 = .ok (.iload_n 1, 1) := by decide +kernel
theorem dX6_readBackByName_16 : decode cX6_readBackByName 16 = .ok (.invokestatic 220, 3) := by decide +kernel
theorem dX6_readBackByName_19 : decode cX6_readBackByName 19 = .ok (.ifCond .ne 15, 3) := by decide +kernel
theorem dX6_readBackByName_22 : decode cX6_readBackByName 22 = .ok (.aload_n 0, 1) := by decide +kernel
theorem dX6_readBackByName_23 : decode cX6_readBackByName 23 = .ok (.iconst 1, 1) := by decide +kernel
theorem dX6_readBackByName_24 : decode cX6_readBackByName 24 = .ok (.aload_n 0, 1) := by decide +kernel
theorem dX6_readBackByName_25 : decode cX6_readBackByName 25 = .ok (.getfield 68, 3) := by decide +kernel
theorem dX6_readBackByName_28 : decode cX6_readBackByName 28 = .ok (.invokevirtual 88, 3) := by decide +kernel
theorem dX6_readBackByName_31 : decode cX6_readBackByName 31 = .ok (.goto 41, 3) := by decide +kernel
theorem dX6_readBackByName_34 : decode cX6_readBackByName 34 = .ok (.aload_n 0, 1) := by decide +kernel
theorem dX6_readBackByName_35 : decode cX6_readBackByName 35 = .ok (.getfield 54, 3) := by decide +kernel
theorem dX6_readBackByName_38 : decode cX6_readBackByName 38 = .ok (.iload_n 1, 1) := by decide +kernel
theorem dX6_readBackByName_39 : decode cX6_readBackByName 39 = .ok (.bipush 97, 2) := by decide +kernel
theorem dX6_readBackByName_41 : decode cX6_readBackByName 41 = .ok (.isub, 1) := by decide +kernel
theorem dX6_readBackByName_42 : decode cX6_readBackByName 42 = .ok (.iaload, 1) := by decide +kernel
theorem dX6_readBackByName_43 : decode cX6_readBackByName 43 = .ok (.ifCond .ne 15, 3) := by decide +kernel
theorem dX6_readBackByName_46 : decode cX6_readBackByName 46 = .ok (.aload_n 0, 1) := by decide +kernel
theorem dX6_readBackByName_47 : decode cX6_readBackByName 47 = .ok (.iconst 3, 1) := by decide +kernel
theorem dX6_readBackByName_48 : decode cX6_readBackByName 48 = .ok (.aload_n 0, 1) := by decide +kernel
theorem dX6_readBackByName_49 : decode cX6_readBackByName 49 = .ok (.getfield 68, 3) := by decide +kernel
theorem dX6_readBackByName_52 : decode cX6_readBackByName 52 = .ok (.invokevirtual 88, 3) := by decide +kernel
theorem dX6_readBackByName_55 : decode cX6_readBackByName 55 = .ok (.goto 17, 3) := by decide +kernel
theorem dX6_readBackByName_58 : decode cX6_readBackByName 58 = .ok (.aload_n 0, 1) := by decide +kernel
theorem dX6_readBackByName_59 : decode cX6_readBackByName 59 = .ok (.iconst 4, 1) := by decide +kernel
theorem dX6_readBackByName_60 : decode cX6_readBackByName 60 = .ok (.aload_n 0, 1) := by decide +kernel
theorem dX6_readBackByName_61 : decode cX6_readBackByName 61 = .ok (.getfield 54, 3) := by decide +kernel
theorem dX6_readBackByName_64 : decode cX6_readBackByName 64 = .ok (.iload_n 1, 1) := by decide +kernel
theorem dX6_readBackByName_65 : decode cX6_readBackByName 65 = .ok (.bipush 97, 2) := by decide +kernel
theorem dX6_readBackByName_67 : decode cX6_readBackByName 67 = .ok (.isub, 1) := by decide +kernel
theorem dX6_readBackByName_68 : decode cX6_readBackByName 68 = .ok (.iaload, 1) := by decide +kernel
theorem dX6_readBackByName_69 : decode cX6_readBackByName 69 = .ok (.invokevirtual 153, 3) := by decide +kernel
theorem dX6_readBackByName_72 : decode cX6_readBackByName 72 = .ok (.return_, 1) := by decide +kernel
theorem dX6_readCode_0 : decode cX6_readCode 0 = .ok (.aload_n 0, 1) := by decide +kernel
theorem dX6_readCode_1 : decode cX6_readCode 1 = .ok (.dup, 1) := by decide +kernel
theorem dX6_readCode_2 : decode cX6_readCode 2 = .ok (.getfield 68, 3) := by decide +kernel
theorem dX6_readCode_5 : decode cX6_readCode 5 = .ok (.iconst 1, 1) := by decide +kernel
theorem dX6_readCode_6 : decode cX6_readCode 6 = .ok (.iadd, 1) := by decide +kernel
theorem dX6_readCode_7 : decode cX6_readCode 7 = .ok (.putfield 68, 3) := by decide +kernel
theorem dX6_readCode_10 : decode cX6_readCode 10 = .ok (.aload_n 0, 1) := by decide +kernel
theorem dX6_readCode_11 : decode cX6_readCode 11 = .ok (.invokevirtual 258, 3) := by decide +kernel
theorem dX6_readCode_14 : decode cX6_readCode 14 = .ok (.istore_n 1, 1) := by decide +kernel
theorem dX6_readCode_15 : decode cX6_readCode 15 = .ok (.aload_n 0, 1) := by decide +kernel
theorem dX6_readCode_16 : decode cX6_readCode 16 = .ok (.getfield 75, 3) := by decide +kernel
theorem dX6_readCode_19 : decode cX6_readCode 19 = .ok (.ifCond .ne 15, 3) := by decide +kernel
theorem dX6_readCode_22 : decode cX6_readCode 22 = .ok (.aload_n 0, 1) := by decide +kernel
theorem dX6_readCode_23 : decode cX6_readCode 23 = .ok (.aload_n 0, 1) := by decide +kernel
theorem dX6_readCode_24 : decode cX6_readCode 24 = .ok (.iconst 0, 1) := by decide +kernel
theorem dX6_readCode_25 : decode cX6_readCode 25 = .ok (.iload_n 1, 1) := by decide +kernel
theorem dX6_readCode_26 : decode cX6_readCode 26 = .ok (.iconst 0, 1) := by decide +kernel
theorem dX6_readCode_27 : decode cX6_readCode 27 = .ok (.iconst 0, 1) := by decide +kernel
theorem dX6_readCode_28 : decode cX6_readCode 28 = .ok (.invokevirtual 156, 3) := by decide +kernel
theorem dX6_readCode_31 : decode cX6_readCode 31 = .ok (.invokevirtual 160, 3) := by decide +kernel
theorem dX6_readCode_34 : decode cX6_readCode 34 = .ok (.return_, 1) := by decide +kernel
theorem dX6_readDigits_0 : decode cX6_readDigits 0 = .ok (.aload_n 0, 1) := by decide +kernel
theorem dX6_readDigits_1 : decode cX6_readDigits 1 = .ok (.iconst 0, 1) := by decide +kernel
theorem dX6_readDigits_2 : decode cX6_readDigits 2 = .ok (.putfield 248, 3) := by decide +kernel
theorem dX6_readDigits_5 : decode cX6_readDigits 5 = .ok (.aload_n 0, 1) := by decide +kernel
theorem dX6_readDigits_6 : decode cX6_readDigits 6 = .ok (.bipush 48, 2) := by decide +kernel
theorem dX6_readDigits_8 : decode cX6_readDigits 8 = .ok (.bipush 57, 2) := by decide +kernel
theorem dX6_readDigits_10 : decode cX6_readDigits 10 = .ok (.invokevirtual 251, 3) := by decide +kernel
theorem dX6_readDigits_13 : decode cX6_readDigits 13 = .ok (.aload_n 0, 1) := by decide +kernel
theorem dX6_readDigits_14 : decode cX6_readDigits 14 = .ok (.aload_n 0, 1) := by decide +kernel
theorem dX6_readDigits_15 : decode cX6_readDigits 15 = .ok (.iconst 0, 1) := by decide +kernel
theorem dX6_readDigits_16 : decode cX6_readDigits 16 = .ok (.invokevirtual 254, 3) := by decide +kernel
theorem dX6_readDigits_19 : decode cX6_readDigits 19 = .ok (.invokevirtual 160, 3) := by decide +kernel
theorem dX6_readDigits_22 : decode cX6_readDigits 22 = .ok (.aload_n 0, 1) := by decide +kernel
theorem dX6_readDigits_23 : decode cX6_readDigits 23 = .ok (.dup, 1) := by decide +kernel
theorem dX6_readDigits_24 : decode cX6_readDigits 24 = .ok (.getfield 68, 3) := by decide +kernel
theorem dX6_readDigits_27 : decode cX6_readDigits 27 = .ok (.iconst 1, 1) := by decide +kernel
theorem dX6_readDigits_28 : decode cX6_readDigits 28 = .ok (.iadd, 1) := by decide +kernel
theorem dX6_readDigits_29 : decode cX6_readDigits 29 = .ok (.putfield 68, 3) := by decide +kernel
theorem dX6_readDigits_32 : decode cX6_readDigits 32 = .ok (.return_, 1) := by decide +kernel
theorem dX6_readEscape_0 : decode cX6_readEscape 0 = .ok (.aload_n 0, 1) := by decide +kernel
theorem dX6_readEscape_1 : decode cX6_readEscape 1 = .ok (.invokevirtual 149, 3) := by decide +kernel
theorem dX6_readEscape_4 : decode cX6_readEscape 4 = .ok (.ifCond .ne 4, 3) := by decide +kernel
theorem dX6_readEscape_7 : decode cX6_readEscape 7 = .ok (.return_, 1) := by decide +kernel
theorem dX6_readEscape_8 : decode cX6_readEscape 8 = .ok (.aload_n 0, 1) := by decide +kernel
theorem dX6_readEscape_9 : decode cX6_readEscape 9 = .ok (.dup, 1) := by decide +kernel
theorem dX6_readEscape_10 : decode cX6_readEscape 10 = .ok (.getfield 68, 3) := by decide +kernel
theorem dX6_readEscape_13 : decode cX6_readEscape 13 = .ok (.iconst 1, 1) := by decide +kernel
theorem dX6_readEscape_14 : decode cX6_readEscape 14 = .ok (.iadd, 1) := by decide +kernel
theorem dX6_readEscape_15 : decode cX6_readEscape 15 = .ok (.putfield 68, 3) := by decide +kernel
theorem dX6_readEscape_18 : decode cX6_readEscape 18 = .ok (.aload_n 0, 1) := by decide +kernel
theorem dX6_readEscape_19 : decode cX6_readEscape 19 = .ok (.invokevirtual 78, 3) := by decide +kernel
theorem dX6_readEscape_22 : decode cX6_readEscape 22 = .ok (.istore_n 1, 1) := by decide +kernel
theorem dX6_readEscape_23 : decode cX6_readEscape 23 = .ok (.iload_n 1, 1) := by decide +kernel
theorem dX6_readEscape_24 : decode cX6_readEscape 24 = .ok (.lookupswitch 106 #[(64, 99), (66, 69), (98, 60), (100, 78), (119, 85), (120, 92)], 60) := by decide +kernel
theorem dX6_readEscape_84 : decode cX6_readEscape 84 = .ok (.aload_n 0, 1) := by decide +kernel
theorem dX6_readEscape_85 : decode cX6_readEscape 85 = .ok (.iconst 3, 1) := by decide +kernel
theorem dX6_readEscape_86 : decode cX6_readEscape 86 = .ok (.iconst 2, 1) := by decide +kernel
theorem dX6_readEscape_87 : decode cX6_readEscape 87 = .ok (.invokevirtual 153, 3) := by decide +kernel
theorem dX6_readEscape_90 : decode cX6_readEscape 90 = .ok (.goto 45, 3) := by decide +kernel
theorem dX6_readEscape_93 : decode cX6_readEscape 93 = .ok (.aload_n 0, 1) := by decide +kernel
theorem dX6_readEscape_94 : decode cX6_readEscape 94 = .ok (.iconst 3, 1) := by decide +kernel
theorem dX6_readEscape_95 : decode cX6_readEscape 95 = .ok (.iconst 3, 1) := by decide +kernel
theorem dX6_readEscape_96 : decode cX6_readEscape 96 = .ok (.invokevirtual 153, 3) := by decide +kernel
theorem dX6_readEscape_99 : decode cX6_readEscape 99 = .ok (.goto 36, 3) := by decide +kernel
theorem dX6_readEscape_102 : decode cX6_readEscape 102 = .ok (.aload_n 0, 1) := by decide +kernel
theorem dX6_readEscape_103 : decode cX6_readEscape 103 = .ok (.invokevirtual 233, 3) := by decide +kernel
theorem dX6_readEscape_106 : decode cX6_readEscape 106 = .ok (.goto 29, 3) := by decide +kernel
theorem dX6_readEscape_109 : decode cX6_readEscape 109 = .ok (.aload_n 0, 1) := by decide +kernel
theorem dX6_readEscape_110 : decode cX6_readEscape 110 = .ok (.invokevirtual 236, 3) := by decide +kernel
theorem dX6_readEscape_113 : decode cX6_readEscape 113 = .ok (.goto 22, 3) := by decide +kernel
theorem dX6_readEscape_116 : decode cX6_readEscape 116 = .ok (.aload_n 0, 1) := by decide +kernel
theorem dX6_readEscape_117 : decode cX6_readEscape 117 = .ok (.invokevirtual 239, 3) := by decide +kernel
theorem dX6_readEscape_120 : decode cX6_readEscape 120 = .ok (.goto 15, 3) := by decide +kernel
theorem dX6_readEscape_123 : decode cX6_readEscape 123 = .ok (.aload_n 0, 1) := by decide +kernel
theorem dX6_readEscape_124 : decode cX6_readEscape 124 = .ok (.invokevirtual 242, 3) := by decide +kernel
theorem dX6_readEscape_127 : decode cX6_readEscape 127 = .ok (.goto 8, 3) := by decide +kernel
theorem dX6_readEscape_130 : decode cX6_readEscape 130 = .ok (.aload_n 0, 1) := by decide +kernel
theorem dX6_readEscape_131 : decode cX6_readEscape 131 = .ok (.iload_n 1, 1) := by decide +kernel
theorem dX6_readEscape_132 : decode cX6_readEscape 132 = .ok (.invokevirtual 245, 3) := by decide +kernel
theorem dX6_readEscape_135 : decode cX6_readEscape 135 = .ok (.return_, 1) := by decide +kernel
theorem dX6_readGroup_0 : decode cX6_readGroup 0 = .ok (.aload_n 0, 1) := by decide +kernel
theorem dX6_readGroup_1 : decode cX6_readGroup 1 = .ok (.getfield 41, 3) := by decide +kernel
theorem dX6_readGroup_4 : decode cX6_readGroup 4 = .ok (.aload_n 0, 1) := by decide +kernel
theorem dX6_readGroup_5 : decode cX6_readGroup 5 = .ok (.getfield 68, 3) := by decide +kernel
theorem dX6_readGroup_8 : decode cX6_readGroup 8 = .ok (.iconst 1, 1) := by decide +kernel
theorem dX6_readGroup_9 : decode cX6_readGroup 9 = .ok (.iadd, 1) := by decide +kernel
theorem dX6_readGroup_10 : decode cX6_readGroup 10 = .ok (.invokevirtual 128, 3) := by decide +kernel
theorem dX6_readGroup_13 : decode cX6_readGroup 13 = .ok (.istore_n 1, 1) := by decide +kernel
theorem dX6_readGroup_14 : decode cX6_readGroup 14 = .ok (.iload_n 1, 1) := by decide +kernel
theorem dX6_readGroup_15 : decode cX6_readGroup 15 = .ok (.bipush 35, 2) := by decide +kernel
theorem dX6_readGroup_17 : decode cX6_readGroup 17 = .ok (.if_icmp .ne 8, 3) := by decide +kernel
theorem dX6_readGroup_20 : decode cX6_readGroup 20 = .ok (.aload_n 0, 1) := by decide +kernel
theorem dX6_readGroup_21 : decode cX6_readGroup 21 = .ok (.invokevirtual 205, 3) := by decide +kernel
theorem dX6_readGroup_24 : decode cX6_readGroup 24 = .ok (.return_, 1) := by decide +kernel
theorem dX6_readGroup_25 : decode cX6_readGroup 25 = .ok (.iload_n 1, 1) := by decide +kernel
theorem dX6_readGroup_26 : decode cX6_readGroup 26 = .ok (.invokestatic 208, 3) := by decide +kernel
theorem dX6_readGroup_29 : decode cX6_readGroup 29 = .ok (.istore_n 2, 1) := by decide +kernel
theorem dX6_readGroup_30 : decode cX6_readGroup 30 = .ok (.iload_n 2, 1) := by decide +kernel
theorem dX6_readGroup_31 : decode cX6_readGroup 31 = .ok (.bipush 8, 2) := by decide +kernel
theorem dX6_readGroup_33 : decode cX6_readGroup 33 = .ok (.if_icmp .ne 7, 3) := by decide +kernel
theorem dX6_readGroup_36 : decode cX6_readGroup 36 = .ok (.iconst 1, 1) := by decide +kernel
theorem dX6_readGroup_37 : decode cX6_readGroup 37 = .ok (.goto 4, 3) := by decide +kernel
theorem dX6_readGroup_40 : decode cX6_readGroup 40 = .ok (.iconst 0, 1) := by decide +kernel
theorem dX6_readGroup_41 : decode cX6_readGroup 41 = .ok (.istore_n 3, 1) := by decide +kernel
theorem dX6_readGroup_42 : decode cX6_readGroup 42 = .ok (.aload_n 0, 1) := by decide +kernel
theorem dX6_readGroup_43 : decode cX6_readGroup 43 = .ok (.getfield 85, 3) := by decide +kernel
theorem dX6_readGroup_46 : decode cX6_readGroup 46 = .ok (.bipush 9, 2) := by decide +kernel
theorem dX6_readGroup_48 : decode cX6_readGroup 48 = .ok (.if_icmp .ge 19, 3) := by decide +kernel
theorem dX6_readGroup_51 : decode cX6_readGroup 51 = .ok (.iload_n 3, 1) := by decide +kernel
theorem dX6_readGroup_52 : decode cX6_readGroup 52 = .ok (.ifCond .eq 24, 3) := by decide +kernel
theorem dX6_readGroup_55 : decode cX6_readGroup 55 = .ok (.aload_n 0, 1) := by decide +kernel
theorem dX6_readGroup_56 : decode cX6_readGroup 56 = .ok (.getfield 50, 3) := by decide +kernel
theorem dX6_readGroup_59 : decode cX6_readGroup 59 = .ok (.getfield 211, 3) := by decide +kernel
theorem dX6_readGroup_62 : decode cX6_readGroup 62 = .ok (.bipush 9, 2) := by decide +kernel
theorem dX6_readGroup_64 : decode cX6_readGroup 64 = .ok (.if_icmp .lt 12, 3) := by decide +kernel
theorem dX6_readGroup_67 : decode cX6_readGroup 67 = .ok (.aload_n 0, 1) := by decide +kernel
theorem dX6_readGroup_68 : decode cX6_readGroup 68 = .ok (.iconst 2, 1) := by decide +kernel
theorem dX6_readGroup_69 : decode cX6_readGroup 69 = .ok (.aload_n 0, 1) := by decide +kernel
theorem dX6_readGroup_70 : decode cX6_readGroup 70 = .ok (.getfield 68, 3) := by decide +kernel
theorem dX6_readGroup_73 : decode cX6_readGroup 73 = .ok (.invokevirtual 88, 3) := by decide +kernel
theorem dX6_readGroup_76 : decode cX6_readGroup 76 = .ok (.aload_n 0, 1) := by decide +kernel
theorem dX6_readGroup_77 : decode cX6_readGroup 77 = .ok (.invokevirtual 149, 3) := by decide +kernel
theorem dX6_readGroup_80 : decode cX6_readGroup 80 = .ok (.ifCond .ne 4, 3) := by decide +kernel
theorem dX6_readGroup_83 : decode cX6_readGroup 83 = .ok (.return_, 1) := by decide +kernel
theorem dX6_readGroup_84 : decode cX6_readGroup 84 = .ok (.aload_n 0, 1) := by decide +kernel
theorem dX6_readGroup_85 : decode cX6_readGroup 85 = .ok (.dup, 1) := by decide +kernel
theorem dX6_readGroup_86 : decode cX6_readGroup 86 = .ok (.getfield 68, 3) := by decide +kernel
theorem dX6_readGroup_89 : decode cX6_readGroup 89 = .ok (.iload_n 3, 1) := by decide +kernel
theorem dX6_readGroup_90 : decode cX6_readGroup 90 = .ok (.ifCond .eq 13, 3) := by decide +kernel
theorem dX6_readGroup_93 : decode cX6_readGroup 93 = .ok (.iload_n 1, 1) := by decide +kernel
theorem dX6_readGroup_94 : decode cX6_readGroup 94 = .ok (.bipush 64, 2) := by decide +kernel
theorem dX6_readGroup_96 : decode cX6_readGroup 96 = .ok (.if_icmp .eq 7, 3) := by decide +kernel
theorem dX6_readGroup_99 : decode cX6_readGroup 99 = .ok (.iconst 1, 1) := by decide +kernel
theorem dX6_readGroup_100 : decode cX6_readGroup 100 = .ok (.goto 4, 3) := by decide +kernel
theorem dX6_readGroup_103 : decode cX6_readGroup 103 = .ok (.iconst 2, 1) := by decide +kernel
theorem dX6_readGroup_104 : decode cX6_readGroup 104 = .ok (.iadd, 1) := by decide +kernel
theorem dX6_readGroup_105 : decode cX6_readGroup 105 = .ok (.putfield 68, 3) := by decide +kernel
theorem dX6_readGroup_108 : decode cX6_readGroup 108 = .ok (.aload_n 0, 1) := by decide +kernel
theorem dX6_readGroup_109 : decode cX6_readGroup 109 = .ok (.getfield 50, 3) := by decide +kernel
theorem dX6_readGroup_112 : decode cX6_readGroup 112 = .ok (.dup, 1) := by decide +kernel
theorem dX6_readGroup_113 : decode cX6_readGroup 113 = .ok (.getfield 211, 3) := by decide +kernel
theorem dX6_readGroup_116 : decode cX6_readGroup 116 = .ok (.iload_n 3, 1) := by decide +kernel
theorem dX6_readGroup_117 : decode cX6_readGroup 117 = .ok (.ifCond .eq 7, 3) := by decide +kernel
theorem dX6_readGroup_120 : decode cX6_readGroup 120 = .ok (.iconst 1, 1) := by decide +kernel
theorem dX6_readGroup_121 : decode cX6_readGroup 121 = .ok (.goto 4, 3) := by decide +kernel
theorem dX6_readGroup_124 : decode cX6_readGroup 124 = .ok (.iconst 0, 1) := by decide +kernel
theorem dX6_readGroup_125 : decode cX6_readGroup 125 = .ok (.iadd, 1) := by decide +kernel
theorem dX6_readGroup_126 : decode cX6_readGroup 126 = .ok (.putfield 211, 3) := by decide +kernel
theorem dX6_readGroup_129 : decode cX6_readGroup 129 = .ok (.iload_n 1, 1) := by decide +kernel
theorem dX6_readGroup_130 : decode cX6_readGroup 130 = .ok (.bipush 64, 2) := by decide +kernel
theorem dX6_readGroup_132 : decode cX6_readGroup 132 = .ok (.if_icmp .ne 10, 3) := by decide +kernel
theorem dX6_readGroup_135 : decode cX6_readGroup 135 = .ok (.aload_n 0, 1) := by decide +kernel
theorem dX6_readGroup_136 : decode cX6_readGroup 136 = .ok (.invokevirtual 214, 3) := by decide +kernel
theorem dX6_readGroup_139 : decode cX6_readGroup 139 = .ok (.goto 4, 3) := by decide +kernel
theorem dX6_readGroup_142 : decode cX6_readGroup 142 = .ok (.iconst 0, 1) := by decide +kernel
theorem dX6_readGroup_143 : decode cX6_readGroup 143 = .ok (.istore 4, 2) := by decide +kernel
theorem dX6_readGroup_145 : decode cX6_readGroup 145 = .ok (.aload_n 0, 1) := by decide +kernel
theorem dX6_readGroup_146 : decode cX6_readGroup 146 = .ok (.getfield 75, 3) := by decide +kernel
theorem dX6_readGroup_149 : decode cX6_readGroup 149 = .ok (.ifCond .ne 41, 3) := by decide +kernel
theorem dX6_readGroup_152 : decode cX6_readGroup 152 = .ok (.aload_n 0, 1) := by decide +kernel
theorem dX6_readGroup_153 : decode cX6_readGroup 153 = .ok (.dup, 1) := by decide +kernel
theorem dX6_readGroup_154 : decode cX6_readGroup 154 = .ok (.getfield 85, 3) := by decide +kernel
theorem dX6_readGroup_157 : decode cX6_readGroup 157 = .ok (.iconst 1, 1) := by decide +kernel
theorem dX6_readGroup_158 : decode cX6_readGroup 158 = .ok (.iadd, 1) := by decide +kernel
