theorem dX12_clear_26 : decode cX12_clear 26 = .ok (.goto 4, 3) := by decide +kernel
theorem dX12_clear_29 : decode cX12_clear 29 = .ok (.iconst 0, 1) := by decide +kernel
theorem dX12_clear_30 : decode cX12_clear 30 = .ok (.iadd, 1) := by decide +kernel
theorem dX12_clear_31 : decode cX12_clear 31 = .ok (.istore_n 1, 1) := by decide +kernel
theorem dX12_clear_32 : decode cX12_clear 32 = .ok (.aload_n 0, 1) := by decide +kernel
theorem dX12_clear_33 : decode cX12_clear 33 = .ok (.getfield 31, 3) := by decide +kernel
theorem dX12_clear_36 : decode cX12_clear 36 = .ok (.iload_n 2, 1) := by decide +kernel
theorem dX12_clear_37 : decode cX12_clear 37 = .ok (.iconst 0, 1) := by decide +kernel
theorem dX12_clear_38 : decode cX12_clear 38 = .ok (.bastore, 1) := by decide +kernel
theorem dX12_clear_39 : decode cX12_clear 39 = .ok (.iinc 2 1, 3) := by decide +kernel
theorem dX12_clear_42 : decode cX12_clear 42 = .ok (.goto (-33), 3) := by decide +kernel
theorem dX12_clear_45 : decode cX12_clear 45 = .ok (.iconst 0, 1) := by decide +kernel
theorem dX12_clear_46 : decode cX12_clear 46 = .ok (.istore_n 2, 1) := by decide +kernel
theorem dX12_clear_47 : decode cX12_clear 47 = .ok (.iload_n 2, 1) := by decide +kernel
theorem dX12_clear_48 : decode cX12_clear 48 = .ok (.iconst 4, 1) := by decide +kernel
theorem dX12_clear_49 : decode cX12_clear 49 = .ok (.if_icmp .ge 16, 3) := by decide +kernel
theorem dX12_clear_52 : decode cX12_clear 52 = .ok (.aload_n 0, 1) := by decide +kernel
theorem dX12_clear_53 : decode cX12_clear 53 = .ok (.getfield 171, 3) := by decide +kernel
theorem dX12_clear_56 : decode cX12_clear 56 = .ok (.iload_n 2, 1) := by decide +kernel
theorem dX12_clear_57 : decode cX12_clear 57 = .ok (.iconst 0, 1) := by decide +kernel
theorem dX12_clear_58 : decode cX12_clear 58 = .ok (.bastore, 1) := by decide +kernel
theorem dX12_clear_59 : decode cX12_clear 59 = .ok (.iinc 2 1, 3) := by decide +kernel
theorem dX12_clear_62 : decode cX12_clear 62 = .ok (.goto (-15), 3) := by decide +kernel
theorem dX12_clear_65 : decode cX12_clear 65 = .ok (.aload_n 0, 1) := by decide +kernel
theorem dX12_clear_66 : decode cX12_clear 66 = .ok (.iconst 0, 1) := by decide +kernel
theorem dX12_clear_67 : decode cX12_clear 67 = .ok (.putfield 317, 3) := by decide +kernel
theorem dX12_clear_70 : decode cX12_clear 70 = .ok (.aload_n 0, 1) := by decide +kernel
theorem dX12_clear_71 : decode cX12_clear 71 = .ok (.iconst (-1), 1) := by decide +kernel
theorem dX12_clear_72 : decode cX12_clear 72 = .ok (.putfield 28, 3) := by decide +kernel
theorem dX12_clear_75 : decode cX12_clear 75 = .ok (.aload_n 0, 1) := by decide +kernel
theorem dX12_clear_76 : decode cX12_clear 76 = .ok (.iconst 0, 1) := by decide +kernel
theorem dX12_clear_77 : decode cX12_clear 77 = .ok (.putfield 456, 3) := by decide +kernel
theorem dX12_clear_80 : decode cX12_clear 80 = .ok (.aload_n 0, 1) := by decide +kernel
theorem dX12_clear_81 : decode cX12_clear 81 = .ok (.iconst 0, 1) := by decide +kernel
theorem dX12_clear_82 : decode cX12_clear 82 = .ok (.putfield 583, 3) := by decide +kernel
theorem dX12_clear_85 : decode cX12_clear 85 = .ok (.aload_n 0, 1) := by decide +kernel
theorem dX12_clear_86 : decode cX12_clear 86 = .ok (.iconst 0, 1) := by decide +kernel
theorem dX12_clear_87 : decode cX12_clear 87 = .ok (.putfield 502, 3) := by decide +kernel
theorem dX12_clear_90 : decode cX12_clear 90 = .ok (.aload_n 0, 1) := by decide +kernel
theorem dX12_clear_91 : decode cX12_clear 91 = .ok (.iconst 0, 1) := by decide +kernel
theorem dX12_clear_92 : decode cX12_clear 92 = .ok (.putfield 505, 3) := by decide +kernel
theorem dX12_clear_95 : decode cX12_clear 95 = .ok (.aload_n 0, 1) := by decide +kernel
theorem dX12_clear_96 : decode cX12_clear 96 = .ok (.iconst 0, 1) := by decide +kernel
theorem dX12_clear_97 : decode cX12_clear 97 = .ok (.putfield 664, 3) := by decide +kernel
theorem dX12_clear_100 : decode cX12_clear 100 = .ok (.aload_n 0, 1) := by decide +kernel
theorem dX12_clear_101 : decode cX12_clear 101 = .ok (.iconst 0, 1) := by decide +kernel
theorem dX12_clear_102 : decode cX12_clear 102 = .ok (.putfield 449, 3) := by decide +kernel
theorem dX12_clear_105 : decode cX12_clear 105 = .ok (.iload_n 1, 1) := by decide +kernel
theorem dX12_clear_106 : decode cX12_clear 106 = .ok (.ireturn, 1) := by decide +kernel
theorem dX12_closeChoice_0 : decode cX12_closeChoice 0 = .ok (.aload_n 0, 1) := by decide +kernel
theorem dX12_closeChoice_1 : decode cX12_closeChoice 1 = .ok (.invokevirtual 339, 3) := by decide +kernel
theorem dX12_closeChoice_4 : decode cX12_closeChoice 4 = .ok (.aload_n 0, 1) := by decide +kernel
theorem dX12_closeChoice_5 : decode cX12_closeChoice 5 = .ok (.getfield 140, 3) := by decide +kernel
theorem dX12_closeChoice_8 : decode cX12_closeChoice 8 = .ok (.aload_n 0, 1) := by decide +kernel
theorem dX12_closeChoice_9 : decode cX12_closeChoice 9 = .ok (.getfield 329, 3) := by decide +kernel
theorem dX12_closeChoice_12 : decode cX12_closeChoice 12 = .ok (.iaload, 1) := by decide +kernel
theorem dX12_closeChoice_13 : decode cX12_closeChoice 13 = .ok (.iconst 1, 1) := by decide +kernel
theorem dX12_closeChoice_14 : decode cX12_closeChoice 14 = .ok (.if_icmp .ne 13, 3) := by decide +kernel
theorem dX12_closeChoice_17 : decode cX12_closeChoice 17 = .ok (.aload_n 0, 1) := by decide +kernel
theorem dX12_closeChoice_18 : decode cX12_closeChoice 18 = .ok (.getfield 134, 3) := by decide +kernel
theorem dX12_closeChoice_21 : decode cX12_closeChoice 21 = .ok (.aload_n 0, 1) := by decide +kernel
theorem dX12_closeChoice_22 : decode cX12_closeChoice 22 = .ok (.getfield 329, 3) := by decide +kernel
theorem dX12_closeChoice_25 : decode cX12_closeChoice 25 = .ok (.iaload, 1) := by decide +kernel
theorem dX12_closeChoice_26 : decode cX12_closeChoice 26 = .ok (.ireturn, 1) := by decide +kernel
theorem dX12_closeChoice_27 : decode cX12_closeChoice 27 = .ok (.aload_n 0, 1) := by decide +kernel
theorem dX12_closeChoice_28 : decode cX12_closeChoice 28 = .ok (.bipush 6, 2) := by decide +kernel
theorem dX12_closeChoice_30 : decode cX12_closeChoice 30 = .ok (.iconst 0, 1) := by decide +kernel
theorem dX12_closeChoice_31 : decode cX12_closeChoice 31 = .ok (.invokevirtual 335, 3) := by decide +kernel
theorem dX12_closeChoice_34 : decode cX12_closeChoice 34 = .ok (.istore_n 1, 1) := by decide +kernel
theorem dX12_closeChoice_35 : decode cX12_closeChoice 35 = .ok (.aload_n 0, 1) := by decide +kernel
theorem dX12_closeChoice_36 : decode cX12_closeChoice 36 = .ok (.getfield 98, 3) := by decide +kernel
theorem dX12_closeChoice_39 : decode cX12_closeChoice 39 = .ok (.iload_n 1, 1) := by decide +kernel
theorem dX12_closeChoice_40 : decode cX12_closeChoice 40 = .ok (.aload_n 0, 1) := by decide +kernel
theorem dX12_closeChoice_41 : decode cX12_closeChoice 41 = .ok (.getfield 134, 3) := by decide +kernel
theorem dX12_closeChoice_44 : decode cX12_closeChoice 44 = .ok (.aload_n 0, 1) := by decide +kernel
theorem dX12_closeChoice_45 : decode cX12_closeChoice 45 = .ok (.getfield 329, 3) := by decide +kernel
theorem dX12_closeChoice_48 : decode cX12_closeChoice 48 = .ok (.iaload, 1) := by decide +kernel
theorem dX12_closeChoice_49 : decode cX12_closeChoice 49 = .ok (.iastore, 1) := by decide +kernel
theorem dX12_closeChoice_50 : decode cX12_closeChoice 50 = .ok (.aload_n 0, 1) := by decide +kernel
theorem dX12_closeChoice_51 : decode cX12_closeChoice 51 = .ok (.getfield 104, 3) := by decide +kernel
theorem dX12_closeChoice_54 : decode cX12_closeChoice 54 = .ok (.iload_n 1, 1) := by decide +kernel
theorem dX12_closeChoice_55 : decode cX12_closeChoice 55 = .ok (.aload_n 0, 1) := by decide +kernel
theorem dX12_closeChoice_56 : decode cX12_closeChoice 56 = .ok (.getfield 140, 3) := by decide +kernel
theorem dX12_closeChoice_59 : decode cX12_closeChoice 59 = .ok (.aload_n 0, 1) := by decide +kernel
theorem dX12_closeChoice_60 : decode cX12_closeChoice 60 = .ok (.getfield 329, 3) := by decide +kernel
theorem dX12_closeChoice_63 : decode cX12_closeChoice 63 = .ok (.iaload, 1) := by decide +kernel
theorem dX12_closeChoice_64 : decode cX12_closeChoice 64 = .ok (.iastore, 1) := by decide +kernel
theorem dX12_closeChoice_65 : decode cX12_closeChoice 65 = .ok (.iload_n 1, 1) := by decide +kernel
theorem dX12_closeChoice_66 : decode cX12_closeChoice 66 = .ok (.ireturn, 1) := by decide +kernel
theorem dX12_closeGroup_0 : decode cX12_closeGroup 0 = .ok (.aload_n 0, 1) := by decide +kernel
theorem dX12_closeGroup_1 : decode cX12_closeGroup 1 = .ok (.getfield 329, 3) := by decide +kernel
theorem dX12_closeGroup_4 : decode cX12_closeGroup 4 = .ok (.ifCond .ne 13, 3) := by decide +kernel
theorem dX12_closeGroup_7 : decode cX12_closeGroup 7 = .ok (.aload_n 0, 1) := by decide +kernel
theorem dX12_closeGroup_8 : decode cX12_closeGroup 8 = .ok (.iconst 1, 1) := by decide +kernel
theorem dX12_closeGroup_9 : decode cX12_closeGroup 9 = .ok (.aload_n 0, 1) := by decide +kernel
theorem dX12_closeGroup_10 : decode cX12_closeGroup 10 = .ok (.getfield 362, 3) := by decide +kernel
theorem dX12_closeGroup_13 : decode cX12_closeGroup 13 = .ok (.invokevirtual 345, 3) := by decide +kernel
theorem dX12_closeGroup_16 : decode cX12_closeGroup 16 = .ok (.return_, 1) := by decide +kernel
theorem dX12_closeGroup_17 : decode cX12_closeGroup 17 = .ok (.aload_n 0, 1) := by decide +kernel
theorem dX12_closeGroup_18 : decode cX12_closeGroup 18 = .ok (.invokevirtual 386, 3) := by decide +kernel
theorem dX12_closeGroup_21 : decode cX12_closeGroup 21 = .ok (.istore_n 1, 1) := by decide +kernel
theorem dX12_closeGroup_22 : decode cX12_closeGroup 22 = .ok (.aload_n 0, 1) := by decide +kernel
theorem dX12_closeGroup_23 : decode cX12_closeGroup 23 = .ok (.getfield 119, 3) := by decide +kernel
theorem dX12_closeGroup_26 : decode cX12_closeGroup 26 = .ok (.aload_n 0, 1) := by decide +kernel
theorem dX12_closeGroup_27 : decode cX12_closeGroup 27 = .ok (.getfield 329, 3) := by decide +kernel
theorem dX12_closeGroup_30 : decode cX12_closeGroup 30 = .ok (.iaload, 1) := by decide +kernel
theorem dX12_closeGroup_31 : decode cX12_closeGroup 31 = .ok (.istore_n 2, 1) := by decide +kernel
theorem dX12_closeGroup_32 : decode cX12_closeGroup 32 = .ok (.iload_n 2, 1) := by decide +kernel
theorem dX12_closeGroup_33 : decode cX12_closeGroup 33 = .ok (.iconst 5, 1) := by decide +kernel
theorem dX12_closeGroup_34 : decode cX12_closeGroup 34 = .ok (.if_icmp .ne 7, 3) := by decide +kernel
theorem dX12_closeGroup_37 : decode cX12_closeGroup 37 = .ok (.iload_n 1, 1) := by decide +kernel
theorem dX12_closeGroup_38 : decode cX12_closeGroup 38 = .ok (.goto 18, 3) := by decide +kernel
theorem dX12_closeGroup_41 : decode cX12_closeGroup 41 = .ok (.aload_n 0, 1) := by decide +kernel
theorem dX12_closeGroup_42 : decode cX12_closeGroup 42 = .ok (.iload_n 2, 1) := by decide +kernel
theorem dX12_closeGroup_43 : decode cX12_closeGroup 43 = .ok (.aload_n 0, 1) := by decide +kernel
theorem dX12_closeGroup_44 : decode cX12_closeGroup 44 = .ok (.getfield 122, 3) := by decide +kernel
theorem dX12_closeGroup_47 : decode cX12_closeGroup 47 = .ok (.aload_n 0, 1) := by decide +kernel
theorem dX12_closeGroup_48 : decode cX12_closeGroup 48 = .ok (.getfield 329, 3) := by decide +kernel
theorem dX12_closeGroup_51 : decode cX12_closeGroup 51 = .ok (.iaload, 1) := by decide +kernel
theorem dX12_closeGroup_52 : decode cX12_closeGroup 52 = .ok (.iload_n 1, 1) := by decide +kernel
theorem dX12_closeGroup_53 : decode cX12_closeGroup 53 = .ok (.invokevirtual 373, 3) := by decide +kernel
theorem dX12_closeGroup_56 : decode cX12_closeGroup 56 = .ok (.istore_n 3, 1) := by decide +kernel
theorem dX12_closeGroup_57 : decode cX12_closeGroup 57 = .ok (.aload_n 0, 1) := by decide +kernel
theorem dX12_closeGroup_58 : decode cX12_closeGroup 58 = .ok (.dup, 1) := by decide +kernel
theorem dX12_closeGroup_59 : decode cX12_closeGroup 59 = .ok (.getfield 329, 3) := by decide +kernel
theorem dX12_closeGroup_62 : decode cX12_closeGroup 62 = .ok (.iconst 1, 1) := by decide +kernel
theorem dX12_closeGroup_63 : decode cX12_closeGroup 63 = .ok (.isub, 1) := by decide +kernel
theorem dX12_closeGroup_64 : decode cX12_closeGroup 64 = .ok (.putfield 329, 3) := by decide +kernel
theorem dX12_closeGroup_67 : decode cX12_closeGroup 67 = .ok (.aload_n 0, 1) := by decide +kernel
theorem dX12_closeGroup_68 : decode cX12_closeGroup 68 = .ok (.dup, 1) := by decide +kernel
theorem dX12_closeGroup_69 : decode cX12_closeGroup 69 = .ok (.getfield 362, 3) := by decide +kernel
theorem dX12_closeGroup_72 : decode cX12_closeGroup 72 = .ok (.iconst 1, 1) := by decide +kernel
theorem dX12_closeGroup_73 : decode cX12_closeGroup 73 = .ok (.iadd, 1) := by decide +kernel
theorem dX12_closeGroup_74 : decode cX12_closeGroup 74 = .ok (.putfield 362, 3) := by decide +kernel
theorem dX12_closeGroup_77 : decode cX12_closeGroup 77 = .ok (.aload_n 0, 1) := by decide +kernel
theorem dX12_closeGroup_78 : decode cX12_closeGroup 78 = .ok (.aload_n 0, 1) := by decide +kernel
theorem dX12_closeGroup_79 : decode cX12_closeGroup 79 = .ok (.iload_n 3, 1) := by decide +kernel
theorem dX12_closeGroup_80 : decode cX12_closeGroup 80 = .ok (.invokevirtual 390, 3) := by decide +kernel
theorem dX12_closeGroup_83 : decode cX12_closeGroup 83 = .ok (.invokevirtual 393, 3) := by decide +kernel
theorem dX12_closeGroup_86 : decode cX12_closeGroup 86 = .ok (.return_, 1) := by decide +kernel
theorem dX12_closeRow_0 : decode cX12_closeRow 0 = .ok (.aload_n 0, 1) := by decide +kernel
theorem dX12_closeRow_1 : decode cX12_closeRow 1 = .ok (.getfield 125, 3) := by decide +kernel
theorem dX12_closeRow_4 : decode cX12_closeRow 4 = .ok (.aload_n 0, 1) := by decide +kernel
theorem dX12_closeRow_5 : decode cX12_closeRow 5 = .ok (.getfield 329, 3) := by decide +kernel
theorem dX12_closeRow_8 : decode cX12_closeRow 8 = .ok (.iaload, 1) := by decide +kernel
theorem dX12_closeRow_9 : decode cX12_closeRow 9 = .ok (.istore_n 1, 1) := by decide +kernel
theorem dX12_closeRow_10 : decode cX12_closeRow 10 = .ok (.aload_n 0, 1) := by decide +kernel
theorem dX12_closeRow_11 : decode cX12_closeRow 11 = .ok (.getfield 131, 3) := by decide +kernel
theorem dX12_closeRow_14 : decode cX12_closeRow 14 = .ok (.aload_n 0, 1) := by decide +kernel
theorem dX12_closeRow_15 : decode cX12_closeRow 15 = .ok (.getfield 329, 3) := by decide +kernel
theorem dX12_closeRow_18 : decode cX12_closeRow 18 = .ok (.iaload, 1) := by decide +kernel
theorem dX12_closeRow_19 : decode cX12_closeRow 19 = .ok (.iconst 1, 1) := by decide +kernel
theorem dX12_closeRow_20 : decode cX12_closeRow 20 = .ok (.if_icmp .eq 40, 3) := by decide +kernel
theorem dX12_closeRow_23 : decode cX12_closeRow 23 = .ok (.aload_n 0, 1) := by decide +kernel
theorem dX12_closeRow_24 : decode cX12_closeRow 24 = .ok (.iconst 5, 1) := by decide +kernel
theorem dX12_closeRow_25 : decode cX12_closeRow 25 = .ok (.iconst 0, 1) := by decide +kernel
theorem dX12_closeRow_26 : decode cX12_closeRow 26 = .ok (.invokevirtual 335, 3) := by decide +kernel
theorem dX12_closeRow_29 : decode cX12_closeRow 29 = .ok (.istore_n 1, 1) := by decide +kernel
theorem dX12_closeRow_30 : decode cX12_closeRow 30 = .ok (.aload_n 0, 1) := by decide +kernel
theorem dX12_closeRow_31 : decode cX12_closeRow 31 = .ok (.getfield 98, 3) := by decide +kernel
theorem dX12_closeRow_34 : decode cX12_closeRow 34 = .ok (.iload_n 1, 1) := by decide +kernel
theorem dX12_closeRow_35 : decode cX12_closeRow 35 = .ok (.aload_n 0, 1) := by decide +kernel
theorem dX12_closeRow_36 : decode cX12_closeRow 36 = .ok (.getfield 125, 3) := by decide +kernel
theorem dX12_closeRow_39 : decode cX12_closeRow 39 = .ok (.aload_n 0, 1) := by decide +kernel
theorem dX12_closeRow_40 : decode cX12_closeRow 40 = .ok (.getfield 329, 3) := by decide +kernel
theorem dX12_closeRow_43 : decode cX12_closeRow 43 = .ok (.iaload, 1) := by decide +kernel
theorem dX12_closeRow_44 : decode cX12_closeRow 44 = .ok (.iastore, 1) := by decide +kernel
theorem dX12_closeRow_45 : decode cX12_closeRow 45 = .ok (.aload_n 0, 1) := by decide +kernel
theorem dX12_closeRow_46 : decode cX12_closeRow 46 = .ok (.getfield 104, 3) := by decide +kernel
theorem dX12_closeRow_49 : decode cX12_closeRow 49 = .ok (.iload_n 1, 1) := by decide +kernel
theorem dX12_closeRow_50 : decode cX12_closeRow 50 = .ok (.aload_n 0, 1) := by decide +kernel
theorem dX12_closeRow_51 : decode cX12_closeRow 51 = .ok (.getfield 131, 3) := by decide +kernel
theorem dX12_closeRow_54 : decode cX12_closeRow 54 = .ok (.aload_n 0, 1) := by decide +kernel
theorem dX12_closeRow_55 : decode cX12_closeRow 55 = .ok (.getfield 329, 3) := by decide +kernel
theorem dX12_closeRow_58 : decode cX12_closeRow 58 = .ok (.iaload, 1) := by decide +kernel
theorem dX12_closeRow_59 : decode cX12_closeRow 59 = .ok (.iastore, 1) := by decide +kernel
theorem dX12_closeRow_60 : decode cX12_closeRow 60 = .ok (.aload_n 0, 1) := by decide +kernel
theorem dX12_closeRow_61 : decode cX12_closeRow 61 = .ok (.getfield 140, 3) := by decide +kernel
theorem dX12_closeRow_64 : decode cX12_closeRow 64 = .ok (.aload_n 0, 1) := by decide +kernel
theorem dX12_closeRow_65 : decode cX12_closeRow 65 = .ok (.getfield 329, 3) := by decide +kernel
theorem dX12_closeRow_68 : decode cX12_closeRow 68 = .ok (.iaload, 1) := by decide +kernel
theorem dX12_closeRow_69 : decode cX12_closeRow 69 = .ok (.ifCond .ne 16, 3) := by decide +kernel
theorem dX12_closeRow_72 : decode cX12_closeRow 72 = .ok (.aload_n 0, 1) := by decide +kernel
theorem dX12_closeRow_73 : decode cX12_closeRow 73 = .ok (.getfield 134, 3) := by decide +kernel
theorem dX12_closeRow_76 : decode cX12_closeRow 76 = .ok (.aload_n 0, 1) := by decide +kernel
theorem dX12_closeRow_77 : decode cX12_closeRow 77 = .ok (.getfield 329, 3) := by decide +kernel
theorem dX12_closeRow_80 : decode cX12_closeRow 80 = .ok (.iload_n 1, 1) := by decide +kernel
theorem dX12_closeRow_81 : decode cX12_closeRow 81 = .ok (.iastore, 1) := by decide +kernel
theorem dX12_closeRow_82 : decode cX12_closeRow 82 = .ok (.goto 18, 3) := by decide +kernel
theorem dX12_closeRow_85 : decode cX12_closeRow 85 = .ok (.aload_n 0, 1) := by decide +kernel
theorem dX12_closeRow_86 : decode cX12_closeRow 86 = .ok (.getfield 101, 3) := by decide +kernel
theorem dX12_closeRow_89 : decode cX12_closeRow 89 = .ok (.aload_n 0, 1) := by decide +kernel
theorem dX12_closeRow_90 : decode cX12_closeRow 90 = .ok (.getfield 137, 3) := by decide +kernel
theorem dX12_closeRow_93 : decode cX12_closeRow 93 = .ok (.aload_n 0, 1) := by decide +kernel
theorem dX12_closeRow_94 : decode cX12_closeRow 94 = .ok (.getfield 329, 3) := by decide +kernel
theorem dX12_closeRow_97 : decode cX12_closeRow 97 = .ok (.iaload, 1) := by decide +kernel
theorem dX12_closeRow_98 : decode cX12_closeRow 98 = .ok (.iload_n 1, 1) := by decide +kernel
theorem dX12_closeRow_99 : decode cX12_closeRow 99 = .ok (.iastore, 1) := by decide +kernel
theorem dX12_closeRow_100 : decode cX12_closeRow 100 = .ok (.aload_n 0, 1) := by decide +kernel
theorem dX12_closeRow_101 : decode cX12_closeRow 101 = .ok (.getfield 137, 3) := by decide +kernel
theorem dX12_closeRow_104 : decode cX12_closeRow 104 = .ok (.aload_n 0, 1) := by decide +kernel
theorem dX12_closeRow_105 : decode cX12_closeRow 105 = .ok (.getfield 329, 3) := by decide +kernel
theorem dX12_closeRow_108 : decode cX12_closeRow 108 = .ok (.iload_n 1, 1) := by decide +kernel
theorem dX12_closeRow_109 : decode cX12_closeRow 109 = .ok (.iastore, 1) := by decide +kernel
theorem dX12_closeRow_110 : decode cX12_closeRow 110 = .ok (.aload_n 0, 1) := by decide +kernel
theorem dX12_closeRow_111 : decode cX12_closeRow 111 = .ok (.getfield 140, 3) := by decide +kernel
theorem dX12_closeRow_114 : decode cX12_closeRow 114 = .ok (.aload_n 0, 1) := by decide +kernel
theorem dX12_closeRow_115 : decode cX12_closeRow 115 = .ok (.getfield 329, 3) := by decide +kernel
theorem dX12_closeRow_118 : decode cX12_closeRow 118 = .ok (.dup2, 1) := by decide +kernel
theorem dX12_closeRow_119 : decode cX12_closeRow 119 = .ok (.iaload, 1) := by decide +kernel
theorem dX12_closeRow_120 : decode cX12_closeRow 120 = .ok (.iconst 1, 1) := by decide +kernel
theorem dX12_closeRow_121 : decode cX12_closeRow 121 = .ok (.iadd, 1) := by decide +kernel
theorem dX12_closeRow_122 : decode cX12_closeRow 122 = .ok (.iastore, 1) := by decide +kernel
theorem dX12_closeRow_123 : decode cX12_closeRow 123 = .ok (.aload_n 0, 1) := by decide +kernel
theorem dX12_closeRow_124 : decode cX12_closeRow 124 = .ok (.invokevirtual 332, 3) := by decide +kernel
theorem dX12_closeRow_127 : decode cX12_closeRow 127 = .ok (.return_, 1) := by decide +kernel
theorem dX12_compare_0 : decode cX12_compare 0 = .ok (.aload_n 0, 1) := by decide +kernel
theorem dX12_compare_1 : decode cX12_compare 1 = .ok (.iconst 0, 1) := by decide +kernel
theorem dX12_compare_2 : decode cX12_compare 2 = .ok (.putfield 1, 3) := by decide +kernel
theorem dX12_compare_5 : decode cX12_compare 5 = .ok (.aload_n 0, 1) := by decide +kernel
theorem dX12_compare_6 : decode cX12_compare 6 = .ok (.iload_n 1, 1) := by decide +kernel
theorem dX12_compare_7 : decode cX12_compare 7 = .ok (.invokevirtual 459, 3) := by decide +kernel
theorem dX12_compare_10 : decode cX12_compare 10 = .ok (.ifCond .ne 11, 3) := by decide +kernel
theorem dX12_compare_13 : decode cX12_compare 13 = .ok (.aload_n 0, 1) := by decide +kernel
theorem dX12_compare_14 : decode cX12_compare 14 = .ok (.iload_n 2, 1) := by decide +kernel
theorem dX12_compare_15 : decode cX12_compare 15 = .ok (.invokevirtual 459, 3) := by decide +kernel
theorem dX12_compare_18 : decode cX12_compare 18 = .ok (.ifCond .eq 6, 3) := by decide +kernel
theorem dX12_compare_21 : decode cX12_compare 21 = .ok (.bipush (-2), 2) := by decide +kernel
theorem dX12_compare_23 : decode cX12_compare 23 = .ok (.ireturn, 1) := by decide +kernel
theorem dX12_compare_24 : decode cX12_compare 24 = .ok (.aload_n 0, 1) := by decide +kernel
theorem dX12_compare_25 : decode cX12_compare 25 = .ok (.iload_n 1, 1) := by decide +kernel
theorem dX12_compare_26 : decode cX12_compare 26 = .ok (.iload_n 2, 1) := by decide +kernel
theorem dX12_compare_27 : decode cX12_compare 27 = .ok (.invokevirtual 752, 3) := by decide +kernel
theorem dX12_compare_30 : decode cX12_compare 30 = .ok (.istore_n 3, 1) := by decide +kernel
theorem dX12_compare_31 : decode cX12_compare 31 = .ok (.iload_n 3, 1) := by decide +kernel
theorem dX12_compare_32 : decode cX12_compare 32 = .ok (.ifCond .eq 5, 3) := by decide +kernel
theorem dX12_compare_35 : decode cX12_compare 35 = .ok (.iload_n 3, 1) := by decide +kernel
theorem dX12_compare_36 : decode cX12_compare 36 = .ok (.ireturn, 1) := by decide +kernel
theorem dX12_compare_37 : decode cX12_compare 37 = .ok (.aload_n 0, 1) := by decide +kernel
theorem dX12_compare_38 : decode cX12_compare 38 = .ok (.invokevirtual 755, 3) := by decide +kernel
theorem dX12_compare_41 : decode cX12_compare 41 = .ok (.iconst 1, 1) := by decide +kernel
theorem dX12_compare_42 : decode cX12_compare 42 = .ok (.istore 4, 2) := by decide +kernel
theorem dX12_compare_44 : decode cX12_compare 44 = .ok (.iconst 1, 1) := by decide +kernel
theorem dX12_compare_45 : decode cX12_compare 45 = .ok (.istore 5, 2) := by decide +kernel
theorem dX12_compare_47 : decode cX12_compare 47 = .ok (.iconst 0, 1) := by decide +kernel
theorem dX12_compare_48 : decode cX12_compare 48 = .ok (.istore 6, 2) := by decide +kernel
theorem dX12_compare_50 : decode cX12_compare 50 = .ok (.iload 6, 2) := by decide +kernel
theorem dX12_compare_52 : decode cX12_compare 52 = .ok (.aload_n 0, 1) := by decide +kernel
theorem dX12_compare_53 : decode cX12_compare 53 = .ok (.getfield 745, 3) := by decide +kernel
theorem dX12_compare_56 : decode cX12_compare 56 = .ok (.if_icmp .ge 84, 3) := by decide +kernel
theorem dX12_compare_59 : decode cX12_compare 59 = .ok (.iload 4, 2) := by decide +kernel
theorem dX12_compare_61 : decode cX12_compare 61 = .ok (.ifCond .eq 31, 3) := by decide +kernel
theorem dX12_compare_64 : decode cX12_compare 64 = .ok (.aload_n 0, 1) := by decide +kernel
theorem dX12_compare_65 : decode cX12_compare 65 = .ok (.iload 6, 2) := by decide +kernel
theorem dX12_compare_67 : decode cX12_compare 67 = .ok (.invokevirtual 758, 3) := by decide +kernel
theorem dX12_compare_70 : decode cX12_compare 70 = .ok (.ifCond .eq 18, 3) := by decide +kernel
theorem dX12_compare_73 : decode cX12_compare 73 = .ok (.aload_n 0, 1) := by decide +kernel
theorem dX12_compare_74 : decode cX12_compare 74 = .ok (.getfield 268, 3) := by decide +kernel
theorem dX12_compare_77 : decode cX12_compare 77 = .ok (.aload_n 0, 1) := by decide +kernel
theorem dX12_compare_78 : decode cX12_compare 78 = .ok (.getfield 293, 3) := by decide +kernel
theorem dX12_compare_81 : decode cX12_compare 81 = .ok (.iload 6, 2) := by decide +kernel
theorem dX12_compare_83 : decode cX12_compare 83 = .ok (.iaload, 1) := by decide +kernel
theorem dX12_compare_84 : decode cX12_compare 84 = .ok (.baload, 1) := by decide +kernel
theorem dX12_compare_85 : decode cX12_compare 85 = .ok (.ifCond .ne 7, 3) := by decide +kernel
theorem dX12_compare_88 : decode cX12_compare 88 = .ok (.iconst 1, 1) := by decide +kernel
theorem dX12_compare_89 : decode cX12_compare 89 = .ok (.goto 4, 3) := by decide +kernel
theorem dX12_compare_92 : decode cX12_compare 92 = .ok (.iconst 0, 1) := by decide +kernel
theorem dX12_compare_93 : decode cX12_compare 93 = .ok (.istore 4, 2) := by decide +kernel
theorem dX12_compare_95 : decode cX12_compare 95 = .ok (.iload 5, 2) := by decide +kernel
theorem dX12_compare_97 : decode cX12_compare 97 = .ok (.ifCond .eq 34, 3) := by decide +kernel
theorem dX12_compare_100 : decode cX12_compare 100 = .ok (.aload_n 0, 1) := by decide +kernel
theorem dX12_compare_101 : decode cX12_compare 101 = .ok (.iload 6, 2) := by decide +kernel
theorem dX12_compare_103 : decode cX12_compare 103 = .ok (.invokevirtual 758, 3) := by decide +kernel
theorem dX12_compare_106 : decode cX12_compare 106 = .ok (.ifCond .eq 21, 3) := by decide +kernel
theorem dX12_compare_109 : decode cX12_compare 109 = .ok (.aload_n 0, 1) := by decide +kernel
theorem dX12_compare_110 : decode cX12_compare 110 = .ok (.getfield 268, 3) := by decide +kernel
theorem dX12_compare_113 : decode cX12_compare 113 = .ok (.bipush 61, 2) := by decide +kernel
theorem dX12_compare_115 : decode cX12_compare 115 = .ok (.aload_n 0, 1) := by decide +kernel
theorem dX12_compare_116 : decode cX12_compare 116 = .ok (.getfield 296, 3) := by decide +kernel
theorem dX12_compare_119 : decode cX12_compare 119 = .ok (.iload 6, 2) := by decide +kernel
theorem dX12_compare_121 : decode cX12_compare 121 = .ok (.iaload, 1) := by decide +kernel
theorem dX12_compare_122 : decode cX12_compare 122 = .ok (.iadd, 1) := by decide +kernel
theorem dX12_compare_123 : decode cX12_compare 123 = .ok (.baload, 1) := by decide +kernel
theorem dX12_compare_124 : decode cX12_compare 124 = .ok (.ifCond .ne 7, 3) := by decide +kernel
theorem dX12_compare_127 : decode cX12_compare 127 = .ok (.iconst 1, 1) := by decide +kernel
theorem dX12_compare_128 : decode cX12_compare 128 = .ok (.goto 4, 3) := by decide +kernel
theorem dX12_compare_131 : decode cX12_compare 131 = .ok (.iconst 0, 1) := by decide +kernel
theorem dX12_compare_132 : decode cX12_compare 132 = .ok (.istore 5, 2) := by decide +kernel
theorem dX12_compare_134 : decode cX12_compare 134 = .ok (.iinc 6 1, 3) := by decide +kernel
theorem dX12_compare_137 : decode cX12_compare 137 = .ok (.goto (-87), 3) := by decide +kernel
theorem dX12_compare_140 : decode cX12_compare 140 = .ok (.iload 4, 2) := by decide +kernel
theorem dX12_compare_142 : decode cX12_compare 142 = .ok (.ifCond .eq 7, 3) := by decide +kernel
theorem dX12_compare_145 : decode cX12_compare 145 = .ok (.iconst 1, 1) := by decide +kernel
theorem dX12_compare_146 : decode cX12_compare 146 = .ok (.goto 4, 3) := by decide +kernel
theorem dX12_compare_149 : decode cX12_compare 149 = .ok (.iconst 0, 1) := by decide +kernel
theorem dX12_compare_150 : decode cX12_compare 150 = .ok (.iload 5, 2) := by decide +kernel
theorem dX12_compare_152 : decode cX12_compare 152 = .ok (.ifCond .eq 7, 3) := by decide +kernel
theorem dX12_compare_155 : decode cX12_compare 155 = .ok (.iconst 2, 1) := by decide +kernel
theorem dX12_compare_156 : decode cX12_compare 156 = .ok (.goto 4, 3) := by decide +kernel
theorem dX12_compare_159 : decode cX12_compare 159 = .ok (.iconst 0, 1) := by decide +kernel
theorem dX12_compare_160 : decode cX12_compare 160 = .ok (.iadd, 1) := by decide +kernel
theorem dX12_compare_161 : decode cX12_compare 161 = .ok (.ireturn, 1) := by decide +kernel
theorem dX12_compile_0 : decode cX12_compile 0 = .ok (.aload_n 0, 1) := by decide +kernel
theorem dX12_compile_1 : decode cX12_compile 1 = .ok (.iconst 0, 1) := by decide +kernel
theorem dX12_compile_2 : decode cX12_compile 2 = .ok (.putfield 551, 3) := by decide +kernel
theorem dX12_compile_5 : decode cX12_compile 5 = .ok (.aload_n 0, 1) := by decide +kernel
theorem dX12_compile_6 : decode cX12_compile 6 = .ok (.iconst 0, 1) := by decide +kernel
theorem dX12_compile_7 : decode cX12_compile 7 = .ok (.putfield 548, 3) := by decide +kernel
theorem dX12_compile_10 : decode cX12_compile 10 = .ok (.aload_n 0, 1) := by decide +kernel
theorem dX12_compile_11 : decode cX12_compile 11 = .ok (.iconst 0, 1) := by decide +kernel
theorem dX12_compile_12 : decode cX12_compile 12 = .ok (.putfield 545, 3) := by decide +kernel
theorem dX12_compile_15 : decode cX12_compile 15 = .ok (.aload_n 0, 1) := by decide +kernel
theorem dX12_compile_16 : decode cX12_compile 16 = .ok (.bipush 19, 2) := by decide +kernel
theorem dX12_compile_18 : decode cX12_compile 18 = .ok (.iconst 0, 1) := by decide +kernel
theorem dX12_compile_19 : decode cX12_compile 19 = .ok (.iconst 0, 1) := by decide +kernel
theorem dX12_compile_20 : decode cX12_compile 20 = .ok (.invokevirtual 554, 3) := by decide +kernel
theorem dX12_compile_23 : decode cX12_compile 23 = .ok (.aload_n 0, 1) := by decide +kernel
theorem dX12_compile_24 : decode cX12_compile 24 = .ok (.bipush 100, 2) := by decide +kernel
theorem dX12_compile_26 : decode cX12_compile 26 = .ok (.iconst 0, 1) := by decide +kernel
theorem dX12_compile_27 : decode cX12_compile 27 = .ok (.iconst 0, 1) := by decide +kernel
theorem dX12_compile_28 : decode cX12_compile 28 = .ok (.invokevirtual 554, 3) := by decide +kernel
theorem dX12_compile_31 : decode cX12_compile 31 = .ok (.aload_n 0, 1) := by decide +kernel
theorem dX12_compile_32 : decode cX12_compile 32 = .ok (.getfield 545, 3) := by decide +kernel
theorem dX12_compile_35 : decode cX12_compile 35 = .ok (.ifCond .le 123, 3) := by decide +kernel
theorem dX12_compile_38 : decode cX12_compile 38 = .ok (.aload_n 0, 1) := by decide +kernel
theorem dX12_compile_39 : decode cX12_compile 39 = .ok (.dup, 1) := by decide +kernel
theorem dX12_compile_40 : decode cX12_compile 40 = .ok (.getfield 545, 3) := by decide +kernel
theorem dX12_compile_43 : decode cX12_compile 43 = .ok (.iconst 1, 1) := by decide +kernel
theorem dX12_compile_44 : decode cX12_compile 44 = .ok (.isub, 1) := by decide +kernel
theorem dX12_compile_45 : decode cX12_compile 45 = .ok (.putfield 545, 3) := by decide +kernel
theorem dX12_compile_48 : decode cX12_compile 48 = .ok (.aload_n 0, 1) := by decide +kernel
theorem dX12_compile_49 : decode cX12_compile 49 = .ok (.getfield 192, 3) := by decide +kernel
theorem dX12_compile_52 : decode cX12_compile 52 = .ok (.aload_n 0, 1) := by decide +kernel
theorem dX12_compile_53 : decode cX12_compile 53 = .ok (.getfield 545, 3) := by decide +kernel
theorem dX12_compile_56 : decode cX12_compile 56 = .ok (.iaload, 1) := by decide +kernel
theorem dX12_compile_57 : decode cX12_compile 57 = .ok (.istore_n 3, 1) := by decide +kernel
theorem dX12_compile_58 : decode cX12_compile 58 = .ok (.aload_n 0, 1) := by decide +kernel
theorem dX12_compile_59 : decode cX12_compile 59 = .ok (.getfield 195, 3) := by decide +kernel
theorem dX12_compile_62 : decode cX12_compile 62 = .ok (.aload_n 0, 1) := by decide +kernel
theorem dX12_compile_63 : decode cX12_compile 63 = .ok (.getfield 545, 3) := by decide +kernel
theorem dX12_compile_66 : decode cX12_compile 66 = .ok (.iaload, 1) := by decide +kernel
theorem dX12_compile_67 : decode cX12_compile 67 = .ok (.istore 4, 2) := by decide +kernel
theorem dX12_compile_69 : decode cX12_compile 69 = .ok (.iload_n 3, 1) := by decide +kernel
theorem dX12_compile_70 : decode cX12_compile 70 = .ok (.bipush 100, 2) := by decide +kernel
theorem dX12_compile_72 : decode cX12_compile 72 = .ok (.if_icmp .ne 14, 3) := by decide +kernel
theorem dX12_compile_75 : decode cX12_compile 75 = .ok (.aload_n 0, 1) := by decide +kernel
theorem dX12_compile_76 : decode cX12_compile 76 = .ok (.iload_n 1, 1) := by decide +kernel
theorem dX12_compile_77 : decode cX12_compile 77 = .ok (.iload 4, 2) := by decide +kernel
theorem dX12_compile_79 : decode cX12_compile 79 = .ok (.iload_n 2, 1) := by decide +kernel
theorem dX12_compile_80 : decode cX12_compile 80 = .ok (.invokevirtual 558, 3) := by decide +kernel
theorem dX12_compile_83 : decode cX12_compile 83 = .ok (.goto 72, 3) := by decide +kernel
theorem dX12_compile_86 : decode cX12_compile 86 = .ok (.iload_n 3, 1) := by decide +kernel
theorem dX12_compile_87 : decode cX12_compile 87 = .ok (.bipush 101, 2) := by decide +kernel
theorem dX12_compile_89 : decode cX12_compile 89 = .ok (.if_icmp .ne 17, 3) := by decide +kernel
theorem dX12_compile_92 : decode cX12_compile 92 = .ok (.aload_n 0, 1) := by decide +kernel
theorem dX12_compile_93 : decode cX12_compile 93 = .ok (.getfield 189, 3) := by decide +kernel
theorem dX12_compile_96 : decode cX12_compile 96 = .ok (.iload 4, 2) := by decide +kernel
theorem dX12_compile_98 : decode cX12_compile 98 = .ok (.aload_n 0, 1) := by decide +kernel
theorem dX12_compile_99 : decode cX12_compile 99 = .ok (.getfield 551, 3) := by decide +kernel
theorem dX12_compile_102 : decode cX12_compile 102 = .ok (.iastore, 1) := by decide +kernel
theorem dX12_compile_103 : decode cX12_compile 103 = .ok (.goto 52, 3) := by decide +kernel
theorem dX12_compile_106 : decode cX12_compile 106 = .ok (.aload_n 0, 1) := by decide +kernel
theorem dX12_compile_107 : decode cX12_compile 107 = .ok (.getfield 180, 3) := by decide +kernel
theorem dX12_compile_110 : decode cX12_compile 110 = .ok (.aload_n 0, 1) := by decide +kernel
theorem dX12_compile_111 : decode cX12_compile 111 = .ok (.getfield 551, 3) := by decide +kernel
theorem dX12_compile_114 : decode cX12_compile 114 = .ok (.iload_n 3, 1) := by decide +kernel
theorem dX12_compile_115 : decode cX12_compile 115 = .ok (.iastore, 1) := by decide +kernel
theorem dX12_compile_116 : decode cX12_compile 116 = .ok (.aload_n 0, 1) := by decide +kernel
theorem dX12_compile_117 : decode cX12_compile 117 = .ok (.getfield 183, 3) := by decide +kernel
theorem dX12_compile_120 : decode cX12_compile 120 = .ok (.aload_n 0, 1) := by decide +kernel
theorem dX12_compile_121 : decode cX12_compile 121 = .ok (.getfield 551, 3) := by decide +kernel
theorem dX12_compile_124 : decode cX12_compile 124 = .ok (.iload 4, 2) := by decide +kernel
theorem dX12_compile_126 : decode cX12_compile 126 = .ok (.iastore, 1) := by decide +kernel
theorem dX12_compile_127 : decode cX12_compile 127 = .ok (.aload_n 0, 1) := by decide +kernel
theorem dX12_compile_128 : decode cX12_compile 128 = .ok (.getfield 186, 3) := by decide +kernel
theorem dX12_compile_131 : decode cX12_compile 131 = .ok (.aload_n 0, 1) := by decide +kernel
theorem dX12_compile_132 : decode cX12_compile 132 = .ok (.getfield 551, 3) := by decide +kernel
theorem dX12_compile_135 : decode cX12_compile 135 = .ok (.aload_n 0, 1) := by decide +kernel
theorem dX12_compile_136 : decode cX12_compile 136 = .ok (.getfield 198, 3) := by decide +kernel
theorem dX12_compile_139 : decode cX12_compile 139 = .ok (.aload_n 0, 1) := by decide +kernel
theorem dX12_compile_140 : decode cX12_compile 140 = .ok (.getfield 545, 3) := by decide +kernel
theorem dX12_compile_143 : decode cX12_compile 143 = .ok (.iaload, 1) := by decide +kernel
theorem dX12_compile_144 : decode cX12_compile 144 = .ok (.iastore, 1) := by decide +kernel
theorem dX12_compile_145 : decode cX12_compile 145 = .ok (.aload_n 0, 1) := by decide +kernel
theorem dX12_compile_146 : decode cX12_compile 146 = .ok (.dup, 1) := by decide +kernel
theorem dX12_compile_147 : decode cX12_compile 147 = .ok (.getfield 551, 3) := by decide +kernel
theorem dX12_compile_150 : decode cX12_compile 150 = .ok (.iconst 1, 1) := by decide +kernel
theorem dX12_compile_151 : decode cX12_compile 151 = .ok (.iadd, 1) := by decide +kernel
theorem dX12_compile_152 : decode cX12_compile 152 = .ok (.putfield 551, 3) := by decide +kernel
theorem dX12_compile_155 : decode cX12_compile 155 = .ok (.goto (-124), 3) := by decide +kernel
theorem dX12_compile_158 : decode cX12_compile 158 = .ok (.return_, 1) := by decide +kernel
theorem dX12_compileChoice_0 : decode cX12_compileChoice 0 = .ok (.aload_n 0, 1) := by decide +kernel
theorem dX12_compileChoice_1 : decode cX12_compileChoice 1 = .ok (.invokevirtual 574, 3) := by decide +kernel
theorem dX12_compileChoice_4 : decode cX12_compileChoice 4 = .ok (.istore_n 2, 1) := by decide +kernel
theorem dX12_compileChoice_5 : decode cX12_compileChoice 5 = .ok (.aload_n 0, 1) := by decide +kernel
theorem dX12_compileChoice_6 : decode cX12_compileChoice 6 = .ok (.bipush 101, 2) := by decide +kernel
theorem dX12_compileChoice_8 : decode cX12_compileChoice 8 = .ok (.iload_n 2, 1) := by decide +kernel
theorem dX12_compileChoice_9 : decode cX12_compileChoice 9 = .ok (.iconst 0, 1) := by decide +kernel
theorem dX12_compileChoice_10 : decode cX12_compileChoice 10 = .ok (.invokevirtual 554, 3) := by decide +kernel
theorem dX12_compileChoice_13 : decode cX12_compileChoice 13 = .ok (.aload_n 0, 1) := by decide +kernel
theorem dX12_compileChoice_14 : decode cX12_compileChoice 14 = .ok (.bipush 100, 2) := by decide +kernel
theorem dX12_compileChoice_16 : decode cX12_compileChoice 16 = .ok (.aload_n 0, 1) := by decide +kernel
theorem dX12_compileChoice_17 : decode cX12_compileChoice 17 = .ok (.getfield 201, 3) := by decide +kernel
theorem dX12_compileChoice_20 : decode cX12_compileChoice 20 = .ok (.iload_n 1, 1) := by decide +kernel
theorem dX12_compileChoice_21 : decode cX12_compileChoice 21 = .ok (.iconst 1, 1) := by decide +kernel
theorem dX12_compileChoice_22 : decode cX12_compileChoice 22 = .ok (.isub, 1) := by decide +kernel
theorem dX12_compileChoice_23 : decode cX12_compileChoice 23 = .ok (.iaload, 1) := by decide +kernel
theorem dX12_compileChoice_24 : decode cX12_compileChoice 24 = .ok (.iconst 0, 1) := by decide +kernel
theorem dX12_compileChoice_25 : decode cX12_compileChoice 25 = .ok (.invokevirtual 554, 3) := by decide +kernel
theorem dX12_compileChoice_28 : decode cX12_compileChoice 28 = .ok (.iload_n 1, 1) := by decide +kernel
theorem dX12_compileChoice_29 : decode cX12_compileChoice 29 = .ok (.iconst 2, 1) := by decide +kernel
theorem dX12_compileChoice_30 : decode cX12_compileChoice 30 = .ok (.isub, 1) := by decide +kernel
theorem dX12_compileChoice_31 : decode cX12_compileChoice 31 = .ok (.istore_n 3, 1) := by decide +kernel
theorem dX12_compileChoice_32 : decode cX12_compileChoice 32 = .ok (.iload_n 3, 1) := by decide +kernel
theorem dX12_compileChoice_33 : decode cX12_compileChoice 33 = .ok (.ifCond .lt 52, 3) := by decide +kernel
theorem dX12_compileChoice_36 : decode cX12_compileChoice 36 = .ok (.aload_n 0, 1) := by decide +kernel
theorem dX12_compileChoice_37 : decode cX12_compileChoice 37 = .ok (.invokevirtual 574, 3) := by decide +kernel
theorem dX12_compileChoice_40 : decode cX12_compileChoice 40 = .ok (.istore 4, 2) := by decide +kernel
theorem dX12_compileChoice_42 : decode cX12_compileChoice 42 = .ok (.aload_n 0, 1) := by decide +kernel
theorem dX12_compileChoice_43 : decode cX12_compileChoice 43 = .ok (.bipush 101, 2) := by decide +kernel
theorem dX12_compileChoice_45 : decode cX12_compileChoice 45 = .ok (.iload 4, 2) := by decide +kernel
theorem dX12_compileChoice_47 : decode cX12_compileChoice 47 = .ok (.iconst 0, 1) := by decide +kernel
theorem dX12_compileChoice_48 : decode cX12_compileChoice 48 = .ok (.invokevirtual 554, 3) := by decide +kernel
theorem dX12_compileChoice_51 : decode cX12_compileChoice 51 = .ok (.aload_n 0, 1) := by decide +kernel
theorem dX12_compileChoice_52 : decode cX12_compileChoice 52 = .ok (.iconst 5, 1) := by decide +kernel
theorem dX12_compileChoice_53 : decode cX12_compileChoice 53 = .ok (.iload_n 2, 1) := by decide +kernel
theorem dX12_compileChoice_54 : decode cX12_compileChoice 54 = .ok (.iconst 0, 1) := by decide +kernel
theorem dX12_compileChoice_55 : decode cX12_compileChoice 55 = .ok (.invokevirtual 554, 3) := by decide +kernel
theorem dX12_compileChoice_58 : decode cX12_compileChoice 58 = .ok (.aload_n 0, 1) := by decide +kernel
theorem dX12_compileChoice_59 : decode cX12_compileChoice 59 = .ok (.bipush 100, 2) := by decide +kernel
theorem dX12_compileChoice_61 : decode cX12_compileChoice 61 = .ok (.aload_n 0, 1) := by decide +kernel
theorem dX12_compileChoice_62 : decode cX12_compileChoice 62 = .ok (.getfield 201, 3) := by decide +kernel
theorem dX12_compileChoice_65 : decode cX12_compileChoice 65 = .ok (.iload_n 3, 1) := by decide +kernel
theorem dX12_compileChoice_66 : decode cX12_compileChoice 66 = .ok (.iaload, 1) := by decide +kernel
theorem dX12_compileChoice_67 : decode cX12_compileChoice 67 = .ok (.iconst 0, 1) := by decide +kernel
theorem dX12_compileChoice_68 : decode cX12_compileChoice 68 = .ok (.invokevirtual 554, 3) := by decide +kernel
theorem dX12_compileChoice_71 : decode cX12_compileChoice 71 = .ok (.aload_n 0, 1) := by decide +kernel
theorem dX12_compileChoice_72 : decode cX12_compileChoice 72 = .ok (.iconst 3, 1) := by decide +kernel
theorem dX12_compileChoice_73 : decode cX12_compileChoice 73 = .ok (.iload 4, 2) := by decide +kernel
theorem dX12_compileChoice_75 : decode cX12_compileChoice 75 = .ok (.iconst 0, 1) := by decide +kernel
theorem dX12_compileChoice_76 : decode cX12_compileChoice 76 = .ok (.invokevirtual 554, 3) := by decide +kernel
theorem dX12_compileChoice_79 : decode cX12_compileChoice 79 = .ok (.iinc 3 (-1), 3) := by decide +kernel
theorem dX12_compileChoice_82 : decode cX12_compileChoice 82 = .ok (.goto (-50), 3) := by decide +kernel
theorem dX12_compileChoice_85 : decode cX12_compileChoice 85 = .ok (.return_, 1) := by decide +kernel
theorem dX12_compileCopies_0 : decode cX12_compileCopies 0 = .ok (.aload_n 0, 1) := by decide +kernel
theorem dX12_compileCopies_1 : decode cX12_compileCopies 1 = .ok (.invokevirtual 574, 3) := by decide +kernel
theorem dX12_compileCopies_4 : decode cX12_compileCopies 4 = .ok (.istore_n 3, 1) := by decide +kernel
theorem dX12_compileCopies_5 : decode cX12_compileCopies 5 = .ok (.aload_n 0, 1) := by decide +kernel
theorem dX12_compileCopies_6 : decode cX12_compileCopies 6 = .ok (.getfield 47, 3) := by decide +kernel
theorem dX12_compileCopies_9 : decode cX12_compileCopies 9 = .ok (.iload_n 1, 1) := by decide +kernel
