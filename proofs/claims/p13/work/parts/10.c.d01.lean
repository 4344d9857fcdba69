theorem dX11_makeTables_0 : decode cX11_makeTables 0 = .ok (.aload_n 1, 1) := by decide +kernel
theorem dX11_makeTables_1 : decode cX11_makeTables 1 = .ok (.iconst 2, 1) := by decide +kernel
theorem dX11_makeTables_2 : decode cX11_makeTables 2 = .ok (.invokevirtual 326, 3) := by decide +kernel
theorem dX11_makeTables_5 : decode cX11_makeTables 5 = .ok (.ifCond .eq 15, 3) := by decide +kernel
theorem dX11_makeTables_8 : decode cX11_makeTables 8 = .ok (.aload_n 2, 1) := by decide +kernel
theorem dX11_makeTables_9 : decode cX11_makeTables 9 = .ok (.ifnull 14, 3) := by decide +kernel
theorem dX11_makeTables_12 : decode cX11_makeTables 12 = .ok (.aload_n 2, 1) := by decide +kernel
theorem dX11_makeTables_13 : decode cX11_makeTables 13 = .ok (.iconst 2, 1) := by decide +kernel
theorem dX11_makeTables_14 : decode cX11_makeTables 14 = .ok (.invokevirtual 326, 3) := by decide +kernel
theorem dX11_makeTables_17 : decode cX11_makeTables 17 = .ok (.ifCond .ne 6, 3) := by decide +kernel
theorem dX11_makeTables_20 : decode cX11_makeTables 20 = .ok (.bipush (-6), 2) := by decide +kernel
theorem dX11_makeTables_22 : decode cX11_makeTables 22 = .ok (.ireturn, 1) := by decide +kernel
theorem dX11_makeTables_23 : decode cX11_makeTables 23 = .ok (.aload_n 1, 1) := by decide +kernel
theorem dX11_makeTables_24 : decode cX11_makeTables 24 = .ok (.iconst 2, 1) := by decide +kernel
theorem dX11_makeTables_25 : decode cX11_makeTables 25 = .ok (.invokevirtual 329, 3) := by decide +kernel
theorem dX11_makeTables_28 : decode cX11_makeTables 28 = .ok (.ifCond .ne 15, 3) := by decide +kernel
theorem dX11_makeTables_31 : decode cX11_makeTables 31 = .ok (.aload_n 2, 1) := by decide +kernel
theorem dX11_makeTables_32 : decode cX11_makeTables 32 = .ok (.ifnull 14, 3) := by decide +kernel
theorem dX11_makeTables_35 : decode cX11_makeTables 35 = .ok (.aload_n 2, 1) := by decide +kernel
theorem dX11_makeTables_36 : decode cX11_makeTables 36 = .ok (.iconst 2, 1) := by decide +kernel
theorem dX11_makeTables_37 : decode cX11_makeTables 37 = .ok (.invokevirtual 329, 3) := by decide +kernel
theorem dX11_makeTables_40 : decode cX11_makeTables 40 = .ok (.ifCond .eq 6, 3) := by decide +kernel
theorem dX11_makeTables_43 : decode cX11_makeTables 43 = .ok (.bipush (-7), 2) := by decide +kernel
theorem dX11_makeTables_45 : decode cX11_makeTables 45 = .ok (.ireturn, 1) := by decide +kernel
theorem dX11_makeTables_46 : decode cX11_makeTables 46 = .ok (.aload_n 0, 1) := by decide +kernel
theorem dX11_makeTables_47 : decode cX11_makeTables 47 = .ok (.getfield 71, 3) := by decide +kernel
theorem dX11_makeTables_50 : decode cX11_makeTables 50 = .ok (.aload_n 1, 1) := by decide +kernel
theorem dX11_makeTables_51 : decode cX11_makeTables 51 = .ok (.aload_n 2, 1) := by decide +kernel
theorem dX11_makeTables_52 : decode cX11_makeTables 52 = .ok (.invokevirtual 365, 3) := by decide +kernel
theorem dX11_makeTables_55 : decode cX11_makeTables 55 = .ok (.ifCond .eq 7, 3) := by decide +kernel
theorem dX11_makeTables_58 : decode cX11_makeTables 58 = .ok (.iconst 0, 1) := by decide +kernel
theorem dX11_makeTables_59 : decode cX11_makeTables 59 = .ok (.goto 5, 3) := by decide +kernel
theorem dX11_makeTables_62 : decode cX11_makeTables 62 = .ok (.bipush (-7), 2) := by decide +kernel
theorem dX11_makeTables_64 : decode cX11_makeTables 64 = .ok (.ireturn, 1) := by decide +kernel
theorem dX11_named_0 : decode cX11_named 0 = .ok (.aload_n 0, 1) := by decide +kernel
theorem dX11_named_1 : decode cX11_named 1 = .ok (.iload_n 1, 1) := by decide +kernel
theorem dX11_named_2 : decode cX11_named 2 = .ok (.invokevirtual 128, 3) := by decide +kernel
theorem dX11_named_5 : decode cX11_named 5 = .ok (.astore_n 3, 1) := by decide +kernel
theorem dX11_named_6 : decode cX11_named 6 = .ok (.aload_n 3, 1) := by decide +kernel
theorem dX11_named_7 : decode cX11_named 7 = .ok (.ifnonnull 6, 3) := by decide +kernel
theorem dX11_named_10 : decode cX11_named 10 = .ok (.bipush (-2), 2) := by decide +kernel
theorem dX11_named_12 : decode cX11_named 12 = .ok (.ireturn, 1) := by decide +kernel
theorem dX11_named_13 : decode cX11_named 13 = .ok (.iload_n 2, 1) := by decide +kernel
theorem dX11_named_14 : decode cX11_named 14 = .ok (.invokestatic 259, 3) := by decide +kernel
theorem dX11_named_17 : decode cX11_named 17 = .ok (.ifCond .eq 11, 3) := by decide +kernel
theorem dX11_named_20 : decode cX11_named 20 = .ok (.aload_n 3, 1) := by decide +kernel
theorem dX11_named_21 : decode cX11_named 21 = .ok (.iload_n 2, 1) := by decide +kernel
theorem dX11_named_22 : decode cX11_named 22 = .ok (.invokevirtual 262, 3) := by decide +kernel
theorem dX11_named_25 : decode cX11_named 25 = .ok (.goto 5, 3) := by decide +kernel
theorem dX11_named_28 : decode cX11_named 28 = .ok (.bipush (-4), 2) := by decide +kernel
theorem dX11_named_30 : decode cX11_named 30 = .ok (.ireturn, 1) := by decide +kernel
theorem dX11_node_0 : decode cX11_node 0 = .ok (.aload_n 0, 1) := by decide +kernel
theorem dX11_node_1 : decode cX11_node 1 = .ok (.iload_n 1, 1) := by decide +kernel
theorem dX11_node_2 : decode cX11_node 2 = .ok (.invokevirtual 128, 3) := by decide +kernel
theorem dX11_node_5 : decode cX11_node 5 = .ok (.astore 4, 2) := by decide +kernel
theorem dX11_node_7 : decode cX11_node 7 = .ok (.aload 4, 2) := by decide +kernel
theorem dX11_node_9 : decode cX11_node 9 = .ok (.ifnonnull 6, 3) := by decide +kernel
theorem dX11_node_12 : decode cX11_node 12 = .ok (.bipush (-2), 2) := by decide +kernel
theorem dX11_node_14 : decode cX11_node 14 = .ok (.ireturn, 1) := by decide +kernel
theorem dX11_node_15 : decode cX11_node 15 = .ok (.iload_n 3, 1) := by decide +kernel
theorem dX11_node_16 : decode cX11_node 16 = .ok (.ifCond .lt 13, 3) := by decide +kernel
theorem dX11_node_19 : decode cX11_node 19 = .ok (.iload_n 3, 1) := by decide +kernel
theorem dX11_node_20 : decode cX11_node 20 = .ok (.bipush 6, 2) := by decide +kernel
theorem dX11_node_22 : decode cX11_node 22 = .ok (.if_icmp .gt 7, 3) := by decide +kernel
theorem dX11_node_25 : decode cX11_node 25 = .ok (.iconst 1, 1) := by decide +kernel
theorem dX11_node_26 : decode cX11_node 26 = .ok (.goto 4, 3) := by decide +kernel
theorem dX11_node_29 : decode cX11_node 29 = .ok (.iconst 0, 1) := by decide +kernel
theorem dX11_node_30 : decode cX11_node 30 = .ok (.istore 5, 2) := by decide +kernel
theorem dX11_node_32 : decode cX11_node 32 = .ok (.aload 4, 2) := by decide +kernel
theorem dX11_node_34 : decode cX11_node 34 = .ok (.iload_n 2, 1) := by decide +kernel
theorem dX11_node_35 : decode cX11_node 35 = .ok (.invokevirtual 132, 3) := by decide +kernel
theorem dX11_node_38 : decode cX11_node 38 = .ok (.ifCond .eq 20, 3) := by decide +kernel
theorem dX11_node_41 : decode cX11_node 41 = .ok (.iload 5, 2) := by decide +kernel
theorem dX11_node_43 : decode cX11_node 43 = .ok (.ifCond .ne 18, 3) := by decide +kernel
theorem dX11_node_46 : decode cX11_node 46 = .ok (.iload_n 3, 1) := by decide +kernel
theorem dX11_node_47 : decode cX11_node 47 = .ok (.bipush 10, 2) := by decide +kernel
theorem dX11_node_49 : decode cX11_node 49 = .ok (.if_icmp .lt 9, 3) := by decide +kernel
theorem dX11_node_52 : decode cX11_node 52 = .ok (.iload_n 3, 1) := by decide +kernel
theorem dX11_node_53 : decode cX11_node 53 = .ok (.bipush 18, 2) := by decide +kernel
theorem dX11_node_55 : decode cX11_node 55 = .ok (.if_icmp .le 6, 3) := by decide +kernel
theorem dX11_node_58 : decode cX11_node 58 = .ok (.bipush (-4), 2) := by decide +kernel
theorem dX11_node_60 : decode cX11_node 60 = .ok (.ireturn, 1) := by decide +kernel
theorem dX11_node_61 : decode cX11_node 61 = .ok (.iload 5, 2) := by decide +kernel
theorem dX11_node_63 : decode cX11_node 63 = .ok (.ifCond .eq 11, 3) := by decide +kernel
theorem dX11_node_66 : decode cX11_node 66 = .ok (.aload 4, 2) := by decide +kernel
theorem dX11_node_68 : decode cX11_node 68 = .ok (.iload_n 2, 1) := by decide +kernel
theorem dX11_node_69 : decode cX11_node 69 = .ok (.iload_n 3, 1) := by decide +kernel
theorem dX11_node_70 : decode cX11_node 70 = .ok (.invokevirtual 135, 3) := by decide +kernel
theorem dX11_node_73 : decode cX11_node 73 = .ok (.ireturn, 1) := by decide +kernel
theorem dX11_node_74 : decode cX11_node 74 = .ok (.aload 4, 2) := by decide +kernel
theorem dX11_node_76 : decode cX11_node 76 = .ok (.iload_n 2, 1) := by decide +kernel
theorem dX11_node_77 : decode cX11_node 77 = .ok (.invokevirtual 139, 3) := by decide +kernel
theorem dX11_node_80 : decode cX11_node 80 = .ok (.iload_n 3, 1) := by decide +kernel
theorem dX11_node_81 : decode cX11_node 81 = .ok (.invokestatic 143, 3) := by decide +kernel
theorem dX11_node_84 : decode cX11_node 84 = .ok (.if_icmp .eq 11, 3) := by decide +kernel
theorem dX11_node_87 : decode cX11_node 87 = .ok (.aload_n 0, 1) := by decide +kernel
theorem dX11_node_88 : decode cX11_node 88 = .ok (.iconst 3, 1) := by decide +kernel
theorem dX11_node_89 : decode cX11_node 89 = .ok (.putfield 146, 3) := by decide +kernel
theorem dX11_node_92 : decode cX11_node 92 = .ok (.bipush (-6), 2) := by decide +kernel
theorem dX11_node_94 : decode cX11_node 94 = .ok (.ireturn, 1) := by decide +kernel
theorem dX11_node_95 : decode cX11_node 95 = .ok (.iload_n 3, 1) := by decide +kernel
theorem dX11_node_96 : decode cX11_node 96 = .ok (.bipush 16, 2) := by decide +kernel
theorem dX11_node_98 : decode cX11_node 98 = .ok (.if_icmp .ne 12, 3) := by decide +kernel
theorem dX11_node_101 : decode cX11_node 101 = .ok (.aload 4, 2) := by decide +kernel
theorem dX11_node_103 : decode cX11_node 103 = .ok (.iload_n 2, 1) := by decide +kernel
theorem dX11_node_104 : decode cX11_node 104 = .ok (.invokevirtual 149, 3) := by decide +kernel
theorem dX11_node_107 : decode cX11_node 107 = .ok (.goto 24, 3) := by decide +kernel
theorem dX11_node_110 : decode cX11_node 110 = .ok (.iload_n 3, 1) := by decide +kernel
theorem dX11_node_111 : decode cX11_node 111 = .ok (.bipush 17, 2) := by decide +kernel
theorem dX11_node_113 : decode cX11_node 113 = .ok (.if_icmp .ne 12, 3) := by decide +kernel
theorem dX11_node_116 : decode cX11_node 116 = .ok (.aload 4, 2) := by decide +kernel
theorem dX11_node_118 : decode cX11_node 118 = .ok (.iload_n 2, 1) := by decide +kernel
theorem dX11_node_119 : decode cX11_node 119 = .ok (.invokevirtual 152, 3) := by decide +kernel
theorem dX11_node_122 : decode cX11_node 122 = .ok (.goto 9, 3) := by decide +kernel
theorem dX11_node_125 : decode cX11_node 125 = .ok (.aload 4, 2) := by decide +kernel
theorem dX11_node_127 : decode cX11_node 127 = .ok (.iload_n 2, 1) := by decide +kernel
theorem dX11_node_128 : decode cX11_node 128 = .ok (.invokevirtual 155, 3) := by decide +kernel
theorem dX11_node_131 : decode cX11_node 131 = .ok (.ireturn, 1) := by decide +kernel
theorem dX11_part_0 : decode cX11_part 0 = .ok (.aload_n 0, 1) := by decide +kernel
theorem dX11_part_1 : decode cX11_part 1 = .ok (.iload_n 1, 1) := by decide +kernel
theorem dX11_part_2 : decode cX11_part 2 = .ok (.invokevirtual 128, 3) := by decide +kernel
theorem dX11_part_5 : decode cX11_part 5 = .ok (.astore 5, 2) := by decide +kernel
theorem dX11_part_7 : decode cX11_part 7 = .ok (.aload 5, 2) := by decide +kernel
theorem dX11_part_9 : decode cX11_part 9 = .ok (.ifnonnull 6, 3) := by decide +kernel
theorem dX11_part_12 : decode cX11_part 12 = .ok (.bipush (-2), 2) := by decide +kernel
theorem dX11_part_14 : decode cX11_part 14 = .ok (.ireturn, 1) := by decide +kernel
theorem dX11_part_15 : decode cX11_part 15 = .ok (.aload 5, 2) := by decide +kernel
theorem dX11_part_17 : decode cX11_part 17 = .ok (.iload_n 2, 1) := by decide +kernel
theorem dX11_part_18 : decode cX11_part 18 = .ok (.invokevirtual 132, 3) := by decide +kernel
theorem dX11_part_21 : decode cX11_part 21 = .ok (.ifCond .ne 6, 3) := by decide +kernel
theorem dX11_part_24 : decode cX11_part 24 = .ok (.bipush (-4), 2) := by decide +kernel
theorem dX11_part_26 : decode cX11_part 26 = .ok (.ireturn, 1) := by decide +kernel
theorem dX11_part_27 : decode cX11_part 27 = .ok (.aload 5, 2) := by decide +kernel
theorem dX11_part_29 : decode cX11_part 29 = .ok (.iload_n 2, 1) := by decide +kernel
theorem dX11_part_30 : decode cX11_part 30 = .ok (.invokevirtual 139, 3) := by decide +kernel
theorem dX11_part_33 : decode cX11_part 33 = .ok (.iconst 2, 1) := by decide +kernel
theorem dX11_part_34 : decode cX11_part 34 = .ok (.if_icmp .eq 11, 3) := by decide +kernel
theorem dX11_part_37 : decode cX11_part 37 = .ok (.aload_n 0, 1) := by decide +kernel
theorem dX11_part_38 : decode cX11_part 38 = .ok (.iconst 3, 1) := by decide +kernel
theorem dX11_part_39 : decode cX11_part 39 = .ok (.putfield 146, 3) := by decide +kernel
theorem dX11_part_42 : decode cX11_part 42 = .ok (.bipush (-6), 2) := by decide +kernel
theorem dX11_part_44 : decode cX11_part 44 = .ok (.ireturn, 1) := by decide +kernel
theorem dX11_part_45 : decode cX11_part 45 = .ok (.iload_n 3, 1) := by decide +kernel
theorem dX11_part_46 : decode cX11_part 46 = .ok (.ifCond .lt 13, 3) := by decide +kernel
theorem dX11_part_49 : decode cX11_part 49 = .ok (.iload_n 3, 1) := by decide +kernel
theorem dX11_part_50 : decode cX11_part 50 = .ok (.aload 5, 2) := by decide +kernel
theorem dX11_part_52 : decode cX11_part 52 = .ok (.iload_n 2, 1) := by decide +kernel
theorem dX11_part_53 : decode cX11_part 53 = .ok (.invokevirtual 158, 3) := by decide +kernel
theorem dX11_part_56 : decode cX11_part 56 = .ok (.if_icmp .lt 11, 3) := by decide +kernel
theorem dX11_part_59 : decode cX11_part 59 = .ok (.aload_n 0, 1) := by decide +kernel
theorem dX11_part_60 : decode cX11_part 60 = .ok (.iconst 1, 1) := by decide +kernel
theorem dX11_part_61 : decode cX11_part 61 = .ok (.putfield 146, 3) := by decide +kernel
theorem dX11_part_64 : decode cX11_part 64 = .ok (.bipush (-4), 2) := by decide +kernel
theorem dX11_part_66 : decode cX11_part 66 = .ok (.ireturn, 1) := by decide +kernel
theorem dX11_part_67 : decode cX11_part 67 = .ok (.iload 4, 2) := by decide +kernel
theorem dX11_part_69 : decode cX11_part 69 = .ok (.ifCond .eq 13, 3) := by decide +kernel
theorem dX11_part_72 : decode cX11_part 72 = .ok (.aload 5, 2) := by decide +kernel
theorem dX11_part_74 : decode cX11_part 74 = .ok (.iload_n 2, 1) := by decide +kernel
theorem dX11_part_75 : decode cX11_part 75 = .ok (.iload_n 3, 1) := by decide +kernel
theorem dX11_part_76 : decode cX11_part 76 = .ok (.invokevirtual 161, 3) := by decide +kernel
theorem dX11_part_79 : decode cX11_part 79 = .ok (.goto 10, 3) := by decide +kernel
theorem dX11_part_82 : decode cX11_part 82 = .ok (.aload 5, 2) := by decide +kernel
theorem dX11_part_84 : decode cX11_part 84 = .ok (.iload_n 2, 1) := by decide +kernel
theorem dX11_part_85 : decode cX11_part 85 = .ok (.iload_n 3, 1) := by decide +kernel
theorem dX11_part_86 : decode cX11_part 86 = .ok (.invokevirtual 164, 3) := by decide +kernel
theorem dX11_part_89 : decode cX11_part 89 = .ok (.ireturn, 1) := by decide +kernel
theorem dX11_parting_0 : decode cX11_parting 0 = .ok (.aload_n 0, 1) := by decide +kernel
theorem dX11_parting_1 : decode cX11_parting 1 = .ok (.iload_n 1, 1) := by decide +kernel
theorem dX11_parting_2 : decode cX11_parting 2 = .ok (.invokevirtual 128, 3) := by decide +kernel
theorem dX11_parting_5 : decode cX11_parting 5 = .ok (.astore_n 3, 1) := by decide +kernel
theorem dX11_parting_6 : decode cX11_parting 6 = .ok (.aload_n 3, 1) := by decide +kernel
theorem dX11_parting_7 : decode cX11_parting 7 = .ok (.ifnonnull 7, 3) := by decide +kernel
theorem dX11_parting_10 : decode cX11_parting 10 = .ok (.aconst_null, 1) := by decide +kernel
theorem dX11_parting_11 : decode cX11_parting 11 = .ok (.goto 8, 3) := by decide +kernel
theorem dX11_parting_14 : decode cX11_parting 14 = .ok (.aload_n 0, 1) := by decide +kernel
theorem dX11_parting_15 : decode cX11_parting 15 = .ok (.iload_n 2, 1) := by decide +kernel
theorem dX11_parting_16 : decode cX11_parting 16 = .ok (.invokevirtual 128, 3) := by decide +kernel
theorem dX11_parting_19 : decode cX11_parting 19 = .ok (.astore 4, 2) := by decide +kernel
theorem dX11_parting_21 : decode cX11_parting 21 = .ok (.aload_n 3, 1) := by decide +kernel
theorem dX11_parting_22 : decode cX11_parting 22 = .ok (.ifnull 8, 3) := by decide +kernel
theorem dX11_parting_25 : decode cX11_parting 25 = .ok (.aload 4, 2) := by decide +kernel
theorem dX11_parting_27 : decode cX11_parting 27 = .ok (.ifnonnull 6, 3) := by decide +kernel
theorem dX11_parting_30 : decode cX11_parting 30 = .ok (.bipush (-2), 2) := by decide +kernel
theorem dX11_parting_32 : decode cX11_parting 32 = .ok (.ireturn, 1) := by decide +kernel
theorem dX11_parting_33 : decode cX11_parting 33 = .ok (.aload_n 0, 1) := by decide +kernel
theorem dX11_parting_34 : decode cX11_parting 34 = .ok (.aload_n 3, 1) := by decide +kernel
theorem dX11_parting_35 : decode cX11_parting 35 = .ok (.aload 4, 2) := by decide +kernel
theorem dX11_parting_37 : decode cX11_parting 37 = .ok (.invokevirtual 283, 3) := by decide +kernel
theorem dX11_parting_40 : decode cX11_parting 40 = .ok (.istore 5, 2) := by decide +kernel
theorem dX11_parting_42 : decode cX11_parting 42 = .ok (.iload 5, 2) := by decide +kernel
theorem dX11_parting_44 : decode cX11_parting 44 = .ok (.ifCond .eq 6, 3) := by decide +kernel
theorem dX11_parting_47 : decode cX11_parting 47 = .ok (.iload 5, 2) := by decide +kernel
theorem dX11_parting_49 : decode cX11_parting 49 = .ok (.ireturn, 1) := by decide +kernel
theorem dX11_parting_50 : decode cX11_parting 50 = .ok (.aload_n 0, 1) := by decide +kernel
theorem dX11_parting_51 : decode cX11_parting 51 = .ok (.getfield 71, 3) := by decide +kernel
theorem dX11_parting_54 : decode cX11_parting 54 = .ok (.invokevirtual 301, 3) := by decide +kernel
theorem dX11_parting_57 : decode cX11_parting 57 = .ok (.aload_n 0, 1) := by decide +kernel
theorem dX11_parting_58 : decode cX11_parting 58 = .ok (.getfield 71, 3) := by decide +kernel
theorem dX11_parting_61 : decode cX11_parting 61 = .ok (.getfield 304, 3) := by decide +kernel
theorem dX11_parting_64 : decode cX11_parting 64 = .ok (.ifCond .ne 15, 3) := by decide +kernel
theorem dX11_parting_67 : decode cX11_parting 67 = .ok (.aload_n 0, 1) := by decide +kernel
theorem dX11_parting_68 : decode cX11_parting 68 = .ok (.getfield 71, 3) := by decide +kernel
theorem dX11_parting_71 : decode cX11_parting 71 = .ok (.getfield 307, 3) := by decide +kernel
theorem dX11_parting_74 : decode cX11_parting 74 = .ok (.ifCond .ne 5, 3) := by decide +kernel
theorem dX11_parting_77 : decode cX11_parting 77 = .ok (.iconst (-1), 1) := by decide +kernel
theorem dX11_parting_78 : decode cX11_parting 78 = .ok (.ireturn, 1) := by decide +kernel
theorem dX11_parting_79 : decode cX11_parting 79 = .ok (.aload_n 0, 1) := by decide +kernel
theorem dX11_parting_80 : decode cX11_parting 80 = .ok (.getfield 71, 3) := by decide +kernel
theorem dX11_parting_83 : decode cX11_parting 83 = .ok (.aload_n 0, 1) := by decide +kernel
theorem dX11_parting_84 : decode cX11_parting 84 = .ok (.getfield 31, 3) := by decide +kernel
theorem dX11_parting_87 : decode cX11_parting 87 = .ok (.invokevirtual 310, 3) := by decide +kernel
theorem dX11_parting_90 : decode cX11_parting 90 = .ok (.aload_n 0, 1) := by decide +kernel
theorem dX11_parting_91 : decode cX11_parting 91 = .ok (.getfield 31, 3) := by decide +kernel
theorem dX11_parting_94 : decode cX11_parting 94 = .ok (.getfield 171, 3) := by decide +kernel
theorem dX11_parting_97 : decode cX11_parting 97 = .ok (.ifCond .eq 11, 3) := by decide +kernel
theorem dX11_parting_100 : decode cX11_parting 100 = .ok (.aload_n 0, 1) := by decide +kernel
theorem dX11_parting_101 : decode cX11_parting 101 = .ok (.iconst 4, 1) := by decide +kernel
theorem dX11_parting_102 : decode cX11_parting 102 = .ok (.putfield 146, 3) := by decide +kernel
theorem dX11_parting_105 : decode cX11_parting 105 = .ok (.bipush (-9), 2) := by decide +kernel
theorem dX11_parting_107 : decode cX11_parting 107 = .ok (.ireturn, 1) := by decide +kernel
theorem dX11_parting_108 : decode cX11_parting 108 = .ok (.aload_n 0, 1) := by decide +kernel
theorem dX11_parting_109 : decode cX11_parting 109 = .ok (.iconst 0, 1) := by decide +kernel
theorem dX11_parting_110 : decode cX11_parting 110 = .ok (.invokevirtual 174, 3) := by decide +kernel
theorem dX11_parting_113 : decode cX11_parting 113 = .ok (.aload_n 0, 1) := by decide +kernel
theorem dX11_parting_114 : decode cX11_parting 114 = .ok (.getfield 28, 3) := by decide +kernel
theorem dX11_parting_117 : decode cX11_parting 117 = .ok (.getfield 96, 3) := by decide +kernel
theorem dX11_parting_120 : decode cX11_parting 120 = .ok (.ireturn, 1) := by decide +kernel
theorem dX11_patternIn_0 : decode cX11_patternIn 0 = .ok (.iload_n 1, 1) := by decide +kernel
theorem dX11_patternIn_1 : decode cX11_patternIn 1 = .ok (.invokestatic 102, 3) := by decide +kernel
theorem dX11_patternIn_4 : decode cX11_patternIn 4 = .ok (.ifCond .ne 5, 3) := by decide +kernel
theorem dX11_patternIn_7 : decode cX11_patternIn 7 = .ok (.aconst_null, 1) := by decide +kernel
theorem dX11_patternIn_8 : decode cX11_patternIn 8 = .ok (.areturn, 1) := by decide +kernel
theorem dX11_patternIn_9 : decode cX11_patternIn 9 = .ok (.aload_n 0, 1) := by decide +kernel
theorem dX11_patternIn_10 : decode cX11_patternIn 10 = .ok (.getfield 20, 3) := by decide +kernel
theorem dX11_patternIn_13 : decode cX11_patternIn 13 = .ok (.iload_n 1, 1) := by decide +kernel
theorem dX11_patternIn_14 : decode cX11_patternIn 14 = .ok (.aaload, 1) := by decide +kernel
theorem dX11_patternIn_15 : decode cX11_patternIn 15 = .ok (.getfield 120, 3) := by decide +kernel
theorem dX11_patternIn_18 : decode cX11_patternIn 18 = .ok (.ifCond .ne 10, 3) := by decide +kernel
theorem dX11_patternIn_21 : decode cX11_patternIn 21 = .ok (.aload_n 0, 1) := by decide +kernel
theorem dX11_patternIn_22 : decode cX11_patternIn 22 = .ok (.iconst 2, 1) := by decide +kernel
theorem dX11_patternIn_23 : decode cX11_patternIn 23 = .ok (.putfield 146, 3) := by decide +kernel
theorem dX11_patternIn_26 : decode cX11_patternIn 26 = .ok (.aconst_null, 1) := by decide +kernel
theorem dX11_patternIn_27 : decode cX11_patternIn 27 = .ok (.areturn, 1) := by decide +kernel
theorem dX11_patternIn_28 : decode cX11_patternIn 28 = .ok (.aload_n 0, 1) := by decide +kernel
theorem dX11_patternIn_29 : decode cX11_patternIn 29 = .ok (.getfield 20, 3) := by decide +kernel
theorem dX11_patternIn_32 : decode cX11_patternIn 32 = .ok (.iload_n 1, 1) := by decide +kernel
theorem dX11_patternIn_33 : decode cX11_patternIn 33 = .ok (.aaload, 1) := by decide +kernel
theorem dX11_patternIn_34 : decode cX11_patternIn 34 = .ok (.areturn, 1) := by decide +kernel
theorem dX11_patternsThere_0 : decode cX11_patternsThere 0 = .ok (.iconst 0, 1) := by decide +kernel
theorem dX11_patternsThere_1 : decode cX11_patternsThere 1 = .ok (.istore_n 1, 1) := by decide +kernel
theorem dX11_patternsThere_2 : decode cX11_patternsThere 2 = .ok (.iconst 0, 1) := by decide +kernel
theorem dX11_patternsThere_3 : decode cX11_patternsThere 3 = .ok (.istore_n 2, 1) := by decide +kernel
theorem dX11_patternsThere_4 : decode cX11_patternsThere 4 = .ok (.iload_n 2, 1) := by decide +kernel
theorem dX11_patternsThere_5 : decode cX11_patternsThere 5 = .ok (.aload_n 0, 1) := by decide +kernel
theorem dX11_patternsThere_6 : decode cX11_patternsThere 6 = .ok (.getfield 20, 3) := by decide +kernel
theorem dX11_patternsThere_9 : decode cX11_patternsThere 9 = .ok (.arraylength, 1) := by decide +kernel
theorem dX11_patternsThere_10 : decode cX11_patternsThere 10 = .ok (.if_icmp .ge 29, 3) := by decide +kernel
theorem dX11_patternsThere_13 : decode cX11_patternsThere 13 = .ok (.iload_n 1, 1) := by decide +kernel
theorem dX11_patternsThere_14 : decode cX11_patternsThere 14 = .ok (.aload_n 0, 1) := by decide +kernel
theorem dX11_patternsThere_15 : decode cX11_patternsThere 15 = .ok (.getfield 20, 3) := by decide +kernel
theorem dX11_patternsThere_18 : decode cX11_patternsThere 18 = .ok (.iload_n 2, 1) := by decide +kernel
theorem dX11_patternsThere_19 : decode cX11_patternsThere 19 = .ok (.aaload, 1) := by decide +kernel
theorem dX11_patternsThere_20 : decode cX11_patternsThere 20 = .ok (.getfield 120, 3) := by decide +kernel
theorem dX11_patternsThere_23 : decode cX11_patternsThere 23 = .ok (.ifCond .eq 7, 3) := by decide +kernel
theorem dX11_patternsThere_26 : decode cX11_patternsThere 26 = .ok (.iconst 1, 1) := by decide +kernel
theorem dX11_patternsThere_27 : decode cX11_patternsThere 27 = .ok (.goto 4, 3) := by decide +kernel
theorem dX11_patternsThere_30 : decode cX11_patternsThere 30 = .ok (.iconst 0, 1) := by decide +kernel
theorem dX11_patternsThere_31 : decode cX11_patternsThere 31 = .ok (.iadd, 1) := by decide +kernel
theorem dX11_patternsThere_32 : decode cX11_patternsThere 32 = .ok (.istore_n 1, 1) := by decide +kernel
theorem dX11_patternsThere_33 : decode cX11_patternsThere 33 = .ok (.iinc 2 1, 3) := by decide +kernel
theorem dX11_patternsThere_36 : decode cX11_patternsThere 36 = .ok (.goto (-32), 3) := by decide +kernel
theorem dX11_patternsThere_39 : decode cX11_patternsThere 39 = .ok (.iload_n 1, 1) := by decide +kernel
theorem dX11_patternsThere_40 : decode cX11_patternsThere 40 = .ok (.ireturn, 1) := by decide +kernel
theorem dX11_place_0 : decode cX11_place 0 = .ok (.aload_n 0, 1) := by decide +kernel
theorem dX11_place_1 : decode cX11_place 1 = .ok (.getfield 75, 3) := by decide +kernel
theorem dX11_place_4 : decode cX11_place 4 = .ok (.ireturn, 1) := by decide +kernel
theorem dX11_prefix_0 : decode cX11_prefix 0 = .ok (.aload_n 0, 1) := by decide +kernel
theorem dX11_prefix_1 : decode cX11_prefix 1 = .ok (.iload_n 1, 1) := by decide +kernel
theorem dX11_prefix_2 : decode cX11_prefix 2 = .ok (.invokevirtual 128, 3) := by decide +kernel
theorem dX11_prefix_5 : decode cX11_prefix 5 = .ok (.astore 4, 2) := by decide +kernel
theorem dX11_prefix_7 : decode cX11_prefix 7 = .ok (.aload 4, 2) := by decide +kernel
theorem dX11_prefix_9 : decode cX11_prefix 9 = .ok (.ifnonnull 6, 3) := by decide +kernel
theorem dX11_prefix_12 : decode cX11_prefix 12 = .ok (.bipush (-2), 2) := by decide +kernel
theorem dX11_prefix_14 : decode cX11_prefix 14 = .ok (.ireturn, 1) := by decide +kernel
theorem dX11_prefix_15 : decode cX11_prefix 15 = .ok (.aload_n 0, 1) := by decide +kernel
theorem dX11_prefix_16 : decode cX11_prefix 16 = .ok (.iload_n 2, 1) := by decide +kernel
theorem dX11_prefix_17 : decode cX11_prefix 17 = .ok (.invokevirtual 209, 3) := by decide +kernel
theorem dX11_prefix_20 : decode cX11_prefix 20 = .ok (.astore 5, 2) := by decide +kernel
theorem dX11_prefix_22 : decode cX11_prefix 22 = .ok (.aload 5, 2) := by decide +kernel
theorem dX11_prefix_24 : decode cX11_prefix 24 = .ok (.ifnonnull 9, 3) := by decide +kernel
theorem dX11_prefix_27 : decode cX11_prefix 27 = .ok (.aload_n 0, 1) := by decide +kernel
theorem dX11_prefix_28 : decode cX11_prefix 28 = .ok (.iload_n 2, 1) := by decide +kernel
theorem dX11_prefix_29 : decode cX11_prefix 29 = .ok (.invokevirtual 213, 3) := by decide +kernel
theorem dX11_prefix_32 : decode cX11_prefix 32 = .ok (.ireturn, 1) := by decide +kernel
theorem dX11_prefix_33 : decode cX11_prefix 33 = .ok (.iload_n 3, 1) := by decide +kernel
theorem dX11_prefix_34 : decode cX11_prefix 34 = .ok (.ifCond .lt 12, 3) := by decide +kernel
theorem dX11_prefix_37 : decode cX11_prefix 37 = .ok (.iload_n 3, 1) := by decide +kernel
theorem dX11_prefix_38 : decode cX11_prefix 38 = .ok (.aload 5, 2) := by decide +kernel
theorem dX11_prefix_40 : decode cX11_prefix 40 = .ok (.getfield 96, 3) := by decide +kernel
theorem dX11_prefix_43 : decode cX11_prefix 43 = .ok (.if_icmp .le 6, 3) := by decide +kernel
theorem dX11_prefix_46 : decode cX11_prefix 46 = .ok (.bipush (-4), 2) := by decide +kernel
theorem dX11_prefix_48 : decode cX11_prefix 48 = .ok (.ireturn, 1) := by decide +kernel
theorem dX11_prefix_49 : decode cX11_prefix 49 = .ok (.aload_n 0, 1) := by decide +kernel
theorem dX11_prefix_50 : decode cX11_prefix 50 = .ok (.aload 4, 2) := by decide +kernel
theorem dX11_prefix_52 : decode cX11_prefix 52 = .ok (.aconst_null, 1) := by decide +kernel
theorem dX11_prefix_53 : decode cX11_prefix 53 = .ok (.invokevirtual 283, 3) := by decide +kernel
theorem dX11_prefix_56 : decode cX11_prefix 56 = .ok (.istore 6, 2) := by decide +kernel
theorem dX11_prefix_58 : decode cX11_prefix 58 = .ok (.iload 6, 2) := by decide +kernel
theorem dX11_prefix_60 : decode cX11_prefix 60 = .ok (.ifCond .eq 8, 3) := by decide +kernel
theorem dX11_prefix_63 : decode cX11_prefix 63 = .ok (.iload 6, 2) := by decide +kernel
theorem dX11_prefix_65 : decode cX11_prefix 65 = .ok (.goto 13, 3) := by decide +kernel
theorem dX11_prefix_68 : decode cX11_prefix 68 = .ok (.aload_n 0, 1) := by decide +kernel
theorem dX11_prefix_69 : decode cX11_prefix 69 = .ok (.getfield 71, 3) := by decide +kernel
theorem dX11_prefix_72 : decode cX11_prefix 72 = .ok (.aload 5, 2) := by decide +kernel
theorem dX11_prefix_74 : decode cX11_prefix 74 = .ok (.iload_n 3, 1) := by decide +kernel
theorem dX11_prefix_75 : decode cX11_prefix 75 = .ok (.invokevirtual 287, 3) := by decide +kernel
theorem dX11_prefix_78 : decode cX11_prefix 78 = .ok (.ireturn, 1) := by decide +kernel
theorem dX11_print_0 : decode cX11_print 0 = .ok (.aload_n 0, 1) := by decide +kernel
theorem dX11_print_1 : decode cX11_print 1 = .ok (.iload_n 1, 1) := by decide +kernel
theorem dX11_print_2 : decode cX11_print 2 = .ok (.invokevirtual 128, 3) := by decide +kernel
theorem dX11_print_5 : decode cX11_print 5 = .ok (.astore_n 2, 1) := by decide +kernel
theorem dX11_print_6 : decode cX11_print 6 = .ok (.aload_n 2, 1) := by decide +kernel
theorem dX11_print_7 : decode cX11_print 7 = .ok (.ifnonnull 6, 3) := by decide +kernel
theorem dX11_print_10 : decode cX11_print 10 = .ok (.bipush (-2), 2) := by decide +kernel
theorem dX11_print_12 : decode cX11_print 12 = .ok (.ireturn, 1) := by decide +kernel
theorem dX11_print_13 : decode cX11_print 13 = .ok (.aload_n 0, 1) := by decide +kernel
theorem dX11_print_14 : decode cX11_print 14 = .ok (.getfield 50, 3) := by decide +kernel
theorem dX11_print_17 : decode cX11_print 17 = .ok (.aload_n 2, 1) := by decide +kernel
theorem dX11_print_18 : decode cX11_print 18 = .ok (.aload_n 0, 1) := by decide +kernel
theorem dX11_print_19 : decode cX11_print 19 = .ok (.getfield 31, 3) := by decide +kernel
theorem dX11_print_22 : decode cX11_print 22 = .ok (.invokevirtual 167, 3) := by decide +kernel
theorem dX11_print_25 : decode cX11_print 25 = .ok (.aload_n 0, 1) := by decide +kernel
theorem dX11_print_26 : decode cX11_print 26 = .ok (.getfield 31, 3) := by decide +kernel
theorem dX11_print_29 : decode cX11_print 29 = .ok (.getfield 171, 3) := by decide +kernel
theorem dX11_print_32 : decode cX11_print 32 = .ok (.ifCond .eq 11, 3) := by decide +kernel
theorem dX11_print_35 : decode cX11_print 35 = .ok (.aload_n 0, 1) := by decide +kernel
theorem dX11_print_36 : decode cX11_print 36 = .ok (.iconst 4, 1) := by decide +kernel
theorem dX11_print_37 : decode cX11_print 37 = .ok (.putfield 146, 3) := by decide +kernel
theorem dX11_print_40 : decode cX11_print 40 = .ok (.bipush (-9), 2) := by decide +kernel
theorem dX11_print_42 : decode cX11_print 42 = .ok (.ireturn, 1) := by decide +kernel
theorem dX11_print_43 : decode cX11_print 43 = .ok (.aload_n 0, 1) := by decide +kernel
theorem dX11_print_44 : decode cX11_print 44 = .ok (.iconst 0, 1) := by decide +kernel
theorem dX11_print_45 : decode cX11_print 45 = .ok (.invokevirtual 174, 3) := by decide +kernel
theorem dX11_print_48 : decode cX11_print 48 = .ok (.aload_n 0, 1) := by decide +kernel
theorem dX11_print_49 : decode cX11_print 49 = .ok (.getfield 28, 3) := by decide +kernel
theorem dX11_print_52 : decode cX11_print 52 = .ok (.getfield 96, 3) := by decide +kernel
theorem dX11_print_55 : decode cX11_print 55 = .ok (.ireturn, 1) := by decide +kernel
theorem dX11_put_0 : decode cX11_put 0 = .ok (.iload_n 1, 1) := by decide +kernel
theorem dX11_put_1 : decode cX11_put 1 = .ok (.invokestatic 202, 3) := by decide +kernel
theorem dX11_put_4 : decode cX11_put 4 = .ok (.ifCond .ne 6, 3) := by decide +kernel
theorem dX11_put_7 : decode cX11_put 7 = .ok (.bipush (-2), 2) := by decide +kernel
theorem dX11_put_9 : decode cX11_put 9 = .ok (.ireturn, 1) := by decide +kernel
theorem dX11_put_10 : decode cX11_put 10 = .ok (.iload_n 2, 1) := by decide +kernel
theorem dX11_put_11 : decode cX11_put 11 = .ok (.ifCond .lt 8, 3) := by decide +kernel
theorem dX11_put_14 : decode cX11_put 14 = .ok (.iload_n 2, 1) := by decide +kernel
theorem dX11_put_15 : decode cX11_put 15 = .ok (.iconst 4, 1) := by decide +kernel
theorem dX11_put_16 : decode cX11_put 16 = .ok (.if_icmp .le 6, 3) := by decide +kernel
theorem dX11_put_19 : decode cX11_put 19 = .ok (.bipush (-4), 2) := by decide +kernel
theorem dX11_put_21 : decode cX11_put 21 = .ok (.ireturn, 1) := by decide +kernel
theorem dX11_put_22 : decode cX11_put 22 = .ok (.aload_n 0, 1) := by decide +kernel
theorem dX11_put_23 : decode cX11_put 23 = .ok (.getfield 24, 3) := by decide +kernel
theorem dX11_put_26 : decode cX11_put 26 = .ok (.iload_n 1, 1) := by decide +kernel
theorem dX11_put_27 : decode cX11_put 27 = .ok (.aaload, 1) := by decide +kernel
theorem dX11_put_28 : decode cX11_put 28 = .ok (.astore 5, 2) := by decide +kernel
theorem dX11_put_30 : decode cX11_put 30 = .ok (.aload 5, 2) := by decide +kernel
theorem dX11_put_32 : decode cX11_put 32 = .ok (.getfield 96, 3) := by decide +kernel
theorem dX11_put_35 : decode cX11_put 35 = .ok (.iload_n 2, 1) := by decide +kernel
theorem dX11_put_36 : decode cX11_put 36 = .ok (.iadd, 1) := by decide +kernel
theorem dX11_put_37 : decode cX11_put 37 = .ok (.bipush 100, 2) := by decide +kernel
theorem dX11_put_39 : decode cX11_put 39 = .ok (.if_icmp .le 6, 3) := by decide +kernel
theorem dX11_put_42 : decode cX11_put 42 = .ok (.bipush (-9), 2) := by decide +kernel
theorem dX11_put_44 : decode cX11_put 44 = .ok (.ireturn, 1) := by decide +kernel
theorem dX11_put_45 : decode cX11_put 45 = .ok (.iload_n 2, 1) := by decide +kernel
theorem dX11_put_46 : decode cX11_put 46 = .ok (.iconst 1, 1) := by decide +kernel
theorem dX11_put_47 : decode cX11_put 47 = .ok (.isub, 1) := by decide +kernel
theorem dX11_put_48 : decode cX11_put 48 = .ok (.istore 6, 2) := by decide +kernel
theorem dX11_put_50 : decode cX11_put 50 = .ok (.iload 6, 2) := by decide +kernel
theorem dX11_put_52 : decode cX11_put 52 = .ok (.ifCond .lt 25, 3) := by decide +kernel
theorem dX11_put_55 : decode cX11_put 55 = .ok (.aload 5, 2) := by decide +kernel
theorem dX11_put_57 : decode cX11_put 57 = .ok (.lload_n 3, 1) := by decide +kernel
theorem dX11_put_58 : decode cX11_put 58 = .ok (.bipush 16, 2) := by decide +kernel
theorem dX11_put_60 : decode cX11_put 60 = .ok (.iload 6, 2) := by decide +kernel
theorem dX11_put_62 : decode cX11_put 62 = .ok (.imul, 1) := by decide +kernel
theorem dX11_put_63 : decode cX11_put 63 = .ok (.lushr, 1) := by decide +kernel
theorem dX11_put_64 : decode cX11_put 64 = .ok (.l2i, 1) := by decide +kernel
theorem dX11_put_65 : decode cX11_put 65 = .ok (.ldc 178, 2) := by decide +kernel
theorem dX11_put_67 : decode cX11_put 67 = .ok (.iand, 1) := by decide +kernel
theorem dX11_put_68 : decode cX11_put 68 = .ok (.invokevirtual 99, 3) := by decide +kernel
theorem dX11_put_71 : decode cX11_put 71 = .ok (.iinc 6 (-1), 3) := by decide +kernel
theorem dX11_put_74 : decode cX11_put 74 = .ok (.goto (-24), 3) := by decide +kernel
theorem dX11_put_77 : decode cX11_put 77 = .ok (.aload 5, 2) := by decide +kernel
theorem dX11_put_79 : decode cX11_put 79 = .ok (.iconst 1, 1) := by decide +kernel
theorem dX11_put_80 : decode cX11_put 80 = .ok (.putfield 205, 3) := by decide +kernel
theorem dX11_put_83 : decode cX11_put 83 = .ok (.aload_n 0, 1) := by decide +kernel
theorem dX11_put_84 : decode cX11_put 84 = .ok (.iload_n 1, 1) := by decide +kernel
theorem dX11_put_85 : decode cX11_put 85 = .ok (.invokevirtual 206, 3) := by decide +kernel
theorem dX11_put_88 : decode cX11_put 88 = .ok (.aload 5, 2) := by decide +kernel
theorem dX11_put_90 : decode cX11_put 90 = .ok (.getfield 96, 3) := by decide +kernel
theorem dX11_put_93 : decode cX11_put 93 = .ok (.ireturn, 1) := by decide +kernel
theorem dX11_refusalByMachine_0 : decode cX11_refusalByMachine 0 = .ok (.aload_n 0, 1) := by decide +kernel
theorem dX11_refusalByMachine_1 : decode cX11_refusalByMachine 1 = .ok (.iload_n 1, 1) := by decide +kernel
theorem dX11_refusalByMachine_2 : decode cX11_refusalByMachine 2 = .ok (.invokevirtual 326, 3) := by decide +kernel
theorem dX11_refusalByMachine_5 : decode cX11_refusalByMachine 5 = .ok (.ifCond .ne 6, 3) := by decide +kernel
theorem dX11_refusalByMachine_8 : decode cX11_refusalByMachine 8 = .ok (.bipush (-6), 2) := by decide +kernel
theorem dX11_refusalByMachine_10 : decode cX11_refusalByMachine 10 = .ok (.ireturn, 1) := by decide +kernel
theorem dX11_refusalByMachine_11 : decode cX11_refusalByMachine 11 = .ok (.aload_n 0, 1) := by decide +kernel
theorem dX11_refusalByMachine_12 : decode cX11_refusalByMachine 12 = .ok (.iload_n 1, 1) := by decide +kernel
theorem dX11_refusalByMachine_13 : decode cX11_refusalByMachine 13 = .ok (.invokevirtual 329, 3) := by decide +kernel
theorem dX11_refusalByMachine_16 : decode cX11_refusalByMachine 16 = .ok (.ifCond .eq 8, 3) := by decide +kernel
theorem dX11_refusalByMachine_19 : decode cX11_refusalByMachine 19 = .ok (.bipush (-7), 2) := by decide +kernel
theorem dX11_refusalByMachine_21 : decode cX11_refusalByMachine 21 = .ok (.goto 4, 3) := by decide +kernel
theorem dX11_refusalByMachine_24 : decode cX11_refusalByMachine 24 = .ok (.iconst 0, 1) := by decide +kernel
theorem dX11_refusalByMachine_25 : decode cX11_refusalByMachine 25 = .ok (.ireturn, 1) := by decide +kernel
theorem dX11_refusalOfSome_0 : decode cX11_refusalOfSome 0 = .ok (.iconst 0, 1) := by decide +kernel
theorem dX11_refusalOfSome_1 : decode cX11_refusalOfSome 1 = .ok (.istore_n 3, 1) := by decide +kernel
theorem dX11_refusalOfSome_2 : decode cX11_refusalOfSome 2 = .ok (.iconst 0, 1) := by decide +kernel
theorem dX11_refusalOfSome_3 : decode cX11_refusalOfSome 3 = .ok (.istore 4, 2) := by decide +kernel
theorem dX11_refusalOfSome_5 : decode cX11_refusalOfSome 5 = .ok (.iload 4, 2) := by decide +kernel
theorem dX11_refusalOfSome_7 : decode cX11_refusalOfSome 7 = .ok (.aload_n 0, 1) := by decide +kernel
theorem dX11_refusalOfSome_8 : decode cX11_refusalOfSome 8 = .ok (.getfield 20, 3) := by decide +kernel
theorem dX11_refusalOfSome_11 : decode cX11_refusalOfSome 11 = .ok (.arraylength, 1) := by decide +kernel
theorem dX11_refusalOfSome_12 : decode cX11_refusalOfSome 12 = .ok (.if_icmp .ge 59, 3) := by decide +kernel
theorem dX11_refusalOfSome_15 : decode cX11_refusalOfSome 15 = .ok (.iload_n 1, 1) := by decide +kernel
theorem dX11_refusalOfSome_16 : decode cX11_refusalOfSome 16 = .ok (.iload 4, 2) := by decide +kernel
theorem dX11_refusalOfSome_18 : decode cX11_refusalOfSome 18 = .ok (.invokestatic 361, 3) := by decide +kernel
theorem dX11_refusalOfSome_21 : decode cX11_refusalOfSome 21 = .ok (.ifCond .ne 6, 3) := by decide +kernel
theorem dX11_refusalOfSome_24 : decode cX11_refusalOfSome 24 = .ok (.goto 41, 3) := by decide +kernel
theorem dX11_refusalOfSome_27 : decode cX11_refusalOfSome 27 = .ok (.aload_n 0, 1) := by decide +kernel
theorem dX11_refusalOfSome_28 : decode cX11_refusalOfSome 28 = .ok (.getfield 20, 3) := by decide +kernel
theorem dX11_refusalOfSome_31 : decode cX11_refusalOfSome 31 = .ok (.iload 4, 2) := by decide +kernel
theorem dX11_refusalOfSome_33 : decode cX11_refusalOfSome 33 = .ok (.aaload, 1) := by decide +kernel
theorem dX11_refusalOfSome_34 : decode cX11_refusalOfSome 34 = .ok (.iload_n 2, 1) := by decide +kernel
theorem dX11_refusalOfSome_35 : decode cX11_refusalOfSome 35 = .ok (.invokestatic 231, 3) := by decide +kernel
theorem dX11_refusalOfSome_38 : decode cX11_refusalOfSome 38 = .ok (.istore 5, 2) := by decide +kernel
theorem dX11_refusalOfSome_40 : decode cX11_refusalOfSome 40 = .ok (.iload 5, 2) := by decide +kernel
theorem dX11_refusalOfSome_42 : decode cX11_refusalOfSome 42 = .ok (.bipush (-6), 2) := by decide +kernel
theorem dX11_refusalOfSome_44 : decode cX11_refusalOfSome 44 = .ok (.if_icmp .ne 6, 3) := by decide +kernel
theorem dX11_refusalOfSome_47 : decode cX11_refusalOfSome 47 = .ok (.bipush (-6), 2) := by decide +kernel
theorem dX11_refusalOfSome_49 : decode cX11_refusalOfSome 49 = .ok (.ireturn, 1) := by decide +kernel
theorem dX11_refusalOfSome_50 : decode cX11_refusalOfSome 50 = .ok (.iload_n 3, 1) := by decide +kernel
theorem dX11_refusalOfSome_51 : decode cX11_refusalOfSome 51 = .ok (.iload 5, 2) := by decide +kernel
theorem dX11_refusalOfSome_53 : decode cX11_refusalOfSome 53 = .ok (.bipush (-7), 2) := by decide +kernel
theorem dX11_refusalOfSome_55 : decode cX11_refusalOfSome 55 = .ok (.if_icmp .ne 7, 3) := by decide +kernel
theorem dX11_refusalOfSome_58 : decode cX11_refusalOfSome 58 = .ok (.iconst 1, 1) := by decide +kernel
theorem dX11_refusalOfSome_59 : decode cX11_refusalOfSome 59 = .ok (.goto 4, 3) := by decide +kernel
theorem dX11_refusalOfSome_62 : decode cX11_refusalOfSome 62 = .ok (.iconst 0, 1) := by decide +kernel
theorem dX11_refusalOfSome_63 : decode cX11_refusalOfSome 63 = .ok (.ior, 1) := by decide +kernel
theorem dX11_refusalOfSome_64 : decode cX11_refusalOfSome 64 = .ok (.istore_n 3, 1) := by decide +kernel
theorem dX11_refusalOfSome_65 : decode cX11_refusalOfSome 65 = .ok (.iinc 4 1, 3) := by decide +kernel
theorem dX11_refusalOfSome_68 : decode cX11_refusalOfSome 68 = .ok (.goto (-63), 3) := by decide +kernel
