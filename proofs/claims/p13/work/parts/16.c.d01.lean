theorem dX6_readGroup_159 : decode cX6_readGroup 159 = .ok (.putfield 85, 3) := by decide +kernel
theorem dX6_readGroup_162 : decode cX6_readGroup 162 = .ok (.aload_n 0, 1) := by decide +kernel
theorem dX6_readGroup_163 : decode cX6_readGroup 163 = .ok (.invokevirtual 91, 3) := by decide +kernel
theorem dX6_readGroup_166 : decode cX6_readGroup 166 = .ok (.iload_n 2, 1) := by decide +kernel
theorem dX6_readGroup_167 : decode cX6_readGroup 167 = .ok (.iload_n 3, 1) := by decide +kernel
theorem dX6_readGroup_168 : decode cX6_readGroup 168 = .ok (.ifCond .eq 13, 3) := by decide +kernel
theorem dX6_readGroup_171 : decode cX6_readGroup 171 = .ok (.aload_n 0, 1) := by decide +kernel
theorem dX6_readGroup_172 : decode cX6_readGroup 172 = .ok (.getfield 50, 3) := by decide +kernel
theorem dX6_readGroup_175 : decode cX6_readGroup 175 = .ok (.getfield 211, 3) := by decide +kernel
theorem dX6_readGroup_178 : decode cX6_readGroup 178 = .ok (.goto 7, 3) := by decide +kernel
theorem dX6_readGroup_181 : decode cX6_readGroup 181 = .ok (.iload_n 1, 1) := by decide +kernel
theorem dX6_readGroup_182 : decode cX6_readGroup 182 = .ok (.invokestatic 217, 3) := by decide +kernel
theorem dX6_readGroup_185 : decode cX6_readGroup 185 = .ok (.iload 4, 2) := by decide +kernel
theorem dX6_readGroup_187 : decode cX6_readGroup 187 = .ok (.invokevirtual 126, 3) := by decide +kernel
theorem dX6_readGroup_190 : decode cX6_readGroup 190 = .ok (.return_, 1) := by decide +kernel
theorem dX6_readLeaf_0 : decode cX6_readLeaf 0 = .ok (.aload_n 0, 1) := by decide +kernel
theorem dX6_readLeaf_1 : decode cX6_readLeaf 1 = .ok (.invokevirtual 149, 3) := by decide +kernel
theorem dX6_readLeaf_4 : decode cX6_readLeaf 4 = .ok (.ifCond .eq 9, 3) := by decide +kernel
theorem dX6_readLeaf_7 : decode cX6_readLeaf 7 = .ok (.aload_n 0, 1) := by decide +kernel
theorem dX6_readLeaf_8 : decode cX6_readLeaf 8 = .ok (.iload_n 1, 1) := by decide +kernel
theorem dX6_readLeaf_9 : decode cX6_readLeaf 9 = .ok (.iload_n 2, 1) := by decide +kernel
theorem dX6_readLeaf_10 : decode cX6_readLeaf 10 = .ok (.invokevirtual 153, 3) := by decide +kernel
theorem dX6_readLeaf_13 : decode cX6_readLeaf 13 = .ok (.return_, 1) := by decide +kernel
theorem dX6_readLoop_0 : decode cX6_readLoop 0 = .ok (.aload_n 0, 1) := by decide +kernel
theorem dX6_readLoop_1 : decode cX6_readLoop 1 = .ok (.invokevirtual 91, 3) := by decide +kernel
theorem dX6_readLoop_4 : decode cX6_readLoop 4 = .ok (.astore_n 2, 1) := by decide +kernel
theorem dX6_readLoop_5 : decode cX6_readLoop 5 = .ok (.aload_n 2, 1) := by decide +kernel
theorem dX6_readLoop_6 : decode cX6_readLoop 6 = .ok (.getfield 169, 3) := by decide +kernel
theorem dX6_readLoop_9 : decode cX6_readLoop 9 = .ok (.ifCond .ne 12, 3) := by decide +kernel
theorem dX6_readLoop_12 : decode cX6_readLoop 12 = .ok (.aload_n 0, 1) := by decide +kernel
theorem dX6_readLoop_13 : decode cX6_readLoop 13 = .ok (.iconst 1, 1) := by decide +kernel
theorem dX6_readLoop_14 : decode cX6_readLoop 14 = .ok (.aload_n 0, 1) := by decide +kernel
theorem dX6_readLoop_15 : decode cX6_readLoop 15 = .ok (.getfield 68, 3) := by decide +kernel
theorem dX6_readLoop_18 : decode cX6_readLoop 18 = .ok (.invokevirtual 88, 3) := by decide +kernel
theorem dX6_readLoop_21 : decode cX6_readLoop 21 = .ok (.aload_n 0, 1) := by decide +kernel
theorem dX6_readLoop_22 : decode cX6_readLoop 22 = .ok (.invokevirtual 149, 3) := by decide +kernel
theorem dX6_readLoop_25 : decode cX6_readLoop 25 = .ok (.ifCond .ne 4, 3) := by decide +kernel
theorem dX6_readLoop_28 : decode cX6_readLoop 28 = .ok (.return_, 1) := by decide +kernel
theorem dX6_readLoop_29 : decode cX6_readLoop 29 = .ok (.aload_n 0, 1) := by decide +kernel
theorem dX6_readLoop_30 : decode cX6_readLoop 30 = .ok (.dup, 1) := by decide +kernel
theorem dX6_readLoop_31 : decode cX6_readLoop 31 = .ok (.getfield 68, 3) := by decide +kernel
theorem dX6_readLoop_34 : decode cX6_readLoop 34 = .ok (.iconst 1, 1) := by decide +kernel
theorem dX6_readLoop_35 : decode cX6_readLoop 35 = .ok (.iadd, 1) := by decide +kernel
theorem dX6_readLoop_36 : decode cX6_readLoop 36 = .ok (.putfield 68, 3) := by decide +kernel
theorem dX6_readLoop_39 : decode cX6_readLoop 39 = .ok (.iload_n 1, 1) := by decide +kernel
theorem dX6_readLoop_40 : decode cX6_readLoop 40 = .ok (.bipush 43, 2) := by decide +kernel
theorem dX6_readLoop_42 : decode cX6_readLoop 42 = .ok (.if_icmp .ne 7, 3) := by decide +kernel
theorem dX6_readLoop_45 : decode cX6_readLoop 45 = .ok (.iconst 1, 1) := by decide +kernel
theorem dX6_readLoop_46 : decode cX6_readLoop 46 = .ok (.goto 4, 3) := by decide +kernel
theorem dX6_readLoop_49 : decode cX6_readLoop 49 = .ok (.iconst 0, 1) := by decide +kernel
theorem dX6_readLoop_50 : decode cX6_readLoop 50 = .ok (.istore_n 3, 1) := by decide +kernel
theorem dX6_readLoop_51 : decode cX6_readLoop 51 = .ok (.iload_n 1, 1) := by decide +kernel
theorem dX6_readLoop_52 : decode cX6_readLoop 52 = .ok (.bipush 63, 2) := by decide +kernel
theorem dX6_readLoop_54 : decode cX6_readLoop 54 = .ok (.if_icmp .ne 7, 3) := by decide +kernel
theorem dX6_readLoop_57 : decode cX6_readLoop 57 = .ok (.iconst 1, 1) := by decide +kernel
theorem dX6_readLoop_58 : decode cX6_readLoop 58 = .ok (.goto 4, 3) := by decide +kernel
theorem dX6_readLoop_61 : decode cX6_readLoop 61 = .ok (.iconst (-1), 1) := by decide +kernel
theorem dX6_readLoop_62 : decode cX6_readLoop 62 = .ok (.istore 4, 2) := by decide +kernel
theorem dX6_readLoop_64 : decode cX6_readLoop 64 = .ok (.iload_n 1, 1) := by decide +kernel
theorem dX6_readLoop_65 : decode cX6_readLoop 65 = .ok (.bipush 123, 2) := by decide +kernel
theorem dX6_readLoop_67 : decode cX6_readLoop 67 = .ok (.if_icmp .ne 16, 3) := by decide +kernel
theorem dX6_readLoop_70 : decode cX6_readLoop 70 = .ok (.aload_n 0, 1) := by decide +kernel
theorem dX6_readLoop_71 : decode cX6_readLoop 71 = .ok (.iconst 0, 1) := by decide +kernel
theorem dX6_readLoop_72 : decode cX6_readLoop 72 = .ok (.invokevirtual 224, 3) := by decide +kernel
theorem dX6_readLoop_75 : decode cX6_readLoop 75 = .ok (.istore_n 3, 1) := by decide +kernel
theorem dX6_readLoop_76 : decode cX6_readLoop 76 = .ok (.aload_n 0, 1) := by decide +kernel
theorem dX6_readLoop_77 : decode cX6_readLoop 77 = .ok (.iload_n 3, 1) := by decide +kernel
theorem dX6_readLoop_78 : decode cX6_readLoop 78 = .ok (.invokevirtual 227, 3) := by decide +kernel
theorem dX6_readLoop_81 : decode cX6_readLoop 81 = .ok (.istore 4, 2) := by decide +kernel
theorem dX6_readLoop_83 : decode cX6_readLoop 83 = .ok (.aload_n 0, 1) := by decide +kernel
theorem dX6_readLoop_84 : decode cX6_readLoop 84 = .ok (.getfield 75, 3) := by decide +kernel
theorem dX6_readLoop_87 : decode cX6_readLoop 87 = .ok (.ifCond .eq 4, 3) := by decide +kernel
theorem dX6_readLoop_90 : decode cX6_readLoop 90 = .ok (.return_, 1) := by decide +kernel
theorem dX6_readLoop_91 : decode cX6_readLoop 91 = .ok (.aload_n 0, 1) := by decide +kernel
theorem dX6_readLoop_92 : decode cX6_readLoop 92 = .ok (.invokevirtual 78, 3) := by decide +kernel
theorem dX6_readLoop_95 : decode cX6_readLoop 95 = .ok (.bipush 63, 2) := by decide +kernel
theorem dX6_readLoop_97 : decode cX6_readLoop 97 = .ok (.if_icmp .ne 7, 3) := by decide +kernel
theorem dX6_readLoop_100 : decode cX6_readLoop 100 = .ok (.iconst 1, 1) := by decide +kernel
theorem dX6_readLoop_101 : decode cX6_readLoop 101 = .ok (.goto 17, 3) := by decide +kernel
theorem dX6_readLoop_104 : decode cX6_readLoop 104 = .ok (.aload_n 0, 1) := by decide +kernel
theorem dX6_readLoop_105 : decode cX6_readLoop 105 = .ok (.invokevirtual 78, 3) := by decide +kernel
theorem dX6_readLoop_108 : decode cX6_readLoop 108 = .ok (.bipush 43, 2) := by decide +kernel
theorem dX6_readLoop_110 : decode cX6_readLoop 110 = .ok (.if_icmp .ne 7, 3) := by decide +kernel
theorem dX6_readLoop_113 : decode cX6_readLoop 113 = .ok (.iconst 2, 1) := by decide +kernel
theorem dX6_readLoop_114 : decode cX6_readLoop 114 = .ok (.goto 4, 3) := by decide +kernel
theorem dX6_readLoop_117 : decode cX6_readLoop 117 = .ok (.iconst 0, 1) := by decide +kernel
theorem dX6_readLoop_118 : decode cX6_readLoop 118 = .ok (.istore 5, 2) := by decide +kernel
theorem dX6_readLoop_120 : decode cX6_readLoop 120 = .ok (.aload_n 0, 1) := by decide +kernel
theorem dX6_readLoop_121 : decode cX6_readLoop 121 = .ok (.dup, 1) := by decide +kernel
theorem dX6_readLoop_122 : decode cX6_readLoop 122 = .ok (.getfield 68, 3) := by decide +kernel
theorem dX6_readLoop_125 : decode cX6_readLoop 125 = .ok (.iload 5, 2) := by decide +kernel
theorem dX6_readLoop_127 : decode cX6_readLoop 127 = .ok (.ifCond .eq 7, 3) := by decide +kernel
theorem dX6_readLoop_130 : decode cX6_readLoop 130 = .ok (.iconst 1, 1) := by decide +kernel
theorem dX6_readLoop_131 : decode cX6_readLoop 131 = .ok (.goto 4, 3) := by decide +kernel
theorem dX6_readLoop_134 : decode cX6_readLoop 134 = .ok (.iconst 0, 1) := by decide +kernel
theorem dX6_readLoop_135 : decode cX6_readLoop 135 = .ok (.iadd, 1) := by decide +kernel
theorem dX6_readLoop_136 : decode cX6_readLoop 136 = .ok (.putfield 68, 3) := by decide +kernel
theorem dX6_readLoop_139 : decode cX6_readLoop 139 = .ok (.aload_n 2, 1) := by decide +kernel
theorem dX6_readLoop_140 : decode cX6_readLoop 140 = .ok (.aload_n 0, 1) := by decide +kernel
theorem dX6_readLoop_141 : decode cX6_readLoop 141 = .ok (.bipush 7, 2) := by decide +kernel
theorem dX6_readLoop_143 : decode cX6_readLoop 143 = .ok (.iload 5, 2) := by decide +kernel
theorem dX6_readLoop_145 : decode cX6_readLoop 145 = .ok (.iload_n 3, 1) := by decide +kernel
theorem dX6_readLoop_146 : decode cX6_readLoop 146 = .ok (.iload 4, 2) := by decide +kernel
theorem dX6_readLoop_148 : decode cX6_readLoop 148 = .ok (.aload_n 2, 1) := by decide +kernel
theorem dX6_readLoop_149 : decode cX6_readLoop 149 = .ok (.getfield 166, 3) := by decide +kernel
theorem dX6_readLoop_152 : decode cX6_readLoop 152 = .ok (.invokevirtual 182, 3) := by decide +kernel
theorem dX6_readLoop_155 : decode cX6_readLoop 155 = .ok (.putfield 166, 3) := by decide +kernel
theorem dX6_readLoop_158 : decode cX6_readLoop 158 = .ok (.aload_n 2, 1) := by decide +kernel
theorem dX6_readLoop_159 : decode cX6_readLoop 159 = .ok (.iconst 0, 1) := by decide +kernel
theorem dX6_readLoop_160 : decode cX6_readLoop 160 = .ok (.putfield 169, 3) := by decide +kernel
theorem dX6_readLoop_163 : decode cX6_readLoop 163 = .ok (.return_, 1) := by decide +kernel
theorem dX6_readNext_0 : decode cX6_readNext 0 = .ok (.iload_n 1, 1) := by decide +kernel
theorem dX6_readNext_1 : decode cX6_readNext 1 = .ok (.lookupswitch 219 #[(36, 198), (40, 144), (41, 151), (42, 172), (43, 172), (46, 180), (63, 172), (91, 158), (92, 165), (93, 207), (94, 189), (123, 172), (124, 123), (125, 207)], 123) := by decide +kernel
theorem dX6_readNext_124 : decode cX6_readNext 124 = .ok (.aload_n 0, 1) := by decide +kernel
theorem dX6_readNext_125 : decode cX6_readNext 125 = .ok (.aload_n 0, 1) := by decide +kernel
theorem dX6_readNext_126 : decode cX6_readNext 126 = .ok (.invokevirtual 91, 3) := by decide +kernel
theorem dX6_readNext_129 : decode cX6_readNext 129 = .ok (.invokevirtual 95, 3) := by decide +kernel
theorem dX6_readNext_132 : decode cX6_readNext 132 = .ok (.aload_n 0, 1) := by decide +kernel
theorem dX6_readNext_133 : decode cX6_readNext 133 = .ok (.dup, 1) := by decide +kernel
theorem dX6_readNext_134 : decode cX6_readNext 134 = .ok (.getfield 68, 3) := by decide +kernel
theorem dX6_readNext_137 : decode cX6_readNext 137 = .ok (.iconst 1, 1) := by decide +kernel
theorem dX6_readNext_138 : decode cX6_readNext 138 = .ok (.iadd, 1) := by decide +kernel
theorem dX6_readNext_139 : decode cX6_readNext 139 = .ok (.putfield 68, 3) := by decide +kernel
theorem dX6_readNext_142 : decode cX6_readNext 142 = .ok (.goto 84, 3) := by decide +kernel
theorem dX6_readNext_145 : decode cX6_readNext 145 = .ok (.aload_n 0, 1) := by decide +kernel
theorem dX6_readNext_146 : decode cX6_readNext 146 = .ok (.invokevirtual 131, 3) := by decide +kernel
theorem dX6_readNext_149 : decode cX6_readNext 149 = .ok (.goto 77, 3) := by decide +kernel
theorem dX6_readNext_152 : decode cX6_readNext 152 = .ok (.aload_n 0, 1) := by decide +kernel
theorem dX6_readNext_153 : decode cX6_readNext 153 = .ok (.invokevirtual 134, 3) := by decide +kernel
theorem dX6_readNext_156 : decode cX6_readNext 156 = .ok (.goto 70, 3) := by decide +kernel
theorem dX6_readNext_159 : decode cX6_readNext 159 = .ok (.aload_n 0, 1) := by decide +kernel
theorem dX6_readNext_160 : decode cX6_readNext 160 = .ok (.invokevirtual 137, 3) := by decide +kernel
theorem dX6_readNext_163 : decode cX6_readNext 163 = .ok (.goto 63, 3) := by decide +kernel
theorem dX6_readNext_166 : decode cX6_readNext 166 = .ok (.aload_n 0, 1) := by decide +kernel
theorem dX6_readNext_167 : decode cX6_readNext 167 = .ok (.invokevirtual 140, 3) := by decide +kernel
theorem dX6_readNext_170 : decode cX6_readNext 170 = .ok (.goto 56, 3) := by decide +kernel
theorem dX6_readNext_173 : decode cX6_readNext 173 = .ok (.aload_n 0, 1) := by decide +kernel
theorem dX6_readNext_174 : decode cX6_readNext 174 = .ok (.iload_n 1, 1) := by decide +kernel
theorem dX6_readNext_175 : decode cX6_readNext 175 = .ok (.invokevirtual 143, 3) := by decide +kernel
theorem dX6_readNext_178 : decode cX6_readNext 178 = .ok (.goto 48, 3) := by decide +kernel
theorem dX6_readNext_181 : decode cX6_readNext 181 = .ok (.aload_n 0, 1) := by decide +kernel
theorem dX6_readNext_182 : decode cX6_readNext 182 = .ok (.iconst 1, 1) := by decide +kernel
theorem dX6_readNext_183 : decode cX6_readNext 183 = .ok (.iconst 0, 1) := by decide +kernel
theorem dX6_readNext_184 : decode cX6_readNext 184 = .ok (.invokevirtual 146, 3) := by decide +kernel
theorem dX6_readNext_187 : decode cX6_readNext 187 = .ok (.goto 39, 3) := by decide +kernel
theorem dX6_readNext_190 : decode cX6_readNext 190 = .ok (.aload_n 0, 1) := by decide +kernel
theorem dX6_readNext_191 : decode cX6_readNext 191 = .ok (.iconst 3, 1) := by decide +kernel
theorem dX6_readNext_192 : decode cX6_readNext 192 = .ok (.iconst 0, 1) := by decide +kernel
theorem dX6_readNext_193 : decode cX6_readNext 193 = .ok (.invokevirtual 146, 3) := by decide +kernel
theorem dX6_readNext_196 : decode cX6_readNext 196 = .ok (.goto 30, 3) := by decide +kernel
theorem dX6_readNext_199 : decode cX6_readNext 199 = .ok (.aload_n 0, 1) := by decide +kernel
theorem dX6_readNext_200 : decode cX6_readNext 200 = .ok (.iconst 3, 1) := by decide +kernel
theorem dX6_readNext_201 : decode cX6_readNext 201 = .ok (.iconst 1, 1) := by decide +kernel
theorem dX6_readNext_202 : decode cX6_readNext 202 = .ok (.invokevirtual 146, 3) := by decide +kernel
theorem dX6_readNext_205 : decode cX6_readNext 205 = .ok (.goto 21, 3) := by decide +kernel
theorem dX6_readNext_208 : decode cX6_readNext 208 = .ok (.aload_n 0, 1) := by decide +kernel
theorem dX6_readNext_209 : decode cX6_readNext 209 = .ok (.iconst 1, 1) := by decide +kernel
theorem dX6_readNext_210 : decode cX6_readNext 210 = .ok (.aload_n 0, 1) := by decide +kernel
theorem dX6_readNext_211 : decode cX6_readNext 211 = .ok (.getfield 68, 3) := by decide +kernel
theorem dX6_readNext_214 : decode cX6_readNext 214 = .ok (.invokevirtual 88, 3) := by decide +kernel
theorem dX6_readNext_217 : decode cX6_readNext 217 = .ok (.goto 9, 3) := by decide +kernel
theorem dX6_readNext_220 : decode cX6_readNext 220 = .ok (.aload_n 0, 1) := by decide +kernel
theorem dX6_readNext_221 : decode cX6_readNext 221 = .ok (.iconst 0, 1) := by decide +kernel
theorem dX6_readNext_222 : decode cX6_readNext 222 = .ok (.iload_n 1, 1) := by decide +kernel
theorem dX6_readNext_223 : decode cX6_readNext 223 = .ok (.invokevirtual 146, 3) := by decide +kernel
theorem dX6_readNext_226 : decode cX6_readNext 226 = .ok (.return_, 1) := by decide +kernel
theorem dX6_readOtherEscape_0 : decode cX6_readOtherEscape 0 = .ok (.iload_n 1, 1) := by decide +kernel
theorem dX6_readOtherEscape_1 : decode cX6_readOtherEscape 1 = .ok (.invokestatic 230, 3) := by decide +kernel
theorem dX6_readOtherEscape_4 : decode cX6_readOtherEscape 4 = .ok (.ifCond .eq 47, 3) := by decide +kernel
theorem dX6_readOtherEscape_7 : decode cX6_readOtherEscape 7 = .ok (.iload_n 1, 1) := by decide +kernel
theorem dX6_readOtherEscape_8 : decode cX6_readOtherEscape 8 = .ok (.bipush 48, 2) := by decide +kernel
theorem dX6_readOtherEscape_10 : decode cX6_readOtherEscape 10 = .ok (.if_icmp .eq 41, 3) := by decide +kernel
theorem dX6_readOtherEscape_13 : decode cX6_readOtherEscape 13 = .ok (.iload_n 1, 1) := by decide +kernel
theorem dX6_readOtherEscape_14 : decode cX6_readOtherEscape 14 = .ok (.bipush 48, 2) := by decide +kernel
theorem dX6_readOtherEscape_16 : decode cX6_readOtherEscape 16 = .ok (.isub, 1) := by decide +kernel
theorem dX6_readOtherEscape_17 : decode cX6_readOtherEscape 17 = .ok (.aload_n 0, 1) := by decide +kernel
theorem dX6_readOtherEscape_18 : decode cX6_readOtherEscape 18 = .ok (.getfield 50, 3) := by decide +kernel
theorem dX6_readOtherEscape_21 : decode cX6_readOtherEscape 21 = .ok (.getfield 211, 3) := by decide +kernel
theorem dX6_readOtherEscape_24 : decode cX6_readOtherEscape 24 = .ok (.if_icmp .le 15, 3) := by decide +kernel
theorem dX6_readOtherEscape_27 : decode cX6_readOtherEscape 27 = .ok (.aload_n 0, 1) := by decide +kernel
theorem dX6_readOtherEscape_28 : decode cX6_readOtherEscape 28 = .ok (.iconst 3, 1) := by decide +kernel
theorem dX6_readOtherEscape_29 : decode cX6_readOtherEscape 29 = .ok (.aload_n 0, 1) := by decide +kernel
theorem dX6_readOtherEscape_30 : decode cX6_readOtherEscape 30 = .ok (.getfield 68, 3) := by decide +kernel
theorem dX6_readOtherEscape_33 : decode cX6_readOtherEscape 33 = .ok (.invokevirtual 88, 3) := by decide +kernel
theorem dX6_readOtherEscape_36 : decode cX6_readOtherEscape 36 = .ok (.goto 54, 3) := by decide +kernel
theorem dX6_readOtherEscape_39 : decode cX6_readOtherEscape 39 = .ok (.aload_n 0, 1) := by decide +kernel
theorem dX6_readOtherEscape_40 : decode cX6_readOtherEscape 40 = .ok (.iconst 4, 1) := by decide +kernel
theorem dX6_readOtherEscape_41 : decode cX6_readOtherEscape 41 = .ok (.iload_n 1, 1) := by decide +kernel
theorem dX6_readOtherEscape_42 : decode cX6_readOtherEscape 42 = .ok (.bipush 48, 2) := by decide +kernel
theorem dX6_readOtherEscape_44 : decode cX6_readOtherEscape 44 = .ok (.isub, 1) := by decide +kernel
theorem dX6_readOtherEscape_45 : decode cX6_readOtherEscape 45 = .ok (.invokevirtual 153, 3) := by decide +kernel
theorem dX6_readOtherEscape_48 : decode cX6_readOtherEscape 48 = .ok (.goto 42, 3) := by decide +kernel
theorem dX6_readOtherEscape_51 : decode cX6_readOtherEscape 51 = .ok (.iload_n 1, 1) := by decide +kernel
theorem dX6_readOtherEscape_52 : decode cX6_readOtherEscape 52 = .ok (.invokestatic 261, 3) := by decide +kernel
theorem dX6_readOtherEscape_55 : decode cX6_readOtherEscape 55 = .ok (.ifCond .eq 26, 3) := by decide +kernel
theorem dX6_readOtherEscape_58 : decode cX6_readOtherEscape 58 = .ok (.iload_n 1, 1) := by decide +kernel
theorem dX6_readOtherEscape_59 : decode cX6_readOtherEscape 59 = .ok (.invokestatic 264, 3) := by decide +kernel
theorem dX6_readOtherEscape_62 : decode cX6_readOtherEscape 62 = .ok (.ifCond .ne 19, 3) := by decide +kernel
theorem dX6_readOtherEscape_65 : decode cX6_readOtherEscape 65 = .ok (.iload_n 1, 1) := by decide +kernel
theorem dX6_readOtherEscape_66 : decode cX6_readOtherEscape 66 = .ok (.invokestatic 230, 3) := by decide +kernel
theorem dX6_readOtherEscape_69 : decode cX6_readOtherEscape 69 = .ok (.ifCond .ne 12, 3) := by decide +kernel
theorem dX6_readOtherEscape_72 : decode cX6_readOtherEscape 72 = .ok (.aload_n 0, 1) := by decide +kernel
theorem dX6_readOtherEscape_73 : decode cX6_readOtherEscape 73 = .ok (.iconst 0, 1) := by decide +kernel
theorem dX6_readOtherEscape_74 : decode cX6_readOtherEscape 74 = .ok (.iload_n 1, 1) := by decide +kernel
theorem dX6_readOtherEscape_75 : decode cX6_readOtherEscape 75 = .ok (.invokevirtual 153, 3) := by decide +kernel
theorem dX6_readOtherEscape_78 : decode cX6_readOtherEscape 78 = .ok (.goto 12, 3) := by decide +kernel
theorem dX6_readOtherEscape_81 : decode cX6_readOtherEscape 81 = .ok (.aload_n 0, 1) := by decide +kernel
theorem dX6_readOtherEscape_82 : decode cX6_readOtherEscape 82 = .ok (.iconst 1, 1) := by decide +kernel
theorem dX6_readOtherEscape_83 : decode cX6_readOtherEscape 83 = .ok (.aload_n 0, 1) := by decide +kernel
theorem dX6_readOtherEscape_84 : decode cX6_readOtherEscape 84 = .ok (.getfield 68, 3) := by decide +kernel
theorem dX6_readOtherEscape_87 : decode cX6_readOtherEscape 87 = .ok (.invokevirtual 88, 3) := by decide +kernel
theorem dX6_readOtherEscape_90 : decode cX6_readOtherEscape 90 = .ok (.return_, 1) := by decide +kernel
theorem dX6_readSet_0 : decode cX6_readSet 0 = .ok (.aload_n 0, 1) := by decide +kernel
theorem dX6_readSet_1 : decode cX6_readSet 1 = .ok (.invokevirtual 149, 3) := by decide +kernel
theorem dX6_readSet_4 : decode cX6_readSet 4 = .ok (.ifCond .ne 4, 3) := by decide +kernel
theorem dX6_readSet_7 : decode cX6_readSet 7 = .ok (.return_, 1) := by decide +kernel
theorem dX6_readSet_8 : decode cX6_readSet 8 = .ok (.aload_n 0, 1) := by decide +kernel
theorem dX6_readSet_9 : decode cX6_readSet 9 = .ok (.dup, 1) := by decide +kernel
theorem dX6_readSet_10 : decode cX6_readSet 10 = .ok (.getfield 68, 3) := by decide +kernel
theorem dX6_readSet_13 : decode cX6_readSet 13 = .ok (.iconst 1, 1) := by decide +kernel
theorem dX6_readSet_14 : decode cX6_readSet 14 = .ok (.iadd, 1) := by decide +kernel
theorem dX6_readSet_15 : decode cX6_readSet 15 = .ok (.putfield 68, 3) := by decide +kernel
theorem dX6_readSet_18 : decode cX6_readSet 18 = .ok (.aload_n 0, 1) := by decide +kernel
theorem dX6_readSet_19 : decode cX6_readSet 19 = .ok (.invokevirtual 78, 3) := by decide +kernel
theorem dX6_readSet_22 : decode cX6_readSet 22 = .ok (.bipush 94, 2) := by decide +kernel
theorem dX6_readSet_24 : decode cX6_readSet 24 = .ok (.if_icmp .ne 7, 3) := by decide +kernel
theorem dX6_readSet_27 : decode cX6_readSet 27 = .ok (.iconst 1, 1) := by decide +kernel
theorem dX6_readSet_28 : decode cX6_readSet 28 = .ok (.goto 4, 3) := by decide +kernel
theorem dX6_readSet_31 : decode cX6_readSet 31 = .ok (.iconst 0, 1) := by decide +kernel
theorem dX6_readSet_32 : decode cX6_readSet 32 = .ok (.istore_n 1, 1) := by decide +kernel
theorem dX6_readSet_33 : decode cX6_readSet 33 = .ok (.aload_n 0, 1) := by decide +kernel
theorem dX6_readSet_34 : decode cX6_readSet 34 = .ok (.dup, 1) := by decide +kernel
theorem dX6_readSet_35 : decode cX6_readSet 35 = .ok (.getfield 68, 3) := by decide +kernel
theorem dX6_readSet_38 : decode cX6_readSet 38 = .ok (.iload_n 1, 1) := by decide +kernel
theorem dX6_readSet_39 : decode cX6_readSet 39 = .ok (.ifCond .eq 7, 3) := by decide +kernel
theorem dX6_readSet_42 : decode cX6_readSet 42 = .ok (.iconst 1, 1) := by decide +kernel
theorem dX6_readSet_43 : decode cX6_readSet 43 = .ok (.goto 4, 3) := by decide +kernel
theorem dX6_readSet_46 : decode cX6_readSet 46 = .ok (.iconst 0, 1) := by decide +kernel
theorem dX6_readSet_47 : decode cX6_readSet 47 = .ok (.iadd, 1) := by decide +kernel
theorem dX6_readSet_48 : decode cX6_readSet 48 = .ok (.putfield 68, 3) := by decide +kernel
theorem dX6_readSet_51 : decode cX6_readSet 51 = .ok (.aload_n 0, 1) := by decide +kernel
theorem dX6_readSet_52 : decode cX6_readSet 52 = .ok (.iconst 0, 1) := by decide +kernel
theorem dX6_readSet_53 : decode cX6_readSet 53 = .ok (.putfield 248, 3) := by decide +kernel
theorem dX6_readSet_56 : decode cX6_readSet 56 = .ok (.aload_n 0, 1) := by decide +kernel
theorem dX6_readSet_57 : decode cX6_readSet 57 = .ok (.invokevirtual 267, 3) := by decide +kernel
theorem dX6_readSet_60 : decode cX6_readSet 60 = .ok (.iconst 0, 1) := by decide +kernel
theorem dX6_readSet_61 : decode cX6_readSet 61 = .ok (.istore_n 2, 1) := by decide +kernel
theorem dX6_readSet_62 : decode cX6_readSet 62 = .ok (.iload_n 2, 1) := by decide +kernel
theorem dX6_readSet_63 : decode cX6_readSet 63 = .ok (.sipush 200, 3) := by decide +kernel
theorem dX6_readSet_66 : decode cX6_readSet 66 = .ok (.if_icmp .ge 29, 3) := by decide +kernel
theorem dX6_readSet_69 : decode cX6_readSet 69 = .ok (.aload_n 0, 1) := by decide +kernel
theorem dX6_readSet_70 : decode cX6_readSet 70 = .ok (.getfield 75, 3) := by decide +kernel
theorem dX6_readSet_73 : decode cX6_readSet 73 = .ok (.ifCond .ne 22, 3) := by decide +kernel
theorem dX6_readSet_76 : decode cX6_readSet 76 = .ok (.aload_n 0, 1) := by decide +kernel
theorem dX6_readSet_77 : decode cX6_readSet 77 = .ok (.invokevirtual 78, 3) := by decide +kernel
theorem dX6_readSet_80 : decode cX6_readSet 80 = .ok (.bipush 93, 2) := by decide +kernel
theorem dX6_readSet_82 : decode cX6_readSet 82 = .ok (.if_icmp .eq 13, 3) := by decide +kernel
theorem dX6_readSet_85 : decode cX6_readSet 85 = .ok (.aload_n 0, 1) := by decide +kernel
theorem dX6_readSet_86 : decode cX6_readSet 86 = .ok (.invokevirtual 267, 3) := by decide +kernel
theorem dX6_readSet_89 : decode cX6_readSet 89 = .ok (.iinc 2 1, 3) := by decide +kernel
theorem dX6_readSet_92 : decode cX6_readSet 92 = .ok (.goto (-30), 3) := by decide +kernel
theorem dX6_readSet_95 : decode cX6_readSet 95 = .ok (.aload_n 0, 1) := by decide +kernel
theorem dX6_readSet_96 : decode cX6_readSet 96 = .ok (.getfield 75, 3) := by decide +kernel
theorem dX6_readSet_99 : decode cX6_readSet 99 = .ok (.ifCond .ne 22, 3) := by decide +kernel
theorem dX6_readSet_102 : decode cX6_readSet 102 = .ok (.aload_n 0, 1) := by decide +kernel
theorem dX6_readSet_103 : decode cX6_readSet 103 = .ok (.aload_n 0, 1) := by decide +kernel
theorem dX6_readSet_104 : decode cX6_readSet 104 = .ok (.iload_n 1, 1) := by decide +kernel
theorem dX6_readSet_105 : decode cX6_readSet 105 = .ok (.invokevirtual 254, 3) := by decide +kernel
theorem dX6_readSet_108 : decode cX6_readSet 108 = .ok (.invokevirtual 160, 3) := by decide +kernel
theorem dX6_readSet_111 : decode cX6_readSet 111 = .ok (.aload_n 0, 1) := by decide +kernel
theorem dX6_readSet_112 : decode cX6_readSet 112 = .ok (.dup, 1) := by decide +kernel
theorem dX6_readSet_113 : decode cX6_readSet 113 = .ok (.getfield 68, 3) := by decide +kernel
theorem dX6_readSet_116 : decode cX6_readSet 116 = .ok (.iconst 1, 1) := by decide +kernel
theorem dX6_readSet_117 : decode cX6_readSet 117 = .ok (.iadd, 1) := by decide +kernel
theorem dX6_readSet_118 : decode cX6_readSet 118 = .ok (.putfield 68, 3) := by decide +kernel
theorem dX6_readSet_121 : decode cX6_readSet 121 = .ok (.return_, 1) := by decide +kernel
theorem dX6_readWordSigns_0 : decode cX6_readWordSigns 0 = .ok (.aload_n 0, 1) := by decide +kernel
theorem dX6_readWordSigns_1 : decode cX6_readWordSigns 1 = .ok (.iconst 0, 1) := by decide +kernel
theorem dX6_readWordSigns_2 : decode cX6_readWordSigns 2 = .ok (.putfield 248, 3) := by decide +kernel
theorem dX6_readWordSigns_5 : decode cX6_readWordSigns 5 = .ok (.aload_n 0, 1) := by decide +kernel
theorem dX6_readWordSigns_6 : decode cX6_readWordSigns 6 = .ok (.bipush 48, 2) := by decide +kernel
theorem dX6_readWordSigns_8 : decode cX6_readWordSigns 8 = .ok (.bipush 57, 2) := by decide +kernel
theorem dX6_readWordSigns_10 : decode cX6_readWordSigns 10 = .ok (.invokevirtual 251, 3) := by decide +kernel
theorem dX6_readWordSigns_13 : decode cX6_readWordSigns 13 = .ok (.aload_n 0, 1) := by decide +kernel
theorem dX6_readWordSigns_14 : decode cX6_readWordSigns 14 = .ok (.bipush 65, 2) := by decide +kernel
theorem dX6_readWordSigns_16 : decode cX6_readWordSigns 16 = .ok (.bipush 90, 2) := by decide +kernel
theorem dX6_readWordSigns_18 : decode cX6_readWordSigns 18 = .ok (.invokevirtual 251, 3) := by decide +kernel
theorem dX6_readWordSigns_21 : decode cX6_readWordSigns 21 = .ok (.aload_n 0, 1) := by decide +kernel
theorem dX6_readWordSigns_22 : decode cX6_readWordSigns 22 = .ok (.bipush 95, 2) := by decide +kernel
theorem dX6_readWordSigns_24 : decode cX6_readWordSigns 24 = .ok (.bipush 95, 2) := by decide +kernel
theorem dX6_readWordSigns_26 : decode cX6_readWordSigns 26 = .ok (.invokevirtual 251, 3) := by decide +kernel
theorem dX6_readWordSigns_29 : decode cX6_readWordSigns 29 = .ok (.aload_n 0, 1) := by decide +kernel
theorem dX6_readWordSigns_30 : decode cX6_readWordSigns 30 = .ok (.bipush 97, 2) := by decide +kernel
theorem dX6_readWordSigns_32 : decode cX6_readWordSigns 32 = .ok (.bipush 122, 2) := by decide +kernel
theorem dX6_readWordSigns_34 : decode cX6_readWordSigns 34 = .ok (.invokevirtual 251, 3) := by decide +kernel
theorem dX6_readWordSigns_37 : decode cX6_readWordSigns 37 = .ok (.aload_n 0, 1) := by decide +kernel
theorem dX6_readWordSigns_38 : decode cX6_readWordSigns 38 = .ok (.aload_n 0, 1) := by decide +kernel
theorem dX6_readWordSigns_39 : decode cX6_readWordSigns 39 = .ok (.iconst 0, 1) := by decide +kernel
theorem dX6_readWordSigns_40 : decode cX6_readWordSigns 40 = .ok (.invokevirtual 254, 3) := by decide +kernel
theorem dX6_readWordSigns_43 : decode cX6_readWordSigns 43 = .ok (.invokevirtual 160, 3) := by decide +kernel
theorem dX6_readWordSigns_46 : decode cX6_readWordSigns 46 = .ok (.aload_n 0, 1) := by decide +kernel
theorem dX6_readWordSigns_47 : decode cX6_readWordSigns 47 = .ok (.dup, 1) := by decide +kernel
theorem dX6_readWordSigns_48 : decode cX6_readWordSigns 48 = .ok (.getfield 68, 3) := by decide +kernel
theorem dX6_readWordSigns_51 : decode cX6_readWordSigns 51 = .ok (.iconst 1, 1) := by decide +kernel
theorem dX6_readWordSigns_52 : decode cX6_readWordSigns 52 = .ok (.iadd, 1) := by decide +kernel
theorem dX6_readWordSigns_53 : decode cX6_readWordSigns 53 = .ok (.putfield 68, 3) := by decide +kernel
theorem dX6_readWordSigns_56 : decode cX6_readWordSigns 56 = .ok (.return_, 1) := by decide +kernel
theorem dX6_skipComment_0 : decode cX6_skipComment 0 = .ok (.aload_n 0, 1) := by decide +kernel
theorem dX6_skipComment_1 : decode cX6_skipComment 1 = .ok (.getfield 68, 3) := by decide +kernel
theorem dX6_skipComment_4 : decode cX6_skipComment 4 = .ok (.iconst 2, 1) := by decide +kernel
theorem dX6_skipComment_5 : decode cX6_skipComment 5 = .ok (.iadd, 1) := by decide +kernel
theorem dX6_skipComment_6 : decode cX6_skipComment 6 = .ok (.istore_n 1, 1) := by decide +kernel
theorem dX6_skipComment_7 : decode cX6_skipComment 7 = .ok (.iload_n 1, 1) := by decide +kernel
theorem dX6_skipComment_8 : decode cX6_skipComment 8 = .ok (.aload_n 0, 1) := by decide +kernel
theorem dX6_skipComment_9 : decode cX6_skipComment 9 = .ok (.getfield 41, 3) := by decide +kernel
theorem dX6_skipComment_12 : decode cX6_skipComment 12 = .ok (.getfield 72, 3) := by decide +kernel
theorem dX6_skipComment_15 : decode cX6_skipComment 15 = .ok (.if_icmp .ge 22, 3) := by decide +kernel
theorem dX6_skipComment_18 : decode cX6_skipComment 18 = .ok (.aload_n 0, 1) := by decide +kernel
theorem dX6_skipComment_19 : decode cX6_skipComment 19 = .ok (.getfield 41, 3) := by decide +kernel
theorem dX6_skipComment_22 : decode cX6_skipComment 22 = .ok (.iload_n 1, 1) := by decide +kernel
theorem dX6_skipComment_23 : decode cX6_skipComment 23 = .ok (.invokevirtual 128, 3) := by decide +kernel
theorem dX6_skipComment_26 : decode cX6_skipComment 26 = .ok (.bipush 41, 2) := by decide +kernel
theorem dX6_skipComment_28 : decode cX6_skipComment 28 = .ok (.if_icmp .eq 9, 3) := by decide +kernel
theorem dX6_skipComment_31 : decode cX6_skipComment 31 = .ok (.iinc 1 1, 3) := by decide +kernel
theorem dX6_skipComment_34 : decode cX6_skipComment 34 = .ok (.goto (-27), 3) := by decide +kernel
theorem dX6_skipComment_37 : decode cX6_skipComment 37 = .ok (.aload_n 0, 1) := by decide +kernel
theorem dX6_skipComment_38 : decode cX6_skipComment 38 = .ok (.iload_n 1, 1) := by decide +kernel
theorem dX6_skipComment_39 : decode cX6_skipComment 39 = .ok (.putfield 68, 3) := by decide +kernel
theorem dX6_skipComment_42 : decode cX6_skipComment 42 = .ok (.iload_n 1, 1) := by decide +kernel
theorem dX6_skipComment_43 : decode cX6_skipComment 43 = .ok (.aload_n 0, 1) := by decide +kernel
theorem dX6_skipComment_44 : decode cX6_skipComment 44 = .ok (.getfield 41, 3) := by decide +kernel
theorem dX6_skipComment_47 : decode cX6_skipComment 47 = .ok (.getfield 72, 3) := by decide +kernel
theorem dX6_skipComment_50 : decode cX6_skipComment 50 = .ok (.if_icmp .lt 13, 3) := by decide +kernel
theorem dX6_skipComment_53 : decode cX6_skipComment 53 = .ok (.aload_n 0, 1) := by decide +kernel
theorem dX6_skipComment_54 : decode cX6_skipComment 54 = .ok (.iconst 1, 1) := by decide +kernel
theorem dX6_skipComment_55 : decode cX6_skipComment 55 = .ok (.aload_n 0, 1) := by decide +kernel
theorem dX6_skipComment_56 : decode cX6_skipComment 56 = .ok (.getfield 68, 3) := by decide +kernel
theorem dX6_skipComment_59 : decode cX6_skipComment 59 = .ok (.invokevirtual 88, 3) := by decide +kernel
theorem dX6_skipComment_62 : decode cX6_skipComment 62 = .ok (.return_, 1) := by decide +kernel
theorem dX6_skipComment_63 : decode cX6_skipComment 63 = .ok (.aload_n 0, 1) := by decide +kernel
theorem dX6_skipComment_64 : decode cX6_skipComment 64 = .ok (.dup, 1) := by decide +kernel
theorem dX6_skipComment_65 : decode cX6_skipComment 65 = .ok (.getfield 68, 3) := by decide +kernel
theorem dX6_skipComment_68 : decode cX6_skipComment 68 = .ok (.iconst 1, 1) := by decide +kernel
theorem dX6_skipComment_69 : decode cX6_skipComment 69 = .ok (.iadd, 1) := by decide +kernel
theorem dX6_skipComment_70 : decode cX6_skipComment 70 = .ok (.putfield 68, 3) := by decide +kernel
theorem dX6_skipComment_73 : decode cX6_skipComment 73 = .ok (.aload_n 0, 1) := by decide +kernel
theorem dX6_skipComment_74 : decode cX6_skipComment 74 = .ok (.invokevirtual 91, 3) := by decide +kernel
theorem dX6_skipComment_77 : decode cX6_skipComment 77 = .ok (.iconst 0, 1) := by decide +kernel
theorem dX6_skipComment_78 : decode cX6_skipComment 78 = .ok (.putfield 169, 3) := by decide +kernel
theorem dX6_skipComment_81 : decode cX6_skipComment 81 = .ok (.return_, 1) := by decide +kernel
