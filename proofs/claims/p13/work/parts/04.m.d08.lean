theorem dX12_joinParts_4 : decode cX12_joinParts 4 = .ok (.iload_n 2, 1) := by decide +kernel
theorem dX12_joinParts_5 : decode cX12_joinParts 5 = .ok (.aload_n 0, 1) := by decide +kernel
theorem dX12_joinParts_6 : decode cX12_joinParts 6 = .ok (.getfield 396, 3) := by decide +kernel
theorem dX12_joinParts_9 : decode cX12_joinParts 9 = .ok (.if_icmp .ge 101, 3) := by decide +kernel
theorem dX12_joinParts_12 : decode cX12_joinParts 12 = .ok (.aload_n 0, 1) := by decide +kernel
theorem dX12_joinParts_13 : decode cX12_joinParts 13 = .ok (.getfield 110, 3) := by decide +kernel
theorem dX12_joinParts_16 : decode cX12_joinParts 16 = .ok (.iload_n 2, 1) := by decide +kernel
theorem dX12_joinParts_17 : decode cX12_joinParts 17 = .ok (.iaload, 1) := by decide +kernel
theorem dX12_joinParts_18 : decode cX12_joinParts 18 = .ok (.istore_n 3, 1) := by decide +kernel
theorem dX12_joinParts_19 : decode cX12_joinParts 19 = .ok (.aload_n 0, 1) := by decide +kernel
theorem dX12_joinParts_20 : decode cX12_joinParts 20 = .ok (.getfield 113, 3) := by decide +kernel
theorem dX12_joinParts_23 : decode cX12_joinParts 23 = .ok (.iload_n 2, 1) := by decide +kernel
theorem dX12_joinParts_24 : decode cX12_joinParts 24 = .ok (.iaload, 1) := by decide +kernel
theorem dX12_joinParts_25 : decode cX12_joinParts 25 = .ok (.istore 4, 2) := by decide +kernel
theorem dX12_joinParts_27 : decode cX12_joinParts 27 = .ok (.iload_n 2, 1) := by decide +kernel
theorem dX12_joinParts_28 : decode cX12_joinParts 28 = .ok (.istore 5, 2) := by decide +kernel
theorem dX12_joinParts_30 : decode cX12_joinParts 30 = .ok (.iload 5, 2) := by decide +kernel
theorem dX12_joinParts_32 : decode cX12_joinParts 32 = .ok (.iload_n 1, 1) := by decide +kernel
theorem dX12_joinParts_33 : decode cX12_joinParts 33 = .ok (.if_icmp .le 54, 3) := by decide +kernel
theorem dX12_joinParts_36 : decode cX12_joinParts 36 = .ok (.aload_n 0, 1) := by decide +kernel
theorem dX12_joinParts_37 : decode cX12_joinParts 37 = .ok (.getfield 110, 3) := by decide +kernel
theorem dX12_joinParts_40 : decode cX12_joinParts 40 = .ok (.iload 5, 2) := by decide +kernel
theorem dX12_joinParts_42 : decode cX12_joinParts 42 = .ok (.iconst 1, 1) := by decide +kernel
theorem dX12_joinParts_43 : decode cX12_joinParts 43 = .ok (.isub, 1) := by decide +kernel
theorem dX12_joinParts_44 : decode cX12_joinParts 44 = .ok (.iaload, 1) := by decide +kernel
theorem dX12_joinParts_45 : decode cX12_joinParts 45 = .ok (.iload_n 3, 1) := by decide +kernel
theorem dX12_joinParts_46 : decode cX12_joinParts 46 = .ok (.if_icmp .le 41, 3) := by decide +kernel
theorem dX12_joinParts_49 : decode cX12_joinParts 49 = .ok (.aload_n 0, 1) := by decide +kernel
theorem dX12_joinParts_50 : decode cX12_joinParts 50 = .ok (.getfield 110, 3) := by decide +kernel
theorem dX12_joinParts_53 : decode cX12_joinParts 53 = .ok (.iload 5, 2) := by decide +kernel
theorem dX12_joinParts_55 : decode cX12_joinParts 55 = .ok (.aload_n 0, 1) := by decide +kernel
theorem dX12_joinParts_56 : decode cX12_joinParts 56 = .ok (.getfield 110, 3) := by decide +kernel
theorem dX12_joinParts_59 : decode cX12_joinParts 59 = .ok (.iload 5, 2) := by decide +kernel
theorem dX12_joinParts_61 : decode cX12_joinParts 61 = .ok (.iconst 1, 1) := by decide +kernel
theorem dX12_joinParts_62 : decode cX12_joinParts 62 = .ok (.isub, 1) := by decide +kernel
theorem dX12_joinParts_63 : decode cX12_joinParts 63 = .ok (.iaload, 1) := by decide +kernel
theorem dX12_joinParts_64 : decode cX12_joinParts 64 = .ok (.iastore, 1) := by decide +kernel
theorem dX12_joinParts_65 : decode cX12_joinParts 65 = .ok (.aload_n 0, 1) := by decide +kernel
theorem dX12_joinParts_66 : decode cX12_joinParts 66 = .ok (.getfield 113, 3) := by decide +kernel
theorem dX12_joinParts_69 : decode cX12_joinParts 69 = .ok (.iload 5, 2) := by decide +kernel
theorem dX12_joinParts_71 : decode cX12_joinParts 71 = .ok (.aload_n 0, 1) := by decide +kernel
theorem dX12_joinParts_72 : decode cX12_joinParts 72 = .ok (.getfield 113, 3) := by decide +kernel
theorem dX12_joinParts_75 : decode cX12_joinParts 75 = .ok (.iload 5, 2) := by decide +kernel
theorem dX12_joinParts_77 : decode cX12_joinParts 77 = .ok (.iconst 1, 1) := by decide +kernel
theorem dX12_joinParts_78 : decode cX12_joinParts 78 = .ok (.isub, 1) := by decide +kernel
theorem dX12_joinParts_79 : decode cX12_joinParts 79 = .ok (.iaload, 1) := by decide +kernel
theorem dX12_joinParts_80 : decode cX12_joinParts 80 = .ok (.iastore, 1) := by decide +kernel
theorem dX12_joinParts_81 : decode cX12_joinParts 81 = .ok (.iinc 5 (-1), 3) := by decide +kernel
theorem dX12_joinParts_84 : decode cX12_joinParts 84 = .ok (.goto (-54), 3) := by decide +kernel
theorem dX12_joinParts_87 : decode cX12_joinParts 87 = .ok (.aload_n 0, 1) := by decide +kernel
theorem dX12_joinParts_88 : decode cX12_joinParts 88 = .ok (.getfield 110, 3) := by decide +kernel
theorem dX12_joinParts_91 : decode cX12_joinParts 91 = .ok (.iload 5, 2) := by decide +kernel
theorem dX12_joinParts_93 : decode cX12_joinParts 93 = .ok (.iload_n 3, 1) := by decide +kernel
theorem dX12_joinParts_94 : decode cX12_joinParts 94 = .ok (.iastore, 1) := by decide +kernel
theorem dX12_joinParts_95 : decode cX12_joinParts 95 = .ok (.aload_n 0, 1) := by decide +kernel
theorem dX12_joinParts_96 : decode cX12_joinParts 96 = .ok (.getfield 113, 3) := by decide +kernel
theorem dX12_joinParts_99 : decode cX12_joinParts 99 = .ok (.iload 5, 2) := by decide +kernel
theorem dX12_joinParts_101 : decode cX12_joinParts 101 = .ok (.iload 4, 2) := by decide +kernel
theorem dX12_joinParts_103 : decode cX12_joinParts 103 = .ok (.iastore, 1) := by decide +kernel
theorem dX12_joinParts_104 : decode cX12_joinParts 104 = .ok (.iinc 2 1, 3) := by decide +kernel
theorem dX12_joinParts_107 : decode cX12_joinParts 107 = .ok (.goto (-103), 3) := by decide +kernel
theorem dX12_joinParts_110 : decode cX12_joinParts 110 = .ok (.iload_n 1, 1) := by decide +kernel
theorem dX12_joinParts_111 : decode cX12_joinParts 111 = .ok (.istore_n 2, 1) := by decide +kernel
theorem dX12_joinParts_112 : decode cX12_joinParts 112 = .ok (.iload_n 1, 1) := by decide +kernel
theorem dX12_joinParts_113 : decode cX12_joinParts 113 = .ok (.istore_n 3, 1) := by decide +kernel
theorem dX12_joinParts_114 : decode cX12_joinParts 114 = .ok (.iload_n 3, 1) := by decide +kernel
theorem dX12_joinParts_115 : decode cX12_joinParts 115 = .ok (.aload_n 0, 1) := by decide +kernel
theorem dX12_joinParts_116 : decode cX12_joinParts 116 = .ok (.getfield 396, 3) := by decide +kernel
theorem dX12_joinParts_119 : decode cX12_joinParts 119 = .ok (.if_icmp .ge 105, 3) := by decide +kernel
theorem dX12_joinParts_122 : decode cX12_joinParts 122 = .ok (.iload_n 2, 1) := by decide +kernel
theorem dX12_joinParts_123 : decode cX12_joinParts 123 = .ok (.iload_n 1, 1) := by decide +kernel
theorem dX12_joinParts_124 : decode cX12_joinParts 124 = .ok (.if_icmp .le 67, 3) := by decide +kernel
theorem dX12_joinParts_127 : decode cX12_joinParts 127 = .ok (.aload_n 0, 1) := by decide +kernel
theorem dX12_joinParts_128 : decode cX12_joinParts 128 = .ok (.getfield 110, 3) := by decide +kernel
theorem dX12_joinParts_131 : decode cX12_joinParts 131 = .ok (.iload_n 3, 1) := by decide +kernel
theorem dX12_joinParts_132 : decode cX12_joinParts 132 = .ok (.iaload, 1) := by decide +kernel
theorem dX12_joinParts_133 : decode cX12_joinParts 133 = .ok (.aload_n 0, 1) := by decide +kernel
theorem dX12_joinParts_134 : decode cX12_joinParts 134 = .ok (.getfield 113, 3) := by decide +kernel
theorem dX12_joinParts_137 : decode cX12_joinParts 137 = .ok (.iload_n 2, 1) := by decide +kernel
theorem dX12_joinParts_138 : decode cX12_joinParts 138 = .ok (.iconst 1, 1) := by decide +kernel
theorem dX12_joinParts_139 : decode cX12_joinParts 139 = .ok (.isub, 1) := by decide +kernel
theorem dX12_joinParts_140 : decode cX12_joinParts 140 = .ok (.iaload, 1) := by decide +kernel
theorem dX12_joinParts_141 : decode cX12_joinParts 141 = .ok (.iconst 1, 1) := by decide +kernel
theorem dX12_joinParts_142 : decode cX12_joinParts 142 = .ok (.iadd, 1) := by decide +kernel
theorem dX12_joinParts_143 : decode cX12_joinParts 143 = .ok (.if_icmp .gt 48, 3) := by decide +kernel
theorem dX12_joinParts_146 : decode cX12_joinParts 146 = .ok (.aload_n 0, 1) := by decide +kernel
theorem dX12_joinParts_147 : decode cX12_joinParts 147 = .ok (.getfield 113, 3) := by decide +kernel
theorem dX12_joinParts_150 : decode cX12_joinParts 150 = .ok (.iload_n 2, 1) := by decide +kernel
theorem dX12_joinParts_151 : decode cX12_joinParts 151 = .ok (.iconst 1, 1) := by decide +kernel
theorem dX12_joinParts_152 : decode cX12_joinParts 152 = .ok (.isub, 1) := by decide +kernel
theorem dX12_joinParts_153 : decode cX12_joinParts 153 = .ok (.aload_n 0, 1) := by decide +kernel
theorem dX12_joinParts_154 : decode cX12_joinParts 154 = .ok (.getfield 113, 3) := by decide +kernel
theorem dX12_joinParts_157 : decode cX12_joinParts 157 = .ok (.iload_n 3, 1) := by decide +kernel
theorem dX12_joinParts_158 : decode cX12_joinParts 158 = .ok (.iaload, 1) := by decide +kernel
theorem dX12_joinParts_159 : decode cX12_joinParts 159 = .ok (.aload_n 0, 1) := by decide +kernel
theorem dX12_joinParts_160 : decode cX12_joinParts 160 = .ok (.getfield 113, 3) := by decide +kernel
theorem dX12_joinParts_163 : decode cX12_joinParts 163 = .ok (.iload_n 2, 1) := by decide +kernel
theorem dX12_joinParts_164 : decode cX12_joinParts 164 = .ok (.iconst 1, 1) := by decide +kernel
theorem dX12_joinParts_165 : decode cX12_joinParts 165 = .ok (.isub, 1) := by decide +kernel
theorem dX12_joinParts_166 : decode cX12_joinParts 166 = .ok (.iaload, 1) := by decide +kernel
theorem dX12_joinParts_167 : decode cX12_joinParts 167 = .ok (.if_icmp .le 12, 3) := by decide +kernel
theorem dX12_joinParts_170 : decode cX12_joinParts 170 = .ok (.aload_n 0, 1) := by decide +kernel
theorem dX12_joinParts_171 : decode cX12_joinParts 171 = .ok (.getfield 113, 3) := by decide +kernel
theorem dX12_joinParts_174 : decode cX12_joinParts 174 = .ok (.iload_n 3, 1) := by decide +kernel
theorem dX12_joinParts_175 : decode cX12_joinParts 175 = .ok (.iaload, 1) := by decide +kernel
theorem dX12_joinParts_176 : decode cX12_joinParts 176 = .ok (.goto 11, 3) := by decide +kernel
theorem dX12_joinParts_179 : decode cX12_joinParts 179 = .ok (.aload_n 0, 1) := by decide +kernel
theorem dX12_joinParts_180 : decode cX12_joinParts 180 = .ok (.getfield 113, 3) := by decide +kernel
theorem dX12_joinParts_183 : decode cX12_joinParts 183 = .ok (.iload_n 2, 1) := by decide +kernel
theorem dX12_joinParts_184 : decode cX12_joinParts 184 = .ok (.iconst 1, 1) := by decide +kernel
theorem dX12_joinParts_185 : decode cX12_joinParts 185 = .ok (.isub, 1) := by decide +kernel
theorem dX12_joinParts_186 : decode cX12_joinParts 186 = .ok (.iaload, 1) := by decide +kernel
theorem dX12_joinParts_187 : decode cX12_joinParts 187 = .ok (.iastore, 1) := by decide +kernel
theorem dX12_joinParts_188 : decode cX12_joinParts 188 = .ok (.goto 30, 3) := by decide +kernel
theorem dX12_joinParts_191 : decode cX12_joinParts 191 = .ok (.aload_n 0, 1) := by decide +kernel
theorem dX12_joinParts_192 : decode cX12_joinParts 192 = .ok (.getfield 110, 3) := by decide +kernel
theorem dX12_joinParts_195 : decode cX12_joinParts 195 = .ok (.iload_n 2, 1) := by decide +kernel
theorem dX12_joinParts_196 : decode cX12_joinParts 196 = .ok (.aload_n 0, 1) := by decide +kernel
theorem dX12_joinParts_197 : decode cX12_joinParts 197 = .ok (.getfield 110, 3) := by decide +kernel
theorem dX12_joinParts_200 : decode cX12_joinParts 200 = .ok (.iload_n 3, 1) := by decide +kernel
theorem dX12_joinParts_201 : decode cX12_joinParts 201 = .ok (.iaload, 1) := by decide +kernel
theorem dX12_joinParts_202 : decode cX12_joinParts 202 = .ok (.iastore, 1) := by decide +kernel
theorem dX12_joinParts_203 : decode cX12_joinParts 203 = .ok (.aload_n 0, 1) := by decide +kernel
theorem dX12_joinParts_204 : decode cX12_joinParts 204 = .ok (.getfield 113, 3) := by decide +kernel
theorem dX12_joinParts_207 : decode cX12_joinParts 207 = .ok (.iload_n 2, 1) := by decide +kernel
theorem dX12_joinParts_208 : decode cX12_joinParts 208 = .ok (.aload_n 0, 1) := by decide +kernel
theorem dX12_joinParts_209 : decode cX12_joinParts 209 = .ok (.getfield 113, 3) := by decide +kernel
theorem dX12_joinParts_212 : decode cX12_joinParts 212 = .ok (.iload_n 3, 1) := by decide +kernel
theorem dX12_joinParts_213 : decode cX12_joinParts 213 = .ok (.iaload, 1) := by decide +kernel
theorem dX12_joinParts_214 : decode cX12_joinParts 214 = .ok (.iastore, 1) := by decide +kernel
theorem dX12_joinParts_215 : decode cX12_joinParts 215 = .ok (.iinc 2 1, 3) := by decide +kernel
theorem dX12_joinParts_218 : decode cX12_joinParts 218 = .ok (.iinc 3 1, 3) := by decide +kernel
theorem dX12_joinParts_221 : decode cX12_joinParts 221 = .ok (.goto (-107), 3) := by decide +kernel
theorem dX12_joinParts_224 : decode cX12_joinParts 224 = .ok (.aload_n 0, 1) := by decide +kernel
theorem dX12_joinParts_225 : decode cX12_joinParts 225 = .ok (.iload_n 2, 1) := by decide +kernel
theorem dX12_joinParts_226 : decode cX12_joinParts 226 = .ok (.putfield 396, 3) := by decide +kernel
theorem dX12_joinParts_229 : decode cX12_joinParts 229 = .ok (.return_, 1) := by decide +kernel
theorem dX12_keepPattern_0 : decode cX12_keepPattern 0 = .ok (.sipush 220, 3) := by decide +kernel
theorem dX12_keepPattern_3 : decode cX12_keepPattern 3 = .ok (.iload_n 1, 1) := by decide +kernel
theorem dX12_keepPattern_4 : decode cX12_keepPattern 4 = .ok (.imul, 1) := by decide +kernel
theorem dX12_keepPattern_5 : decode cX12_keepPattern 5 = .ok (.istore_n 3, 1) := by decide +kernel
theorem dX12_keepPattern_6 : decode cX12_keepPattern 6 = .ok (.iconst 0, 1) := by decide +kernel
theorem dX12_keepPattern_7 : decode cX12_keepPattern 7 = .ok (.istore 4, 2) := by decide +kernel
theorem dX12_keepPattern_9 : decode cX12_keepPattern 9 = .ok (.iconst 1, 1) := by decide +kernel
theorem dX12_keepPattern_10 : decode cX12_keepPattern 10 = .ok (.istore 5, 2) := by decide +kernel
theorem dX12_keepPattern_12 : decode cX12_keepPattern 12 = .ok (.aload_n 0, 1) := by decide +kernel
theorem dX12_keepPattern_13 : decode cX12_keepPattern 13 = .ok (.getfield 143, 3) := by decide +kernel
theorem dX12_keepPattern_16 : decode cX12_keepPattern 16 = .ok (.iconst 0, 1) := by decide +kernel
theorem dX12_keepPattern_17 : decode cX12_keepPattern 17 = .ok (.iload_n 2, 1) := by decide +kernel
theorem dX12_keepPattern_18 : decode cX12_keepPattern 18 = .ok (.iastore, 1) := by decide +kernel
theorem dX12_keepPattern_19 : decode cX12_keepPattern 19 = .ok (.aload_n 0, 1) := by decide +kernel
theorem dX12_keepPattern_20 : decode cX12_keepPattern 20 = .ok (.getfield 146, 3) := by decide +kernel
theorem dX12_keepPattern_23 : decode cX12_keepPattern 23 = .ok (.iconst 0, 1) := by decide +kernel
theorem dX12_keepPattern_24 : decode cX12_keepPattern 24 = .ok (.iconst (-1), 1) := by decide +kernel
theorem dX12_keepPattern_25 : decode cX12_keepPattern 25 = .ok (.iastore, 1) := by decide +kernel
theorem dX12_keepPattern_26 : decode cX12_keepPattern 26 = .ok (.iload 5, 2) := by decide +kernel
theorem dX12_keepPattern_28 : decode cX12_keepPattern 28 = .ok (.ifCond .le 261, 3) := by decide +kernel
theorem dX12_keepPattern_31 : decode cX12_keepPattern 31 = .ok (.iinc 5 (-1), 3) := by decide +kernel
theorem dX12_keepPattern_34 : decode cX12_keepPattern 34 = .ok (.aload_n 0, 1) := by decide +kernel
theorem dX12_keepPattern_35 : decode cX12_keepPattern 35 = .ok (.getfield 143, 3) := by decide +kernel
theorem dX12_keepPattern_38 : decode cX12_keepPattern 38 = .ok (.iload 5, 2) := by decide +kernel
theorem dX12_keepPattern_40 : decode cX12_keepPattern 40 = .ok (.iaload, 1) := by decide +kernel
theorem dX12_keepPattern_41 : decode cX12_keepPattern 41 = .ok (.istore 6, 2) := by decide +kernel
theorem dX12_keepPattern_43 : decode cX12_keepPattern 43 = .ok (.aload_n 0, 1) := by decide +kernel
theorem dX12_keepPattern_44 : decode cX12_keepPattern 44 = .ok (.getfield 146, 3) := by decide +kernel
theorem dX12_keepPattern_47 : decode cX12_keepPattern 47 = .ok (.iload 5, 2) := by decide +kernel
theorem dX12_keepPattern_49 : decode cX12_keepPattern 49 = .ok (.iaload, 1) := by decide +kernel
theorem dX12_keepPattern_50 : decode cX12_keepPattern 50 = .ok (.istore 7, 2) := by decide +kernel
theorem dX12_keepPattern_52 : decode cX12_keepPattern 52 = .ok (.iload_n 3, 1) := by decide +kernel
theorem dX12_keepPattern_53 : decode cX12_keepPattern 53 = .ok (.iload 4, 2) := by decide +kernel
theorem dX12_keepPattern_55 : decode cX12_keepPattern 55 = .ok (.iadd, 1) := by decide +kernel
theorem dX12_keepPattern_56 : decode cX12_keepPattern 56 = .ok (.istore 8, 2) := by decide +kernel
theorem dX12_keepPattern_58 : decode cX12_keepPattern 58 = .ok (.aload_n 0, 1) := by decide +kernel
theorem dX12_keepPattern_59 : decode cX12_keepPattern 59 = .ok (.getfield 44, 3) := by decide +kernel
theorem dX12_keepPattern_62 : decode cX12_keepPattern 62 = .ok (.iload 8, 2) := by decide +kernel
theorem dX12_keepPattern_64 : decode cX12_keepPattern 64 = .ok (.aload_n 0, 1) := by decide +kernel
theorem dX12_keepPattern_65 : decode cX12_keepPattern 65 = .ok (.getfield 86, 3) := by decide +kernel
theorem dX12_keepPattern_68 : decode cX12_keepPattern 68 = .ok (.iload 6, 2) := by decide +kernel
theorem dX12_keepPattern_70 : decode cX12_keepPattern 70 = .ok (.iaload, 1) := by decide +kernel
theorem dX12_keepPattern_71 : decode cX12_keepPattern 71 = .ok (.iastore, 1) := by decide +kernel
theorem dX12_keepPattern_72 : decode cX12_keepPattern 72 = .ok (.aload_n 0, 1) := by decide +kernel
theorem dX12_keepPattern_73 : decode cX12_keepPattern 73 = .ok (.getfield 47, 3) := by decide +kernel
theorem dX12_keepPattern_76 : decode cX12_keepPattern 76 = .ok (.iload 8, 2) := by decide +kernel
theorem dX12_keepPattern_78 : decode cX12_keepPattern 78 = .ok (.aload_n 0, 1) := by decide +kernel
theorem dX12_keepPattern_79 : decode cX12_keepPattern 79 = .ok (.getfield 89, 3) := by decide +kernel
theorem dX12_keepPattern_82 : decode cX12_keepPattern 82 = .ok (.iload 6, 2) := by decide +kernel
theorem dX12_keepPattern_84 : decode cX12_keepPattern 84 = .ok (.iaload, 1) := by decide +kernel
theorem dX12_keepPattern_85 : decode cX12_keepPattern 85 = .ok (.iastore, 1) := by decide +kernel
theorem dX12_keepPattern_86 : decode cX12_keepPattern 86 = .ok (.aload_n 0, 1) := by decide +kernel
theorem dX12_keepPattern_87 : decode cX12_keepPattern 87 = .ok (.getfield 50, 3) := by decide +kernel
theorem dX12_keepPattern_90 : decode cX12_keepPattern 90 = .ok (.iload 8, 2) := by decide +kernel
theorem dX12_keepPattern_92 : decode cX12_keepPattern 92 = .ok (.aload_n 0, 1) := by decide +kernel
theorem dX12_keepPattern_93 : decode cX12_keepPattern 93 = .ok (.getfield 92, 3) := by decide +kernel
theorem dX12_keepPattern_96 : decode cX12_keepPattern 96 = .ok (.iload 6, 2) := by decide +kernel
theorem dX12_keepPattern_98 : decode cX12_keepPattern 98 = .ok (.iaload, 1) := by decide +kernel
theorem dX12_keepPattern_99 : decode cX12_keepPattern 99 = .ok (.iastore, 1) := by decide +kernel
theorem dX12_keepPattern_100 : decode cX12_keepPattern 100 = .ok (.aload_n 0, 1) := by decide +kernel
theorem dX12_keepPattern_101 : decode cX12_keepPattern 101 = .ok (.getfield 53, 3) := by decide +kernel
theorem dX12_keepPattern_104 : decode cX12_keepPattern 104 = .ok (.iload 8, 2) := by decide +kernel
theorem dX12_keepPattern_106 : decode cX12_keepPattern 106 = .ok (.aload_n 0, 1) := by decide +kernel
theorem dX12_keepPattern_107 : decode cX12_keepPattern 107 = .ok (.getfield 95, 3) := by decide +kernel
theorem dX12_keepPattern_110 : decode cX12_keepPattern 110 = .ok (.iload 6, 2) := by decide +kernel
theorem dX12_keepPattern_112 : decode cX12_keepPattern 112 = .ok (.iaload, 1) := by decide +kernel
theorem dX12_keepPattern_113 : decode cX12_keepPattern 113 = .ok (.iastore, 1) := by decide +kernel
theorem dX12_keepPattern_114 : decode cX12_keepPattern 114 = .ok (.aload_n 0, 1) := by decide +kernel
theorem dX12_keepPattern_115 : decode cX12_keepPattern 115 = .ok (.getfield 56, 3) := by decide +kernel
theorem dX12_keepPattern_118 : decode cX12_keepPattern 118 = .ok (.iload 8, 2) := by decide +kernel
theorem dX12_keepPattern_120 : decode cX12_keepPattern 120 = .ok (.iload 7, 2) := by decide +kernel
theorem dX12_keepPattern_122 : decode cX12_keepPattern 122 = .ok (.iastore, 1) := by decide +kernel
theorem dX12_keepPattern_123 : decode cX12_keepPattern 123 = .ok (.aload_n 0, 1) := by decide +kernel
theorem dX12_keepPattern_124 : decode cX12_keepPattern 124 = .ok (.getfield 59, 3) := by decide +kernel
theorem dX12_keepPattern_127 : decode cX12_keepPattern 127 = .ok (.iload 8, 2) := by decide +kernel
theorem dX12_keepPattern_129 : decode cX12_keepPattern 129 = .ok (.aload_n 0, 1) := by decide +kernel
theorem dX12_keepPattern_130 : decode cX12_keepPattern 130 = .ok (.getfield 104, 3) := by decide +kernel
theorem dX12_keepPattern_133 : decode cX12_keepPattern 133 = .ok (.iload 6, 2) := by decide +kernel
theorem dX12_keepPattern_135 : decode cX12_keepPattern 135 = .ok (.iaload, 1) := by decide +kernel
theorem dX12_keepPattern_136 : decode cX12_keepPattern 136 = .ok (.iastore, 1) := by decide +kernel
theorem dX12_keepPattern_137 : decode cX12_keepPattern 137 = .ok (.aload_n 0, 1) := by decide +kernel
theorem dX12_keepPattern_138 : decode cX12_keepPattern 138 = .ok (.getfield 71, 3) := by decide +kernel
theorem dX12_keepPattern_141 : decode cX12_keepPattern 141 = .ok (.iload 8, 2) := by decide +kernel
theorem dX12_keepPattern_143 : decode cX12_keepPattern 143 = .ok (.sipush 420, 3) := by decide +kernel
theorem dX12_keepPattern_146 : decode cX12_keepPattern 146 = .ok (.iload_n 1, 1) := by decide +kernel
theorem dX12_keepPattern_147 : decode cX12_keepPattern 147 = .ok (.imul, 1) := by decide +kernel
theorem dX12_keepPattern_148 : decode cX12_keepPattern 148 = .ok (.aload_n 0, 1) := by decide +kernel
theorem dX12_keepPattern_149 : decode cX12_keepPattern 149 = .ok (.getfield 107, 3) := by decide +kernel
theorem dX12_keepPattern_152 : decode cX12_keepPattern 152 = .ok (.iload 6, 2) := by decide +kernel
theorem dX12_keepPattern_154 : decode cX12_keepPattern 154 = .ok (.iaload, 1) := by decide +kernel
theorem dX12_keepPattern_155 : decode cX12_keepPattern 155 = .ok (.iadd, 1) := by decide +kernel
theorem dX12_keepPattern_156 : decode cX12_keepPattern 156 = .ok (.iastore, 1) := by decide +kernel
theorem dX12_keepPattern_157 : decode cX12_keepPattern 157 = .ok (.aload_n 0, 1) := by decide +kernel
theorem dX12_keepPattern_158 : decode cX12_keepPattern 158 = .ok (.getfield 62, 3) := by decide +kernel
theorem dX12_keepPattern_161 : decode cX12_keepPattern 161 = .ok (.iload 8, 2) := by decide +kernel
theorem dX12_keepPattern_163 : decode cX12_keepPattern 163 = .ok (.iload 4, 2) := by decide +kernel
theorem dX12_keepPattern_165 : decode cX12_keepPattern 165 = .ok (.iconst 1, 1) := by decide +kernel
theorem dX12_keepPattern_166 : decode cX12_keepPattern 166 = .ok (.iadd, 1) := by decide +kernel
theorem dX12_keepPattern_167 : decode cX12_keepPattern 167 = .ok (.iastore, 1) := by decide +kernel
theorem dX12_keepPattern_168 : decode cX12_keepPattern 168 = .ok (.aload_n 0, 1) := by decide +kernel
theorem dX12_keepPattern_169 : decode cX12_keepPattern 169 = .ok (.getfield 77, 3) := by decide +kernel
theorem dX12_keepPattern_172 : decode cX12_keepPattern 172 = .ok (.iload 8, 2) := by decide +kernel
theorem dX12_keepPattern_174 : decode cX12_keepPattern 174 = .ok (.iload 7, 2) := by decide +kernel
theorem dX12_keepPattern_176 : decode cX12_keepPattern 176 = .ok (.ifCond .lt 33, 3) := by decide +kernel
theorem dX12_keepPattern_179 : decode cX12_keepPattern 179 = .ok (.aload_n 0, 1) := by decide +kernel
theorem dX12_keepPattern_180 : decode cX12_keepPattern 180 = .ok (.getfield 77, 3) := by decide +kernel
theorem dX12_keepPattern_183 : decode cX12_keepPattern 183 = .ok (.iload_n 3, 1) := by decide +kernel
theorem dX12_keepPattern_184 : decode cX12_keepPattern 184 = .ok (.iload 7, 2) := by decide +kernel
theorem dX12_keepPattern_186 : decode cX12_keepPattern 186 = .ok (.iadd, 1) := by decide +kernel
theorem dX12_keepPattern_187 : decode cX12_keepPattern 187 = .ok (.baload, 1) := by decide +kernel
theorem dX12_keepPattern_188 : decode cX12_keepPattern 188 = .ok (.ifCond .ne 17, 3) := by decide +kernel
theorem dX12_keepPattern_191 : decode cX12_keepPattern 191 = .ok (.aload_n 0, 1) := by decide +kernel
theorem dX12_keepPattern_192 : decode cX12_keepPattern 192 = .ok (.getfield 44, 3) := by decide +kernel
theorem dX12_keepPattern_195 : decode cX12_keepPattern 195 = .ok (.iload_n 3, 1) := by decide +kernel
theorem dX12_keepPattern_196 : decode cX12_keepPattern 196 = .ok (.iload 7, 2) := by decide +kernel
theorem dX12_keepPattern_198 : decode cX12_keepPattern 198 = .ok (.iadd, 1) := by decide +kernel
theorem dX12_keepPattern_199 : decode cX12_keepPattern 199 = .ok (.iaload, 1) := by decide +kernel
theorem dX12_keepPattern_200 : decode cX12_keepPattern 200 = .ok (.bipush 11, 2) := by decide +kernel
theorem dX12_keepPattern_202 : decode cX12_keepPattern 202 = .ok (.if_icmp .ne 7, 3) := by decide +kernel
theorem dX12_keepPattern_205 : decode cX12_keepPattern 205 = .ok (.iconst 1, 1) := by decide +kernel
theorem dX12_keepPattern_206 : decode cX12_keepPattern 206 = .ok (.goto 4, 3) := by decide +kernel
theorem dX12_keepPattern_209 : decode cX12_keepPattern 209 = .ok (.iconst 0, 1) := by decide +kernel
theorem dX12_keepPattern_210 : decode cX12_keepPattern 210 = .ok (.bastore, 1) := by decide +kernel
theorem dX12_keepPattern_211 : decode cX12_keepPattern 211 = .ok (.aload_n 0, 1) := by decide +kernel
theorem dX12_keepPattern_212 : decode cX12_keepPattern 212 = .ok (.getfield 101, 3) := by decide +kernel
theorem dX12_keepPattern_215 : decode cX12_keepPattern 215 = .ok (.iload 6, 2) := by decide +kernel
theorem dX12_keepPattern_217 : decode cX12_keepPattern 217 = .ok (.iaload, 1) := by decide +kernel
theorem dX12_keepPattern_218 : decode cX12_keepPattern 218 = .ok (.ifCond .lt 29, 3) := by decide +kernel
theorem dX12_keepPattern_221 : decode cX12_keepPattern 221 = .ok (.aload_n 0, 1) := by decide +kernel
theorem dX12_keepPattern_222 : decode cX12_keepPattern 222 = .ok (.getfield 143, 3) := by decide +kernel
theorem dX12_keepPattern_225 : decode cX12_keepPattern 225 = .ok (.iload 5, 2) := by decide +kernel
theorem dX12_keepPattern_227 : decode cX12_keepPattern 227 = .ok (.aload_n 0, 1) := by decide +kernel
theorem dX12_keepPattern_228 : decode cX12_keepPattern 228 = .ok (.getfield 101, 3) := by decide +kernel
theorem dX12_keepPattern_231 : decode cX12_keepPattern 231 = .ok (.iload 6, 2) := by decide +kernel
theorem dX12_keepPattern_233 : decode cX12_keepPattern 233 = .ok (.iaload, 1) := by decide +kernel
theorem dX12_keepPattern_234 : decode cX12_keepPattern 234 = .ok (.iastore, 1) := by decide +kernel
theorem dX12_keepPattern_235 : decode cX12_keepPattern 235 = .ok (.aload_n 0, 1) := by decide +kernel
theorem dX12_keepPattern_236 : decode cX12_keepPattern 236 = .ok (.getfield 146, 3) := by decide +kernel
theorem dX12_keepPattern_239 : decode cX12_keepPattern 239 = .ok (.iload 5, 2) := by decide +kernel
theorem dX12_keepPattern_241 : decode cX12_keepPattern 241 = .ok (.iload 7, 2) := by decide +kernel
theorem dX12_keepPattern_243 : decode cX12_keepPattern 243 = .ok (.iastore, 1) := by decide +kernel
theorem dX12_keepPattern_244 : decode cX12_keepPattern 244 = .ok (.iinc 5 1, 3) := by decide +kernel
theorem dX12_keepPattern_247 : decode cX12_keepPattern 247 = .ok (.aload_n 0, 1) := by decide +kernel
theorem dX12_keepPattern_248 : decode cX12_keepPattern 248 = .ok (.getfield 98, 3) := by decide +kernel
theorem dX12_keepPattern_251 : decode cX12_keepPattern 251 = .ok (.iload 6, 2) := by decide +kernel
theorem dX12_keepPattern_253 : decode cX12_keepPattern 253 = .ok (.iaload, 1) := by decide +kernel
theorem dX12_keepPattern_254 : decode cX12_keepPattern 254 = .ok (.ifCond .lt 29, 3) := by decide +kernel
theorem dX12_keepPattern_257 : decode cX12_keepPattern 257 = .ok (.aload_n 0, 1) := by decide +kernel
theorem dX12_keepPattern_258 : decode cX12_keepPattern 258 = .ok (.getfield 143, 3) := by decide +kernel
theorem dX12_keepPattern_261 : decode cX12_keepPattern 261 = .ok (.iload 5, 2) := by decide +kernel
theorem dX12_keepPattern_263 : decode cX12_keepPattern 263 = .ok (.aload_n 0, 1) := by decide +kernel
theorem dX12_keepPattern_264 : decode cX12_keepPattern 264 = .ok (.getfield 98, 3) := by decide +kernel
theorem dX12_keepPattern_267 : decode cX12_keepPattern 267 = .ok (.iload 6, 2) := by decide +kernel
theorem dX12_keepPattern_269 : decode cX12_keepPattern 269 = .ok (.iaload, 1) := by decide +kernel
theorem dX12_keepPattern_270 : decode cX12_keepPattern 270 = .ok (.iastore, 1) := by decide +kernel
theorem dX12_keepPattern_271 : decode cX12_keepPattern 271 = .ok (.aload_n 0, 1) := by decide +kernel
theorem dX12_keepPattern_272 : decode cX12_keepPattern 272 = .ok (.getfield 146, 3) := by decide +kernel
theorem dX12_keepPattern_275 : decode cX12_keepPattern 275 = .ok (.iload 5, 2) := by decide +kernel
theorem dX12_keepPattern_277 : decode cX12_keepPattern 277 = .ok (.iload 4, 2) := by decide +kernel
theorem dX12_keepPattern_279 : decode cX12_keepPattern 279 = .ok (.iastore, 1) := by decide +kernel
theorem dX12_keepPattern_280 : decode cX12_keepPattern 280 = .ok (.iinc 5 1, 3) := by decide +kernel
theorem dX12_keepPattern_283 : decode cX12_keepPattern 283 = .ok (.iinc 4 1, 3) := by decide +kernel
theorem dX12_keepPattern_286 : decode cX12_keepPattern 286 = .ok (.goto (-260), 3) := by decide +kernel
theorem dX12_keepPattern_289 : decode cX12_keepPattern 289 = .ok (.iconst 0, 1) := by decide +kernel
theorem dX12_keepPattern_290 : decode cX12_keepPattern 290 = .ok (.istore 6, 2) := by decide +kernel
theorem dX12_keepPattern_292 : decode cX12_keepPattern 292 = .ok (.iload 6, 2) := by decide +kernel
theorem dX12_keepPattern_294 : decode cX12_keepPattern 294 = .ok (.aload_n 0, 1) := by decide +kernel
theorem dX12_keepPattern_295 : decode cX12_keepPattern 295 = .ok (.getfield 396, 3) := by decide +kernel
theorem dX12_keepPattern_298 : decode cX12_keepPattern 298 = .ok (.if_icmp .ge 49, 3) := by decide +kernel
theorem dX12_keepPattern_301 : decode cX12_keepPattern 301 = .ok (.aload_n 0, 1) := by decide +kernel
theorem dX12_keepPattern_302 : decode cX12_keepPattern 302 = .ok (.getfield 80, 3) := by decide +kernel
theorem dX12_keepPattern_305 : decode cX12_keepPattern 305 = .ok (.sipush 420, 3) := by decide +kernel
theorem dX12_keepPattern_308 : decode cX12_keepPattern 308 = .ok (.iload_n 1, 1) := by decide +kernel
theorem dX12_keepPattern_309 : decode cX12_keepPattern 309 = .ok (.imul, 1) := by decide +kernel
theorem dX12_keepPattern_310 : decode cX12_keepPattern 310 = .ok (.iload 6, 2) := by decide +kernel
theorem dX12_keepPattern_312 : decode cX12_keepPattern 312 = .ok (.iadd, 1) := by decide +kernel
theorem dX12_keepPattern_313 : decode cX12_keepPattern 313 = .ok (.aload_n 0, 1) := by decide +kernel
theorem dX12_keepPattern_314 : decode cX12_keepPattern 314 = .ok (.getfield 110, 3) := by decide +kernel
theorem dX12_keepPattern_317 : decode cX12_keepPattern 317 = .ok (.iload 6, 2) := by decide +kernel
theorem dX12_keepPattern_319 : decode cX12_keepPattern 319 = .ok (.iaload, 1) := by decide +kernel
theorem dX12_keepPattern_320 : decode cX12_keepPattern 320 = .ok (.iastore, 1) := by decide +kernel
theorem dX12_keepPattern_321 : decode cX12_keepPattern 321 = .ok (.aload_n 0, 1) := by decide +kernel
theorem dX12_keepPattern_322 : decode cX12_keepPattern 322 = .ok (.getfield 83, 3) := by decide +kernel
theorem dX12_keepPattern_325 : decode cX12_keepPattern 325 = .ok (.sipush 420, 3) := by decide +kernel
theorem dX12_keepPattern_328 : decode cX12_keepPattern 328 = .ok (.iload_n 1, 1) := by decide +kernel
theorem dX12_keepPattern_329 : decode cX12_keepPattern 329 = .ok (.imul, 1) := by decide +kernel
theorem dX12_keepPattern_330 : decode cX12_keepPattern 330 = .ok (.iload 6, 2) := by decide +kernel
theorem dX12_keepPattern_332 : decode cX12_keepPattern 332 = .ok (.iadd, 1) := by decide +kernel
theorem dX12_keepPattern_333 : decode cX12_keepPattern 333 = .ok (.aload_n 0, 1) := by decide +kernel
theorem dX12_keepPattern_334 : decode cX12_keepPattern 334 = .ok (.getfield 113, 3) := by decide +kernel
theorem dX12_keepPattern_337 : decode cX12_keepPattern 337 = .ok (.iload 6, 2) := by decide +kernel
theorem dX12_keepPattern_339 : decode cX12_keepPattern 339 = .ok (.iaload, 1) := by decide +kernel
theorem dX12_keepPattern_340 : decode cX12_keepPattern 340 = .ok (.iastore, 1) := by decide +kernel
theorem dX12_keepPattern_341 : decode cX12_keepPattern 341 = .ok (.iinc 6 1, 3) := by decide +kernel
theorem dX12_keepPattern_344 : decode cX12_keepPattern 344 = .ok (.goto (-52), 3) := by decide +kernel
theorem dX12_keepPattern_347 : decode cX12_keepPattern 347 = .ok (.aload_n 0, 1) := by decide +kernel
theorem dX12_keepPattern_348 : decode cX12_keepPattern 348 = .ok (.getfield 35, 3) := by decide +kernel
theorem dX12_keepPattern_351 : decode cX12_keepPattern 351 = .ok (.iload_n 1, 1) := by decide +kernel
theorem dX12_keepPattern_352 : decode cX12_keepPattern 352 = .ok (.iload 4, 2) := by decide +kernel
theorem dX12_keepPattern_354 : decode cX12_keepPattern 354 = .ok (.iastore, 1) := by decide +kernel
theorem dX12_keepPattern_355 : decode cX12_keepPattern 355 = .ok (.aload_n 0, 1) := by decide +kernel
theorem dX12_keepPattern_356 : decode cX12_keepPattern 356 = .ok (.getfield 38, 3) := by decide +kernel
theorem dX12_keepPattern_359 : decode cX12_keepPattern 359 = .ok (.iload_n 1, 1) := by decide +kernel
theorem dX12_keepPattern_360 : decode cX12_keepPattern 360 = .ok (.aload_n 0, 1) := by decide +kernel
theorem dX12_keepPattern_361 : decode cX12_keepPattern 361 = .ok (.getfield 377, 3) := by decide +kernel
theorem dX12_keepPattern_364 : decode cX12_keepPattern 364 = .ok (.iastore, 1) := by decide +kernel
theorem dX12_keepPattern_365 : decode cX12_keepPattern 365 = .ok (.iconst 1, 1) := by decide +kernel
theorem dX12_keepPattern_366 : decode cX12_keepPattern 366 = .ok (.istore 6, 2) := by decide +kernel
theorem dX12_keepPattern_368 : decode cX12_keepPattern 368 = .ok (.iload 6, 2) := by decide +kernel
theorem dX12_keepPattern_370 : decode cX12_keepPattern 370 = .ok (.bipush 10, 2) := by decide +kernel
theorem dX12_keepPattern_372 : decode cX12_keepPattern 372 = .ok (.if_icmp .ge 41, 3) := by decide +kernel
theorem dX12_keepPattern_375 : decode cX12_keepPattern 375 = .ok (.aload_n 0, 1) := by decide +kernel
theorem dX12_keepPattern_376 : decode cX12_keepPattern 376 = .ok (.getfield 41, 3) := by decide +kernel
theorem dX12_keepPattern_379 : decode cX12_keepPattern 379 = .ok (.bipush 10, 2) := by decide +kernel
theorem dX12_keepPattern_381 : decode cX12_keepPattern 381 = .ok (.iload_n 1, 1) := by decide +kernel
theorem dX12_keepPattern_382 : decode cX12_keepPattern 382 = .ok (.imul, 1) := by decide +kernel
theorem dX12_keepPattern_383 : decode cX12_keepPattern 383 = .ok (.iload 6, 2) := by decide +kernel
theorem dX12_keepPattern_385 : decode cX12_keepPattern 385 = .ok (.iadd, 1) := by decide +kernel
theorem dX12_keepPattern_386 : decode cX12_keepPattern 386 = .ok (.iload 6, 2) := by decide +kernel
theorem dX12_keepPattern_388 : decode cX12_keepPattern 388 = .ok (.aload_n 0, 1) := by decide +kernel
theorem dX12_keepPattern_389 : decode cX12_keepPattern 389 = .ok (.getfield 377, 3) := by decide +kernel
theorem dX12_keepPattern_392 : decode cX12_keepPattern 392 = .ok (.if_icmp .gt 13, 3) := by decide +kernel
theorem dX12_keepPattern_395 : decode cX12_keepPattern 395 = .ok (.aload_n 0, 1) := by decide +kernel
theorem dX12_keepPattern_396 : decode cX12_keepPattern 396 = .ok (.getfield 116, 3) := by decide +kernel
theorem dX12_keepPattern_399 : decode cX12_keepPattern 399 = .ok (.iload 6, 2) := by decide +kernel
theorem dX12_keepPattern_401 : decode cX12_keepPattern 401 = .ok (.iaload, 1) := by decide +kernel
theorem dX12_keepPattern_402 : decode cX12_keepPattern 402 = .ok (.goto 4, 3) := by decide +kernel
theorem dX12_keepPattern_405 : decode cX12_keepPattern 405 = .ok (.iconst 0, 1) := by decide +kernel
theorem dX12_keepPattern_406 : decode cX12_keepPattern 406 = .ok (.iastore, 1) := by decide +kernel
theorem dX12_keepPattern_407 : decode cX12_keepPattern 407 = .ok (.iinc 6 1, 3) := by decide +kernel
theorem dX12_keepPattern_410 : decode cX12_keepPattern 410 = .ok (.goto (-42), 3) := by decide +kernel
theorem dX12_keepPattern_413 : decode cX12_keepPattern 413 = .ok (.iload 4, 2) := by decide +kernel
theorem dX12_keepPattern_415 : decode cX12_keepPattern 415 = .ok (.iconst 1, 1) := by decide +kernel
theorem dX12_keepPattern_416 : decode cX12_keepPattern 416 = .ok (.isub, 1) := by decide +kernel
theorem dX12_keepPattern_417 : decode cX12_keepPattern 417 = .ok (.istore 6, 2) := by decide +kernel
theorem dX12_keepPattern_419 : decode cX12_keepPattern 419 = .ok (.iload 6, 2) := by decide +kernel
theorem dX12_keepPattern_421 : decode cX12_keepPattern 421 = .ok (.ifCond .le 67, 3) := by decide +kernel
theorem dX12_keepPattern_424 : decode cX12_keepPattern 424 = .ok (.iload_n 3, 1) := by decide +kernel
theorem dX12_keepPattern_425 : decode cX12_keepPattern 425 = .ok (.aload_n 0, 1) := by decide +kernel
theorem dX12_keepPattern_426 : decode cX12_keepPattern 426 = .ok (.getfield 56, 3) := by decide +kernel
theorem dX12_keepPattern_429 : decode cX12_keepPattern 429 = .ok (.iload_n 3, 1) := by decide +kernel
theorem dX12_keepPattern_430 : decode cX12_keepPattern 430 = .ok (.iload 6, 2) := by decide +kernel
theorem dX12_keepPattern_432 : decode cX12_keepPattern 432 = .ok (.iadd, 1) := by decide +kernel
theorem dX12_keepPattern_433 : decode cX12_keepPattern 433 = .ok (.iaload, 1) := by decide +kernel
theorem dX12_keepPattern_434 : decode cX12_keepPattern 434 = .ok (.iadd, 1) := by decide +kernel
theorem dX12_keepPattern_435 : decode cX12_keepPattern 435 = .ok (.istore 7, 2) := by decide +kernel
theorem dX12_keepPattern_437 : decode cX12_keepPattern 437 = .ok (.aload_n 0, 1) := by decide +kernel
theorem dX12_keepPattern_438 : decode cX12_keepPattern 438 = .ok (.getfield 62, 3) := by decide +kernel
theorem dX12_keepPattern_441 : decode cX12_keepPattern 441 = .ok (.iload 7, 2) := by decide +kernel
theorem dX12_keepPattern_443 : decode cX12_keepPattern 443 = .ok (.aload_n 0, 1) := by decide +kernel
theorem dX12_keepPattern_444 : decode cX12_keepPattern 444 = .ok (.getfield 62, 3) := by decide +kernel
theorem dX12_keepPattern_447 : decode cX12_keepPattern 447 = .ok (.iload 7, 2) := by decide +kernel
theorem dX12_keepPattern_449 : decode cX12_keepPattern 449 = .ok (.iaload, 1) := by decide +kernel
theorem dX12_keepPattern_450 : decode cX12_keepPattern 450 = .ok (.aload_n 0, 1) := by decide +kernel
theorem dX12_keepPattern_451 : decode cX12_keepPattern 451 = .ok (.getfield 62, 3) := by decide +kernel
theorem dX12_keepPattern_454 : decode cX12_keepPattern 454 = .ok (.iload_n 3, 1) := by decide +kernel
theorem dX12_keepPattern_455 : decode cX12_keepPattern 455 = .ok (.iload 6, 2) := by decide +kernel
theorem dX12_keepPattern_457 : decode cX12_keepPattern 457 = .ok (.iadd, 1) := by decide +kernel
theorem dX12_keepPattern_458 : decode cX12_keepPattern 458 = .ok (.iaload, 1) := by decide +kernel
theorem dX12_keepPattern_459 : decode cX12_keepPattern 459 = .ok (.if_icmp .le 13, 3) := by decide +kernel
theorem dX12_keepPattern_462 : decode cX12_keepPattern 462 = .ok (.aload_n 0, 1) := by decide +kernel
theorem dX12_keepPattern_463 : decode cX12_keepPattern 463 = .ok (.getfield 62, 3) := by decide +kernel
theorem dX12_keepPattern_466 : decode cX12_keepPattern 466 = .ok (.iload 7, 2) := by decide +kernel
theorem dX12_keepPattern_468 : decode cX12_keepPattern 468 = .ok (.iaload, 1) := by decide +kernel
theorem dX12_keepPattern_469 : decode cX12_keepPattern 469 = .ok (.goto 12, 3) := by decide +kernel
theorem dX12_keepPattern_472 : decode cX12_keepPattern 472 = .ok (.aload_n 0, 1) := by decide +kernel
theorem dX12_keepPattern_473 : decode cX12_keepPattern 473 = .ok (.getfield 62, 3) := by decide +kernel
theorem dX12_keepPattern_476 : decode cX12_keepPattern 476 = .ok (.iload_n 3, 1) := by decide +kernel
theorem dX12_keepPattern_477 : decode cX12_keepPattern 477 = .ok (.iload 6, 2) := by decide +kernel
theorem dX12_keepPattern_479 : decode cX12_keepPattern 479 = .ok (.iadd, 1) := by decide +kernel
theorem dX12_keepPattern_480 : decode cX12_keepPattern 480 = .ok (.iaload, 1) := by decide +kernel
theorem dX12_keepPattern_481 : decode cX12_keepPattern 481 = .ok (.iastore, 1) := by decide +kernel
theorem dX12_keepPattern_482 : decode cX12_keepPattern 482 = .ok (.iinc 6 (-1), 3) := by decide +kernel
theorem dX12_keepPattern_485 : decode cX12_keepPattern 485 = .ok (.goto (-66), 3) := by decide +kernel
theorem dX12_keepPattern_488 : decode cX12_keepPattern 488 = .ok (.iload 4, 2) := by decide +kernel
theorem dX12_keepPattern_490 : decode cX12_keepPattern 490 = .ok (.iconst 1, 1) := by decide +kernel
theorem dX12_keepPattern_491 : decode cX12_keepPattern 491 = .ok (.isub, 1) := by decide +kernel
theorem dX12_keepPattern_492 : decode cX12_keepPattern 492 = .ok (.istore 6, 2) := by decide +kernel
theorem dX12_keepPattern_494 : decode cX12_keepPattern 494 = .ok (.iload 6, 2) := by decide +kernel
theorem dX12_keepPattern_496 : decode cX12_keepPattern 496 = .ok (.ifCond .lt 16, 3) := by decide +kernel
theorem dX12_keepPattern_499 : decode cX12_keepPattern 499 = .ok (.aload_n 0, 1) := by decide +kernel
theorem dX12_keepPattern_500 : decode cX12_keepPattern 500 = .ok (.iload_n 1, 1) := by decide +kernel
theorem dX12_keepPattern_501 : decode cX12_keepPattern 501 = .ok (.iload 6, 2) := by decide +kernel
theorem dX12_keepPattern_503 : decode cX12_keepPattern 503 = .ok (.invokevirtual 435, 3) := by decide +kernel
theorem dX12_keepPattern_506 : decode cX12_keepPattern 506 = .ok (.iinc 6 (-1), 3) := by decide +kernel
theorem dX12_keepPattern_509 : decode cX12_keepPattern 509 = .ok (.goto (-15), 3) := by decide +kernel
theorem dX12_keepPattern_512 : decode cX12_keepPattern 512 = .ok (.aload_n 0, 1) := by decide +kernel
theorem dX12_keepPattern_513 : decode cX12_keepPattern 513 = .ok (.getfield 31, 3) := by decide +kernel
theorem dX12_keepPattern_516 : decode cX12_keepPattern 516 = .ok (.iload_n 1, 1) := by decide +kernel
theorem dX12_keepPattern_517 : decode cX12_keepPattern 517 = .ok (.iconst 1, 1) := by decide +kernel
theorem dX12_keepPattern_518 : decode cX12_keepPattern 518 = .ok (.bastore, 1) := by decide +kernel
theorem dX12_keepPattern_519 : decode cX12_keepPattern 519 = .ok (.return_, 1) := by decide +kernel
theorem dX12_keepSpan_0 : decode cX12_keepSpan 0 = .ok (.aload_n 0, 1) := by decide +kernel
theorem dX12_keepSpan_1 : decode cX12_keepSpan 1 = .ok (.iload_n 2, 1) := by decide +kernel
theorem dX12_keepSpan_2 : decode cX12_keepSpan 2 = .ok (.putfield 664, 3) := by decide +kernel
theorem dX12_keepSpan_5 : decode cX12_keepSpan 5 = .ok (.aload_n 0, 1) := by decide +kernel
theorem dX12_keepSpan_6 : decode cX12_keepSpan 6 = .ok (.aload_n 0, 1) := by decide +kernel
theorem dX12_keepSpan_7 : decode cX12_keepSpan 7 = .ok (.getfield 38, 3) := by decide +kernel
theorem dX12_keepSpan_10 : decode cX12_keepSpan 10 = .ok (.iload_n 1, 1) := by decide +kernel
theorem dX12_keepSpan_11 : decode cX12_keepSpan 11 = .ok (.iaload, 1) := by decide +kernel
theorem dX12_keepSpan_12 : decode cX12_keepSpan 12 = .ok (.putfield 667, 3) := by decide +kernel
theorem dX12_keepSpan_15 : decode cX12_keepSpan 15 = .ok (.iconst 0, 1) := by decide +kernel
theorem dX12_keepSpan_16 : decode cX12_keepSpan 16 = .ok (.istore_n 3, 1) := by decide +kernel
theorem dX12_keepSpan_17 : decode cX12_keepSpan 17 = .ok (.iload_n 3, 1) := by decide +kernel
theorem dX12_keepSpan_18 : decode cX12_keepSpan 18 = .ok (.bipush 20, 2) := by decide +kernel
theorem dX12_keepSpan_20 : decode cX12_keepSpan 20 = .ok (.if_icmp .ge 21, 3) := by decide +kernel
theorem dX12_keepSpan_23 : decode cX12_keepSpan 23 = .ok (.aload_n 0, 1) := by decide +kernel
theorem dX12_keepSpan_24 : decode cX12_keepSpan 24 = .ok (.getfield 234, 3) := by decide +kernel
theorem dX12_keepSpan_27 : decode cX12_keepSpan 27 = .ok (.iload_n 3, 1) := by decide +kernel
theorem dX12_keepSpan_28 : decode cX12_keepSpan 28 = .ok (.aload_n 0, 1) := by decide +kernel
theorem dX12_keepSpan_29 : decode cX12_keepSpan 29 = .ok (.getfield 231, 3) := by decide +kernel
theorem dX12_keepSpan_32 : decode cX12_keepSpan 32 = .ok (.iload_n 3, 1) := by decide +kernel
theorem dX12_keepSpan_33 : decode cX12_keepSpan 33 = .ok (.iaload, 1) := by decide +kernel
