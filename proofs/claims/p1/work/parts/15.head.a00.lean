theorem dL_law_33 : decode cL_law 33 = .ok (.aload_n 0, 1) := by decide +kernel
theorem dL_law_34 : decode cL_law 34 = .ok (.iload 4, 2) := by decide +kernel
theorem dL_law_36 : decode cL_law 36 = .ok (.iaload, 1) := by decide +kernel
theorem dL_law_37 : decode cL_law 37 = .ok (.bipush 31, 2) := by decide +kernel
theorem dL_law_39 : decode cL_law 39 = .ok (.iand, 1) := by decide +kernel
theorem dL_law_40 : decode cL_law 40 = .ok (.tableswitch 1385 0 30 #[140, 209, 234, 247, 272, 321, 398, 423, 460, 485, 522, 603, 628, 696, 769, 794, 847, 884, 933, 982, 1031, 1092, 1141, 1154, 1179, 1204, 1241, 1278, 1334, 1347, 1372], 140) := by decide +kernel
