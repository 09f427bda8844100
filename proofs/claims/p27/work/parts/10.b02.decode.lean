theorem dL_law_1148 : decode cL_law 1148 = .ok (.iadd, 1) := by decide +kernel
theorem dL_law_1149 : decode cL_law 1149 = .ok (.iaload, 1) := by decide +kernel
theorem dL_law_1150 : decode cL_law 1150 = .ok (.invokevirtual 144, 3) := by decide +kernel
theorem dL_law_1153 : decode cL_law 1153 = .ok (.pop, 1) := by decide +kernel
theorem dL_law_1154 : decode cL_law 1154 = .ok (.goto 3, 3) := by decide +kernel
theorem dL_law_1157 : decode cL_law 1157 = .ok (.iinc 3 6, 3) := by decide +kernel
theorem dL_law_1160 : decode cL_law 1160 = .ok (.goto (-1142), 3) := by decide +kernel
theorem dL_law_1163 : decode cL_law 1163 = .ok (.iconst 1, 1) := by decide +kernel
theorem dL_law_1164 : decode cL_law 1164 = .ok (.ireturn, 1) := by decide +kernel
