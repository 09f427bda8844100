theorem dX12_council_22 : decode cX12_council 22 = .ok (.istore_n 1, 1) := by decide +kernel
theorem dX12_council_23 : decode cX12_council 23 = .ok (.iload_n 1, 1) := by decide +kernel
theorem dX12_council_24 : decode cX12_council 24 = .ok (.bipush 10, 2) := by decide +kernel
theorem dX12_council_26 : decode cX12_council 26 = .ok (.if_icmp .ge 23, 3) := by decide +kernel
theorem dX12_council_29 : decode cX12_council 29 = .ok (.aload_n 0, 1) := by decide +kernel
theorem dX12_council_30 : decode cX12_council 30 = .ok (.getfield 29, 3) := by decide +kernel
theorem dX12_council_33 : decode cX12_council 33 = .ok (.iload_n 1, 1) := by decide +kernel
theorem dX12_council_34 : decode cX12_council 34 = .ok (.iconst 1, 1) := by decide +kernel
theorem dX12_council_35 : decode cX12_council 35 = .ok (.iastore, 1) := by decide +kernel
theorem dX12_council_36 : decode cX12_council 36 = .ok (.aload_n 0, 1) := by decide +kernel
theorem dX12_council_37 : decode cX12_council 37 = .ok (.getfield 32, 3) := by decide +kernel
theorem dX12_council_40 : decode cX12_council 40 = .ok (.iload_n 1, 1) := by decide +kernel
theorem dX12_council_41 : decode cX12_council 41 = .ok (.iconst (-1), 1) := by decide +kernel
theorem dX12_council_42 : decode cX12_council 42 = .ok (.iastore, 1) := by decide +kernel
theorem dX12_council_43 : decode cX12_council 43 = .ok (.iinc 1 1, 3) := by decide +kernel
theorem dX12_council_46 : decode cX12_council 46 = .ok (.goto (-23), 3) := by decide +kernel
theorem dX12_council_49 : decode cX12_council 49 = .ok (.aload_n 0, 1) := by decide +kernel
theorem dX12_council_50 : decode cX12_council 50 = .ok (.invokevirtual 301, 3) := by decide +kernel
theorem dX12_council_53 : decode cX12_council 53 = .ok (.ifCond .ne 11, 3) := by decide +kernel
theorem dX12_council_56 : decode cX12_council 56 = .ok (.bipush (-2), 2) := by decide +kernel
theorem dX12_council_58 : decode cX12_council 58 = .ok (.aload_n 0, 1) := by decide +kernel
theorem dX12_council_59 : decode cX12_council 59 = .ok (.getfield 124, 3) := by decide +kernel
theorem dX12_council_62 : decode cX12_council 62 = .ok (.isub, 1) := by decide +kernel
theorem dX12_council_63 : decode cX12_council 63 = .ok (.ireturn, 1) := by decide +kernel
theorem dX12_council_64 : decode cX12_council 64 = .ok (.aload_n 0, 1) := by decide +kernel
theorem dX12_council_65 : decode cX12_council 65 = .ok (.getfield 45, 3) := by decide +kernel
theorem dX12_council_68 : decode cX12_council 68 = .ok (.bipush 6, 2) := by decide +kernel
theorem dX12_council_70 : decode cX12_council 70 = .ok (.iaload, 1) := by decide +kernel
theorem dX12_council_71 : decode cX12_council 71 = .ok (.istore_n 1, 1) := by decide +kernel
theorem dX12_council_72 : decode cX12_council 72 = .ok (.iconst 0, 1) := by decide +kernel
theorem dX12_council_73 : decode cX12_council 73 = .ok (.istore_n 2, 1) := by decide +kernel
theorem dX12_council_74 : decode cX12_council 74 = .ok (.iload_n 2, 1) := by decide +kernel
theorem dX12_council_75 : decode cX12_council 75 = .ok (.sipush 226, 3) := by decide +kernel
theorem dX12_council_78 : decode cX12_council 78 = .ok (.if_icmp .ge 16, 3) := by decide +kernel
theorem dX12_council_81 : decode cX12_council 81 = .ok (.aload_n 0, 1) := by decide +kernel
theorem dX12_council_82 : decode cX12_council 82 = .ok (.getfield 45, 3) := by decide +kernel
theorem dX12_council_85 : decode cX12_council 85 = .ok (.iload_n 2, 1) := by decide +kernel
theorem dX12_council_86 : decode cX12_council 86 = .ok (.iconst 0, 1) := by decide +kernel
theorem dX12_council_87 : decode cX12_council 87 = .ok (.iastore, 1) := by decide +kernel
theorem dX12_council_88 : decode cX12_council 88 = .ok (.iinc 2 1, 3) := by decide +kernel
theorem dX12_council_91 : decode cX12_council 91 = .ok (.goto (-17), 3) := by decide +kernel
theorem dX12_council_94 : decode cX12_council 94 = .ok (.aload_n 0, 1) := by decide +kernel
theorem dX12_council_95 : decode cX12_council 95 = .ok (.getfield 45, 3) := by decide +kernel
theorem dX12_council_98 : decode cX12_council 98 = .ok (.iconst 0, 1) := by decide +kernel
theorem dX12_council_99 : decode cX12_council 99 = .ok (.aload_n 0, 1) := by decide +kernel
theorem dX12_council_100 : decode cX12_council 100 = .ok (.getfield 251, 3) := by decide +kernel
theorem dX12_council_103 : decode cX12_council 103 = .ok (.iastore, 1) := by decide +kernel
theorem dX12_council_104 : decode cX12_council 104 = .ok (.aload_n 0, 1) := by decide +kernel
theorem dX12_council_105 : decode cX12_council 105 = .ok (.getfield 45, 3) := by decide +kernel
theorem dX12_council_108 : decode cX12_council 108 = .ok (.iconst 1, 1) := by decide +kernel
theorem dX12_council_109 : decode cX12_council 109 = .ok (.aload_n 0, 1) := by decide +kernel
theorem dX12_council_110 : decode cX12_council 110 = .ok (.getfield 254, 3) := by decide +kernel
theorem dX12_council_113 : decode cX12_council 113 = .ok (.iastore, 1) := by decide +kernel
theorem dX12_council_114 : decode cX12_council 114 = .ok (.aload_n 0, 1) := by decide +kernel
theorem dX12_council_115 : decode cX12_council 115 = .ok (.getfield 45, 3) := by decide +kernel
theorem dX12_council_118 : decode cX12_council 118 = .ok (.iconst 2, 1) := by decide +kernel
theorem dX12_council_119 : decode cX12_council 119 = .ok (.iconst 1, 1) := by decide +kernel
theorem dX12_council_120 : decode cX12_council 120 = .ok (.aload_n 0, 1) := by decide +kernel
theorem dX12_council_121 : decode cX12_council 121 = .ok (.getfield 251, 3) := by decide +kernel
theorem dX12_council_124 : decode cX12_council 124 = .ok (.ishl, 1) := by decide +kernel
theorem dX12_council_125 : decode cX12_council 125 = .ok (.iconst 1, 1) := by decide +kernel
theorem dX12_council_126 : decode cX12_council 126 = .ok (.isub, 1) := by decide +kernel
theorem dX12_council_127 : decode cX12_council 127 = .ok (.iastore, 1) := by decide +kernel
theorem dX12_council_128 : decode cX12_council 128 = .ok (.aload_n 0, 1) := by decide +kernel
theorem dX12_council_129 : decode cX12_council 129 = .ok (.getfield 45, 3) := by decide +kernel
theorem dX12_council_132 : decode cX12_council 132 = .ok (.bipush 6, 2) := by decide +kernel
theorem dX12_council_134 : decode cX12_council 134 = .ok (.iload_n 1, 1) := by decide +kernel
theorem dX12_council_135 : decode cX12_council 135 = .ok (.iastore, 1) := by decide +kernel
theorem dX12_council_136 : decode cX12_council 136 = .ok (.aload_n 0, 1) := by decide +kernel
theorem dX12_council_137 : decode cX12_council 137 = .ok (.getfield 45, 3) := by decide +kernel
theorem dX12_council_140 : decode cX12_council 140 = .ok (.bipush 8, 2) := by decide +kernel
theorem dX12_council_142 : decode cX12_council 142 = .ok (.sipush 9999, 3) := by decide +kernel
theorem dX12_council_145 : decode cX12_council 145 = .ok (.iastore, 1) := by decide +kernel
theorem dX12_council_146 : decode cX12_council 146 = .ok (.iconst 0, 1) := by decide +kernel
theorem dX12_council_147 : decode cX12_council 147 = .ok (.istore_n 2, 1) := by decide +kernel
theorem dX12_council_148 : decode cX12_council 148 = .ok (.iload_n 2, 1) := by decide +kernel
theorem dX12_council_149 : decode cX12_council 149 = .ok (.aload_n 0, 1) := by decide +kernel
theorem dX12_council_150 : decode cX12_council 150 = .ok (.getfield 251, 3) := by decide +kernel
theorem dX12_council_153 : decode cX12_council 153 = .ok (.if_icmp .ge 39, 3) := by decide +kernel
theorem dX12_council_156 : decode cX12_council 156 = .ok (.aload_n 0, 1) := by decide +kernel
theorem dX12_council_157 : decode cX12_council 157 = .ok (.getfield 45, 3) := by decide +kernel
theorem dX12_council_160 : decode cX12_council 160 = .ok (.bipush 10, 2) := by decide +kernel
theorem dX12_council_162 : decode cX12_council 162 = .ok (.iload_n 2, 1) := by decide +kernel
theorem dX12_council_163 : decode cX12_council 163 = .ok (.iadd, 1) := by decide +kernel
theorem dX12_council_164 : decode cX12_council 164 = .ok (.aload_n 0, 1) := by decide +kernel
theorem dX12_council_165 : decode cX12_council 165 = .ok (.getfield 29, 3) := by decide +kernel
theorem dX12_council_168 : decode cX12_council 168 = .ok (.iload_n 2, 1) := by decide +kernel
theorem dX12_council_169 : decode cX12_council 169 = .ok (.iaload, 1) := by decide +kernel
theorem dX12_council_170 : decode cX12_council 170 = .ok (.iastore, 1) := by decide +kernel
theorem dX12_council_171 : decode cX12_council 171 = .ok (.aload_n 0, 1) := by decide +kernel
theorem dX12_council_172 : decode cX12_council 172 = .ok (.getfield 45, 3) := by decide +kernel
theorem dX12_council_175 : decode cX12_council 175 = .ok (.bipush 20, 2) := by decide +kernel
theorem dX12_council_177 : decode cX12_council 177 = .ok (.iload_n 2, 1) := by decide +kernel
theorem dX12_council_178 : decode cX12_council 178 = .ok (.iadd, 1) := by decide +kernel
theorem dX12_council_179 : decode cX12_council 179 = .ok (.aload_n 0, 1) := by decide +kernel
theorem dX12_council_180 : decode cX12_council 180 = .ok (.getfield 32, 3) := by decide +kernel
theorem dX12_council_183 : decode cX12_council 183 = .ok (.iload_n 2, 1) := by decide +kernel
theorem dX12_council_184 : decode cX12_council 184 = .ok (.iaload, 1) := by decide +kernel
theorem dX12_council_185 : decode cX12_council 185 = .ok (.iastore, 1) := by decide +kernel
theorem dX12_council_186 : decode cX12_council 186 = .ok (.iinc 2 1, 3) := by decide +kernel
theorem dX12_council_189 : decode cX12_council 189 = .ok (.goto (-41), 3) := by decide +kernel
theorem dX12_council_192 : decode cX12_council 192 = .ok (.iconst 0, 1) := by decide +kernel
theorem dX12_council_193 : decode cX12_council 193 = .ok (.istore_n 2, 1) := by decide +kernel
theorem dX12_council_194 : decode cX12_council 194 = .ok (.iload_n 2, 1) := by decide +kernel
theorem dX12_council_195 : decode cX12_council 195 = .ok (.bipush 10, 2) := by decide +kernel
theorem dX12_council_197 : decode cX12_council 197 = .ok (.aload_n 0, 1) := by decide +kernel
theorem dX12_council_198 : decode cX12_council 198 = .ok (.getfield 254, 3) := by decide +kernel
theorem dX12_council_201 : decode cX12_council 201 = .ok (.imul, 1) := by decide +kernel
theorem dX12_council_202 : decode cX12_council 202 = .ok (.if_icmp .ge 24, 3) := by decide +kernel
theorem dX12_council_205 : decode cX12_council 205 = .ok (.aload_n 0, 1) := by decide +kernel
theorem dX12_council_206 : decode cX12_council 206 = .ok (.getfield 45, 3) := by decide +kernel
theorem dX12_council_209 : decode cX12_council 209 = .ok (.bipush 50, 2) := by decide +kernel
theorem dX12_council_211 : decode cX12_council 211 = .ok (.iload_n 2, 1) := by decide +kernel
theorem dX12_council_212 : decode cX12_council 212 = .ok (.iadd, 1) := by decide +kernel
theorem dX12_council_213 : decode cX12_council 213 = .ok (.aload_n 0, 1) := by decide +kernel
theorem dX12_council_214 : decode cX12_council 214 = .ok (.getfield 26, 3) := by decide +kernel
theorem dX12_council_217 : decode cX12_council 217 = .ok (.iload_n 2, 1) := by decide +kernel
theorem dX12_council_218 : decode cX12_council 218 = .ok (.iaload, 1) := by decide +kernel
theorem dX12_council_219 : decode cX12_council 219 = .ok (.iastore, 1) := by decide +kernel
theorem dX12_council_220 : decode cX12_council 220 = .ok (.iinc 2 1, 3) := by decide +kernel
theorem dX12_council_223 : decode cX12_council 223 = .ok (.goto (-29), 3) := by decide +kernel
theorem dX12_council_226 : decode cX12_council 226 = .ok (.aload_n 0, 1) := by decide +kernel
theorem dX12_council_227 : decode cX12_council 227 = .ok (.getfield 251, 3) := by decide +kernel
theorem dX12_council_230 : decode cX12_council 230 = .ok (.ireturn, 1) := by decide +kernel
theorem dX12_councilLineHere_0 : decode cX12_councilLineHere 0 = .ok (.aload_n 0, 1) := by decide +kernel
theorem dX12_councilLineHere_1 : decode cX12_councilLineHere 1 = .ok (.ldc2_w 264, 3) := by decide +kernel
theorem dX12_councilLineHere_4 : decode cX12_councilLineHere 4 = .ok (.invokevirtual 138, 3) := by decide +kernel
theorem dX12_councilLineHere_7 : decode cX12_councilLineHere 7 = .ok (.ifCond .eq 9, 3) := by decide +kernel
theorem dX12_councilLineHere_10 : decode cX12_councilLineHere 10 = .ok (.aload_n 0, 1) := by decide +kernel
theorem dX12_councilLineHere_11 : decode cX12_councilLineHere 11 = .ok (.iload_n 1, 1) := by decide +kernel
theorem dX12_councilLineHere_12 : decode cX12_councilLineHere 12 = .ok (.invokevirtual 266, 3) := by decide +kernel
theorem dX12_councilLineHere_15 : decode cX12_councilLineHere 15 = .ok (.ireturn, 1) := by decide +kernel
theorem dX12_councilLineHere_16 : decode cX12_councilLineHere 16 = .ok (.aload_n 0, 1) := by decide +kernel
theorem dX12_councilLineHere_17 : decode cX12_councilLineHere 17 = .ok (.getfield 251, 3) := by decide +kernel
theorem dX12_councilLineHere_20 : decode cX12_councilLineHere 20 = .ok (.ifCond .ne 10, 3) := by decide +kernel
theorem dX12_councilLineHere_23 : decode cX12_councilLineHere 23 = .ok (.aload_n 0, 1) := by decide +kernel
theorem dX12_councilLineHere_24 : decode cX12_councilLineHere 24 = .ok (.iconst 4, 1) := by decide +kernel
theorem dX12_councilLineHere_25 : decode cX12_councilLineHere 25 = .ok (.iload_n 1, 1) := by decide +kernel
theorem dX12_councilLineHere_26 : decode cX12_councilLineHere 26 = .ok (.invokevirtual 148, 3) := by decide +kernel
theorem dX12_councilLineHere_29 : decode cX12_councilLineHere 29 = .ok (.ireturn, 1) := by decide +kernel
theorem dX12_councilLineHere_30 : decode cX12_councilLineHere 30 = .ok (.aload_n 0, 1) := by decide +kernel
theorem dX12_councilLineHere_31 : decode cX12_councilLineHere 31 = .ok (.ldc2_w 161, 3) := by decide +kernel
theorem dX12_councilLineHere_34 : decode cX12_councilLineHere 34 = .ok (.invokevirtual 138, 3) := by decide +kernel
theorem dX12_councilLineHere_37 : decode cX12_councilLineHere 37 = .ok (.ifCond .eq 11, 3) := by decide +kernel
theorem dX12_councilLineHere_40 : decode cX12_councilLineHere 40 = .ok (.aload_n 0, 1) := by decide +kernel
theorem dX12_councilLineHere_41 : decode cX12_councilLineHere 41 = .ok (.iload_n 1, 1) := by decide +kernel
theorem dX12_councilLineHere_42 : decode cX12_councilLineHere 42 = .ok (.invokevirtual 269, 3) := by decide +kernel
theorem dX12_councilLineHere_45 : decode cX12_councilLineHere 45 = .ok (.goto 25, 3) := by decide +kernel
theorem dX12_councilLineHere_48 : decode cX12_councilLineHere 48 = .ok (.aload_n 0, 1) := by decide +kernel
theorem dX12_councilLineHere_49 : decode cX12_councilLineHere 49 = .ok (.ldc2_w 165, 3) := by decide +kernel
theorem dX12_councilLineHere_52 : decode cX12_councilLineHere 52 = .ok (.invokevirtual 138, 3) := by decide +kernel
theorem dX12_councilLineHere_55 : decode cX12_councilLineHere 55 = .ok (.ifCond .eq 11, 3) := by decide +kernel
theorem dX12_councilLineHere_58 : decode cX12_councilLineHere 58 = .ok (.aload_n 0, 1) := by decide +kernel
theorem dX12_councilLineHere_59 : decode cX12_councilLineHere 59 = .ok (.iload_n 1, 1) := by decide +kernel
theorem dX12_councilLineHere_60 : decode cX12_councilLineHere 60 = .ok (.invokevirtual 272, 3) := by decide +kernel
theorem dX12_councilLineHere_63 : decode cX12_councilLineHere 63 = .ok (.goto 7, 3) := by decide +kernel
theorem dX12_councilLineHere_66 : decode cX12_councilLineHere 66 = .ok (.aload_n 0, 1) := by decide +kernel
theorem dX12_councilLineHere_67 : decode cX12_councilLineHere 67 = .ok (.invokevirtual 275, 3) := by decide +kernel
theorem dX12_councilLineHere_70 : decode cX12_councilLineHere 70 = .ok (.ireturn, 1) := by decide +kernel
theorem dX12_count_0 : decode cX12_count 0 = .ok (.iconst 0, 1) := by decide +kernel
theorem dX12_count_1 : decode cX12_count 1 = .ok (.istore_n 2, 1) := by decide +kernel
theorem dX12_count_2 : decode cX12_count 2 = .ok (.iload_n 1, 1) := by decide +kernel
theorem dX12_count_3 : decode cX12_count 3 = .ok (.tableswitch 175 0 11 #[61, 61, 68, 73, 83, 132, 139, 146, 153, 161, 166, 166], 61) := by decide +kernel
theorem dX12_count_64 : decode cX12_count 64 = .ok (.aload_n 0, 1) := by decide +kernel
theorem dX12_count_65 : decode cX12_count 65 = .ok (.getfield 45, 3) := by decide +kernel
theorem dX12_count_68 : decode cX12_count 68 = .ok (.iload_n 1, 1) := by decide +kernel
theorem dX12_count_69 : decode cX12_count 69 = .ok (.iaload, 1) := by decide +kernel
theorem dX12_count_70 : decode cX12_count 70 = .ok (.ireturn, 1) := by decide +kernel
theorem dX12_count_71 : decode cX12_count 71 = .ok (.aload_n 0, 1) := by decide +kernel
theorem dX12_count_72 : decode cX12_count 72 = .ok (.getfield 298, 3) := by decide +kernel
theorem dX12_count_75 : decode cX12_count 75 = .ok (.ireturn, 1) := by decide +kernel
theorem dX12_count_76 : decode cX12_count 76 = .ok (.aload_n 0, 1) := by decide +kernel
theorem dX12_count_77 : decode cX12_count 77 = .ok (.getfield 45, 3) := by decide +kernel
theorem dX12_count_80 : decode cX12_count 80 = .ok (.iconst 2, 1) := by decide +kernel
theorem dX12_count_81 : decode cX12_count 81 = .ok (.iaload, 1) := by decide +kernel
theorem dX12_count_82 : decode cX12_count 82 = .ok (.invokestatic 341, 3) := by decide +kernel
theorem dX12_count_85 : decode cX12_count 85 = .ok (.ireturn, 1) := by decide +kernel
theorem dX12_count_86 : decode cX12_count 86 = .ok (.iconst 0, 1) := by decide +kernel
theorem dX12_count_87 : decode cX12_count 87 = .ok (.istore_n 3, 1) := by decide +kernel
theorem dX12_count_88 : decode cX12_count 88 = .ok (.iload_n 3, 1) := by decide +kernel
theorem dX12_count_89 : decode cX12_count 89 = .ok (.aload_n 0, 1) := by decide +kernel
theorem dX12_count_90 : decode cX12_count 90 = .ok (.getfield 45, 3) := by decide +kernel
theorem dX12_count_93 : decode cX12_count 93 = .ok (.iconst 0, 1) := by decide +kernel
theorem dX12_count_94 : decode cX12_count 94 = .ok (.iaload, 1) := by decide +kernel
theorem dX12_count_95 : decode cX12_count 95 = .ok (.if_icmp .ge 38, 3) := by decide +kernel
theorem dX12_count_98 : decode cX12_count 98 = .ok (.iload_n 2, 1) := by decide +kernel
theorem dX12_count_99 : decode cX12_count 99 = .ok (.aload_n 0, 1) := by decide +kernel
theorem dX12_count_100 : decode cX12_count 100 = .ok (.getfield 45, 3) := by decide +kernel
theorem dX12_count_103 : decode cX12_count 103 = .ok (.iconst 2, 1) := by decide +kernel
theorem dX12_count_104 : decode cX12_count 104 = .ok (.iaload, 1) := by decide +kernel
theorem dX12_count_105 : decode cX12_count 105 = .ok (.iload_n 3, 1) := by decide +kernel
theorem dX12_count_106 : decode cX12_count 106 = .ok (.invokestatic 322, 3) := by decide +kernel
theorem dX12_count_109 : decode cX12_count 109 = .ok (.ifCond .eq 15, 3) := by decide +kernel
theorem dX12_count_112 : decode cX12_count 112 = .ok (.aload_n 0, 1) := by decide +kernel
theorem dX12_count_113 : decode cX12_count 113 = .ok (.getfield 45, 3) := by decide +kernel
theorem dX12_count_116 : decode cX12_count 116 = .ok (.bipush 10, 2) := by decide +kernel
theorem dX12_count_118 : decode cX12_count 118 = .ok (.iload_n 3, 1) := by decide +kernel
theorem dX12_count_119 : decode cX12_count 119 = .ok (.iadd, 1) := by decide +kernel
theorem dX12_count_120 : decode cX12_count 120 = .ok (.iaload, 1) := by decide +kernel
theorem dX12_count_121 : decode cX12_count 121 = .ok (.goto 4, 3) := by decide +kernel
theorem dX12_count_124 : decode cX12_count 124 = .ok (.iconst 0, 1) := by decide +kernel
theorem dX12_count_125 : decode cX12_count 125 = .ok (.iadd, 1) := by decide +kernel
theorem dX12_count_126 : decode cX12_count 126 = .ok (.istore_n 2, 1) := by decide +kernel
theorem dX12_count_127 : decode cX12_count 127 = .ok (.iinc 3 1, 3) := by decide +kernel
theorem dX12_count_130 : decode cX12_count 130 = .ok (.goto (-42), 3) := by decide +kernel
theorem dX12_count_133 : decode cX12_count 133 = .ok (.iload_n 2, 1) := by decide +kernel
theorem dX12_count_134 : decode cX12_count 134 = .ok (.ireturn, 1) := by decide +kernel
theorem dX12_count_135 : decode cX12_count 135 = .ok (.aload_n 0, 1) := by decide +kernel
theorem dX12_count_136 : decode cX12_count 136 = .ok (.getfield 45, 3) := by decide +kernel
theorem dX12_count_139 : decode cX12_count 139 = .ok (.iconst 3, 1) := by decide +kernel
theorem dX12_count_140 : decode cX12_count 140 = .ok (.iaload, 1) := by decide +kernel
theorem dX12_count_141 : decode cX12_count 141 = .ok (.ireturn, 1) := by decide +kernel
theorem dX12_count_142 : decode cX12_count 142 = .ok (.aload_n 0, 1) := by decide +kernel
theorem dX12_count_143 : decode cX12_count 143 = .ok (.getfield 45, 3) := by decide +kernel
theorem dX12_count_146 : decode cX12_count 146 = .ok (.iconst 4, 1) := by decide +kernel
theorem dX12_count_147 : decode cX12_count 147 = .ok (.iaload, 1) := by decide +kernel
theorem dX12_count_148 : decode cX12_count 148 = .ok (.ireturn, 1) := by decide +kernel
theorem dX12_count_149 : decode cX12_count 149 = .ok (.aload_n 0, 1) := by decide +kernel
theorem dX12_count_150 : decode cX12_count 150 = .ok (.getfield 45, 3) := by decide +kernel
theorem dX12_count_153 : decode cX12_count 153 = .ok (.iconst 5, 1) := by decide +kernel
theorem dX12_count_154 : decode cX12_count 154 = .ok (.iaload, 1) := by decide +kernel
theorem dX12_count_155 : decode cX12_count 155 = .ok (.ireturn, 1) := by decide +kernel
theorem dX12_count_156 : decode cX12_count 156 = .ok (.aload_n 0, 1) := by decide +kernel
theorem dX12_count_157 : decode cX12_count 157 = .ok (.getfield 45, 3) := by decide +kernel
theorem dX12_count_160 : decode cX12_count 160 = .ok (.bipush 6, 2) := by decide +kernel
theorem dX12_count_162 : decode cX12_count 162 = .ok (.iaload, 1) := by decide +kernel
theorem dX12_count_163 : decode cX12_count 163 = .ok (.ireturn, 1) := by decide +kernel
theorem dX12_count_164 : decode cX12_count 164 = .ok (.aload_n 0, 1) := by decide +kernel
theorem dX12_count_165 : decode cX12_count 165 = .ok (.getfield 116, 3) := by decide +kernel
theorem dX12_count_168 : decode cX12_count 168 = .ok (.ireturn, 1) := by decide +kernel
theorem dX12_count_169 : decode cX12_count 169 = .ok (.aload_n 0, 1) := by decide +kernel
theorem dX12_count_170 : decode cX12_count 170 = .ok (.getfield 45, 3) := by decide +kernel
theorem dX12_count_173 : decode cX12_count 173 = .ok (.iload_n 1, 1) := by decide +kernel
theorem dX12_count_174 : decode cX12_count 174 = .ok (.iconst 3, 1) := by decide +kernel
theorem dX12_count_175 : decode cX12_count 175 = .ok (.isub, 1) := by decide +kernel
theorem dX12_count_176 : decode cX12_count 176 = .ok (.iaload, 1) := by decide +kernel
theorem dX12_count_177 : decode cX12_count 177 = .ok (.ireturn, 1) := by decide +kernel
theorem dX12_count_178 : decode cX12_count 178 = .ok (.iconst (-1), 1) := by decide +kernel
theorem dX12_count_179 : decode cX12_count 179 = .ok (.ireturn, 1) := by decide +kernel
theorem dX12_counts_0 : decode cX12_counts 0 = .ok (.iload_n 3, 1) := by decide +kernel
theorem dX12_counts_1 : decode cX12_counts 1 = .ok (.iconst 1, 1) := by decide +kernel
theorem dX12_counts_2 : decode cX12_counts 2 = .ok (.if_icmp .eq 4, 3) := by decide +kernel
theorem dX12_counts_5 : decode cX12_counts 5 = .ok (.return_, 1) := by decide +kernel
theorem dX12_counts_6 : decode cX12_counts 6 = .ok (.aload_n 0, 1) := by decide +kernel
theorem dX12_counts_7 : decode cX12_counts 7 = .ok (.dup, 1) := by decide +kernel
theorem dX12_counts_8 : decode cX12_counts 8 = .ok (.getfield 407, 3) := by decide +kernel
theorem dX12_counts_11 : decode cX12_counts 11 = .ok (.iconst 1, 1) := by decide +kernel
theorem dX12_counts_12 : decode cX12_counts 12 = .ok (.iadd, 1) := by decide +kernel
theorem dX12_counts_13 : decode cX12_counts 13 = .ok (.putfield 407, 3) := by decide +kernel
theorem dX12_counts_16 : decode cX12_counts 16 = .ok (.aload_n 0, 1) := by decide +kernel
theorem dX12_counts_17 : decode cX12_counts 17 = .ok (.dup, 1) := by decide +kernel
theorem dX12_counts_18 : decode cX12_counts 18 = .ok (.getfield 410, 3) := by decide +kernel
theorem dX12_counts_21 : decode cX12_counts 21 = .ok (.aload_n 0, 1) := by decide +kernel
theorem dX12_counts_22 : decode cX12_counts 22 = .ok (.iload_n 1, 1) := by decide +kernel
theorem dX12_counts_23 : decode cX12_counts 23 = .ok (.iload_n 2, 1) := by decide +kernel
theorem dX12_counts_24 : decode cX12_counts 24 = .ok (.invokevirtual 330, 3) := by decide +kernel
theorem dX12_counts_27 : decode cX12_counts 27 = .ok (.iadd, 1) := by decide +kernel
theorem dX12_counts_28 : decode cX12_counts 28 = .ok (.putfield 410, 3) := by decide +kernel
theorem dX12_counts_31 : decode cX12_counts 31 = .ok (.return_, 1) := by decide +kernel
theorem dX12_day_0 : decode cX12_day 0 = .ok (.aload_n 0, 1) := by decide +kernel
theorem dX12_day_1 : decode cX12_day 1 = .ok (.getfield 45, 3) := by decide +kernel
theorem dX12_day_4 : decode cX12_day 4 = .ok (.iconst 0, 1) := by decide +kernel
theorem dX12_day_5 : decode cX12_day 5 = .ok (.iaload, 1) := by decide +kernel
theorem dX12_day_6 : decode cX12_day 6 = .ok (.ifCond .ne 9, 3) := by decide +kernel
theorem dX12_day_9 : decode cX12_day 9 = .ok (.aload_n 0, 1) := by decide +kernel
theorem dX12_day_10 : decode cX12_day 10 = .ok (.iconst 0, 1) := by decide +kernel
theorem dX12_day_11 : decode cX12_day 11 = .ok (.invokevirtual 338, 3) := by decide +kernel
theorem dX12_day_14 : decode cX12_day 14 = .ok (.ireturn, 1) := by decide +kernel
theorem dX12_day_15 : decode cX12_day 15 = .ok (.aload_n 0, 1) := by decide +kernel
theorem dX12_day_16 : decode cX12_day 16 = .ok (.invokevirtual 393, 3) := by decide +kernel
theorem dX12_day_19 : decode cX12_day 19 = .ok (.aload_n 0, 1) := by decide +kernel
theorem dX12_day_20 : decode cX12_day 20 = .ok (.iconst 0, 1) := by decide +kernel
theorem dX12_day_21 : decode cX12_day 21 = .ok (.putfield 407, 3) := by decide +kernel
theorem dX12_day_24 : decode cX12_day 24 = .ok (.aload_n 0, 1) := by decide +kernel
theorem dX12_day_25 : decode cX12_day 25 = .ok (.iconst 0, 1) := by decide +kernel
theorem dX12_day_26 : decode cX12_day 26 = .ok (.invokevirtual 417, 3) := by decide +kernel
theorem dX12_day_29 : decode cX12_day 29 = .ok (.aload_n 0, 1) := by decide +kernel
theorem dX12_day_30 : decode cX12_day 30 = .ok (.invokevirtual 401, 3) := by decide +kernel
theorem dX12_day_33 : decode cX12_day 33 = .ok (.aload_n 0, 1) := by decide +kernel
theorem dX12_day_34 : decode cX12_day 34 = .ok (.getfield 407, 3) := by decide +kernel
theorem dX12_day_37 : decode cX12_day 37 = .ok (.ireturn, 1) := by decide +kernel
theorem dX12_end_0 : decode cX12_end 0 = .ok (.iload_n 1, 1) := by decide +kernel
theorem dX12_end_1 : decode cX12_end 1 = .ok (.ifCond .lt 11, 3) := by decide +kernel
theorem dX12_end_4 : decode cX12_end 4 = .ok (.iload_n 1, 1) := by decide +kernel
theorem dX12_end_5 : decode cX12_end 5 = .ok (.aload_n 0, 1) := by decide +kernel
theorem dX12_end_6 : decode cX12_end 6 = .ok (.getfield 116, 3) := by decide +kernel
theorem dX12_end_9 : decode cX12_end 9 = .ok (.if_icmp .le 5, 3) := by decide +kernel
theorem dX12_end_12 : decode cX12_end 12 = .ok (.iconst (-1), 1) := by decide +kernel
theorem dX12_end_13 : decode cX12_end 13 = .ok (.ireturn, 1) := by decide +kernel
theorem dX12_end_14 : decode cX12_end 14 = .ok (.aload_n 0, 1) := by decide +kernel
theorem dX12_end_15 : decode cX12_end 15 = .ok (.iload_n 1, 1) := by decide +kernel
theorem dX12_end_16 : decode cX12_end 16 = .ok (.putfield 116, 3) := by decide +kernel
theorem dX12_end_19 : decode cX12_end 19 = .ok (.iload_n 1, 1) := by decide +kernel
theorem dX12_end_20 : decode cX12_end 20 = .ok (.ireturn, 1) := by decide +kernel
theorem dX12_entry_0 : decode cX12_entry 0 = .ok (.iload_n 1, 1) := by decide +kernel
theorem dX12_entry_1 : decode cX12_entry 1 = .ok (.iconst (-1), 1) := by decide +kernel
theorem dX12_entry_2 : decode cX12_entry 2 = .ok (.if_icmp .ne 12, 3) := by decide +kernel
theorem dX12_entry_5 : decode cX12_entry 5 = .ok (.aload_n 0, 1) := by decide +kernel
theorem dX12_entry_6 : decode cX12_entry 6 = .ok (.getfield 45, 3) := by decide +kernel
theorem dX12_entry_9 : decode cX12_entry 9 = .ok (.iconst 5, 1) := by decide +kernel
theorem dX12_entry_10 : decode cX12_entry 10 = .ok (.iconst 0, 1) := by decide +kernel
theorem dX12_entry_11 : decode cX12_entry 11 = .ok (.iastore, 1) := by decide +kernel
theorem dX12_entry_12 : decode cX12_entry 12 = .ok (.iconst 0, 1) := by decide +kernel
theorem dX12_entry_13 : decode cX12_entry 13 = .ok (.ireturn, 1) := by decide +kernel
theorem dX12_entry_14 : decode cX12_entry 14 = .ok (.aload_n 0, 1) := by decide +kernel
theorem dX12_entry_15 : decode cX12_entry 15 = .ok (.getfield 45, 3) := by decide +kernel
theorem dX12_entry_18 : decode cX12_entry 18 = .ok (.iconst 0, 1) := by decide +kernel
theorem dX12_entry_19 : decode cX12_entry 19 = .ok (.iaload, 1) := by decide +kernel
theorem dX12_entry_20 : decode cX12_entry 20 = .ok (.ifCond .eq 50, 3) := by decide +kernel
theorem dX12_entry_23 : decode cX12_entry 23 = .ok (.aload_n 0, 1) := by decide +kernel
theorem dX12_entry_24 : decode cX12_entry 24 = .ok (.iload_n 1, 1) := by decide +kernel
theorem dX12_entry_25 : decode cX12_entry 25 = .ok (.invokevirtual 404, 3) := by decide +kernel
theorem dX12_entry_28 : decode cX12_entry 28 = .ok (.ifCond .eq 42, 3) := by decide +kernel
theorem dX12_entry_31 : decode cX12_entry 31 = .ok (.aload_n 0, 1) := by decide +kernel
theorem dX12_entry_32 : decode cX12_entry 32 = .ok (.iload_n 2, 1) := by decide +kernel
theorem dX12_entry_33 : decode cX12_entry 33 = .ok (.invokevirtual 404, 3) := by decide +kernel
theorem dX12_entry_36 : decode cX12_entry 36 = .ok (.ifCond .eq 34, 3) := by decide +kernel
theorem dX12_entry_39 : decode cX12_entry 39 = .ok (.iload_n 1, 1) := by decide +kernel
theorem dX12_entry_40 : decode cX12_entry 40 = .ok (.iload_n 2, 1) := by decide +kernel
theorem dX12_entry_41 : decode cX12_entry 41 = .ok (.iand, 1) := by decide +kernel
theorem dX12_entry_42 : decode cX12_entry 42 = .ok (.ifCond .ne 28, 3) := by decide +kernel
theorem dX12_entry_45 : decode cX12_entry 45 = .ok (.iload_n 3, 1) := by decide +kernel
theorem dX12_entry_46 : decode cX12_entry 46 = .ok (.i2l, 1) := by decide +kernel
theorem dX12_entry_47 : decode cX12_entry 47 = .ok (.lconst 0, 1) := by decide +kernel
theorem dX12_entry_48 : decode cX12_entry 48 = .ok (.ldc2_w 484, 3) := by decide +kernel
theorem dX12_entry_51 : decode cX12_entry 51 = .ok (.invokestatic 155, 3) := by decide +kernel
theorem dX12_entry_54 : decode cX12_entry 54 = .ok (.ifCond .eq 16, 3) := by decide +kernel
theorem dX12_entry_57 : decode cX12_entry 57 = .ok (.iload 4, 2) := by decide +kernel
theorem dX12_entry_59 : decode cX12_entry 59 = .ok (.i2l, 1) := by decide +kernel
theorem dX12_entry_60 : decode cX12_entry 60 = .ok (.lconst 0, 1) := by decide +kernel
theorem dX12_entry_61 : decode cX12_entry 61 = .ok (.ldc2_w 484, 3) := by decide +kernel
theorem dX12_entry_64 : decode cX12_entry 64 = .ok (.invokestatic 155, 3) := by decide +kernel
theorem dX12_entry_67 : decode cX12_entry 67 = .ok (.ifCond .ne 9, 3) := by decide +kernel
theorem dX12_entry_70 : decode cX12_entry 70 = .ok (.aload_n 0, 1) := by decide +kernel
theorem dX12_entry_71 : decode cX12_entry 71 = .ok (.iconst 0, 1) := by decide +kernel
theorem dX12_entry_72 : decode cX12_entry 72 = .ok (.invokevirtual 338, 3) := by decide +kernel
theorem dX12_entry_75 : decode cX12_entry 75 = .ok (.ireturn, 1) := by decide +kernel
theorem dX12_entry_76 : decode cX12_entry 76 = .ok (.aload_n 0, 1) := by decide +kernel
theorem dX12_entry_77 : decode cX12_entry 77 = .ok (.getfield 45, 3) := by decide +kernel
theorem dX12_entry_80 : decode cX12_entry 80 = .ok (.iconst 5, 1) := by decide +kernel
theorem dX12_entry_81 : decode cX12_entry 81 = .ok (.iaload, 1) := by decide +kernel
theorem dX12_entry_82 : decode cX12_entry 82 = .ok (.bipush 12, 2) := by decide +kernel
theorem dX12_entry_84 : decode cX12_entry 84 = .ok (.if_icmp .ne 9, 3) := by decide +kernel
theorem dX12_entry_87 : decode cX12_entry 87 = .ok (.aload_n 0, 1) := by decide +kernel
theorem dX12_entry_88 : decode cX12_entry 88 = .ok (.iconst 1, 1) := by decide +kernel
theorem dX12_entry_89 : decode cX12_entry 89 = .ok (.invokevirtual 338, 3) := by decide +kernel
theorem dX12_entry_92 : decode cX12_entry 92 = .ok (.ireturn, 1) := by decide +kernel
theorem dX12_entry_93 : decode cX12_entry 93 = .ok (.sipush 178, 3) := by decide +kernel
theorem dX12_entry_96 : decode cX12_entry 96 = .ok (.iconst 4, 1) := by decide +kernel
theorem dX12_entry_97 : decode cX12_entry 97 = .ok (.aload_n 0, 1) := by decide +kernel
theorem dX12_entry_98 : decode cX12_entry 98 = .ok (.getfield 45, 3) := by decide +kernel
theorem dX12_entry_101 : decode cX12_entry 101 = .ok (.iconst 5, 1) := by decide +kernel
theorem dX12_entry_102 : decode cX12_entry 102 = .ok (.iaload, 1) := by decide +kernel
theorem dX12_entry_103 : decode cX12_entry 103 = .ok (.imul, 1) := by decide +kernel
theorem dX12_entry_104 : decode cX12_entry 104 = .ok (.iadd, 1) := by decide +kernel
theorem dX12_entry_105 : decode cX12_entry 105 = .ok (.istore 5, 2) := by decide +kernel
theorem dX12_entry_107 : decode cX12_entry 107 = .ok (.aload_n 0, 1) := by decide +kernel
theorem dX12_entry_108 : decode cX12_entry 108 = .ok (.getfield 45, 3) := by decide +kernel
theorem dX12_entry_111 : decode cX12_entry 111 = .ok (.iload 5, 2) := by decide +kernel
theorem dX12_entry_113 : decode cX12_entry 113 = .ok (.iload_n 1, 1) := by decide +kernel
theorem dX12_entry_114 : decode cX12_entry 114 = .ok (.iastore, 1) := by decide +kernel
theorem dX12_entry_115 : decode cX12_entry 115 = .ok (.aload_n 0, 1) := by decide +kernel
theorem dX12_entry_116 : decode cX12_entry 116 = .ok (.getfield 45, 3) := by decide +kernel
theorem dX12_entry_119 : decode cX12_entry 119 = .ok (.iload 5, 2) := by decide +kernel
theorem dX12_entry_121 : decode cX12_entry 121 = .ok (.iconst 1, 1) := by decide +kernel
theorem dX12_entry_122 : decode cX12_entry 122 = .ok (.iadd, 1) := by decide +kernel
theorem dX12_entry_123 : decode cX12_entry 123 = .ok (.iload_n 2, 1) := by decide +kernel
theorem dX12_entry_124 : decode cX12_entry 124 = .ok (.iastore, 1) := by decide +kernel
theorem dX12_entry_125 : decode cX12_entry 125 = .ok (.aload_n 0, 1) := by decide +kernel
theorem dX12_entry_126 : decode cX12_entry 126 = .ok (.getfield 45, 3) := by decide +kernel
theorem dX12_entry_129 : decode cX12_entry 129 = .ok (.iload 5, 2) := by decide +kernel
theorem dX12_entry_131 : decode cX12_entry 131 = .ok (.iconst 2, 1) := by decide +kernel
theorem dX12_entry_132 : decode cX12_entry 132 = .ok (.iadd, 1) := by decide +kernel
theorem dX12_entry_133 : decode cX12_entry 133 = .ok (.iload_n 3, 1) := by decide +kernel
theorem dX12_entry_134 : decode cX12_entry 134 = .ok (.iastore, 1) := by decide +kernel
theorem dX12_entry_135 : decode cX12_entry 135 = .ok (.aload_n 0, 1) := by decide +kernel
theorem dX12_entry_136 : decode cX12_entry 136 = .ok (.getfield 45, 3) := by decide +kernel
theorem dX12_entry_139 : decode cX12_entry 139 = .ok (.iload 5, 2) := by decide +kernel
theorem dX12_entry_141 : decode cX12_entry 141 = .ok (.iconst 3, 1) := by decide +kernel
theorem dX12_entry_142 : decode cX12_entry 142 = .ok (.iadd, 1) := by decide +kernel
theorem dX12_entry_143 : decode cX12_entry 143 = .ok (.iload 4, 2) := by decide +kernel
theorem dX12_entry_145 : decode cX12_entry 145 = .ok (.iastore, 1) := by decide +kernel
theorem dX12_entry_146 : decode cX12_entry 146 = .ok (.aload_n 0, 1) := by decide +kernel
theorem dX12_entry_147 : decode cX12_entry 147 = .ok (.getfield 45, 3) := by decide +kernel
theorem dX12_entry_150 : decode cX12_entry 150 = .ok (.iconst 5, 1) := by decide +kernel
theorem dX12_entry_151 : decode cX12_entry 151 = .ok (.dup2, 1) := by decide +kernel
theorem dX12_entry_152 : decode cX12_entry 152 = .ok (.iaload, 1) := by decide +kernel
theorem dX12_entry_153 : decode cX12_entry 153 = .ok (.iconst 1, 1) := by decide +kernel
theorem dX12_entry_154 : decode cX12_entry 154 = .ok (.iadd, 1) := by decide +kernel
theorem dX12_entry_155 : decode cX12_entry 155 = .ok (.iastore, 1) := by decide +kernel
theorem dX12_entry_156 : decode cX12_entry 156 = .ok (.aload_n 0, 1) := by decide +kernel
theorem dX12_entry_157 : decode cX12_entry 157 = .ok (.getfield 45, 3) := by decide +kernel
theorem dX12_entry_160 : decode cX12_entry 160 = .ok (.iconst 5, 1) := by decide +kernel
theorem dX12_entry_161 : decode cX12_entry 161 = .ok (.iaload, 1) := by decide +kernel
theorem dX12_entry_162 : decode cX12_entry 162 = .ok (.ireturn, 1) := by decide +kernel
theorem dX12_fact_0 : decode cX12_fact 0 = .ok (.iconst 1, 1) := by decide +kernel
theorem dX12_fact_1 : decode cX12_fact 1 = .ok (.istore_n 1, 1) := by decide +kernel
theorem dX12_fact_2 : decode cX12_fact 2 = .ok (.iload_n 1, 1) := by decide +kernel
theorem dX12_fact_3 : decode cX12_fact 3 = .ok (.ifCond .eq 72, 3) := by decide +kernel
theorem dX12_fact_6 : decode cX12_fact 6 = .ok (.iconst 0, 1) := by decide +kernel
theorem dX12_fact_7 : decode cX12_fact 7 = .ok (.istore_n 1, 1) := by decide +kernel
theorem dX12_fact_8 : decode cX12_fact 8 = .ok (.aload_n 0, 1) := by decide +kernel
theorem dX12_fact_9 : decode cX12_fact 9 = .ok (.invokevirtual 130, 3) := by decide +kernel
theorem dX12_fact_12 : decode cX12_fact 12 = .ok (.istore_n 2, 1) := by decide +kernel
theorem dX12_fact_13 : decode cX12_fact 13 = .ok (.aload_n 0, 1) := by decide +kernel
theorem dX12_fact_14 : decode cX12_fact 14 = .ok (.ldc2_w 219, 3) := by decide +kernel
theorem dX12_fact_17 : decode cX12_fact 17 = .ok (.invokevirtual 138, 3) := by decide +kernel
theorem dX12_fact_20 : decode cX12_fact 20 = .ok (.ifCond .eq 23, 3) := by decide +kernel
theorem dX12_fact_23 : decode cX12_fact 23 = .ok (.aload_n 0, 1) := by decide +kernel
theorem dX12_fact_24 : decode cX12_fact 24 = .ok (.bipush 11, 2) := by decide +kernel
theorem dX12_fact_26 : decode cX12_fact 26 = .ok (.invokevirtual 221, 3) := by decide +kernel
theorem dX12_fact_29 : decode cX12_fact 29 = .ok (.ifCond .ne 5, 3) := by decide +kernel
theorem dX12_fact_32 : decode cX12_fact 32 = .ok (.iconst 0, 1) := by decide +kernel
theorem dX12_fact_33 : decode cX12_fact 33 = .ok (.ireturn, 1) := by decide +kernel
theorem dX12_fact_34 : decode cX12_fact 34 = .ok (.aload_n 0, 1) := by decide +kernel
theorem dX12_fact_35 : decode cX12_fact 35 = .ok (.invokevirtual 142, 3) := by decide +kernel
theorem dX12_fact_38 : decode cX12_fact 38 = .ok (.iconst 1, 1) := by decide +kernel
theorem dX12_fact_39 : decode cX12_fact 39 = .ok (.istore_n 1, 1) := by decide +kernel
theorem dX12_fact_40 : decode cX12_fact 40 = .ok (.goto 32, 3) := by decide +kernel
theorem dX12_fact_43 : decode cX12_fact 43 = .ok (.iload_n 2, 1) := by decide +kernel
theorem dX12_fact_44 : decode cX12_fact 44 = .ok (.bipush 91, 2) := by decide +kernel
theorem dX12_fact_46 : decode cX12_fact 46 = .ok (.if_icmp .ne 26, 3) := by decide +kernel
theorem dX12_fact_49 : decode cX12_fact 49 = .ok (.aload_n 0, 1) := by decide +kernel
theorem dX12_fact_50 : decode cX12_fact 50 = .ok (.bipush 91, 2) := by decide +kernel
theorem dX12_fact_52 : decode cX12_fact 52 = .ok (.invokevirtual 221, 3) := by decide +kernel
theorem dX12_fact_55 : decode cX12_fact 55 = .ok (.ifCond .ne 5, 3) := by decide +kernel
theorem dX12_fact_58 : decode cX12_fact 58 = .ok (.iconst 0, 1) := by decide +kernel
theorem dX12_fact_59 : decode cX12_fact 59 = .ok (.ireturn, 1) := by decide +kernel
theorem dX12_fact_60 : decode cX12_fact 60 = .ok (.aload_n 0, 1) := by decide +kernel
theorem dX12_fact_61 : decode cX12_fact 61 = .ok (.dup, 1) := by decide +kernel
theorem dX12_fact_62 : decode cX12_fact 62 = .ok (.getfield 127, 3) := by decide +kernel
theorem dX12_fact_65 : decode cX12_fact 65 = .ok (.iconst 1, 1) := by decide +kernel
theorem dX12_fact_66 : decode cX12_fact 66 = .ok (.iadd, 1) := by decide +kernel
theorem dX12_fact_67 : decode cX12_fact 67 = .ok (.putfield 127, 3) := by decide +kernel
theorem dX12_fact_70 : decode cX12_fact 70 = .ok (.iconst 1, 1) := by decide +kernel
theorem dX12_fact_71 : decode cX12_fact 71 = .ok (.istore_n 1, 1) := by decide +kernel
theorem dX12_fact_72 : decode cX12_fact 72 = .ok (.goto (-70), 3) := by decide +kernel
theorem dX12_fact_75 : decode cX12_fact 75 = .ok (.aload_n 0, 1) := by decide +kernel
theorem dX12_fact_76 : decode cX12_fact 76 = .ok (.invokevirtual 224, 3) := by decide +kernel
theorem dX12_fact_79 : decode cX12_fact 79 = .ok (.ireturn, 1) := by decide +kernel
theorem dX12_fails_0 : decode cX12_fails 0 = .ok (.aload_n 0, 1) := by decide +kernel
theorem dX12_fails_1 : decode cX12_fails 1 = .ok (.getfield 124, 3) := by decide +kernel
theorem dX12_fails_4 : decode cX12_fails 4 = .ok (.ifCond .ne 15, 3) := by decide +kernel
theorem dX12_fails_7 : decode cX12_fails 7 = .ok (.aload_n 0, 1) := by decide +kernel
theorem dX12_fails_8 : decode cX12_fails 8 = .ok (.iconst 1, 1) := by decide +kernel
theorem dX12_fails_9 : decode cX12_fails 9 = .ok (.bipush 8, 2) := by decide +kernel
theorem dX12_fails_11 : decode cX12_fails 11 = .ok (.iload_n 2, 1) := by decide +kernel
theorem dX12_fails_12 : decode cX12_fails 12 = .ok (.imul, 1) := by decide +kernel
theorem dX12_fails_13 : decode cX12_fails 13 = .ok (.iadd, 1) := by decide +kernel
theorem dX12_fails_14 : decode cX12_fails 14 = .ok (.iload_n 1, 1) := by decide +kernel
theorem dX12_fails_15 : decode cX12_fails 15 = .ok (.iadd, 1) := by decide +kernel
theorem dX12_fails_16 : decode cX12_fails 16 = .ok (.putfield 124, 3) := by decide +kernel
theorem dX12_fails_19 : decode cX12_fails 19 = .ok (.iconst 0, 1) := by decide +kernel
theorem dX12_fails_20 : decode cX12_fails 20 = .ok (.ireturn, 1) := by decide +kernel
theorem dX12_feed_0 : decode cX12_feed 0 = .ok (.aload_n 0, 1) := by decide +kernel
theorem dX12_feed_1 : decode cX12_feed 1 = .ok (.getfield 116, 3) := by decide +kernel
theorem dX12_feed_4 : decode cX12_feed 4 = .ok (.bipush 20, 2) := by decide +kernel
theorem dX12_feed_6 : decode cX12_feed 6 = .ok (.iadd, 1) := by decide +kernel
theorem dX12_feed_7 : decode cX12_feed 7 = .ok (.sipush 400, 3) := by decide +kernel
theorem dX12_feed_10 : decode cX12_feed 10 = .ok (.if_icmp .le 5, 3) := by decide +kernel
theorem dX12_feed_13 : decode cX12_feed 13 = .ok (.iconst (-1), 1) := by decide +kernel
theorem dX12_feed_14 : decode cX12_feed 14 = .ok (.ireturn, 1) := by decide +kernel
theorem dX12_feed_15 : decode cX12_feed 15 = .ok (.aload_n 0, 1) := by decide +kernel
theorem dX12_feed_16 : decode cX12_feed 16 = .ok (.iload_n 1, 1) := by decide +kernel
theorem dX12_feed_17 : decode cX12_feed 17 = .ok (.invokevirtual 120, 3) := by decide +kernel
theorem dX12_feed_20 : decode cX12_feed 20 = .ok (.aload_n 0, 1) := by decide +kernel
theorem dX12_feed_21 : decode cX12_feed 21 = .ok (.iload_n 2, 1) := by decide +kernel
theorem dX12_feed_22 : decode cX12_feed 22 = .ok (.invokevirtual 120, 3) := by decide +kernel
theorem dX12_feed_25 : decode cX12_feed 25 = .ok (.aload_n 0, 1) := by decide +kernel
theorem dX12_feed_26 : decode cX12_feed 26 = .ok (.iload_n 3, 1) := by decide +kernel
theorem dX12_feed_27 : decode cX12_feed 27 = .ok (.invokevirtual 120, 3) := by decide +kernel
theorem dX12_feed_30 : decode cX12_feed 30 = .ok (.aload_n 0, 1) := by decide +kernel
theorem dX12_feed_31 : decode cX12_feed 31 = .ok (.iload 4, 2) := by decide +kernel
theorem dX12_feed_33 : decode cX12_feed 33 = .ok (.invokevirtual 120, 3) := by decide +kernel
theorem dX12_feed_36 : decode cX12_feed 36 = .ok (.aload_n 0, 1) := by decide +kernel
theorem dX12_feed_37 : decode cX12_feed 37 = .ok (.iload 5, 2) := by decide +kernel
theorem dX12_feed_39 : decode cX12_feed 39 = .ok (.invokevirtual 120, 3) := by decide +kernel
theorem dX12_feed_42 : decode cX12_feed 42 = .ok (.aload_n 0, 1) := by decide +kernel
theorem dX12_feed_43 : decode cX12_feed 43 = .ok (.getfield 116, 3) := by decide +kernel
theorem dX12_feed_46 : decode cX12_feed 46 = .ok (.ireturn, 1) := by decide +kernel
theorem dX12_figures_0 : decode cX12_figures 0 = .ok (.iload_n 1, 1) := by decide +kernel
theorem dX12_figures_1 : decode cX12_figures 1 = .ok (.invokestatic 341, 3) := by decide +kernel
theorem dX12_figures_4 : decode cX12_figures 4 = .ok (.iconst 1, 1) := by decide +kernel
theorem dX12_figures_5 : decode cX12_figures 5 = .ok (.if_icmp .ne 7, 3) := by decide +kernel
theorem dX12_figures_8 : decode cX12_figures 8 = .ok (.iconst 3, 1) := by decide +kernel
theorem dX12_figures_9 : decode cX12_figures 9 = .ok (.goto 18, 3) := by decide +kernel
theorem dX12_figures_12 : decode cX12_figures 12 = .ok (.iload_n 1, 1) := by decide +kernel
theorem dX12_figures_13 : decode cX12_figures 13 = .ok (.invokestatic 341, 3) := by decide +kernel
theorem dX12_figures_16 : decode cX12_figures 16 = .ok (.iconst 2, 1) := by decide +kernel
theorem dX12_figures_17 : decode cX12_figures 17 = .ok (.if_icmp .ne 8, 3) := by decide +kernel
theorem dX12_figures_20 : decode cX12_figures 20 = .ok (.bipush 9, 2) := by decide +kernel
theorem dX12_figures_22 : decode cX12_figures 22 = .ok (.goto 5, 3) := by decide +kernel
theorem dX12_figures_25 : decode cX12_figures 25 = .ok (.bipush 27, 2) := by decide +kernel
theorem dX12_figures_27 : decode cX12_figures 27 = .ok (.ireturn, 1) := by decide +kernel
theorem dX12_fits_0 : decode cX12_fits 0 = .ok (.aload_n 0, 1) := by decide +kernel
theorem dX12_fits_1 : decode cX12_fits 1 = .ok (.iload_n 1, 1) := by decide +kernel
theorem dX12_fits_2 : decode cX12_fits 2 = .ok (.invokevirtual 486, 3) := by decide +kernel
theorem dX12_fits_5 : decode cX12_fits 5 = .ok (.ifCond .eq 23, 3) := by decide +kernel
theorem dX12_fits_8 : decode cX12_fits 8 = .ok (.aload_n 0, 1) := by decide +kernel
theorem dX12_fits_9 : decode cX12_fits 9 = .ok (.iload_n 2, 1) := by decide +kernel
theorem dX12_fits_10 : decode cX12_fits 10 = .ok (.invokevirtual 319, 3) := by decide +kernel
theorem dX12_fits_13 : decode cX12_fits 13 = .ok (.ifCond .eq 15, 3) := by decide +kernel
theorem dX12_fits_16 : decode cX12_fits 16 = .ok (.iload_n 3, 1) := by decide +kernel
theorem dX12_fits_17 : decode cX12_fits 17 = .ok (.i2l, 1) := by decide +kernel
theorem dX12_fits_18 : decode cX12_fits 18 = .ok (.lconst 0, 1) := by decide +kernel
theorem dX12_fits_19 : decode cX12_fits 19 = .ok (.ldc2_w 344, 3) := by decide +kernel
theorem dX12_fits_22 : decode cX12_fits 22 = .ok (.invokestatic 155, 3) := by decide +kernel
theorem dX12_fits_25 : decode cX12_fits 25 = .ok (.ifCond .ne 5, 3) := by decide +kernel
theorem dX12_fits_28 : decode cX12_fits 28 = .ok (.iconst (-1), 1) := by decide +kernel
theorem dX12_fits_29 : decode cX12_fits 29 = .ok (.ireturn, 1) := by decide +kernel
theorem dX12_fits_30 : decode cX12_fits 30 = .ok (.iconst 0, 1) := by decide +kernel
theorem dX12_fits_31 : decode cX12_fits 31 = .ok (.istore 4, 2) := by decide +kernel
theorem dX12_fits_33 : decode cX12_fits 33 = .ok (.iconst 0, 1) := by decide +kernel
theorem dX12_fits_34 : decode cX12_fits 34 = .ok (.istore 5, 2) := by decide +kernel
theorem dX12_fits_36 : decode cX12_fits 36 = .ok (.iconst 0, 1) := by decide +kernel
theorem dX12_fits_37 : decode cX12_fits 37 = .ok (.istore 6, 2) := by decide +kernel
theorem dX12_fits_39 : decode cX12_fits 39 = .ok (.iconst 0, 1) := by decide +kernel
theorem dX12_fits_40 : decode cX12_fits 40 = .ok (.istore 7, 2) := by decide +kernel
theorem dX12_fits_42 : decode cX12_fits 42 = .ok (.iload 7, 2) := by decide +kernel
theorem dX12_fits_44 : decode cX12_fits 44 = .ok (.aload_n 0, 1) := by decide +kernel
theorem dX12_fits_45 : decode cX12_fits 45 = .ok (.iload_n 1, 1) := by decide +kernel
theorem dX12_fits_46 : decode cX12_fits 46 = .ok (.invokevirtual 489, 3) := by decide +kernel
theorem dX12_fits_49 : decode cX12_fits 49 = .ok (.if_icmp .ge 70, 3) := by decide +kernel
theorem dX12_fits_52 : decode cX12_fits 52 = .ok (.aload_n 0, 1) := by decide +kernel
theorem dX12_fits_53 : decode cX12_fits 53 = .ok (.iload 7, 2) := by decide +kernel
theorem dX12_fits_55 : decode cX12_fits 55 = .ok (.iload_n 1, 1) := by decide +kernel
theorem dX12_fits_56 : decode cX12_fits 56 = .ok (.invokevirtual 492, 3) := by decide +kernel
theorem dX12_fits_59 : decode cX12_fits 59 = .ok (.ifCond .ne 6, 3) := by decide +kernel
theorem dX12_fits_62 : decode cX12_fits 62 = .ok (.goto 51, 3) := by decide +kernel
theorem dX12_fits_65 : decode cX12_fits 65 = .ok (.aload_n 0, 1) := by decide +kernel
theorem dX12_fits_66 : decode cX12_fits 66 = .ok (.getfield 102, 3) := by decide +kernel
theorem dX12_fits_69 : decode cX12_fits 69 = .ok (.iload_n 2, 1) := by decide +kernel
theorem dX12_fits_70 : decode cX12_fits 70 = .ok (.iaload, 1) := by decide +kernel
theorem dX12_fits_71 : decode cX12_fits 71 = .ok (.istore 8, 2) := by decide +kernel
theorem dX12_fits_73 : decode cX12_fits 73 = .ok (.iload 4, 2) := by decide +kernel
theorem dX12_fits_75 : decode cX12_fits 75 = .ok (.ifCond .eq 10, 3) := by decide +kernel
theorem dX12_fits_78 : decode cX12_fits 78 = .ok (.iload 8, 2) := by decide +kernel
theorem dX12_fits_80 : decode cX12_fits 80 = .ok (.iload 5, 2) := by decide +kernel
theorem dX12_fits_82 : decode cX12_fits 82 = .ok (.if_icmp .ge 8, 3) := by decide +kernel
theorem dX12_fits_85 : decode cX12_fits 85 = .ok (.iload 8, 2) := by decide +kernel
theorem dX12_fits_87 : decode cX12_fits 87 = .ok (.goto 5, 3) := by decide +kernel
theorem dX12_fits_90 : decode cX12_fits 90 = .ok (.iload 5, 2) := by decide +kernel
theorem dX12_fits_92 : decode cX12_fits 92 = .ok (.istore 5, 2) := by decide +kernel
theorem dX12_fits_94 : decode cX12_fits 94 = .ok (.iload 8, 2) := by decide +kernel
theorem dX12_fits_96 : decode cX12_fits 96 = .ok (.iload 6, 2) := by decide +kernel
theorem dX12_fits_98 : decode cX12_fits 98 = .ok (.if_icmp .le 8, 3) := by decide +kernel
theorem dX12_fits_101 : decode cX12_fits 101 = .ok (.iload 8, 2) := by decide +kernel
theorem dX12_fits_103 : decode cX12_fits 103 = .ok (.goto 5, 3) := by decide +kernel
theorem dX12_fits_106 : decode cX12_fits 106 = .ok (.iload 6, 2) := by decide +kernel
theorem dX12_fits_108 : decode cX12_fits 108 = .ok (.istore 6, 2) := by decide +kernel
theorem dX12_fits_110 : decode cX12_fits 110 = .ok (.iinc 4 1, 3) := by decide +kernel
theorem dX12_fits_113 : decode cX12_fits 113 = .ok (.iinc 7 1, 3) := by decide +kernel
theorem dX12_fits_116 : decode cX12_fits 116 = .ok (.goto (-74), 3) := by decide +kernel
theorem dX12_fits_119 : decode cX12_fits 119 = .ok (.iload_n 3, 1) := by decide +kernel
theorem dX12_fits_120 : decode cX12_fits 120 = .ok (.ifCond .ne 8, 3) := by decide +kernel
theorem dX12_fits_123 : decode cX12_fits 123 = .ok (.iload 4, 2) := by decide +kernel
theorem dX12_fits_125 : decode cX12_fits 125 = .ok (.goto 25, 3) := by decide +kernel
theorem dX12_fits_128 : decode cX12_fits 128 = .ok (.iload 4, 2) := by decide +kernel
theorem dX12_fits_130 : decode cX12_fits 130 = .ok (.ifCond .ne 8, 3) := by decide +kernel
theorem dX12_fits_133 : decode cX12_fits 133 = .ok (.bipush (-2), 2) := by decide +kernel
theorem dX12_fits_135 : decode cX12_fits 135 = .ok (.goto 15, 3) := by decide +kernel
theorem dX12_fits_138 : decode cX12_fits 138 = .ok (.iload_n 3, 1) := by decide +kernel
theorem dX12_fits_139 : decode cX12_fits 139 = .ok (.iconst 1, 1) := by decide +kernel
theorem dX12_fits_140 : decode cX12_fits 140 = .ok (.if_icmp .ne 8, 3) := by decide +kernel
theorem dX12_fits_143 : decode cX12_fits 143 = .ok (.iload 5, 2) := by decide +kernel
theorem dX12_fits_145 : decode cX12_fits 145 = .ok (.goto 5, 3) := by decide +kernel
theorem dX12_fits_148 : decode cX12_fits 148 = .ok (.iload 6, 2) := by decide +kernel
theorem dX12_fits_150 : decode cX12_fits 150 = .ok (.ireturn, 1) := by decide +kernel
theorem dX12_four_0 : decode cX12_four 0 = .ok (.bipush 24, 2) := by decide +kernel
theorem dX12_four_2 : decode cX12_four 2 = .ok (.istore_n 2, 1) := by decide +kernel
theorem dX12_four_3 : decode cX12_four 3 = .ok (.iload_n 2, 1) := by decide +kernel
theorem dX12_four_4 : decode cX12_four 4 = .ok (.ifCond .lt 32, 3) := by decide +kernel
theorem dX12_four_7 : decode cX12_four 7 = .ok (.aload_n 0, 1) := by decide +kernel
theorem dX12_four_8 : decode cX12_four 8 = .ok (.getfield 7, 3) := by decide +kernel
theorem dX12_four_11 : decode cX12_four 11 = .ok (.aload_n 0, 1) := by decide +kernel
theorem dX12_four_12 : decode cX12_four 12 = .ok (.getfield 116, 3) := by decide +kernel
theorem dX12_four_15 : decode cX12_four 15 = .ok (.iload_n 1, 1) := by decide +kernel
theorem dX12_four_16 : decode cX12_four 16 = .ok (.iload_n 2, 1) := by decide +kernel
theorem dX12_four_17 : decode cX12_four 17 = .ok (.ishr, 1) := by decide +kernel
theorem dX12_four_18 : decode cX12_four 18 = .ok (.i2b, 1) := by decide +kernel
theorem dX12_four_19 : decode cX12_four 19 = .ok (.bastore, 1) := by decide +kernel
theorem dX12_four_20 : decode cX12_four 20 = .ok (.aload_n 0, 1) := by decide +kernel
theorem dX12_four_21 : decode cX12_four 21 = .ok (.dup, 1) := by decide +kernel
theorem dX12_four_22 : decode cX12_four 22 = .ok (.getfield 116, 3) := by decide +kernel
theorem dX12_four_25 : decode cX12_four 25 = .ok (.iconst 1, 1) := by decide +kernel
theorem dX12_four_26 : decode cX12_four 26 = .ok (.iadd, 1) := by decide +kernel
theorem dX12_four_27 : decode cX12_four 27 = .ok (.putfield 116, 3) := by decide +kernel
theorem dX12_four_30 : decode cX12_four 30 = .ok (.iinc 2 (-8), 3) := by decide +kernel
theorem dX12_four_33 : decode cX12_four 33 = .ok (.goto (-30), 3) := by decide +kernel
theorem dX12_four_36 : decode cX12_four 36 = .ok (.return_, 1) := by decide +kernel
theorem dX12_gainOf_0 : decode cX12_gainOf 0 = .ok (.iconst 0, 1) := by decide +kernel
theorem dX12_gainOf_1 : decode cX12_gainOf 1 = .ok (.istore_n 3, 1) := by decide +kernel
theorem dX12_gainOf_2 : decode cX12_gainOf 2 = .ok (.iconst 0, 1) := by decide +kernel
theorem dX12_gainOf_3 : decode cX12_gainOf 3 = .ok (.istore 4, 2) := by decide +kernel
theorem dX12_gainOf_5 : decode cX12_gainOf 5 = .ok (.iload 4, 2) := by decide +kernel
theorem dX12_gainOf_7 : decode cX12_gainOf 7 = .ok (.aload_n 0, 1) := by decide +kernel
theorem dX12_gainOf_8 : decode cX12_gainOf 8 = .ok (.getfield 45, 3) := by decide +kernel
theorem dX12_gainOf_11 : decode cX12_gainOf 11 = .ok (.iconst 0, 1) := by decide +kernel
theorem dX12_gainOf_12 : decode cX12_gainOf 12 = .ok (.iaload, 1) := by decide +kernel
theorem dX12_gainOf_13 : decode cX12_gainOf 13 = .ok (.if_icmp .ge 32, 3) := by decide +kernel
theorem dX12_gainOf_16 : decode cX12_gainOf 16 = .ok (.iload_n 3, 1) := by decide +kernel
theorem dX12_gainOf_17 : decode cX12_gainOf 17 = .ok (.iload_n 1, 1) := by decide +kernel
theorem dX12_gainOf_18 : decode cX12_gainOf 18 = .ok (.iload 4, 2) := by decide +kernel
theorem dX12_gainOf_20 : decode cX12_gainOf 20 = .ok (.invokestatic 322, 3) := by decide +kernel
theorem dX12_gainOf_23 : decode cX12_gainOf 23 = .ok (.ifCond .eq 13, 3) := by decide +kernel
theorem dX12_gainOf_26 : decode cX12_gainOf 26 = .ok (.aload_n 0, 1) := by decide +kernel
theorem dX12_gainOf_27 : decode cX12_gainOf 27 = .ok (.iload 4, 2) := by decide +kernel
theorem dX12_gainOf_29 : decode cX12_gainOf 29 = .ok (.iload_n 2, 1) := by decide +kernel
theorem dX12_gainOf_30 : decode cX12_gainOf 30 = .ok (.invokevirtual 330, 3) := by decide +kernel
theorem dX12_gainOf_33 : decode cX12_gainOf 33 = .ok (.goto 4, 3) := by decide +kernel
theorem dX12_gainOf_36 : decode cX12_gainOf 36 = .ok (.iconst 0, 1) := by decide +kernel
theorem dX12_gainOf_37 : decode cX12_gainOf 37 = .ok (.iadd, 1) := by decide +kernel
theorem dX12_gainOf_38 : decode cX12_gainOf 38 = .ok (.istore_n 3, 1) := by decide +kernel
theorem dX12_gainOf_39 : decode cX12_gainOf 39 = .ok (.iinc 4 1, 3) := by decide +kernel
theorem dX12_gainOf_42 : decode cX12_gainOf 42 = .ok (.goto (-37), 3) := by decide +kernel
theorem dX12_gainOf_45 : decode cX12_gainOf 45 = .ok (.iload_n 3, 1) := by decide +kernel
theorem dX12_gainOf_46 : decode cX12_gainOf 46 = .ok (.ireturn, 1) := by decide +kernel
theorem dX12_goes_0 : decode cX12_goes 0 = .ok (.aload_n 0, 1) := by decide +kernel
theorem dX12_goes_1 : decode cX12_goes 1 = .ok (.invokevirtual 393, 3) := by decide +kernel
theorem dX12_goes_4 : decode cX12_goes 4 = .ok (.iconst 0, 1) := by decide +kernel
theorem dX12_goes_5 : decode cX12_goes 5 = .ok (.istore 5, 2) := by decide +kernel
theorem dX12_goes_7 : decode cX12_goes 7 = .ok (.iload 4, 2) := by decide +kernel
theorem dX12_goes_9 : decode cX12_goes 9 = .ok (.bipush 9, 2) := by decide +kernel
theorem dX12_goes_11 : decode cX12_goes 11 = .ok (.idiv, 1) := by decide +kernel
theorem dX12_goes_12 : decode cX12_goes 12 = .ok (.istore 6, 2) := by decide +kernel
theorem dX12_goes_14 : decode cX12_goes 14 = .ok (.iconst 0, 1) := by decide +kernel
theorem dX12_goes_15 : decode cX12_goes 15 = .ok (.istore 7, 2) := by decide +kernel
theorem dX12_goes_17 : decode cX12_goes 17 = .ok (.iload 7, 2) := by decide +kernel
theorem dX12_goes_19 : decode cX12_goes 19 = .ok (.aload_n 0, 1) := by decide +kernel
theorem dX12_goes_20 : decode cX12_goes 20 = .ok (.getfield 351, 3) := by decide +kernel
theorem dX12_goes_23 : decode cX12_goes 23 = .ok (.if_icmp .ge 98, 3) := by decide +kernel
theorem dX12_goes_26 : decode cX12_goes 26 = .ok (.aload_n 0, 1) := by decide +kernel
theorem dX12_goes_27 : decode cX12_goes 27 = .ok (.aload_n 0, 1) := by decide +kernel
theorem dX12_goes_28 : decode cX12_goes 28 = .ok (.getfield 54, 3) := by decide +kernel
theorem dX12_goes_31 : decode cX12_goes 31 = .ok (.iload 7, 2) := by decide +kernel
theorem dX12_goes_33 : decode cX12_goes 33 = .ok (.iaload, 1) := by decide +kernel
theorem dX12_goes_34 : decode cX12_goes 34 = .ok (.iload 7, 2) := by decide +kernel
theorem dX12_goes_36 : decode cX12_goes 36 = .ok (.invokevirtual 396, 3) := by decide +kernel
theorem dX12_goes_39 : decode cX12_goes 39 = .ok (.iload_n 3, 1) := by decide +kernel
theorem dX12_goes_40 : decode cX12_goes 40 = .ok (.iload 6, 2) := by decide +kernel
theorem dX12_goes_42 : decode cX12_goes 42 = .ok (.idiv, 1) := by decide +kernel
theorem dX12_goes_43 : decode cX12_goes 43 = .ok (.bipush 9, 2) := by decide +kernel
theorem dX12_goes_45 : decode cX12_goes 45 = .ok (.irem, 1) := by decide +kernel
theorem dX12_goes_46 : decode cX12_goes 46 = .ok (.istore 8, 2) := by decide +kernel
theorem dX12_goes_48 : decode cX12_goes 48 = .ok (.aload_n 0, 1) := by decide +kernel
theorem dX12_goes_49 : decode cX12_goes 49 = .ok (.iload_n 1, 1) := by decide +kernel
theorem dX12_goes_50 : decode cX12_goes 50 = .ok (.iload 8, 2) := by decide +kernel
theorem dX12_goes_52 : decode cX12_goes 52 = .ok (.iconst 3, 1) := by decide +kernel
theorem dX12_goes_53 : decode cX12_goes 53 = .ok (.idiv, 1) := by decide +kernel
theorem dX12_goes_54 : decode cX12_goes 54 = .ok (.invokevirtual 456, 3) := by decide +kernel
theorem dX12_goes_57 : decode cX12_goes 57 = .ok (.aload_n 0, 1) := by decide +kernel
theorem dX12_goes_58 : decode cX12_goes 58 = .ok (.iload_n 2, 1) := by decide +kernel
theorem dX12_goes_59 : decode cX12_goes 59 = .ok (.iload 8, 2) := by decide +kernel
theorem dX12_goes_61 : decode cX12_goes 61 = .ok (.iconst 3, 1) := by decide +kernel
theorem dX12_goes_62 : decode cX12_goes 62 = .ok (.irem, 1) := by decide +kernel
theorem dX12_goes_63 : decode cX12_goes 63 = .ok (.invokevirtual 456, 3) := by decide +kernel
theorem dX12_goes_66 : decode cX12_goes 66 = .ok (.iload 5, 2) := by decide +kernel
theorem dX12_goes_68 : decode cX12_goes 68 = .ok (.aload_n 0, 1) := by decide +kernel
theorem dX12_goes_69 : decode cX12_goes 69 = .ok (.invokevirtual 399, 3) := by decide +kernel
theorem dX12_goes_72 : decode cX12_goes 72 = .ok (.iconst 1, 1) := by decide +kernel
theorem dX12_goes_73 : decode cX12_goes 73 = .ok (.if_icmp .ne 31, 3) := by decide +kernel
theorem dX12_goes_76 : decode cX12_goes 76 = .ok (.aload_n 0, 1) := by decide +kernel
theorem dX12_goes_77 : decode cX12_goes 77 = .ok (.iload_n 1, 1) := by decide +kernel
theorem dX12_goes_78 : decode cX12_goes 78 = .ok (.aload_n 0, 1) := by decide +kernel
theorem dX12_goes_79 : decode cX12_goes 79 = .ok (.getfield 54, 3) := by decide +kernel
theorem dX12_goes_82 : decode cX12_goes 82 = .ok (.iload 7, 2) := by decide +kernel
theorem dX12_goes_84 : decode cX12_goes 84 = .ok (.iaload, 1) := by decide +kernel
theorem dX12_goes_85 : decode cX12_goes 85 = .ok (.invokevirtual 459, 3) := by decide +kernel
theorem dX12_goes_88 : decode cX12_goes 88 = .ok (.aload_n 0, 1) := by decide +kernel
theorem dX12_goes_89 : decode cX12_goes 89 = .ok (.iload_n 2, 1) := by decide +kernel
theorem dX12_goes_90 : decode cX12_goes 90 = .ok (.aload_n 0, 1) := by decide +kernel
theorem dX12_goes_91 : decode cX12_goes 91 = .ok (.getfield 54, 3) := by decide +kernel
theorem dX12_goes_94 : decode cX12_goes 94 = .ok (.iload 7, 2) := by decide +kernel
theorem dX12_goes_96 : decode cX12_goes 96 = .ok (.iaload, 1) := by decide +kernel
theorem dX12_goes_97 : decode cX12_goes 97 = .ok (.invokevirtual 459, 3) := by decide +kernel
theorem dX12_goes_100 : decode cX12_goes 100 = .ok (.isub, 1) := by decide +kernel
theorem dX12_goes_101 : decode cX12_goes 101 = .ok (.goto 4, 3) := by decide +kernel
theorem dX12_goes_104 : decode cX12_goes 104 = .ok (.iconst 0, 1) := by decide +kernel
theorem dX12_goes_105 : decode cX12_goes 105 = .ok (.iadd, 1) := by decide +kernel
theorem dX12_goes_106 : decode cX12_goes 106 = .ok (.istore 5, 2) := by decide +kernel
theorem dX12_goes_108 : decode cX12_goes 108 = .ok (.iload 6, 2) := by decide +kernel
theorem dX12_goes_110 : decode cX12_goes 110 = .ok (.bipush 9, 2) := by decide +kernel
theorem dX12_goes_112 : decode cX12_goes 112 = .ok (.idiv, 1) := by decide +kernel
theorem dX12_goes_113 : decode cX12_goes 113 = .ok (.istore 6, 2) := by decide +kernel
theorem dX12_goes_115 : decode cX12_goes 115 = .ok (.iinc 7 1, 3) := by decide +kernel
theorem dX12_goes_118 : decode cX12_goes 118 = .ok (.goto (-101), 3) := by decide +kernel
theorem dX12_goes_121 : decode cX12_goes 121 = .ok (.iload 5, 2) := by decide +kernel
theorem dX12_goes_123 : decode cX12_goes 123 = .ok (.ireturn, 1) := by decide +kernel
theorem dX12_grows_0 : decode cX12_grows 0 = .ok (.aload_n 0, 1) := by decide +kernel
theorem dX12_grows_1 : decode cX12_grows 1 = .ok (.getfield 51, 3) := by decide +kernel
theorem dX12_grows_4 : decode cX12_grows 4 = .ok (.iload_n 1, 1) := by decide +kernel
theorem dX12_grows_5 : decode cX12_grows 5 = .ok (.iaload, 1) := by decide +kernel
theorem dX12_grows_6 : decode cX12_grows 6 = .ok (.istore_n 3, 1) := by decide +kernel
theorem dX12_grows_7 : decode cX12_grows 7 = .ok (.iload_n 2, 1) := by decide +kernel
theorem dX12_grows_8 : decode cX12_grows 8 = .ok (.ifCond .eq 43, 3) := by decide +kernel
theorem dX12_grows_11 : decode cX12_grows 11 = .ok (.aload_n 0, 1) := by decide +kernel
theorem dX12_grows_12 : decode cX12_grows 12 = .ok (.getfield 57, 3) := by decide +kernel
theorem dX12_grows_15 : decode cX12_grows 15 = .ok (.iload_n 1, 1) := by decide +kernel
theorem dX12_grows_16 : decode cX12_grows 16 = .ok (.dup2, 1) := by decide +kernel
theorem dX12_grows_17 : decode cX12_grows 17 = .ok (.iaload, 1) := by decide +kernel
theorem dX12_grows_18 : decode cX12_grows 18 = .ok (.iconst 1, 1) := by decide +kernel
theorem dX12_grows_19 : decode cX12_grows 19 = .ok (.iadd, 1) := by decide +kernel
theorem dX12_grows_20 : decode cX12_grows 20 = .ok (.iastore, 1) := by decide +kernel
theorem dX12_grows_21 : decode cX12_grows 21 = .ok (.aload_n 0, 1) := by decide +kernel
theorem dX12_grows_22 : decode cX12_grows 22 = .ok (.getfield 51, 3) := by decide +kernel
theorem dX12_grows_25 : decode cX12_grows 25 = .ok (.iload_n 1, 1) := by decide +kernel
theorem dX12_grows_26 : decode cX12_grows 26 = .ok (.aload_n 0, 1) := by decide +kernel
theorem dX12_grows_27 : decode cX12_grows 27 = .ok (.getfield 45, 3) := by decide +kernel
theorem dX12_grows_30 : decode cX12_grows 30 = .ok (.bipush 7, 2) := by decide +kernel
theorem dX12_grows_32 : decode cX12_grows 32 = .ok (.iaload, 1) := by decide +kernel
theorem dX12_grows_33 : decode cX12_grows 33 = .ok (.iconst 2, 1) := by decide +kernel
theorem dX12_grows_34 : decode cX12_grows 34 = .ok (.if_icmp .ne 14, 3) := by decide +kernel
theorem dX12_grows_37 : decode cX12_grows 37 = .ok (.iload_n 3, 1) := by decide +kernel
theorem dX12_grows_38 : decode cX12_grows 38 = .ok (.iconst 3, 1) := by decide +kernel
theorem dX12_grows_39 : decode cX12_grows 39 = .ok (.if_icmp .le 9, 3) := by decide +kernel
theorem dX12_grows_42 : decode cX12_grows 42 = .ok (.iload_n 3, 1) := by decide +kernel
theorem dX12_grows_43 : decode cX12_grows 43 = .ok (.iconst 2, 1) := by decide +kernel
theorem dX12_grows_44 : decode cX12_grows 44 = .ok (.idiv, 1) := by decide +kernel
theorem dX12_grows_45 : decode cX12_grows 45 = .ok (.goto 4, 3) := by decide +kernel
theorem dX12_grows_48 : decode cX12_grows 48 = .ok (.iconst 1, 1) := by decide +kernel
theorem dX12_grows_49 : decode cX12_grows 49 = .ok (.iastore, 1) := by decide +kernel
theorem dX12_grows_50 : decode cX12_grows 50 = .ok (.return_, 1) := by decide +kernel
theorem dX12_grows_51 : decode cX12_grows 51 = .ok (.aload_n 0, 1) := by decide +kernel
theorem dX12_grows_52 : decode cX12_grows 52 = .ok (.getfield 60, 3) := by decide +kernel
theorem dX12_grows_55 : decode cX12_grows 55 = .ok (.iload_n 1, 1) := by decide +kernel
theorem dX12_grows_56 : decode cX12_grows 56 = .ok (.dup2, 1) := by decide +kernel
theorem dX12_grows_57 : decode cX12_grows 57 = .ok (.iaload, 1) := by decide +kernel
theorem dX12_grows_58 : decode cX12_grows 58 = .ok (.iconst 1, 1) := by decide +kernel
theorem dX12_grows_59 : decode cX12_grows 59 = .ok (.iadd, 1) := by decide +kernel
theorem dX12_grows_60 : decode cX12_grows 60 = .ok (.iastore, 1) := by decide +kernel
theorem dX12_grows_61 : decode cX12_grows 61 = .ok (.aload_n 0, 1) := by decide +kernel
theorem dX12_grows_62 : decode cX12_grows 62 = .ok (.getfield 45, 3) := by decide +kernel
theorem dX12_grows_65 : decode cX12_grows 65 = .ok (.bipush 7, 2) := by decide +kernel
theorem dX12_grows_67 : decode cX12_grows 67 = .ok (.iaload, 1) := by decide +kernel
theorem dX12_grows_68 : decode cX12_grows 68 = .ok (.iconst 1, 1) := by decide +kernel
theorem dX12_grows_69 : decode cX12_grows 69 = .ok (.if_icmp .ne 9, 3) := by decide +kernel
theorem dX12_grows_72 : decode cX12_grows 72 = .ok (.iconst 2, 1) := by decide +kernel
theorem dX12_grows_73 : decode cX12_grows 73 = .ok (.iload_n 3, 1) := by decide +kernel
theorem dX12_grows_74 : decode cX12_grows 74 = .ok (.imul, 1) := by decide +kernel
theorem dX12_grows_75 : decode cX12_grows 75 = .ok (.goto 6, 3) := by decide +kernel
theorem dX12_grows_78 : decode cX12_grows 78 = .ok (.iload_n 3, 1) := by decide +kernel
theorem dX12_grows_79 : decode cX12_grows 79 = .ok (.iconst 1, 1) := by decide +kernel
theorem dX12_grows_80 : decode cX12_grows 80 = .ok (.iadd, 1) := by decide +kernel
theorem dX12_grows_81 : decode cX12_grows 81 = .ok (.istore 4, 2) := by decide +kernel
theorem dX12_grows_83 : decode cX12_grows 83 = .ok (.aload_n 0, 1) := by decide +kernel
theorem dX12_grows_84 : decode cX12_grows 84 = .ok (.getfield 51, 3) := by decide +kernel
theorem dX12_grows_87 : decode cX12_grows 87 = .ok (.iload_n 1, 1) := by decide +kernel
theorem dX12_grows_88 : decode cX12_grows 88 = .ok (.iload 4, 2) := by decide +kernel
theorem dX12_grows_90 : decode cX12_grows 90 = .ok (.aload_n 0, 1) := by decide +kernel
theorem dX12_grows_91 : decode cX12_grows 91 = .ok (.getfield 45, 3) := by decide +kernel
theorem dX12_grows_94 : decode cX12_grows 94 = .ok (.bipush 8, 2) := by decide +kernel
theorem dX12_grows_96 : decode cX12_grows 96 = .ok (.iaload, 1) := by decide +kernel
theorem dX12_grows_97 : decode cX12_grows 97 = .ok (.if_icmp .le 13, 3) := by decide +kernel
theorem dX12_grows_100 : decode cX12_grows 100 = .ok (.aload_n 0, 1) := by decide +kernel
theorem dX12_grows_101 : decode cX12_grows 101 = .ok (.getfield 45, 3) := by decide +kernel
theorem dX12_grows_104 : decode cX12_grows 104 = .ok (.bipush 8, 2) := by decide +kernel
theorem dX12_grows_106 : decode cX12_grows 106 = .ok (.iaload, 1) := by decide +kernel
theorem dX12_grows_107 : decode cX12_grows 107 = .ok (.goto 5, 3) := by decide +kernel
theorem dX12_grows_110 : decode cX12_grows 110 = .ok (.iload 4, 2) := by decide +kernel
theorem dX12_grows_112 : decode cX12_grows 112 = .ok (.iastore, 1) := by decide +kernel
theorem dX12_grows_113 : decode cX12_grows 113 = .ok (.return_, 1) := by decide +kernel
theorem dX12_holds_0 : decode cX12_holds 0 = .ok (.iload_n 1, 1) := by decide +kernel
theorem dX12_holds_1 : decode cX12_holds 1 = .ok (.istore_n 3, 1) := by decide +kernel
theorem dX12_holds_2 : decode cX12_holds 2 = .ok (.iconst 0, 1) := by decide +kernel
theorem dX12_holds_3 : decode cX12_holds 3 = .ok (.istore 4, 2) := by decide +kernel
theorem dX12_holds_5 : decode cX12_holds 5 = .ok (.iload 4, 2) := by decide +kernel
theorem dX12_holds_7 : decode cX12_holds 7 = .ok (.aload_n 0, 1) := by decide +kernel
theorem dX12_holds_8 : decode cX12_holds 8 = .ok (.getfield 45, 3) := by decide +kernel
theorem dX12_holds_11 : decode cX12_holds 11 = .ok (.iconst 0, 1) := by decide +kernel
theorem dX12_holds_12 : decode cX12_holds 12 = .ok (.iaload, 1) := by decide +kernel
theorem dX12_holds_13 : decode cX12_holds 13 = .ok (.if_icmp .ge 39, 3) := by decide +kernel
theorem dX12_holds_16 : decode cX12_holds 16 = .ok (.aload_n 0, 1) := by decide +kernel
theorem dX12_holds_17 : decode cX12_holds 17 = .ok (.getfield 102, 3) := by decide +kernel
theorem dX12_holds_20 : decode cX12_holds 20 = .ok (.iload 4, 2) := by decide +kernel
theorem dX12_holds_22 : decode cX12_holds 22 = .ok (.iconst 1, 1) := by decide +kernel
theorem dX12_holds_23 : decode cX12_holds 23 = .ok (.iload_n 3, 1) := by decide +kernel
theorem dX12_holds_24 : decode cX12_holds 24 = .ok (.iload_n 2, 1) := by decide +kernel
theorem dX12_holds_25 : decode cX12_holds 25 = .ok (.irem, 1) := by decide +kernel
theorem dX12_holds_26 : decode cX12_holds 26 = .ok (.iadd, 1) := by decide +kernel
theorem dX12_holds_27 : decode cX12_holds 27 = .ok (.iastore, 1) := by decide +kernel
theorem dX12_holds_28 : decode cX12_holds 28 = .ok (.aload_n 0, 1) := by decide +kernel
theorem dX12_holds_29 : decode cX12_holds 29 = .ok (.getfield 51, 3) := by decide +kernel
theorem dX12_holds_32 : decode cX12_holds 32 = .ok (.iload 4, 2) := by decide +kernel
theorem dX12_holds_34 : decode cX12_holds 34 = .ok (.aload_n 0, 1) := by decide +kernel
theorem dX12_holds_35 : decode cX12_holds 35 = .ok (.getfield 102, 3) := by decide +kernel
theorem dX12_holds_38 : decode cX12_holds 38 = .ok (.iload 4, 2) := by decide +kernel
theorem dX12_holds_40 : decode cX12_holds 40 = .ok (.iaload, 1) := by decide +kernel
theorem dX12_holds_41 : decode cX12_holds 41 = .ok (.iastore, 1) := by decide +kernel
theorem dX12_holds_42 : decode cX12_holds 42 = .ok (.iload_n 3, 1) := by decide +kernel
theorem dX12_holds_43 : decode cX12_holds 43 = .ok (.iload_n 2, 1) := by decide +kernel
theorem dX12_holds_44 : decode cX12_holds 44 = .ok (.idiv, 1) := by decide +kernel
theorem dX12_holds_45 : decode cX12_holds 45 = .ok (.istore_n 3, 1) := by decide +kernel
theorem dX12_holds_46 : decode cX12_holds 46 = .ok (.iinc 4 1, 3) := by decide +kernel
theorem dX12_holds_49 : decode cX12_holds 49 = .ok (.goto (-44), 3) := by decide +kernel
theorem dX12_holds_52 : decode cX12_holds 52 = .ok (.iconst 0, 1) := by decide +kernel
theorem dX12_holds_53 : decode cX12_holds 53 = .ok (.istore 4, 2) := by decide +kernel
theorem dX12_holds_55 : decode cX12_holds 55 = .ok (.iload 4, 2) := by decide +kernel
theorem dX12_holds_57 : decode cX12_holds 57 = .ok (.aload_n 0, 1) := by decide +kernel
theorem dX12_holds_58 : decode cX12_holds 58 = .ok (.getfield 45, 3) := by decide +kernel
theorem dX12_holds_61 : decode cX12_holds 61 = .ok (.iconst 5, 1) := by decide +kernel
theorem dX12_holds_62 : decode cX12_holds 62 = .ok (.iaload, 1) := by decide +kernel
theorem dX12_holds_63 : decode cX12_holds 63 = .ok (.if_icmp .ge 90, 3) := by decide +kernel
theorem dX12_holds_66 : decode cX12_holds 66 = .ok (.sipush 178, 3) := by decide +kernel
theorem dX12_holds_69 : decode cX12_holds 69 = .ok (.iconst 4, 1) := by decide +kernel
theorem dX12_holds_70 : decode cX12_holds 70 = .ok (.iload 4, 2) := by decide +kernel
theorem dX12_holds_72 : decode cX12_holds 72 = .ok (.imul, 1) := by decide +kernel
theorem dX12_holds_73 : decode cX12_holds 73 = .ok (.iadd, 1) := by decide +kernel
theorem dX12_holds_74 : decode cX12_holds 74 = .ok (.istore 5, 2) := by decide +kernel
theorem dX12_holds_76 : decode cX12_holds 76 = .ok (.aload_n 0, 1) := by decide +kernel
theorem dX12_holds_77 : decode cX12_holds 77 = .ok (.aload_n 0, 1) := by decide +kernel
theorem dX12_holds_78 : decode cX12_holds 78 = .ok (.getfield 45, 3) := by decide +kernel
theorem dX12_holds_81 : decode cX12_holds 81 = .ok (.iload 5, 2) := by decide +kernel
theorem dX12_holds_83 : decode cX12_holds 83 = .ok (.iaload, 1) := by decide +kernel
theorem dX12_holds_84 : decode cX12_holds 84 = .ok (.putfield 364, 3) := by decide +kernel
theorem dX12_holds_87 : decode cX12_holds 87 = .ok (.aload_n 0, 1) := by decide +kernel
theorem dX12_holds_88 : decode cX12_holds 88 = .ok (.aload_n 0, 1) := by decide +kernel
theorem dX12_holds_89 : decode cX12_holds 89 = .ok (.getfield 45, 3) := by decide +kernel
theorem dX12_holds_92 : decode cX12_holds 92 = .ok (.iload 5, 2) := by decide +kernel
theorem dX12_holds_94 : decode cX12_holds 94 = .ok (.iconst 1, 1) := by decide +kernel
theorem dX12_holds_95 : decode cX12_holds 95 = .ok (.iadd, 1) := by decide +kernel
theorem dX12_holds_96 : decode cX12_holds 96 = .ok (.iaload, 1) := by decide +kernel
theorem dX12_holds_97 : decode cX12_holds 97 = .ok (.putfield 367, 3) := by decide +kernel
theorem dX12_holds_100 : decode cX12_holds 100 = .ok (.aload_n 0, 1) := by decide +kernel
theorem dX12_holds_101 : decode cX12_holds 101 = .ok (.aload_n 0, 1) := by decide +kernel
theorem dX12_holds_102 : decode cX12_holds 102 = .ok (.getfield 364, 3) := by decide +kernel
theorem dX12_holds_105 : decode cX12_holds 105 = .ok (.invokevirtual 380, 3) := by decide +kernel
theorem dX12_holds_108 : decode cX12_holds 108 = .ok (.aload_n 0, 1) := by decide +kernel
theorem dX12_holds_109 : decode cX12_holds 109 = .ok (.getfield 45, 3) := by decide +kernel
theorem dX12_holds_112 : decode cX12_holds 112 = .ok (.iload 5, 2) := by decide +kernel
theorem dX12_holds_114 : decode cX12_holds 114 = .ok (.iconst 2, 1) := by decide +kernel
theorem dX12_holds_115 : decode cX12_holds 115 = .ok (.iadd, 1) := by decide +kernel
theorem dX12_holds_116 : decode cX12_holds 116 = .ok (.iaload, 1) := by decide +kernel
theorem dX12_holds_117 : decode cX12_holds 117 = .ok (.if_icmp .ne 23, 3) := by decide +kernel
theorem dX12_holds_120 : decode cX12_holds 120 = .ok (.aload_n 0, 1) := by decide +kernel
theorem dX12_holds_121 : decode cX12_holds 121 = .ok (.aload_n 0, 1) := by decide +kernel
theorem dX12_holds_122 : decode cX12_holds 122 = .ok (.getfield 367, 3) := by decide +kernel
theorem dX12_holds_125 : decode cX12_holds 125 = .ok (.invokevirtual 380, 3) := by decide +kernel
theorem dX12_holds_128 : decode cX12_holds 128 = .ok (.aload_n 0, 1) := by decide +kernel
theorem dX12_holds_129 : decode cX12_holds 129 = .ok (.getfield 45, 3) := by decide +kernel
theorem dX12_holds_132 : decode cX12_holds 132 = .ok (.iload 5, 2) := by decide +kernel
theorem dX12_holds_134 : decode cX12_holds 134 = .ok (.iconst 3, 1) := by decide +kernel
theorem dX12_holds_135 : decode cX12_holds 135 = .ok (.iadd, 1) := by decide +kernel
theorem dX12_holds_136 : decode cX12_holds 136 = .ok (.iaload, 1) := by decide +kernel
theorem dX12_holds_137 : decode cX12_holds 137 = .ok (.if_icmp .eq 5, 3) := by decide +kernel
theorem dX12_holds_140 : decode cX12_holds 140 = .ok (.iconst 0, 1) := by decide +kernel
theorem dX12_holds_141 : decode cX12_holds 141 = .ok (.ireturn, 1) := by decide +kernel
theorem dX12_holds_142 : decode cX12_holds 142 = .ok (.aload_n 0, 1) := by decide +kernel
theorem dX12_holds_143 : decode cX12_holds 143 = .ok (.invokevirtual 399, 3) := by decide +kernel
theorem dX12_holds_146 : decode cX12_holds 146 = .ok (.pop, 1) := by decide +kernel
theorem dX12_holds_147 : decode cX12_holds 147 = .ok (.iinc 4 1, 3) := by decide +kernel
theorem dX12_holds_150 : decode cX12_holds 150 = .ok (.goto (-95), 3) := by decide +kernel
theorem dX12_holds_153 : decode cX12_holds 153 = .ok (.iconst 1, 1) := by decide +kernel
theorem dX12_holds_154 : decode cX12_holds 154 = .ok (.ireturn, 1) := by decide +kernel
theorem dX12_image_0 : decode cX12_image 0 = .ok (.iload_n 1, 1) := by decide +kernel
theorem dX12_image_1 : decode cX12_image 1 = .ok (.i2l, 1) := by decide +kernel
theorem dX12_image_2 : decode cX12_image 2 = .ok (.lconst 0, 1) := by decide +kernel
theorem dX12_image_3 : decode cX12_image 3 = .ok (.ldc2_w 426, 3) := by decide +kernel
theorem dX12_image_6 : decode cX12_image 6 = .ok (.invokestatic 155, 3) := by decide +kernel
theorem dX12_image_9 : decode cX12_image 9 = .ok (.ifCond .ne 9, 3) := by decide +kernel
theorem dX12_image_12 : decode cX12_image 12 = .ok (.aload_n 0, 1) := by decide +kernel
theorem dX12_image_13 : decode cX12_image 13 = .ok (.iconst 0, 1) := by decide +kernel
theorem dX12_image_14 : decode cX12_image 14 = .ok (.invokevirtual 338, 3) := by decide +kernel
theorem dX12_image_17 : decode cX12_image 17 = .ok (.ireturn, 1) := by decide +kernel
theorem dX12_image_18 : decode cX12_image 18 = .ok (.aload_n 0, 1) := by decide +kernel
theorem dX12_image_19 : decode cX12_image 19 = .ok (.getfield 112, 3) := by decide +kernel
theorem dX12_image_22 : decode cX12_image 22 = .ok (.iload_n 1, 1) := by decide +kernel
theorem dX12_image_23 : decode cX12_image 23 = .ok (.iconst 1, 1) := by decide +kernel
theorem dX12_image_24 : decode cX12_image 24 = .ok (.bastore, 1) := by decide +kernel
theorem dX12_image_25 : decode cX12_image 25 = .ok (.iconst 0, 1) := by decide +kernel
theorem dX12_image_26 : decode cX12_image 26 = .ok (.istore_n 2, 1) := by decide +kernel
theorem dX12_image_27 : decode cX12_image 27 = .ok (.iload_n 2, 1) := by decide +kernel
theorem dX12_image_28 : decode cX12_image 28 = .ok (.sipush 226, 3) := by decide +kernel
theorem dX12_image_31 : decode cX12_image 31 = .ok (.if_icmp .ge 27, 3) := by decide +kernel
theorem dX12_image_34 : decode cX12_image 34 = .ok (.aload_n 0, 1) := by decide +kernel
theorem dX12_image_35 : decode cX12_image 35 = .ok (.getfield 109, 3) := by decide +kernel
theorem dX12_image_38 : decode cX12_image 38 = .ok (.sipush 226, 3) := by decide +kernel
theorem dX12_image_41 : decode cX12_image 41 = .ok (.iload_n 1, 1) := by decide +kernel
theorem dX12_image_42 : decode cX12_image 42 = .ok (.imul, 1) := by decide +kernel
theorem dX12_image_43 : decode cX12_image 43 = .ok (.iload_n 2, 1) := by decide +kernel
theorem dX12_image_44 : decode cX12_image 44 = .ok (.iadd, 1) := by decide +kernel
theorem dX12_image_45 : decode cX12_image 45 = .ok (.aload_n 0, 1) := by decide +kernel
theorem dX12_image_46 : decode cX12_image 46 = .ok (.getfield 45, 3) := by decide +kernel
theorem dX12_image_49 : decode cX12_image 49 = .ok (.iload_n 2, 1) := by decide +kernel
theorem dX12_image_50 : decode cX12_image 50 = .ok (.iaload, 1) := by decide +kernel
theorem dX12_image_51 : decode cX12_image 51 = .ok (.iastore, 1) := by decide +kernel
theorem dX12_image_52 : decode cX12_image 52 = .ok (.iinc 2 1, 3) := by decide +kernel
theorem dX12_image_55 : decode cX12_image 55 = .ok (.goto (-28), 3) := by decide +kernel
theorem dX12_image_58 : decode cX12_image 58 = .ok (.aload_n 0, 1) := by decide +kernel
theorem dX12_image_59 : decode cX12_image 59 = .ok (.getfield 45, 3) := by decide +kernel
theorem dX12_image_62 : decode cX12_image 62 = .ok (.iconst 3, 1) := by decide +kernel
theorem dX12_image_63 : decode cX12_image 63 = .ok (.iaload, 1) := by decide +kernel
theorem dX12_image_64 : decode cX12_image 64 = .ok (.ireturn, 1) := by decide +kernel
theorem dX12_in_0 : decode cX12_in 0 = .ok (.lload_n 0, 1) := by decide +kernel
theorem dX12_in_1 : decode cX12_in 1 = .ok (.lload_n 2, 1) := by decide +kernel
theorem dX12_in_2 : decode cX12_in 2 = .ok (.lcmp, 1) := by decide +kernel
theorem dX12_in_3 : decode cX12_in 3 = .ok (.ifCond .lt 14, 3) := by decide +kernel
theorem dX12_in_6 : decode cX12_in 6 = .ok (.lload_n 0, 1) := by decide +kernel
theorem dX12_in_7 : decode cX12_in 7 = .ok (.lload 4, 2) := by decide +kernel
theorem dX12_in_9 : decode cX12_in 9 = .ok (.lcmp, 1) := by decide +kernel
theorem dX12_in_10 : decode cX12_in 10 = .ok (.ifCond .gt 7, 3) := by decide +kernel
theorem dX12_in_13 : decode cX12_in 13 = .ok (.iconst 1, 1) := by decide +kernel
theorem dX12_in_14 : decode cX12_in 14 = .ok (.goto 4, 3) := by decide +kernel
theorem dX12_in_17 : decode cX12_in 17 = .ok (.iconst 0, 1) := by decide +kernel
theorem dX12_in_18 : decode cX12_in 18 = .ok (.ireturn, 1) := by decide +kernel
theorem dX12_init_0 : decode cX12_init 0 = .ok (.aload_n 0, 1) := by decide +kernel
theorem dX12_init_1 : decode cX12_init 1 = .ok (.invokespecial 1, 3) := by decide +kernel
theorem dX12_init_4 : decode cX12_init 4 = .ok (.aload_n 0, 1) := by decide +kernel
theorem dX12_init_5 : decode cX12_init 5 = .ok (.sipush 400, 3) := by decide +kernel
theorem dX12_init_8 : decode cX12_init 8 = .ok (.newarray .byte, 2) := by decide +kernel
theorem dX12_init_10 : decode cX12_init 10 = .ok (.putfield 7, 3) := by decide +kernel
theorem dX12_init_13 : decode cX12_init 13 = .ok (.aload_n 0, 1) := by decide +kernel
theorem dX12_init_14 : decode cX12_init 14 = .ok (.sipush 2400, 3) := by decide +kernel
theorem dX12_init_17 : decode cX12_init 17 = .ok (.newarray .int, 2) := by decide +kernel
theorem dX12_init_19 : decode cX12_init 19 = .ok (.putfield 13, 3) := by decide +kernel
theorem dX12_init_22 : decode cX12_init 22 = .ok (.aload_n 0, 1) := by decide +kernel
theorem dX12_init_23 : decode cX12_init 23 = .ok (.bipush 7, 2) := by decide +kernel
theorem dX12_init_25 : decode cX12_init 25 = .ok (.newarray .int, 2) := by decide +kernel
theorem dX12_init_27 : decode cX12_init 27 = .ok (.putfield 17, 3) := by decide +kernel
theorem dX12_init_30 : decode cX12_init 30 = .ok (.aload_n 0, 1) := by decide +kernel
theorem dX12_init_31 : decode cX12_init 31 = .ok (.sipush 216, 3) := by decide +kernel
theorem dX12_init_34 : decode cX12_init 34 = .ok (.newarray .int, 2) := by decide +kernel
theorem dX12_init_36 : decode cX12_init 36 = .ok (.putfield 20, 3) := by decide +kernel
theorem dX12_init_39 : decode cX12_init 39 = .ok (.aload_n 0, 1) := by decide +kernel
theorem dX12_init_40 : decode cX12_init 40 = .ok (.bipush 6, 2) := by decide +kernel
theorem dX12_init_42 : decode cX12_init 42 = .ok (.newarray .int, 2) := by decide +kernel
theorem dX12_init_44 : decode cX12_init 44 = .ok (.putfield 23, 3) := by decide +kernel
theorem dX12_init_47 : decode cX12_init 47 = .ok (.aload_n 0, 1) := by decide +kernel
theorem dX12_init_48 : decode cX12_init 48 = .ok (.bipush 120, 2) := by decide +kernel
theorem dX12_init_50 : decode cX12_init 50 = .ok (.newarray .int, 2) := by decide +kernel
theorem dX12_init_52 : decode cX12_init 52 = .ok (.putfield 26, 3) := by decide +kernel
theorem dX12_init_55 : decode cX12_init 55 = .ok (.aload_n 0, 1) := by decide +kernel
theorem dX12_init_56 : decode cX12_init 56 = .ok (.bipush 10, 2) := by decide +kernel
theorem dX12_init_58 : decode cX12_init 58 = .ok (.newarray .int, 2) := by decide +kernel
theorem dX12_init_60 : decode cX12_init 60 = .ok (.putfield 29, 3) := by decide +kernel
theorem dX12_init_63 : decode cX12_init 63 = .ok (.aload_n 0, 1) := by decide +kernel
theorem dX12_init_64 : decode cX12_init 64 = .ok (.bipush 10, 2) := by decide +kernel
theorem dX12_init_66 : decode cX12_init 66 = .ok (.newarray .int, 2) := by decide +kernel
theorem dX12_init_68 : decode cX12_init 68 = .ok (.putfield 32, 3) := by decide +kernel
theorem dX12_init_71 : decode cX12_init 71 = .ok (.aload_n 0, 1) := by decide +kernel
theorem dX12_init_72 : decode cX12_init 72 = .ok (.sipush 400, 3) := by decide +kernel
theorem dX12_init_75 : decode cX12_init 75 = .ok (.newarray .int, 2) := by decide +kernel
theorem dX12_init_77 : decode cX12_init 77 = .ok (.putfield 35, 3) := by decide +kernel
theorem dX12_init_80 : decode cX12_init 80 = .ok (.aload_n 0, 1) := by decide +kernel
theorem dX12_init_81 : decode cX12_init 81 = .ok (.bipush 64, 2) := by decide +kernel
theorem dX12_init_83 : decode cX12_init 83 = .ok (.newarray .long, 2) := by decide +kernel
theorem dX12_init_85 : decode cX12_init 85 = .ok (.putfield 38, 3) := by decide +kernel
theorem dX12_init_88 : decode cX12_init 88 = .ok (.aload_n 0, 1) := by decide +kernel
theorem dX12_init_89 : decode cX12_init 89 = .ok (.bipush 10, 2) := by decide +kernel
theorem dX12_init_91 : decode cX12_init 91 = .ok (.newarray .long, 2) := by decide +kernel
theorem dX12_init_93 : decode cX12_init 93 = .ok (.putfield 42, 3) := by decide +kernel
theorem dX12_init_96 : decode cX12_init 96 = .ok (.aload_n 0, 1) := by decide +kernel
theorem dX12_init_97 : decode cX12_init 97 = .ok (.sipush 226, 3) := by decide +kernel
theorem dX12_init_100 : decode cX12_init 100 = .ok (.newarray .int, 2) := by decide +kernel
theorem dX12_init_102 : decode cX12_init 102 = .ok (.putfield 45, 3) := by decide +kernel
theorem dX12_init_105 : decode cX12_init 105 = .ok (.aload_n 0, 1) := by decide +kernel
theorem dX12_init_106 : decode cX12_init 106 = .ok (.iconst 2, 1) := by decide +kernel
theorem dX12_init_107 : decode cX12_init 107 = .ok (.newarray .int, 2) := by decide +kernel
theorem dX12_init_109 : decode cX12_init 109 = .ok (.putfield 48, 3) := by decide +kernel
theorem dX12_init_112 : decode cX12_init 112 = .ok (.aload_n 0, 1) := by decide +kernel
theorem dX12_init_113 : decode cX12_init 113 = .ok (.bipush 10, 2) := by decide +kernel
theorem dX12_init_115 : decode cX12_init 115 = .ok (.newarray .int, 2) := by decide +kernel
theorem dX12_init_117 : decode cX12_init 117 = .ok (.putfield 51, 3) := by decide +kernel
theorem dX12_init_120 : decode cX12_init 120 = .ok (.aload_n 0, 1) := by decide +kernel
theorem dX12_init_121 : decode cX12_init 121 = .ok (.bipush 8, 2) := by decide +kernel
theorem dX12_init_123 : decode cX12_init 123 = .ok (.newarray .int, 2) := by decide +kernel
theorem dX12_init_125 : decode cX12_init 125 = .ok (.putfield 54, 3) := by decide +kernel
theorem dX12_init_128 : decode cX12_init 128 = .ok (.aload_n 0, 1) := by decide +kernel
theorem dX12_init_129 : decode cX12_init 129 = .ok (.bipush 10, 2) := by decide +kernel
theorem dX12_init_131 : decode cX12_init 131 = .ok (.newarray .int, 2) := by decide +kernel
theorem dX12_init_133 : decode cX12_init 133 = .ok (.putfield 57, 3) := by decide +kernel
theorem dX12_init_136 : decode cX12_init 136 = .ok (.aload_n 0, 1) := by decide +kernel
theorem dX12_init_137 : decode cX12_init 137 = .ok (.bipush 10, 2) := by decide +kernel
theorem dX12_init_139 : decode cX12_init 139 = .ok (.newarray .int, 2) := by decide +kernel
theorem dX12_init_141 : decode cX12_init 141 = .ok (.putfield 60, 3) := by decide +kernel
theorem dX12_init_144 : decode cX12_init 144 = .ok (.aload_n 0, 1) := by decide +kernel
theorem dX12_init_145 : decode cX12_init 145 = .ok (.bipush 60, 2) := by decide +kernel
theorem dX12_init_147 : decode cX12_init 147 = .ok (.newarray .int, 2) := by decide +kernel
theorem dX12_init_149 : decode cX12_init 149 = .ok (.putfield 63, 3) := by decide +kernel
theorem dX12_init_152 : decode cX12_init 152 = .ok (.aload_n 0, 1) := by decide +kernel
theorem dX12_init_153 : decode cX12_init 153 = .ok (.iconst 5, 1) := by decide +kernel
theorem dX12_init_154 : decode cX12_init 154 = .ok (.newarray .int, 2) := by decide +kernel
theorem dX12_init_156 : decode cX12_init 156 = .ok (.putfield 66, 3) := by decide +kernel
theorem dX12_init_159 : decode cX12_init 159 = .ok (.aload_n 0, 1) := by decide +kernel
theorem dX12_init_160 : decode cX12_init 160 = .ok (.bipush 6, 2) := by decide +kernel
theorem dX12_init_162 : decode cX12_init 162 = .ok (.newarray .int, 2) := by decide +kernel
theorem dX12_init_164 : decode cX12_init 164 = .ok (.putfield 69, 3) := by decide +kernel
theorem dX12_init_167 : decode cX12_init 167 = .ok (.aload_n 0, 1) := by decide +kernel
theorem dX12_init_168 : decode cX12_init 168 = .ok (.iconst 5, 1) := by decide +kernel
theorem dX12_init_169 : decode cX12_init 169 = .ok (.newarray .int, 2) := by decide +kernel
theorem dX12_init_171 : decode cX12_init 171 = .ok (.putfield 72, 3) := by decide +kernel
theorem dX12_init_174 : decode cX12_init 174 = .ok (.aload_n 0, 1) := by decide +kernel
theorem dX12_init_175 : decode cX12_init 175 = .ok (.iconst 5, 1) := by decide +kernel
theorem dX12_init_176 : decode cX12_init 176 = .ok (.newarray .int, 2) := by decide +kernel
theorem dX12_init_178 : decode cX12_init 178 = .ok (.putfield 75, 3) := by decide +kernel
theorem dX12_init_181 : decode cX12_init 181 = .ok (.aload_n 0, 1) := by decide +kernel
theorem dX12_init_182 : decode cX12_init 182 = .ok (.iconst 5, 1) := by decide +kernel
theorem dX12_init_183 : decode cX12_init 183 = .ok (.newarray .int, 2) := by decide +kernel
theorem dX12_init_185 : decode cX12_init 185 = .ok (.putfield 78, 3) := by decide +kernel
theorem dX12_init_188 : decode cX12_init 188 = .ok (.aload_n 0, 1) := by decide +kernel
theorem dX12_init_189 : decode cX12_init 189 = .ok (.sipush 6561, 3) := by decide +kernel
theorem dX12_init_192 : decode cX12_init 192 = .ok (.newarray .int, 2) := by decide +kernel
theorem dX12_init_194 : decode cX12_init 194 = .ok (.putfield 81, 3) := by decide +kernel
theorem dX12_init_197 : decode cX12_init 197 = .ok (.aload_n 0, 1) := by decide +kernel
theorem dX12_init_198 : decode cX12_init 198 = .ok (.sipush 6561, 3) := by decide +kernel
theorem dX12_init_201 : decode cX12_init 201 = .ok (.newarray .int, 2) := by decide +kernel
theorem dX12_init_203 : decode cX12_init 203 = .ok (.putfield 84, 3) := by decide +kernel
theorem dX12_init_206 : decode cX12_init 206 = .ok (.aload_n 0, 1) := by decide +kernel
theorem dX12_init_207 : decode cX12_init 207 = .ok (.bipush 6, 2) := by decide +kernel
theorem dX12_init_209 : decode cX12_init 209 = .ok (.newarray .int, 2) := by decide +kernel
theorem dX12_init_211 : decode cX12_init 211 = .ok (.putfield 87, 3) := by decide +kernel
theorem dX12_init_214 : decode cX12_init 214 = .ok (.aload_n 0, 1) := by decide +kernel
theorem dX12_init_215 : decode cX12_init 215 = .ok (.bipush 6, 2) := by decide +kernel
theorem dX12_init_217 : decode cX12_init 217 = .ok (.newarray .int, 2) := by decide +kernel
theorem dX12_init_219 : decode cX12_init 219 = .ok (.putfield 90, 3) := by decide +kernel
theorem dX12_init_222 : decode cX12_init 222 = .ok (.aload_n 0, 1) := by decide +kernel
theorem dX12_init_223 : decode cX12_init 223 = .ok (.sipush 3010, 3) := by decide +kernel
theorem dX12_init_226 : decode cX12_init 226 = .ok (.newarray .int, 2) := by decide +kernel
theorem dX12_init_228 : decode cX12_init 228 = .ok (.putfield 93, 3) := by decide +kernel
theorem dX12_init_231 : decode cX12_init 231 = .ok (.aload_n 0, 1) := by decide +kernel
theorem dX12_init_232 : decode cX12_init 232 = .ok (.sipush 3010, 3) := by decide +kernel
theorem dX12_init_235 : decode cX12_init 235 = .ok (.newarray .int, 2) := by decide +kernel
theorem dX12_init_237 : decode cX12_init 237 = .ok (.putfield 96, 3) := by decide +kernel
theorem dX12_init_240 : decode cX12_init 240 = .ok (.aload_n 0, 1) := by decide +kernel
theorem dX12_init_241 : decode cX12_init 241 = .ok (.sipush 301, 3) := by decide +kernel
theorem dX12_init_244 : decode cX12_init 244 = .ok (.newarray .int, 2) := by decide +kernel
theorem dX12_init_246 : decode cX12_init 246 = .ok (.putfield 99, 3) := by decide +kernel
theorem dX12_init_249 : decode cX12_init 249 = .ok (.aload_n 0, 1) := by decide +kernel
theorem dX12_init_250 : decode cX12_init 250 = .ok (.bipush 10, 2) := by decide +kernel
theorem dX12_init_252 : decode cX12_init 252 = .ok (.newarray .int, 2) := by decide +kernel
theorem dX12_init_254 : decode cX12_init 254 = .ok (.putfield 102, 3) := by decide +kernel
theorem dX12_init_257 : decode cX12_init 257 = .ok (.aload_n 0, 1) := by decide +kernel
theorem dX12_init_258 : decode cX12_init 258 = .ok (.ldc 105, 2) := by decide +kernel
theorem dX12_init_260 : decode cX12_init 260 = .ok (.newarray .int, 2) := by decide +kernel
theorem dX12_init_262 : decode cX12_init 262 = .ok (.putfield 106, 3) := by decide +kernel
theorem dX12_init_265 : decode cX12_init 265 = .ok (.aload_n 0, 1) := by decide +kernel
theorem dX12_init_266 : decode cX12_init 266 = .ok (.sipush 904, 3) := by decide +kernel
theorem dX12_init_269 : decode cX12_init 269 = .ok (.newarray .int, 2) := by decide +kernel
theorem dX12_init_271 : decode cX12_init 271 = .ok (.putfield 109, 3) := by decide +kernel
theorem dX12_init_274 : decode cX12_init 274 = .ok (.aload_n 0, 1) := by decide +kernel
theorem dX12_init_275 : decode cX12_init 275 = .ok (.iconst 4, 1) := by decide +kernel
theorem dX12_init_276 : decode cX12_init 276 = .ok (.newarray .boolean, 2) := by decide +kernel
theorem dX12_init_278 : decode cX12_init 278 = .ok (.putfield 112, 3) := by decide +kernel
theorem dX12_init_281 : decode cX12_init 281 = .ok (.return_, 1) := by decide +kernel
theorem dX12_isAgain_0 : decode cX12_isAgain 0 = .ok (.iconst 0, 1) := by decide +kernel
theorem dX12_isAgain_1 : decode cX12_isAgain 1 = .ok (.istore_n 3, 1) := by decide +kernel
theorem dX12_isAgain_2 : decode cX12_isAgain 2 = .ok (.iload_n 3, 1) := by decide +kernel
theorem dX12_isAgain_3 : decode cX12_isAgain 3 = .ok (.bipush 10, 2) := by decide +kernel
theorem dX12_isAgain_5 : decode cX12_isAgain 5 = .ok (.if_icmp .ge 36, 3) := by decide +kernel
theorem dX12_isAgain_8 : decode cX12_isAgain 8 = .ok (.aload_n 0, 1) := by decide +kernel
theorem dX12_isAgain_9 : decode cX12_isAgain 9 = .ok (.getfield 93, 3) := by decide +kernel
theorem dX12_isAgain_12 : decode cX12_isAgain 12 = .ok (.bipush 10, 2) := by decide +kernel
theorem dX12_isAgain_14 : decode cX12_isAgain 14 = .ok (.iload_n 1, 1) := by decide +kernel
theorem dX12_isAgain_15 : decode cX12_isAgain 15 = .ok (.imul, 1) := by decide +kernel
theorem dX12_isAgain_16 : decode cX12_isAgain 16 = .ok (.iload_n 3, 1) := by decide +kernel
theorem dX12_isAgain_17 : decode cX12_isAgain 17 = .ok (.iadd, 1) := by decide +kernel
theorem dX12_isAgain_18 : decode cX12_isAgain 18 = .ok (.iaload, 1) := by decide +kernel
theorem dX12_isAgain_19 : decode cX12_isAgain 19 = .ok (.aload_n 0, 1) := by decide +kernel
theorem dX12_isAgain_20 : decode cX12_isAgain 20 = .ok (.getfield 93, 3) := by decide +kernel
theorem dX12_isAgain_23 : decode cX12_isAgain 23 = .ok (.bipush 10, 2) := by decide +kernel
theorem dX12_isAgain_25 : decode cX12_isAgain 25 = .ok (.iload_n 2, 1) := by decide +kernel
theorem dX12_isAgain_26 : decode cX12_isAgain 26 = .ok (.imul, 1) := by decide +kernel
theorem dX12_isAgain_27 : decode cX12_isAgain 27 = .ok (.iload_n 3, 1) := by decide +kernel
theorem dX12_isAgain_28 : decode cX12_isAgain 28 = .ok (.iadd, 1) := by decide +kernel
theorem dX12_isAgain_29 : decode cX12_isAgain 29 = .ok (.iaload, 1) := by decide +kernel
theorem dX12_isAgain_30 : decode cX12_isAgain 30 = .ok (.if_icmp .eq 5, 3) := by decide +kernel
theorem dX12_isAgain_33 : decode cX12_isAgain 33 = .ok (.iconst 0, 1) := by decide +kernel
theorem dX12_isAgain_34 : decode cX12_isAgain 34 = .ok (.ireturn, 1) := by decide +kernel
theorem dX12_isAgain_35 : decode cX12_isAgain 35 = .ok (.iinc 3 1, 3) := by decide +kernel
theorem dX12_isAgain_38 : decode cX12_isAgain 38 = .ok (.goto (-36), 3) := by decide +kernel
theorem dX12_isAgain_41 : decode cX12_isAgain 41 = .ok (.iconst 1, 1) := by decide +kernel
theorem dX12_isAgain_42 : decode cX12_isAgain 42 = .ok (.ireturn, 1) := by decide +kernel
theorem dX12_isAhead_0 : decode cX12_isAhead 0 = .ok (.iconst 0, 1) := by decide +kernel
theorem dX12_isAhead_1 : decode cX12_isAhead 1 = .ok (.istore_n 1, 1) := by decide +kernel
theorem dX12_isAhead_2 : decode cX12_isAhead 2 = .ok (.iload_n 1, 1) := by decide +kernel
theorem dX12_isAhead_3 : decode cX12_isAhead 3 = .ok (.aload_n 0, 1) := by decide +kernel
theorem dX12_isAhead_4 : decode cX12_isAhead 4 = .ok (.getfield 351, 3) := by decide +kernel
theorem dX12_isAhead_7 : decode cX12_isAhead 7 = .ok (.if_icmp .ge 45, 3) := by decide +kernel
theorem dX12_isAhead_10 : decode cX12_isAhead 10 = .ok (.aload_n 0, 1) := by decide +kernel
theorem dX12_isAhead_11 : decode cX12_isAhead 11 = .ok (.getfield 54, 3) := by decide +kernel
theorem dX12_isAhead_14 : decode cX12_isAhead 14 = .ok (.iload_n 1, 1) := by decide +kernel
theorem dX12_isAhead_15 : decode cX12_isAhead 15 = .ok (.iaload, 1) := by decide +kernel
theorem dX12_isAhead_16 : decode cX12_isAhead 16 = .ok (.aload_n 0, 1) := by decide +kernel
theorem dX12_isAhead_17 : decode cX12_isAhead 17 = .ok (.getfield 87, 3) := by decide +kernel
theorem dX12_isAhead_20 : decode cX12_isAhead 20 = .ok (.iload_n 1, 1) := by decide +kernel
theorem dX12_isAhead_21 : decode cX12_isAhead 21 = .ok (.iaload, 1) := by decide +kernel
theorem dX12_isAhead_22 : decode cX12_isAhead 22 = .ok (.if_icmp .eq 24, 3) := by decide +kernel
theorem dX12_isAhead_25 : decode cX12_isAhead 25 = .ok (.aload_n 0, 1) := by decide +kernel
theorem dX12_isAhead_26 : decode cX12_isAhead 26 = .ok (.getfield 54, 3) := by decide +kernel
theorem dX12_isAhead_29 : decode cX12_isAhead 29 = .ok (.iload_n 1, 1) := by decide +kernel
theorem dX12_isAhead_30 : decode cX12_isAhead 30 = .ok (.iaload, 1) := by decide +kernel
theorem dX12_isAhead_31 : decode cX12_isAhead 31 = .ok (.aload_n 0, 1) := by decide +kernel
theorem dX12_isAhead_32 : decode cX12_isAhead 32 = .ok (.getfield 87, 3) := by decide +kernel
theorem dX12_isAhead_35 : decode cX12_isAhead 35 = .ok (.iload_n 1, 1) := by decide +kernel
theorem dX12_isAhead_36 : decode cX12_isAhead 36 = .ok (.iaload, 1) := by decide +kernel
theorem dX12_isAhead_37 : decode cX12_isAhead 37 = .ok (.if_icmp .ge 7, 3) := by decide +kernel
theorem dX12_isAhead_40 : decode cX12_isAhead 40 = .ok (.iconst 1, 1) := by decide +kernel
theorem dX12_isAhead_41 : decode cX12_isAhead 41 = .ok (.goto 4, 3) := by decide +kernel
theorem dX12_isAhead_44 : decode cX12_isAhead 44 = .ok (.iconst 0, 1) := by decide +kernel
theorem dX12_isAhead_45 : decode cX12_isAhead 45 = .ok (.ireturn, 1) := by decide +kernel
theorem dX12_isAhead_46 : decode cX12_isAhead 46 = .ok (.iinc 1 1, 3) := by decide +kernel
theorem dX12_isAhead_49 : decode cX12_isAhead 49 = .ok (.goto (-47), 3) := by decide +kernel
theorem dX12_isAhead_52 : decode cX12_isAhead 52 = .ok (.iconst 0, 1) := by decide +kernel
theorem dX12_isAhead_53 : decode cX12_isAhead 53 = .ok (.ireturn, 1) := by decide +kernel
theorem dX12_isBentHere_0 : decode cX12_isBentHere 0 = .ok (.aload_n 0, 1) := by decide +kernel
theorem dX12_isBentHere_1 : decode cX12_isBentHere 1 = .ok (.invokevirtual 142, 3) := by decide +kernel
theorem dX12_isBentHere_4 : decode cX12_isBentHere 4 = .ok (.aload_n 0, 1) := by decide +kernel
theorem dX12_isBentHere_5 : decode cX12_isBentHere 5 = .ok (.iconst 0, 1) := by decide +kernel
theorem dX12_isBentHere_6 : decode cX12_isBentHere 6 = .ok (.aload_n 0, 1) := by decide +kernel
theorem dX12_isBentHere_7 : decode cX12_isBentHere 7 = .ok (.getfield 251, 3) := by decide +kernel
theorem dX12_isBentHere_10 : decode cX12_isBentHere 10 = .ok (.iconst 1, 1) := by decide +kernel
theorem dX12_isBentHere_11 : decode cX12_isBentHere 11 = .ok (.isub, 1) := by decide +kernel
theorem dX12_isBentHere_12 : decode cX12_isBentHere 12 = .ok (.invokevirtual 200, 3) := by decide +kernel
theorem dX12_isBentHere_15 : decode cX12_isBentHere 15 = .ok (.ifCond .ne 5, 3) := by decide +kernel
theorem dX12_isBentHere_18 : decode cX12_isBentHere 18 = .ok (.iconst 0, 1) := by decide +kernel
theorem dX12_isBentHere_19 : decode cX12_isBentHere 19 = .ok (.ireturn, 1) := by decide +kernel
theorem dX12_isBentHere_20 : decode cX12_isBentHere 20 = .ok (.aload_n 0, 1) := by decide +kernel
theorem dX12_isBentHere_21 : decode cX12_isBentHere 21 = .ok (.getfield 152, 3) := by decide +kernel
theorem dX12_isBentHere_24 : decode cX12_isBentHere 24 = .ok (.istore_n 1, 1) := by decide +kernel
theorem dX12_isBentHere_25 : decode cX12_isBentHere 25 = .ok (.aload_n 0, 1) := by decide +kernel
theorem dX12_isBentHere_26 : decode cX12_isBentHere 26 = .ok (.iconst 0, 1) := by decide +kernel
theorem dX12_isBentHere_27 : decode cX12_isBentHere 27 = .ok (.iconst 5, 1) := by decide +kernel
theorem dX12_isBentHere_28 : decode cX12_isBentHere 28 = .ok (.invokevirtual 200, 3) := by decide +kernel
theorem dX12_isBentHere_31 : decode cX12_isBentHere 31 = .ok (.ifCond .ne 5, 3) := by decide +kernel
theorem dX12_isBentHere_34 : decode cX12_isBentHere 34 = .ok (.iconst 0, 1) := by decide +kernel
theorem dX12_isBentHere_35 : decode cX12_isBentHere 35 = .ok (.ireturn, 1) := by decide +kernel
theorem dX12_isBentHere_36 : decode cX12_isBentHere 36 = .ok (.aload_n 0, 1) := by decide +kernel
theorem dX12_isBentHere_37 : decode cX12_isBentHere 37 = .ok (.getfield 32, 3) := by decide +kernel
theorem dX12_isBentHere_40 : decode cX12_isBentHere 40 = .ok (.iload_n 1, 1) := by decide +kernel
theorem dX12_isBentHere_41 : decode cX12_isBentHere 41 = .ok (.aload_n 0, 1) := by decide +kernel
theorem dX12_isBentHere_42 : decode cX12_isBentHere 42 = .ok (.getfield 152, 3) := by decide +kernel
theorem dX12_isBentHere_45 : decode cX12_isBentHere 45 = .ok (.iastore, 1) := by decide +kernel
theorem dX12_isBentHere_46 : decode cX12_isBentHere 46 = .ok (.iconst 1, 1) := by decide +kernel
theorem dX12_isBentHere_47 : decode cX12_isBentHere 47 = .ok (.ireturn, 1) := by decide +kernel
theorem dX12_isDigit_0 : decode cX12_isDigit 0 = .ok (.iload_n 1, 1) := by decide +kernel
theorem dX12_isDigit_1 : decode cX12_isDigit 1 = .ok (.aload_n 0, 1) := by decide +kernel
theorem dX12_isDigit_2 : decode cX12_isDigit 2 = .ok (.getfield 116, 3) := by decide +kernel
theorem dX12_isDigit_5 : decode cX12_isDigit 5 = .ok (.if_icmp .ge 29, 3) := by decide +kernel
theorem dX12_isDigit_8 : decode cX12_isDigit 8 = .ok (.aload_n 0, 1) := by decide +kernel
theorem dX12_isDigit_9 : decode cX12_isDigit 9 = .ok (.getfield 7, 3) := by decide +kernel
theorem dX12_isDigit_12 : decode cX12_isDigit 12 = .ok (.iload_n 1, 1) := by decide +kernel
theorem dX12_isDigit_13 : decode cX12_isDigit 13 = .ok (.baload, 1) := by decide +kernel
theorem dX12_isDigit_14 : decode cX12_isDigit 14 = .ok (.bipush 48, 2) := by decide +kernel
theorem dX12_isDigit_16 : decode cX12_isDigit 16 = .ok (.if_icmp .lt 18, 3) := by decide +kernel
theorem dX12_isDigit_19 : decode cX12_isDigit 19 = .ok (.aload_n 0, 1) := by decide +kernel
theorem dX12_isDigit_20 : decode cX12_isDigit 20 = .ok (.getfield 7, 3) := by decide +kernel
theorem dX12_isDigit_23 : decode cX12_isDigit 23 = .ok (.iload_n 1, 1) := by decide +kernel
theorem dX12_isDigit_24 : decode cX12_isDigit 24 = .ok (.baload, 1) := by decide +kernel
theorem dX12_isDigit_25 : decode cX12_isDigit 25 = .ok (.bipush 57, 2) := by decide +kernel
theorem dX12_isDigit_27 : decode cX12_isDigit 27 = .ok (.if_icmp .gt 7, 3) := by decide +kernel
theorem dX12_isDigit_30 : decode cX12_isDigit 30 = .ok (.iconst 1, 1) := by decide +kernel
theorem dX12_isDigit_31 : decode cX12_isDigit 31 = .ok (.goto 4, 3) := by decide +kernel
theorem dX12_isDigit_34 : decode cX12_isDigit 34 = .ok (.iconst 0, 1) := by decide +kernel
theorem dX12_isDigit_35 : decode cX12_isDigit 35 = .ok (.ireturn, 1) := by decide +kernel
theorem dX12_isDigitHere_0 : decode cX12_isDigitHere 0 = .ok (.aload_n 0, 1) := by decide +kernel
theorem dX12_isDigitHere_1 : decode cX12_isDigitHere 1 = .ok (.getfield 127, 3) := by decide +kernel
theorem dX12_isDigitHere_4 : decode cX12_isDigitHere 4 = .ok (.aload_n 0, 1) := by decide +kernel
theorem dX12_isDigitHere_5 : decode cX12_isDigitHere 5 = .ok (.getfield 116, 3) := by decide +kernel
theorem dX12_isDigitHere_8 : decode cX12_isDigitHere 8 = .ok (.if_icmp .ge 35, 3) := by decide +kernel
theorem dX12_isDigitHere_11 : decode cX12_isDigitHere 11 = .ok (.aload_n 0, 1) := by decide +kernel
theorem dX12_isDigitHere_12 : decode cX12_isDigitHere 12 = .ok (.getfield 7, 3) := by decide +kernel
theorem dX12_isDigitHere_15 : decode cX12_isDigitHere 15 = .ok (.aload_n 0, 1) := by decide +kernel
theorem dX12_isDigitHere_16 : decode cX12_isDigitHere 16 = .ok (.getfield 127, 3) := by decide +kernel
theorem dX12_isDigitHere_19 : decode cX12_isDigitHere 19 = .ok (.baload, 1) := by decide +kernel
theorem dX12_isDigitHere_20 : decode cX12_isDigitHere 20 = .ok (.bipush 48, 2) := by decide +kernel
theorem dX12_isDigitHere_22 : decode cX12_isDigitHere 22 = .ok (.if_icmp .lt 21, 3) := by decide +kernel
theorem dX12_isDigitHere_25 : decode cX12_isDigitHere 25 = .ok (.aload_n 0, 1) := by decide +kernel
theorem dX12_isDigitHere_26 : decode cX12_isDigitHere 26 = .ok (.getfield 7, 3) := by decide +kernel
theorem dX12_isDigitHere_29 : decode cX12_isDigitHere 29 = .ok (.aload_n 0, 1) := by decide +kernel
theorem dX12_isDigitHere_30 : decode cX12_isDigitHere 30 = .ok (.getfield 127, 3) := by decide +kernel
theorem dX12_isDigitHere_33 : decode cX12_isDigitHere 33 = .ok (.baload, 1) := by decide +kernel
theorem dX12_isDigitHere_34 : decode cX12_isDigitHere 34 = .ok (.bipush 57, 2) := by decide +kernel
theorem dX12_isDigitHere_36 : decode cX12_isDigitHere 36 = .ok (.if_icmp .gt 7, 3) := by decide +kernel
theorem dX12_isDigitHere_39 : decode cX12_isDigitHere 39 = .ok (.iconst 1, 1) := by decide +kernel
theorem dX12_isDigitHere_40 : decode cX12_isDigitHere 40 = .ok (.goto 4, 3) := by decide +kernel
theorem dX12_isDigitHere_43 : decode cX12_isDigitHere 43 = .ok (.iconst 0, 1) := by decide +kernel
theorem dX12_isDigitHere_44 : decode cX12_isDigitHere 44 = .ok (.ireturn, 1) := by decide +kernel
theorem dX12_isInside_0 : decode cX12_isInside 0 = .ok (.iconst 0, 1) := by decide +kernel
theorem dX12_isInside_1 : decode cX12_isInside 1 = .ok (.istore_n 1, 1) := by decide +kernel
theorem dX12_isInside_2 : decode cX12_isInside 2 = .ok (.iload_n 1, 1) := by decide +kernel
theorem dX12_isInside_3 : decode cX12_isInside 3 = .ok (.aload_n 0, 1) := by decide +kernel
theorem dX12_isInside_4 : decode cX12_isInside 4 = .ok (.getfield 188, 3) := by decide +kernel
theorem dX12_isInside_7 : decode cX12_isInside 7 = .ok (.if_icmp .ge 22, 3) := by decide +kernel
theorem dX12_isInside_10 : decode cX12_isInside 10 = .ok (.aload_n 0, 1) := by decide +kernel
theorem dX12_isInside_11 : decode cX12_isInside 11 = .ok (.getfield 35, 3) := by decide +kernel
theorem dX12_isInside_14 : decode cX12_isInside 14 = .ok (.iload_n 1, 1) := by decide +kernel
theorem dX12_isInside_15 : decode cX12_isInside 15 = .ok (.iaload, 1) := by decide +kernel
theorem dX12_isInside_16 : decode cX12_isInside 16 = .ok (.bipush 91, 2) := by decide +kernel
theorem dX12_isInside_18 : decode cX12_isInside 18 = .ok (.if_icmp .ne 5, 3) := by decide +kernel
theorem dX12_isInside_21 : decode cX12_isInside 21 = .ok (.iconst 1, 1) := by decide +kernel
theorem dX12_isInside_22 : decode cX12_isInside 22 = .ok (.ireturn, 1) := by decide +kernel
theorem dX12_isInside_23 : decode cX12_isInside 23 = .ok (.iinc 1 1, 3) := by decide +kernel
theorem dX12_isInside_26 : decode cX12_isInside 26 = .ok (.goto (-24), 3) := by decide +kernel
theorem dX12_isInside_29 : decode cX12_isInside 29 = .ok (.iconst 0, 1) := by decide +kernel
theorem dX12_isInside_30 : decode cX12_isInside 30 = .ok (.ireturn, 1) := by decide +kernel
theorem dX12_isLetter_0 : decode cX12_isLetter 0 = .ok (.iload_n 1, 1) := by decide +kernel
theorem dX12_isLetter_1 : decode cX12_isLetter 1 = .ok (.aload_n 0, 1) := by decide +kernel
theorem dX12_isLetter_2 : decode cX12_isLetter 2 = .ok (.getfield 116, 3) := by decide +kernel
theorem dX12_isLetter_5 : decode cX12_isLetter 5 = .ok (.if_icmp .ge 29, 3) := by decide +kernel
theorem dX12_isLetter_8 : decode cX12_isLetter 8 = .ok (.aload_n 0, 1) := by decide +kernel
theorem dX12_isLetter_9 : decode cX12_isLetter 9 = .ok (.getfield 7, 3) := by decide +kernel
theorem dX12_isLetter_12 : decode cX12_isLetter 12 = .ok (.iload_n 1, 1) := by decide +kernel
theorem dX12_isLetter_13 : decode cX12_isLetter 13 = .ok (.baload, 1) := by decide +kernel
theorem dX12_isLetter_14 : decode cX12_isLetter 14 = .ok (.bipush 97, 2) := by decide +kernel
theorem dX12_isLetter_16 : decode cX12_isLetter 16 = .ok (.if_icmp .lt 18, 3) := by decide +kernel
theorem dX12_isLetter_19 : decode cX12_isLetter 19 = .ok (.aload_n 0, 1) := by decide +kernel
theorem dX12_isLetter_20 : decode cX12_isLetter 20 = .ok (.getfield 7, 3) := by decide +kernel
theorem dX12_isLetter_23 : decode cX12_isLetter 23 = .ok (.iload_n 1, 1) := by decide +kernel
theorem dX12_isLetter_24 : decode cX12_isLetter 24 = .ok (.baload, 1) := by decide +kernel
theorem dX12_isLetter_25 : decode cX12_isLetter 25 = .ok (.bipush 122, 2) := by decide +kernel
theorem dX12_isLetter_27 : decode cX12_isLetter 27 = .ok (.if_icmp .gt 7, 3) := by decide +kernel
theorem dX12_isLetter_30 : decode cX12_isLetter 30 = .ok (.iconst 1, 1) := by decide +kernel
theorem dX12_isLetter_31 : decode cX12_isLetter 31 = .ok (.goto 4, 3) := by decide +kernel
theorem dX12_isLetter_34 : decode cX12_isLetter 34 = .ok (.iconst 0, 1) := by decide +kernel
theorem dX12_isLetter_35 : decode cX12_isLetter 35 = .ok (.ireturn, 1) := by decide +kernel
theorem dX12_isMember_0 : decode cX12_isMember 0 = .ok (.iload_n 1, 1) := by decide +kernel
theorem dX12_isMember_1 : decode cX12_isMember 1 = .ok (.ifCond .lt 17, 3) := by decide +kernel
theorem dX12_isMember_4 : decode cX12_isMember 4 = .ok (.iload_n 1, 1) := by decide +kernel
theorem dX12_isMember_5 : decode cX12_isMember 5 = .ok (.aload_n 0, 1) := by decide +kernel
theorem dX12_isMember_6 : decode cX12_isMember 6 = .ok (.getfield 45, 3) := by decide +kernel
theorem dX12_isMember_9 : decode cX12_isMember 9 = .ok (.iconst 0, 1) := by decide +kernel
theorem dX12_isMember_10 : decode cX12_isMember 10 = .ok (.iaload, 1) := by decide +kernel
theorem dX12_isMember_11 : decode cX12_isMember 11 = .ok (.if_icmp .ge 7, 3) := by decide +kernel
theorem dX12_isMember_14 : decode cX12_isMember 14 = .ok (.iconst 1, 1) := by decide +kernel
theorem dX12_isMember_15 : decode cX12_isMember 15 = .ok (.goto 4, 3) := by decide +kernel
theorem dX12_isMember_18 : decode cX12_isMember 18 = .ok (.iconst 0, 1) := by decide +kernel
theorem dX12_isMember_19 : decode cX12_isMember 19 = .ok (.ireturn, 1) := by decide +kernel
theorem dX12_isOf_0 : decode cX12_isOf 0 = .ok (.iload_n 0, 1) := by decide +kernel
theorem dX12_isOf_1 : decode cX12_isOf 1 = .ok (.iload_n 1, 1) := by decide +kernel
theorem dX12_isOf_2 : decode cX12_isOf 2 = .ok (.ishr, 1) := by decide +kernel
theorem dX12_isOf_3 : decode cX12_isOf 3 = .ok (.iconst 1, 1) := by decide +kernel
theorem dX12_isOf_4 : decode cX12_isOf 4 = .ok (.iand, 1) := by decide +kernel
theorem dX12_isOf_5 : decode cX12_isOf 5 = .ok (.iconst 1, 1) := by decide +kernel
theorem dX12_isOf_6 : decode cX12_isOf 6 = .ok (.if_icmp .ne 7, 3) := by decide +kernel
theorem dX12_isOf_9 : decode cX12_isOf 9 = .ok (.iconst 1, 1) := by decide +kernel
theorem dX12_isOf_10 : decode cX12_isOf 10 = .ok (.goto 4, 3) := by decide +kernel
theorem dX12_isOf_13 : decode cX12_isOf 13 = .ok (.iconst 0, 1) := by decide +kernel
theorem dX12_isOf_14 : decode cX12_isOf 14 = .ok (.ireturn, 1) := by decide +kernel
theorem dX12_isPoint_0 : decode cX12_isPoint 0 = .ok (.iload_n 1, 1) := by decide +kernel
theorem dX12_isPoint_1 : decode cX12_isPoint 1 = .ok (.ifCond .lt 17, 3) := by decide +kernel
theorem dX12_isPoint_4 : decode cX12_isPoint 4 = .ok (.iload_n 1, 1) := by decide +kernel
theorem dX12_isPoint_5 : decode cX12_isPoint 5 = .ok (.aload_n 0, 1) := by decide +kernel
theorem dX12_isPoint_6 : decode cX12_isPoint 6 = .ok (.getfield 45, 3) := by decide +kernel
theorem dX12_isPoint_9 : decode cX12_isPoint 9 = .ok (.iconst 1, 1) := by decide +kernel
theorem dX12_isPoint_10 : decode cX12_isPoint 10 = .ok (.iaload, 1) := by decide +kernel
theorem dX12_isPoint_11 : decode cX12_isPoint 11 = .ok (.if_icmp .ge 7, 3) := by decide +kernel
theorem dX12_isPoint_14 : decode cX12_isPoint 14 = .ok (.iconst 1, 1) := by decide +kernel
theorem dX12_isPoint_15 : decode cX12_isPoint 15 = .ok (.goto 4, 3) := by decide +kernel
theorem dX12_isPoint_18 : decode cX12_isPoint 18 = .ok (.iconst 0, 1) := by decide +kernel
theorem dX12_isPoint_19 : decode cX12_isPoint 19 = .ok (.ireturn, 1) := by decide +kernel
theorem dX12_isPointHere_0 : decode cX12_isPointHere 0 = .ok (.aload_n 0, 1) := by decide +kernel
theorem dX12_isPointHere_1 : decode cX12_isPointHere 1 = .ok (.getfield 254, 3) := by decide +kernel
theorem dX12_isPointHere_4 : decode cX12_isPointHere 4 = .ok (.bipush 12, 2) := by decide +kernel
theorem dX12_isPointHere_6 : decode cX12_isPointHere 6 = .ok (.if_icmp .ne 10, 3) := by decide +kernel
theorem dX12_isPointHere_9 : decode cX12_isPointHere 9 = .ok (.aload_n 0, 1) := by decide +kernel
theorem dX12_isPointHere_10 : decode cX12_isPointHere 10 = .ok (.iconst 4, 1) := by decide +kernel
theorem dX12_isPointHere_11 : decode cX12_isPointHere 11 = .ok (.iload_n 1, 1) := by decide +kernel
theorem dX12_isPointHere_12 : decode cX12_isPointHere 12 = .ok (.invokevirtual 148, 3) := by decide +kernel
theorem dX12_isPointHere_15 : decode cX12_isPointHere 15 = .ok (.ireturn, 1) := by decide +kernel
theorem dX12_isPointHere_16 : decode cX12_isPointHere 16 = .ok (.aload_n 0, 1) := by decide +kernel
theorem dX12_isPointHere_17 : decode cX12_isPointHere 17 = .ok (.invokevirtual 142, 3) := by decide +kernel
theorem dX12_isPointHere_20 : decode cX12_isPointHere 20 = .ok (.iconst 0, 1) := by decide +kernel
theorem dX12_isPointHere_21 : decode cX12_isPointHere 21 = .ok (.istore_n 2, 1) := by decide +kernel
theorem dX12_isPointHere_22 : decode cX12_isPointHere 22 = .ok (.iload_n 2, 1) := by decide +kernel
theorem dX12_isPointHere_23 : decode cX12_isPointHere 23 = .ok (.aload_n 0, 1) := by decide +kernel
theorem dX12_isPointHere_24 : decode cX12_isPointHere 24 = .ok (.getfield 251, 3) := by decide +kernel
theorem dX12_isPointHere_27 : decode cX12_isPointHere 27 = .ok (.if_icmp .ge 114, 3) := by decide +kernel
theorem dX12_isPointHere_30 : decode cX12_isPointHere 30 = .ok (.aload_n 0, 1) := by decide +kernel
theorem dX12_isPointHere_31 : decode cX12_isPointHere 31 = .ok (.invokevirtual 130, 3) := by decide +kernel
theorem dX12_isPointHere_34 : decode cX12_isPointHere 34 = .ok (.istore_n 3, 1) := by decide +kernel
theorem dX12_isPointHere_35 : decode cX12_isPointHere 35 = .ok (.iload_n 3, 1) := by decide +kernel
theorem dX12_isPointHere_36 : decode cX12_isPointHere 36 = .ok (.bipush 43, 2) := by decide +kernel
theorem dX12_isPointHere_38 : decode cX12_isPointHere 38 = .ok (.if_icmp .eq 9, 3) := by decide +kernel
theorem dX12_isPointHere_41 : decode cX12_isPointHere 41 = .ok (.iload_n 3, 1) := by decide +kernel
theorem dX12_isPointHere_42 : decode cX12_isPointHere 42 = .ok (.bipush 45, 2) := by decide +kernel
theorem dX12_isPointHere_44 : decode cX12_isPointHere 44 = .ok (.if_icmp .ne 7, 3) := by decide +kernel
theorem dX12_isPointHere_47 : decode cX12_isPointHere 47 = .ok (.iconst 1, 1) := by decide +kernel
theorem dX12_isPointHere_48 : decode cX12_isPointHere 48 = .ok (.goto 4, 3) := by decide +kernel
theorem dX12_isPointHere_51 : decode cX12_isPointHere 51 = .ok (.iconst 0, 1) := by decide +kernel
theorem dX12_isPointHere_52 : decode cX12_isPointHere 52 = .ok (.istore 4, 2) := by decide +kernel
theorem dX12_isPointHere_54 : decode cX12_isPointHere 54 = .ok (.iload 4, 2) := by decide +kernel
theorem dX12_isPointHere_56 : decode cX12_isPointHere 56 = .ok (.ifCond .eq 13, 3) := by decide +kernel
theorem dX12_isPointHere_59 : decode cX12_isPointHere 59 = .ok (.aload_n 0, 1) := by decide +kernel
theorem dX12_isPointHere_60 : decode cX12_isPointHere 60 = .ok (.dup, 1) := by decide +kernel
theorem dX12_isPointHere_61 : decode cX12_isPointHere 61 = .ok (.getfield 127, 3) := by decide +kernel
theorem dX12_isPointHere_64 : decode cX12_isPointHere 64 = .ok (.iconst 1, 1) := by decide +kernel
theorem dX12_isPointHere_65 : decode cX12_isPointHere 65 = .ok (.iadd, 1) := by decide +kernel
theorem dX12_isPointHere_66 : decode cX12_isPointHere 66 = .ok (.putfield 127, 3) := by decide +kernel
theorem dX12_isPointHere_69 : decode cX12_isPointHere 69 = .ok (.iload 4, 2) := by decide +kernel
theorem dX12_isPointHere_71 : decode cX12_isPointHere 71 = .ok (.ifCond .eq 20, 3) := by decide +kernel
theorem dX12_isPointHere_74 : decode cX12_isPointHere 74 = .ok (.aload_n 0, 1) := by decide +kernel
theorem dX12_isPointHere_75 : decode cX12_isPointHere 75 = .ok (.invokevirtual 257, 3) := by decide +kernel
theorem dX12_isPointHere_78 : decode cX12_isPointHere 78 = .ok (.ifCond .ne 13, 3) := by decide +kernel
theorem dX12_isPointHere_81 : decode cX12_isPointHere 81 = .ok (.aload_n 0, 1) := by decide +kernel
theorem dX12_isPointHere_82 : decode cX12_isPointHere 82 = .ok (.iconst 0, 1) := by decide +kernel
theorem dX12_isPointHere_83 : decode cX12_isPointHere 83 = .ok (.aload_n 0, 1) := by decide +kernel
theorem dX12_isPointHere_84 : decode cX12_isPointHere 84 = .ok (.getfield 127, 3) := by decide +kernel
theorem dX12_isPointHere_87 : decode cX12_isPointHere 87 = .ok (.invokevirtual 148, 3) := by decide +kernel
theorem dX12_isPointHere_90 : decode cX12_isPointHere 90 = .ok (.ireturn, 1) := by decide +kernel
theorem dX12_isPointHere_91 : decode cX12_isPointHere 91 = .ok (.aload_n 0, 1) := by decide +kernel
theorem dX12_isPointHere_92 : decode cX12_isPointHere 92 = .ok (.iconst 0, 1) := by decide +kernel
theorem dX12_isPointHere_93 : decode cX12_isPointHere 93 = .ok (.bipush 99, 2) := by decide +kernel
theorem dX12_isPointHere_95 : decode cX12_isPointHere 95 = .ok (.invokevirtual 200, 3) := by decide +kernel
theorem dX12_isPointHere_98 : decode cX12_isPointHere 98 = .ok (.ifCond .ne 5, 3) := by decide +kernel
theorem dX12_isPointHere_101 : decode cX12_isPointHere 101 = .ok (.iconst 0, 1) := by decide +kernel
theorem dX12_isPointHere_102 : decode cX12_isPointHere 102 = .ok (.ireturn, 1) := by decide +kernel
theorem dX12_isPointHere_103 : decode cX12_isPointHere 103 = .ok (.aload_n 0, 1) := by decide +kernel
theorem dX12_isPointHere_104 : decode cX12_isPointHere 104 = .ok (.getfield 26, 3) := by decide +kernel
theorem dX12_isPointHere_107 : decode cX12_isPointHere 107 = .ok (.bipush 10, 2) := by decide +kernel
theorem dX12_isPointHere_109 : decode cX12_isPointHere 109 = .ok (.aload_n 0, 1) := by decide +kernel
theorem dX12_isPointHere_110 : decode cX12_isPointHere 110 = .ok (.getfield 254, 3) := by decide +kernel
theorem dX12_isPointHere_113 : decode cX12_isPointHere 113 = .ok (.imul, 1) := by decide +kernel
theorem dX12_isPointHere_114 : decode cX12_isPointHere 114 = .ok (.iload_n 2, 1) := by decide +kernel
theorem dX12_isPointHere_115 : decode cX12_isPointHere 115 = .ok (.iadd, 1) := by decide +kernel
theorem dX12_isPointHere_116 : decode cX12_isPointHere 116 = .ok (.iload_n 3, 1) := by decide +kernel
theorem dX12_isPointHere_117 : decode cX12_isPointHere 117 = .ok (.bipush 45, 2) := by decide +kernel
theorem dX12_isPointHere_119 : decode cX12_isPointHere 119 = .ok (.if_icmp .ne 11, 3) := by decide +kernel
theorem dX12_isPointHere_122 : decode cX12_isPointHere 122 = .ok (.aload_n 0, 1) := by decide +kernel
theorem dX12_isPointHere_123 : decode cX12_isPointHere 123 = .ok (.getfield 152, 3) := by decide +kernel
theorem dX12_isPointHere_126 : decode cX12_isPointHere 126 = .ok (.ineg, 1) := by decide +kernel
theorem dX12_isPointHere_127 : decode cX12_isPointHere 127 = .ok (.goto 7, 3) := by decide +kernel
theorem dX12_isPointHere_130 : decode cX12_isPointHere 130 = .ok (.aload_n 0, 1) := by decide +kernel
theorem dX12_isPointHere_131 : decode cX12_isPointHere 131 = .ok (.getfield 152, 3) := by decide +kernel
theorem dX12_isPointHere_134 : decode cX12_isPointHere 134 = .ok (.iastore, 1) := by decide +kernel
theorem dX12_isPointHere_135 : decode cX12_isPointHere 135 = .ok (.iinc 2 1, 3) := by decide +kernel
theorem dX12_isPointHere_138 : decode cX12_isPointHere 138 = .ok (.goto (-116), 3) := by decide +kernel
theorem dX12_isPointHere_141 : decode cX12_isPointHere 141 = .ok (.aload_n 0, 1) := by decide +kernel
theorem dX12_isPointHere_142 : decode cX12_isPointHere 142 = .ok (.dup, 1) := by decide +kernel
theorem dX12_isPointHere_143 : decode cX12_isPointHere 143 = .ok (.getfield 254, 3) := by decide +kernel
theorem dX12_isPointHere_146 : decode cX12_isPointHere 146 = .ok (.iconst 1, 1) := by decide +kernel
theorem dX12_isPointHere_147 : decode cX12_isPointHere 147 = .ok (.iadd, 1) := by decide +kernel
theorem dX12_isPointHere_148 : decode cX12_isPointHere 148 = .ok (.putfield 254, 3) := by decide +kernel
theorem dX12_isPointHere_151 : decode cX12_isPointHere 151 = .ok (.iconst 1, 1) := by decide +kernel
theorem dX12_isPointHere_152 : decode cX12_isPointHere 152 = .ok (.ireturn, 1) := by decide +kernel
theorem dX12_isPresent_0 : decode cX12_isPresent 0 = .ok (.aload_n 0, 1) := by decide +kernel
theorem dX12_isPresent_1 : decode cX12_isPresent 1 = .ok (.iload_n 1, 1) := by decide +kernel
theorem dX12_isPresent_2 : decode cX12_isPresent 2 = .ok (.invokevirtual 319, 3) := by decide +kernel
theorem dX12_isPresent_5 : decode cX12_isPresent 5 = .ok (.ifCond .eq 20, 3) := by decide +kernel
theorem dX12_isPresent_8 : decode cX12_isPresent 8 = .ok (.aload_n 0, 1) := by decide +kernel
theorem dX12_isPresent_9 : decode cX12_isPresent 9 = .ok (.getfield 45, 3) := by decide +kernel
theorem dX12_isPresent_12 : decode cX12_isPresent 12 = .ok (.iconst 2, 1) := by decide +kernel
theorem dX12_isPresent_13 : decode cX12_isPresent 13 = .ok (.iaload, 1) := by decide +kernel
theorem dX12_isPresent_14 : decode cX12_isPresent 14 = .ok (.iload_n 1, 1) := by decide +kernel
theorem dX12_isPresent_15 : decode cX12_isPresent 15 = .ok (.invokestatic 322, 3) := by decide +kernel
theorem dX12_isPresent_18 : decode cX12_isPresent 18 = .ok (.ifCond .eq 7, 3) := by decide +kernel
theorem dX12_isPresent_21 : decode cX12_isPresent 21 = .ok (.iconst 1, 1) := by decide +kernel
theorem dX12_isPresent_22 : decode cX12_isPresent 22 = .ok (.goto 4, 3) := by decide +kernel
theorem dX12_isPresent_25 : decode cX12_isPresent 25 = .ok (.iconst 0, 1) := by decide +kernel
theorem dX12_isPresent_26 : decode cX12_isPresent 26 = .ok (.ireturn, 1) := by decide +kernel
theorem dX12_isRow_0 : decode cX12_isRow 0 = .ok (.iload_n 1, 1) := by decide +kernel
theorem dX12_isRow_1 : decode cX12_isRow 1 = .ok (.istore_n 3, 1) := by decide +kernel
theorem dX12_isRow_2 : decode cX12_isRow 2 = .ok (.iconst 0, 1) := by decide +kernel
theorem dX12_isRow_3 : decode cX12_isRow 3 = .ok (.istore 4, 2) := by decide +kernel
theorem dX12_isRow_5 : decode cX12_isRow 5 = .ok (.iload_n 2, 1) := by decide +kernel
theorem dX12_isRow_6 : decode cX12_isRow 6 = .ok (.iconst 1, 1) := by decide +kernel
theorem dX12_isRow_7 : decode cX12_isRow 7 = .ok (.isub, 1) := by decide +kernel
theorem dX12_isRow_8 : decode cX12_isRow 8 = .ok (.istore 5, 2) := by decide +kernel
theorem dX12_isRow_10 : decode cX12_isRow 10 = .ok (.iload 5, 2) := by decide +kernel
theorem dX12_isRow_12 : decode cX12_isRow 12 = .ok (.ifCond .lt 37, 3) := by decide +kernel
theorem dX12_isRow_15 : decode cX12_isRow 15 = .ok (.aload_n 0, 1) := by decide +kernel
theorem dX12_isRow_16 : decode cX12_isRow 16 = .ok (.getfield 90, 3) := by decide +kernel
theorem dX12_isRow_19 : decode cX12_isRow 19 = .ok (.iload 5, 2) := by decide +kernel
theorem dX12_isRow_21 : decode cX12_isRow 21 = .ok (.iload_n 3, 1) := by decide +kernel
theorem dX12_isRow_22 : decode cX12_isRow 22 = .ok (.iload_n 2, 1) := by decide +kernel
theorem dX12_isRow_23 : decode cX12_isRow 23 = .ok (.irem, 1) := by decide +kernel
theorem dX12_isRow_24 : decode cX12_isRow 24 = .ok (.iastore, 1) := by decide +kernel
theorem dX12_isRow_25 : decode cX12_isRow 25 = .ok (.iload_n 3, 1) := by decide +kernel
theorem dX12_isRow_26 : decode cX12_isRow 26 = .ok (.iload_n 2, 1) := by decide +kernel
theorem dX12_isRow_27 : decode cX12_isRow 27 = .ok (.idiv, 1) := by decide +kernel
theorem dX12_isRow_28 : decode cX12_isRow 28 = .ok (.istore_n 3, 1) := by decide +kernel
theorem dX12_isRow_29 : decode cX12_isRow 29 = .ok (.iload 4, 2) := by decide +kernel
theorem dX12_isRow_31 : decode cX12_isRow 31 = .ok (.iconst 1, 1) := by decide +kernel
theorem dX12_isRow_32 : decode cX12_isRow 32 = .ok (.aload_n 0, 1) := by decide +kernel
theorem dX12_isRow_33 : decode cX12_isRow 33 = .ok (.getfield 90, 3) := by decide +kernel
theorem dX12_isRow_36 : decode cX12_isRow 36 = .ok (.iload 5, 2) := by decide +kernel
theorem dX12_isRow_38 : decode cX12_isRow 38 = .ok (.iaload, 1) := by decide +kernel
theorem dX12_isRow_39 : decode cX12_isRow 39 = .ok (.ishl, 1) := by decide +kernel
theorem dX12_isRow_40 : decode cX12_isRow 40 = .ok (.ior, 1) := by decide +kernel
theorem dX12_isRow_41 : decode cX12_isRow 41 = .ok (.istore 4, 2) := by decide +kernel
theorem dX12_isRow_43 : decode cX12_isRow 43 = .ok (.iinc 5 (-1), 3) := by decide +kernel
theorem dX12_isRow_46 : decode cX12_isRow 46 = .ok (.goto (-36), 3) := by decide +kernel
theorem dX12_isRow_49 : decode cX12_isRow 49 = .ok (.iload 4, 2) := by decide +kernel
theorem dX12_isRow_51 : decode cX12_isRow 51 = .ok (.iconst 1, 1) := by decide +kernel
theorem dX12_isRow_52 : decode cX12_isRow 52 = .ok (.iload_n 2, 1) := by decide +kernel
theorem dX12_isRow_53 : decode cX12_isRow 53 = .ok (.ishl, 1) := by decide +kernel
theorem dX12_isRow_54 : decode cX12_isRow 54 = .ok (.iconst 1, 1) := by decide +kernel
theorem dX12_isRow_55 : decode cX12_isRow 55 = .ok (.isub, 1) := by decide +kernel
theorem dX12_isRow_56 : decode cX12_isRow 56 = .ok (.if_icmp .ne 7, 3) := by decide +kernel
theorem dX12_isRow_59 : decode cX12_isRow 59 = .ok (.iconst 1, 1) := by decide +kernel
theorem dX12_isRow_60 : decode cX12_isRow 60 = .ok (.goto 4, 3) := by decide +kernel
theorem dX12_isRow_63 : decode cX12_isRow 63 = .ok (.iconst 0, 1) := by decide +kernel
theorem dX12_isRow_64 : decode cX12_isRow 64 = .ok (.ireturn, 1) := by decide +kernel
theorem dX12_isSayingHere_0 : decode cX12_isSayingHere 0 = .ok (.aload_n 0, 1) := by decide +kernel
theorem dX12_isSayingHere_1 : decode cX12_isSayingHere 1 = .ok (.invokevirtual 142, 3) := by decide +kernel
theorem dX12_isSayingHere_4 : decode cX12_isSayingHere 4 = .ok (.bipush 36, 2) := by decide +kernel
theorem dX12_isSayingHere_6 : decode cX12_isSayingHere 6 = .ok (.aload_n 0, 1) := by decide +kernel
theorem dX12_isSayingHere_7 : decode cX12_isSayingHere 7 = .ok (.getfield 179, 3) := by decide +kernel
theorem dX12_isSayingHere_10 : decode cX12_isSayingHere 10 = .ok (.imul, 1) := by decide +kernel
theorem dX12_isSayingHere_11 : decode cX12_isSayingHere 11 = .ok (.iconst 3, 1) := by decide +kernel
theorem dX12_isSayingHere_12 : decode cX12_isSayingHere 12 = .ok (.aload_n 0, 1) := by decide +kernel
theorem dX12_isSayingHere_13 : decode cX12_isSayingHere 13 = .ok (.getfield 23, 3) := by decide +kernel
theorem dX12_isSayingHere_16 : decode cX12_isSayingHere 16 = .ok (.aload_n 0, 1) := by decide +kernel
theorem dX12_isSayingHere_17 : decode cX12_isSayingHere 17 = .ok (.getfield 179, 3) := by decide +kernel
theorem dX12_isSayingHere_20 : decode cX12_isSayingHere 20 = .ok (.iaload, 1) := by decide +kernel
theorem dX12_isSayingHere_21 : decode cX12_isSayingHere 21 = .ok (.imul, 1) := by decide +kernel
theorem dX12_isSayingHere_22 : decode cX12_isSayingHere 22 = .ok (.iadd, 1) := by decide +kernel
theorem dX12_isSayingHere_23 : decode cX12_isSayingHere 23 = .ok (.istore_n 2, 1) := by decide +kernel
theorem dX12_isSayingHere_24 : decode cX12_isSayingHere 24 = .ok (.aload_n 0, 1) := by decide +kernel
theorem dX12_isSayingHere_25 : decode cX12_isSayingHere 25 = .ok (.getfield 20, 3) := by decide +kernel
theorem dX12_isSayingHere_28 : decode cX12_isSayingHere 28 = .ok (.iload_n 2, 1) := by decide +kernel
theorem dX12_isSayingHere_29 : decode cX12_isSayingHere 29 = .ok (.iload_n 1, 1) := by decide +kernel
theorem dX12_isSayingHere_30 : decode cX12_isSayingHere 30 = .ok (.iastore, 1) := by decide +kernel
theorem dX12_isSayingHere_31 : decode cX12_isSayingHere 31 = .ok (.aload_n 0, 1) := by decide +kernel
theorem dX12_isSayingHere_32 : decode cX12_isSayingHere 32 = .ok (.getfield 20, 3) := by decide +kernel
theorem dX12_isSayingHere_35 : decode cX12_isSayingHere 35 = .ok (.iload_n 2, 1) := by decide +kernel
theorem dX12_isSayingHere_36 : decode cX12_isSayingHere 36 = .ok (.iconst 1, 1) := by decide +kernel
theorem dX12_isSayingHere_37 : decode cX12_isSayingHere 37 = .ok (.iadd, 1) := by decide +kernel
theorem dX12_isSayingHere_38 : decode cX12_isSayingHere 38 = .ok (.iconst (-1), 1) := by decide +kernel
theorem dX12_isSayingHere_39 : decode cX12_isSayingHere 39 = .ok (.iastore, 1) := by decide +kernel
theorem dX12_isSayingHere_40 : decode cX12_isSayingHere 40 = .ok (.aload_n 0, 1) := by decide +kernel
theorem dX12_isSayingHere_41 : decode cX12_isSayingHere 41 = .ok (.ldc2_w 243, 3) := by decide +kernel
theorem dX12_isSayingHere_44 : decode cX12_isSayingHere 44 = .ok (.invokevirtual 245, 3) := by decide +kernel
theorem dX12_isSayingHere_47 : decode cX12_isSayingHere 47 = .ok (.ifCond .eq 29, 3) := by decide +kernel
theorem dX12_isSayingHere_50 : decode cX12_isSayingHere 50 = .ok (.aload_n 0, 1) := by decide +kernel
theorem dX12_isSayingHere_51 : decode cX12_isSayingHere 51 = .ok (.getfield 20, 3) := by decide +kernel
theorem dX12_isSayingHere_54 : decode cX12_isSayingHere 54 = .ok (.iload_n 2, 1) := by decide +kernel
theorem dX12_isSayingHere_55 : decode cX12_isSayingHere 55 = .ok (.iconst 1, 1) := by decide +kernel
theorem dX12_isSayingHere_56 : decode cX12_isSayingHere 56 = .ok (.iadd, 1) := by decide +kernel
theorem dX12_isSayingHere_57 : decode cX12_isSayingHere 57 = .ok (.aload_n 0, 1) := by decide +kernel
theorem dX12_isSayingHere_58 : decode cX12_isSayingHere 58 = .ok (.getfield 17, 3) := by decide +kernel
theorem dX12_isSayingHere_61 : decode cX12_isSayingHere 61 = .ok (.aload_n 0, 1) := by decide +kernel
theorem dX12_isSayingHere_62 : decode cX12_isSayingHere 62 = .ok (.getfield 179, 3) := by decide +kernel
theorem dX12_isSayingHere_65 : decode cX12_isSayingHere 65 = .ok (.iaload, 1) := by decide +kernel
theorem dX12_isSayingHere_66 : decode cX12_isSayingHere 66 = .ok (.iastore, 1) := by decide +kernel
theorem dX12_isSayingHere_67 : decode cX12_isSayingHere 67 = .ok (.aload_n 0, 1) := by decide +kernel
theorem dX12_isSayingHere_68 : decode cX12_isSayingHere 68 = .ok (.invokevirtual 248, 3) := by decide +kernel
theorem dX12_isSayingHere_71 : decode cX12_isSayingHere 71 = .ok (.ifCond .ne 5, 3) := by decide +kernel
theorem dX12_isSayingHere_74 : decode cX12_isSayingHere 74 = .ok (.iconst 0, 1) := by decide +kernel
theorem dX12_isSayingHere_75 : decode cX12_isSayingHere 75 = .ok (.ireturn, 1) := by decide +kernel
theorem dX12_isSayingHere_76 : decode cX12_isSayingHere 76 = .ok (.aload_n 0, 1) := by decide +kernel
theorem dX12_isSayingHere_77 : decode cX12_isSayingHere 77 = .ok (.getfield 20, 3) := by decide +kernel
theorem dX12_isSayingHere_80 : decode cX12_isSayingHere 80 = .ok (.iload_n 2, 1) := by decide +kernel
theorem dX12_isSayingHere_81 : decode cX12_isSayingHere 81 = .ok (.iconst 2, 1) := by decide +kernel
theorem dX12_isSayingHere_82 : decode cX12_isSayingHere 82 = .ok (.iadd, 1) := by decide +kernel
theorem dX12_isSayingHere_83 : decode cX12_isSayingHere 83 = .ok (.aload_n 0, 1) := by decide +kernel
theorem dX12_isSayingHere_84 : decode cX12_isSayingHere 84 = .ok (.getfield 17, 3) := by decide +kernel
theorem dX12_isSayingHere_87 : decode cX12_isSayingHere 87 = .ok (.aload_n 0, 1) := by decide +kernel
theorem dX12_isSayingHere_88 : decode cX12_isSayingHere 88 = .ok (.getfield 179, 3) := by decide +kernel
theorem dX12_isSayingHere_91 : decode cX12_isSayingHere 91 = .ok (.iaload, 1) := by decide +kernel
theorem dX12_isSayingHere_92 : decode cX12_isSayingHere 92 = .ok (.iastore, 1) := by decide +kernel
theorem dX12_isSayingHere_93 : decode cX12_isSayingHere 93 = .ok (.aload_n 0, 1) := by decide +kernel
theorem dX12_isSayingHere_94 : decode cX12_isSayingHere 94 = .ok (.getfield 23, 3) := by decide +kernel
theorem dX12_isSayingHere_97 : decode cX12_isSayingHere 97 = .ok (.aload_n 0, 1) := by decide +kernel
theorem dX12_isSayingHere_98 : decode cX12_isSayingHere 98 = .ok (.getfield 179, 3) := by decide +kernel
theorem dX12_isSayingHere_101 : decode cX12_isSayingHere 101 = .ok (.dup2, 1) := by decide +kernel
theorem dX12_isSayingHere_102 : decode cX12_isSayingHere 102 = .ok (.iaload, 1) := by decide +kernel
theorem dX12_isSayingHere_103 : decode cX12_isSayingHere 103 = .ok (.iconst 1, 1) := by decide +kernel
theorem dX12_isSayingHere_104 : decode cX12_isSayingHere 104 = .ok (.iadd, 1) := by decide +kernel
theorem dX12_isSayingHere_105 : decode cX12_isSayingHere 105 = .ok (.iastore, 1) := by decide +kernel
theorem dX12_isSayingHere_106 : decode cX12_isSayingHere 106 = .ok (.iconst 1, 1) := by decide +kernel
theorem dX12_isSayingHere_107 : decode cX12_isSayingHere 107 = .ok (.ireturn, 1) := by decide +kernel
theorem dX12_isSet_0 : decode cX12_isSet 0 = .ok (.iload_n 1, 1) := by decide +kernel
theorem dX12_isSet_1 : decode cX12_isSet 1 = .ok (.ifCond .lt 19, 3) := by decide +kernel
theorem dX12_isSet_4 : decode cX12_isSet 4 = .ok (.iload_n 1, 1) := by decide +kernel
theorem dX12_isSet_5 : decode cX12_isSet 5 = .ok (.iconst 1, 1) := by decide +kernel
theorem dX12_isSet_6 : decode cX12_isSet 6 = .ok (.aload_n 0, 1) := by decide +kernel
theorem dX12_isSet_7 : decode cX12_isSet 7 = .ok (.getfield 45, 3) := by decide +kernel
theorem dX12_isSet_10 : decode cX12_isSet 10 = .ok (.iconst 0, 1) := by decide +kernel
theorem dX12_isSet_11 : decode cX12_isSet 11 = .ok (.iaload, 1) := by decide +kernel
theorem dX12_isSet_12 : decode cX12_isSet 12 = .ok (.ishl, 1) := by decide +kernel
theorem dX12_isSet_13 : decode cX12_isSet 13 = .ok (.if_icmp .ge 7, 3) := by decide +kernel
theorem dX12_isSet_16 : decode cX12_isSet 16 = .ok (.iconst 1, 1) := by decide +kernel
theorem dX12_isSet_17 : decode cX12_isSet 17 = .ok (.goto 4, 3) := by decide +kernel
theorem dX12_isSet_20 : decode cX12_isSet 20 = .ok (.iconst 0, 1) := by decide +kernel
theorem dX12_isSet_21 : decode cX12_isSet 21 = .ok (.ireturn, 1) := by decide +kernel
theorem dX12_isWord_0 : decode cX12_isWord 0 = .ok (.aload_n 0, 1) := by decide +kernel
theorem dX12_isWord_1 : decode cX12_isWord 1 = .ok (.invokevirtual 130, 3) := by decide +kernel
theorem dX12_isWord_4 : decode cX12_isWord 4 = .ok (.pop, 1) := by decide +kernel
theorem dX12_isWord_5 : decode cX12_isWord 5 = .ok (.lconst 0, 1) := by decide +kernel
theorem dX12_isWord_6 : decode cX12_isWord 6 = .ok (.lstore_n 3, 1) := by decide +kernel
theorem dX12_isWord_7 : decode cX12_isWord 7 = .ok (.iconst 0, 1) := by decide +kernel
theorem dX12_isWord_8 : decode cX12_isWord 8 = .ok (.istore 5, 2) := by decide +kernel
theorem dX12_isWord_10 : decode cX12_isWord 10 = .ok (.aload_n 0, 1) := by decide +kernel
theorem dX12_isWord_11 : decode cX12_isWord 11 = .ok (.aload_n 0, 1) := by decide +kernel
theorem dX12_isWord_12 : decode cX12_isWord 12 = .ok (.getfield 127, 3) := by decide +kernel
theorem dX12_isWord_15 : decode cX12_isWord 15 = .ok (.iload 5, 2) := by decide +kernel
theorem dX12_isWord_17 : decode cX12_isWord 17 = .ok (.iadd, 1) := by decide +kernel
theorem dX12_isWord_18 : decode cX12_isWord 18 = .ok (.invokevirtual 134, 3) := by decide +kernel
theorem dX12_isWord_21 : decode cX12_isWord 21 = .ok (.ifCond .eq 35, 3) := by decide +kernel
theorem dX12_isWord_24 : decode cX12_isWord 24 = .ok (.iload 5, 2) := by decide +kernel
theorem dX12_isWord_26 : decode cX12_isWord 26 = .ok (.bipush 8, 2) := by decide +kernel
theorem dX12_isWord_28 : decode cX12_isWord 28 = .ok (.if_icmp .ge 22, 3) := by decide +kernel
theorem dX12_isWord_31 : decode cX12_isWord 31 = .ok (.lload_n 3, 1) := by decide +kernel
theorem dX12_isWord_32 : decode cX12_isWord 32 = .ok (.bipush 8, 2) := by decide +kernel
theorem dX12_isWord_34 : decode cX12_isWord 34 = .ok (.lshl, 1) := by decide +kernel
theorem dX12_isWord_35 : decode cX12_isWord 35 = .ok (.aload_n 0, 1) := by decide +kernel
theorem dX12_isWord_36 : decode cX12_isWord 36 = .ok (.getfield 7, 3) := by decide +kernel
theorem dX12_isWord_39 : decode cX12_isWord 39 = .ok (.aload_n 0, 1) := by decide +kernel
theorem dX12_isWord_40 : decode cX12_isWord 40 = .ok (.getfield 127, 3) := by decide +kernel
theorem dX12_isWord_43 : decode cX12_isWord 43 = .ok (.iload 5, 2) := by decide +kernel
theorem dX12_isWord_45 : decode cX12_isWord 45 = .ok (.iadd, 1) := by decide +kernel
