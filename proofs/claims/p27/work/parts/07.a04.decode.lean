theorem dX12_sides_25 : decode cX12_sides 25 = .ok (.iload_n 2, 1) := by decide +kernel
theorem dX12_sides_26 : decode cX12_sides 26 = .ok (.iand, 1) := by decide +kernel
theorem dX12_sides_27 : decode cX12_sides 27 = .ok (.ifCond .ne 45, 3) := by decide +kernel
theorem dX12_sides_30 : decode cX12_sides 30 = .ok (.iload_n 1, 1) := by decide +kernel
theorem dX12_sides_31 : decode cX12_sides 31 = .ok (.iload_n 2, 1) := by decide +kernel
theorem dX12_sides_32 : decode cX12_sides 32 = .ok (.ior, 1) := by decide +kernel
theorem dX12_sides_33 : decode cX12_sides 33 = .ok (.aload_n 0, 1) := by decide +kernel
theorem dX12_sides_34 : decode cX12_sides 34 = .ok (.getfield 45, 3) := by decide +kernel
theorem dX12_sides_37 : decode cX12_sides 37 = .ok (.iconst 2, 1) := by decide +kernel
theorem dX12_sides_38 : decode cX12_sides 38 = .ok (.iaload, 1) := by decide +kernel
theorem dX12_sides_39 : decode cX12_sides 39 = .ok (.iconst (-1), 1) := by decide +kernel
theorem dX12_sides_40 : decode cX12_sides 40 = .ok (.ixor, 1) := by decide +kernel
theorem dX12_sides_41 : decode cX12_sides 41 = .ok (.iand, 1) := by decide +kernel
theorem dX12_sides_42 : decode cX12_sides 42 = .ok (.ifCond .ne 30, 3) := by decide +kernel
theorem dX12_sides_45 : decode cX12_sides 45 = .ok (.aload_n 0, 1) := by decide +kernel
theorem dX12_sides_46 : decode cX12_sides 46 = .ok (.getfield 45, 3) := by decide +kernel
theorem dX12_sides_49 : decode cX12_sides 49 = .ok (.iconst 4, 1) := by decide +kernel
theorem dX12_sides_50 : decode cX12_sides 50 = .ok (.iaload, 1) := by decide +kernel
theorem dX12_sides_51 : decode cX12_sides 51 = .ok (.i2l, 1) := by decide +kernel
theorem dX12_sides_52 : decode cX12_sides 52 = .ok (.lconst 1, 1) := by decide +kernel
theorem dX12_sides_53 : decode cX12_sides 53 = .ok (.ldc2_w 325, 3) := by decide +kernel
theorem dX12_sides_56 : decode cX12_sides 56 = .ok (.invokestatic 155, 3) := by decide +kernel
theorem dX12_sides_59 : decode cX12_sides 59 = .ok (.ifCond .eq 13, 3) := by decide +kernel
theorem dX12_sides_62 : decode cX12_sides 62 = .ok (.iload_n 3, 1) := by decide +kernel
theorem dX12_sides_63 : decode cX12_sides 63 = .ok (.i2l, 1) := by decide +kernel
theorem dX12_sides_64 : decode cX12_sides 64 = .ok (.lconst 0, 1) := by decide +kernel
theorem dX12_sides_65 : decode cX12_sides 65 = .ok (.lconst 1, 1) := by decide +kernel
theorem dX12_sides_66 : decode cX12_sides 66 = .ok (.invokestatic 155, 3) := by decide +kernel
theorem dX12_sides_69 : decode cX12_sides 69 = .ok (.ifCond .ne 7, 3) := by decide +kernel
theorem dX12_sides_72 : decode cX12_sides 72 = .ok (.ldc_w 422, 3) := by decide +kernel
theorem dX12_sides_75 : decode cX12_sides 75 = .ok (.ireturn, 1) := by decide +kernel
theorem dX12_sides_76 : decode cX12_sides 76 = .ok (.iconst 1, 1) := by decide +kernel
theorem dX12_sides_77 : decode cX12_sides 77 = .ok (.istore 4, 2) := by decide +kernel
theorem dX12_sides_79 : decode cX12_sides 79 = .ok (.iconst 0, 1) := by decide +kernel
theorem dX12_sides_80 : decode cX12_sides 80 = .ok (.istore 5, 2) := by decide +kernel
theorem dX12_sides_82 : decode cX12_sides 82 = .ok (.iload 5, 2) := by decide +kernel
theorem dX12_sides_84 : decode cX12_sides 84 = .ok (.aload_n 0, 1) := by decide +kernel
theorem dX12_sides_85 : decode cX12_sides 85 = .ok (.getfield 45, 3) := by decide +kernel
theorem dX12_sides_88 : decode cX12_sides 88 = .ok (.iconst 4, 1) := by decide +kernel
theorem dX12_sides_89 : decode cX12_sides 89 = .ok (.iaload, 1) := by decide +kernel
theorem dX12_sides_90 : decode cX12_sides 90 = .ok (.if_icmp .ge 16, 3) := by decide +kernel
theorem dX12_sides_93 : decode cX12_sides 93 = .ok (.iload 4, 2) := by decide +kernel
theorem dX12_sides_95 : decode cX12_sides 95 = .ok (.bipush 9, 2) := by decide +kernel
theorem dX12_sides_97 : decode cX12_sides 97 = .ok (.imul, 1) := by decide +kernel
theorem dX12_sides_98 : decode cX12_sides 98 = .ok (.istore 4, 2) := by decide +kernel
theorem dX12_sides_100 : decode cX12_sides 100 = .ok (.iinc 5 1, 3) := by decide +kernel
theorem dX12_sides_103 : decode cX12_sides 103 = .ok (.goto (-21), 3) := by decide +kernel
theorem dX12_sides_106 : decode cX12_sides 106 = .ok (.iconst 0, 1) := by decide +kernel
theorem dX12_sides_107 : decode cX12_sides 107 = .ok (.istore 5, 2) := by decide +kernel
theorem dX12_sides_109 : decode cX12_sides 109 = .ok (.iload 5, 2) := by decide +kernel
theorem dX12_sides_111 : decode cX12_sides 111 = .ok (.iload 4, 2) := by decide +kernel
theorem dX12_sides_113 : decode cX12_sides 113 = .ok (.if_icmp .ge 26, 3) := by decide +kernel
theorem dX12_sides_116 : decode cX12_sides 116 = .ok (.aload_n 0, 1) := by decide +kernel
theorem dX12_sides_117 : decode cX12_sides 117 = .ok (.getfield 81, 3) := by decide +kernel
theorem dX12_sides_120 : decode cX12_sides 120 = .ok (.iload 5, 2) := by decide +kernel
theorem dX12_sides_122 : decode cX12_sides 122 = .ok (.aload_n 0, 1) := by decide +kernel
theorem dX12_sides_123 : decode cX12_sides 123 = .ok (.iload_n 1, 1) := by decide +kernel
theorem dX12_sides_124 : decode cX12_sides 124 = .ok (.iload_n 2, 1) := by decide +kernel
theorem dX12_sides_125 : decode cX12_sides 125 = .ok (.iload 5, 2) := by decide +kernel
theorem dX12_sides_127 : decode cX12_sides 127 = .ok (.iload 4, 2) := by decide +kernel
theorem dX12_sides_129 : decode cX12_sides 129 = .ok (.invokevirtual 462, 3) := by decide +kernel
theorem dX12_sides_132 : decode cX12_sides 132 = .ok (.iastore, 1) := by decide +kernel
theorem dX12_sides_133 : decode cX12_sides 133 = .ok (.iinc 5 1, 3) := by decide +kernel
theorem dX12_sides_136 : decode cX12_sides 136 = .ok (.goto (-27), 3) := by decide +kernel
theorem dX12_sides_139 : decode cX12_sides 139 = .ok (.iload 4, 2) := by decide +kernel
theorem dX12_sides_141 : decode cX12_sides 141 = .ok (.bipush 9, 2) := by decide +kernel
theorem dX12_sides_143 : decode cX12_sides 143 = .ok (.if_icmp .le 73, 3) := by decide +kernel
theorem dX12_sides_146 : decode cX12_sides 146 = .ok (.iload 4, 2) := by decide +kernel
theorem dX12_sides_148 : decode cX12_sides 148 = .ok (.bipush 9, 2) := by decide +kernel
theorem dX12_sides_150 : decode cX12_sides 150 = .ok (.idiv, 1) := by decide +kernel
theorem dX12_sides_151 : decode cX12_sides 151 = .ok (.istore 4, 2) := by decide +kernel
theorem dX12_sides_153 : decode cX12_sides 153 = .ok (.iconst 0, 1) := by decide +kernel
theorem dX12_sides_154 : decode cX12_sides 154 = .ok (.istore 5, 2) := by decide +kernel
theorem dX12_sides_156 : decode cX12_sides 156 = .ok (.iload 5, 2) := by decide +kernel
theorem dX12_sides_158 : decode cX12_sides 158 = .ok (.iload 4, 2) := by decide +kernel
theorem dX12_sides_160 : decode cX12_sides 160 = .ok (.if_icmp .ge 23, 3) := by decide +kernel
theorem dX12_sides_163 : decode cX12_sides 163 = .ok (.aload_n 0, 1) := by decide +kernel
theorem dX12_sides_164 : decode cX12_sides 164 = .ok (.getfield 84, 3) := by decide +kernel
theorem dX12_sides_167 : decode cX12_sides 167 = .ok (.iload 5, 2) := by decide +kernel
theorem dX12_sides_169 : decode cX12_sides 169 = .ok (.aload_n 0, 1) := by decide +kernel
theorem dX12_sides_170 : decode cX12_sides 170 = .ok (.iload 5, 2) := by decide +kernel
theorem dX12_sides_172 : decode cX12_sides 172 = .ok (.iconst 0, 1) := by decide +kernel
theorem dX12_sides_173 : decode cX12_sides 173 = .ok (.invokevirtual 466, 3) := by decide +kernel
theorem dX12_sides_176 : decode cX12_sides 176 = .ok (.iastore, 1) := by decide +kernel
theorem dX12_sides_177 : decode cX12_sides 177 = .ok (.iinc 5 1, 3) := by decide +kernel
theorem dX12_sides_180 : decode cX12_sides 180 = .ok (.goto (-24), 3) := by decide +kernel
theorem dX12_sides_183 : decode cX12_sides 183 = .ok (.iconst 0, 1) := by decide +kernel
theorem dX12_sides_184 : decode cX12_sides 184 = .ok (.istore 5, 2) := by decide +kernel
theorem dX12_sides_186 : decode cX12_sides 186 = .ok (.iload 5, 2) := by decide +kernel
theorem dX12_sides_188 : decode cX12_sides 188 = .ok (.iload 4, 2) := by decide +kernel
theorem dX12_sides_190 : decode cX12_sides 190 = .ok (.if_icmp .ge 23, 3) := by decide +kernel
theorem dX12_sides_193 : decode cX12_sides 193 = .ok (.aload_n 0, 1) := by decide +kernel
theorem dX12_sides_194 : decode cX12_sides 194 = .ok (.getfield 81, 3) := by decide +kernel
theorem dX12_sides_197 : decode cX12_sides 197 = .ok (.iload 5, 2) := by decide +kernel
theorem dX12_sides_199 : decode cX12_sides 199 = .ok (.aload_n 0, 1) := by decide +kernel
theorem dX12_sides_200 : decode cX12_sides 200 = .ok (.getfield 84, 3) := by decide +kernel
theorem dX12_sides_203 : decode cX12_sides 203 = .ok (.iload 5, 2) := by decide +kernel
theorem dX12_sides_205 : decode cX12_sides 205 = .ok (.iaload, 1) := by decide +kernel
theorem dX12_sides_206 : decode cX12_sides 206 = .ok (.iastore, 1) := by decide +kernel
theorem dX12_sides_207 : decode cX12_sides 207 = .ok (.iinc 5 1, 3) := by decide +kernel
theorem dX12_sides_210 : decode cX12_sides 210 = .ok (.goto (-24), 3) := by decide +kernel
theorem dX12_sides_213 : decode cX12_sides 213 = .ok (.goto (-74), 3) := by decide +kernel
theorem dX12_sides_216 : decode cX12_sides 216 = .ok (.aload_n 0, 1) := by decide +kernel
theorem dX12_sides_217 : decode cX12_sides 217 = .ok (.iconst 0, 1) := by decide +kernel
theorem dX12_sides_218 : decode cX12_sides 218 = .ok (.iconst 1, 1) := by decide +kernel
theorem dX12_sides_219 : decode cX12_sides 219 = .ok (.invokevirtual 466, 3) := by decide +kernel
theorem dX12_sides_222 : decode cX12_sides 222 = .ok (.istore 5, 2) := by decide +kernel
theorem dX12_sides_224 : decode cX12_sides 224 = .ok (.iload_n 3, 1) := by decide +kernel
theorem dX12_sides_225 : decode cX12_sides 225 = .ok (.ifCond .ne 12, 3) := by decide +kernel
theorem dX12_sides_228 : decode cX12_sides 228 = .ok (.aload_n 0, 1) := by decide +kernel
theorem dX12_sides_229 : decode cX12_sides 229 = .ok (.iconst 0, 1) := by decide +kernel
theorem dX12_sides_230 : decode cX12_sides 230 = .ok (.iconst 0, 1) := by decide +kernel
theorem dX12_sides_231 : decode cX12_sides 231 = .ok (.invokevirtual 466, 3) := by decide +kernel
theorem dX12_sides_234 : decode cX12_sides 234 = .ok (.goto 23, 3) := by decide +kernel
theorem dX12_sides_237 : decode cX12_sides 237 = .ok (.iload 5, 2) := by decide +kernel
theorem dX12_sides_239 : decode cX12_sides 239 = .ok (.ifCond .ne 7, 3) := by decide +kernel
theorem dX12_sides_242 : decode cX12_sides 242 = .ok (.iconst 1, 1) := by decide +kernel
theorem dX12_sides_243 : decode cX12_sides 243 = .ok (.goto 14, 3) := by decide +kernel
theorem dX12_sides_246 : decode cX12_sides 246 = .ok (.iload 5, 2) := by decide +kernel
theorem dX12_sides_248 : decode cX12_sides 248 = .ok (.iconst 1, 1) := by decide +kernel
theorem dX12_sides_249 : decode cX12_sides 249 = .ok (.if_icmp .ne 7, 3) := by decide +kernel
theorem dX12_sides_252 : decode cX12_sides 252 = .ok (.iconst 0, 1) := by decide +kernel
theorem dX12_sides_253 : decode cX12_sides 253 = .ok (.goto 4, 3) := by decide +kernel
theorem dX12_sides_256 : decode cX12_sides 256 = .ok (.iconst 2, 1) := by decide +kernel
theorem dX12_sides_257 : decode cX12_sides 257 = .ok (.ireturn, 1) := by decide +kernel
theorem dX12_spoilers_0 : decode cX12_spoilers 0 = .ok (.aload_n 0, 1) := by decide +kernel
theorem dX12_spoilers_1 : decode cX12_spoilers 1 = .ok (.iload_n 1, 1) := by decide +kernel
theorem dX12_spoilers_2 : decode cX12_spoilers 2 = .ok (.invokevirtual 446, 3) := by decide +kernel
theorem dX12_spoilers_5 : decode cX12_spoilers 5 = .ok (.ifCond .ne 5, 3) := by decide +kernel
theorem dX12_spoilers_8 : decode cX12_spoilers 8 = .ok (.iconst (-1), 1) := by decide +kernel
theorem dX12_spoilers_9 : decode cX12_spoilers 9 = .ok (.ireturn, 1) := by decide +kernel
theorem dX12_spoilers_10 : decode cX12_spoilers 10 = .ok (.aload_n 0, 1) := by decide +kernel
theorem dX12_spoilers_11 : decode cX12_spoilers 11 = .ok (.iload_n 1, 1) := by decide +kernel
theorem dX12_spoilers_12 : decode cX12_spoilers 12 = .ok (.invokevirtual 449, 3) := by decide +kernel
theorem dX12_spoilers_15 : decode cX12_spoilers 15 = .ok (.aload_n 0, 1) := by decide +kernel
theorem dX12_spoilers_16 : decode cX12_spoilers 16 = .ok (.getfield 431, 3) := by decide +kernel
theorem dX12_spoilers_19 : decode cX12_spoilers 19 = .ok (.ifCond .ge 6, 3) := by decide +kernel
theorem dX12_spoilers_22 : decode cX12_spoilers 22 = .ok (.bipush (-2), 2) := by decide +kernel
theorem dX12_spoilers_24 : decode cX12_spoilers 24 = .ok (.ireturn, 1) := by decide +kernel
theorem dX12_spoilers_25 : decode cX12_spoilers 25 = .ok (.iconst 1, 1) := by decide +kernel
theorem dX12_spoilers_26 : decode cX12_spoilers 26 = .ok (.istore_n 2, 1) := by decide +kernel
theorem dX12_spoilers_27 : decode cX12_spoilers 27 = .ok (.iconst 0, 1) := by decide +kernel
theorem dX12_spoilers_28 : decode cX12_spoilers 28 = .ok (.istore_n 3, 1) := by decide +kernel
theorem dX12_spoilers_29 : decode cX12_spoilers 29 = .ok (.iload_n 3, 1) := by decide +kernel
theorem dX12_spoilers_30 : decode cX12_spoilers 30 = .ok (.aload_n 0, 1) := by decide +kernel
theorem dX12_spoilers_31 : decode cX12_spoilers 31 = .ok (.getfield 45, 3) := by decide +kernel
theorem dX12_spoilers_34 : decode cX12_spoilers 34 = .ok (.iconst 4, 1) := by decide +kernel
theorem dX12_spoilers_35 : decode cX12_spoilers 35 = .ok (.iaload, 1) := by decide +kernel
theorem dX12_spoilers_36 : decode cX12_spoilers 36 = .ok (.if_icmp .ge 13, 3) := by decide +kernel
theorem dX12_spoilers_39 : decode cX12_spoilers 39 = .ok (.iload_n 2, 1) := by decide +kernel
theorem dX12_spoilers_40 : decode cX12_spoilers 40 = .ok (.iconst 3, 1) := by decide +kernel
theorem dX12_spoilers_41 : decode cX12_spoilers 41 = .ok (.imul, 1) := by decide +kernel
theorem dX12_spoilers_42 : decode cX12_spoilers 42 = .ok (.istore_n 2, 1) := by decide +kernel
theorem dX12_spoilers_43 : decode cX12_spoilers 43 = .ok (.iinc 3 1, 3) := by decide +kernel
theorem dX12_spoilers_46 : decode cX12_spoilers 46 = .ok (.goto (-17), 3) := by decide +kernel
theorem dX12_spoilers_49 : decode cX12_spoilers 49 = .ok (.iconst 0, 1) := by decide +kernel
theorem dX12_spoilers_50 : decode cX12_spoilers 50 = .ok (.istore_n 3, 1) := by decide +kernel
theorem dX12_spoilers_51 : decode cX12_spoilers 51 = .ok (.iconst 0, 1) := by decide +kernel
theorem dX12_spoilers_52 : decode cX12_spoilers 52 = .ok (.istore 4, 2) := by decide +kernel
theorem dX12_spoilers_54 : decode cX12_spoilers 54 = .ok (.iload 4, 2) := by decide +kernel
theorem dX12_spoilers_56 : decode cX12_spoilers 56 = .ok (.aload_n 0, 1) := by decide +kernel
theorem dX12_spoilers_57 : decode cX12_spoilers 57 = .ok (.getfield 45, 3) := by decide +kernel
theorem dX12_spoilers_60 : decode cX12_spoilers 60 = .ok (.iconst 0, 1) := by decide +kernel
theorem dX12_spoilers_61 : decode cX12_spoilers 61 = .ok (.iaload, 1) := by decide +kernel
theorem dX12_spoilers_62 : decode cX12_spoilers 62 = .ok (.if_icmp .ge 67, 3) := by decide +kernel
theorem dX12_spoilers_65 : decode cX12_spoilers 65 = .ok (.iconst 0, 1) := by decide +kernel
theorem dX12_spoilers_66 : decode cX12_spoilers 66 = .ok (.istore 5, 2) := by decide +kernel
theorem dX12_spoilers_68 : decode cX12_spoilers 68 = .ok (.iload 5, 2) := by decide +kernel
theorem dX12_spoilers_70 : decode cX12_spoilers 70 = .ok (.iload_n 2, 1) := by decide +kernel
theorem dX12_spoilers_71 : decode cX12_spoilers 71 = .ok (.if_icmp .ge 52, 3) := by decide +kernel
theorem dX12_spoilers_74 : decode cX12_spoilers 74 = .ok (.aload_n 0, 1) := by decide +kernel
theorem dX12_spoilers_75 : decode cX12_spoilers 75 = .ok (.iload 4, 2) := by decide +kernel
theorem dX12_spoilers_77 : decode cX12_spoilers 77 = .ok (.invokevirtual 390, 3) := by decide +kernel
theorem dX12_spoilers_80 : decode cX12_spoilers 80 = .ok (.ifCond .eq 43, 3) := by decide +kernel
theorem dX12_spoilers_83 : decode cX12_spoilers 83 = .ok (.iload_n 1, 1) := by decide +kernel
theorem dX12_spoilers_84 : decode cX12_spoilers 84 = .ok (.iload_n 3, 1) := by decide +kernel
theorem dX12_spoilers_85 : decode cX12_spoilers 85 = .ok (.ior, 1) := by decide +kernel
theorem dX12_spoilers_86 : decode cX12_spoilers 86 = .ok (.iload 4, 2) := by decide +kernel
theorem dX12_spoilers_88 : decode cX12_spoilers 88 = .ok (.invokestatic 322, 3) := by decide +kernel
theorem dX12_spoilers_91 : decode cX12_spoilers 91 = .ok (.ifCond .ne 32, 3) := by decide +kernel
theorem dX12_spoilers_94 : decode cX12_spoilers 94 = .ok (.iload_n 3, 1) := by decide +kernel
theorem dX12_spoilers_95 : decode cX12_spoilers 95 = .ok (.aload_n 0, 1) := by decide +kernel
theorem dX12_spoilers_96 : decode cX12_spoilers 96 = .ok (.iload_n 1, 1) := by decide +kernel
theorem dX12_spoilers_97 : decode cX12_spoilers 97 = .ok (.iload 4, 2) := by decide +kernel
theorem dX12_spoilers_99 : decode cX12_spoilers 99 = .ok (.iload 5, 2) := by decide +kernel
theorem dX12_spoilers_101 : decode cX12_spoilers 101 = .ok (.invokevirtual 452, 3) := by decide +kernel
theorem dX12_spoilers_104 : decode cX12_spoilers 104 = .ok (.ifCond .eq 10, 3) := by decide +kernel
theorem dX12_spoilers_107 : decode cX12_spoilers 107 = .ok (.iconst 1, 1) := by decide +kernel
theorem dX12_spoilers_108 : decode cX12_spoilers 108 = .ok (.iload 4, 2) := by decide +kernel
theorem dX12_spoilers_110 : decode cX12_spoilers 110 = .ok (.ishl, 1) := by decide +kernel
theorem dX12_spoilers_111 : decode cX12_spoilers 111 = .ok (.goto 4, 3) := by decide +kernel
theorem dX12_spoilers_114 : decode cX12_spoilers 114 = .ok (.iconst 0, 1) := by decide +kernel
theorem dX12_spoilers_115 : decode cX12_spoilers 115 = .ok (.ior, 1) := by decide +kernel
theorem dX12_spoilers_116 : decode cX12_spoilers 116 = .ok (.istore_n 3, 1) := by decide +kernel
theorem dX12_spoilers_117 : decode cX12_spoilers 117 = .ok (.iinc 5 1, 3) := by decide +kernel
theorem dX12_spoilers_120 : decode cX12_spoilers 120 = .ok (.goto (-52), 3) := by decide +kernel
theorem dX12_spoilers_123 : decode cX12_spoilers 123 = .ok (.iinc 4 1, 3) := by decide +kernel
theorem dX12_spoilers_126 : decode cX12_spoilers 126 = .ok (.goto (-72), 3) := by decide +kernel
theorem dX12_spoilers_129 : decode cX12_spoilers 129 = .ok (.iload_n 3, 1) := by decide +kernel
theorem dX12_spoilers_130 : decode cX12_spoilers 130 = .ok (.ireturn, 1) := by decide +kernel
theorem dX12_spoils_0 : decode cX12_spoils 0 = .ok (.aload_n 0, 1) := by decide +kernel
theorem dX12_spoils_1 : decode cX12_spoils 1 = .ok (.invokevirtual 393, 3) := by decide +kernel
theorem dX12_spoils_4 : decode cX12_spoils 4 = .ok (.iload_n 3, 1) := by decide +kernel
theorem dX12_spoils_5 : decode cX12_spoils 5 = .ok (.istore 4, 2) := by decide +kernel
theorem dX12_spoils_7 : decode cX12_spoils 7 = .ok (.iconst 1, 1) := by decide +kernel
theorem dX12_spoils_8 : decode cX12_spoils 8 = .ok (.istore 5, 2) := by decide +kernel
theorem dX12_spoils_10 : decode cX12_spoils 10 = .ok (.iconst 0, 1) := by decide +kernel
theorem dX12_spoils_11 : decode cX12_spoils 11 = .ok (.istore 6, 2) := by decide +kernel
theorem dX12_spoils_13 : decode cX12_spoils 13 = .ok (.iload 6, 2) := by decide +kernel
theorem dX12_spoils_15 : decode cX12_spoils 15 = .ok (.aload_n 0, 1) := by decide +kernel
theorem dX12_spoils_16 : decode cX12_spoils 16 = .ok (.getfield 351, 3) := by decide +kernel
theorem dX12_spoils_19 : decode cX12_spoils 19 = .ok (.if_icmp .ge 63, 3) := by decide +kernel
theorem dX12_spoils_22 : decode cX12_spoils 22 = .ok (.aload_n 0, 1) := by decide +kernel
theorem dX12_spoils_23 : decode cX12_spoils 23 = .ok (.aload_n 0, 1) := by decide +kernel
theorem dX12_spoils_24 : decode cX12_spoils 24 = .ok (.getfield 54, 3) := by decide +kernel
theorem dX12_spoils_27 : decode cX12_spoils 27 = .ok (.iload 6, 2) := by decide +kernel
theorem dX12_spoils_29 : decode cX12_spoils 29 = .ok (.iaload, 1) := by decide +kernel
theorem dX12_spoils_30 : decode cX12_spoils 30 = .ok (.iload 6, 2) := by decide +kernel
theorem dX12_spoils_32 : decode cX12_spoils 32 = .ok (.invokevirtual 396, 3) := by decide +kernel
theorem dX12_spoils_35 : decode cX12_spoils 35 = .ok (.aload_n 0, 1) := by decide +kernel
theorem dX12_spoils_36 : decode cX12_spoils 36 = .ok (.iload_n 1, 1) := by decide +kernel
theorem dX12_spoils_37 : decode cX12_spoils 37 = .ok (.aload_n 0, 1) := by decide +kernel
theorem dX12_spoils_38 : decode cX12_spoils 38 = .ok (.getfield 78, 3) := by decide +kernel
theorem dX12_spoils_41 : decode cX12_spoils 41 = .ok (.iload 6, 2) := by decide +kernel
theorem dX12_spoils_43 : decode cX12_spoils 43 = .ok (.iaload, 1) := by decide +kernel
theorem dX12_spoils_44 : decode cX12_spoils 44 = .ok (.aload_n 0, 1) := by decide +kernel
theorem dX12_spoils_45 : decode cX12_spoils 45 = .ok (.getfield 54, 3) := by decide +kernel
theorem dX12_spoils_48 : decode cX12_spoils 48 = .ok (.iload 6, 2) := by decide +kernel
theorem dX12_spoils_50 : decode cX12_spoils 50 = .ok (.iaload, 1) := by decide +kernel
theorem dX12_spoils_51 : decode cX12_spoils 51 = .ok (.invokevirtual 443, 3) := by decide +kernel
theorem dX12_spoils_54 : decode cX12_spoils 54 = .ok (.pop, 1) := by decide +kernel
theorem dX12_spoils_55 : decode cX12_spoils 55 = .ok (.aload_n 0, 1) := by decide +kernel
theorem dX12_spoils_56 : decode cX12_spoils 56 = .ok (.iload_n 2, 1) := by decide +kernel
theorem dX12_spoils_57 : decode cX12_spoils 57 = .ok (.iload 4, 2) := by decide +kernel
theorem dX12_spoils_59 : decode cX12_spoils 59 = .ok (.iconst 3, 1) := by decide +kernel
theorem dX12_spoils_60 : decode cX12_spoils 60 = .ok (.irem, 1) := by decide +kernel
theorem dX12_spoils_61 : decode cX12_spoils 61 = .ok (.invokevirtual 377, 3) := by decide +kernel
theorem dX12_spoils_64 : decode cX12_spoils 64 = .ok (.iload 4, 2) := by decide +kernel
theorem dX12_spoils_66 : decode cX12_spoils 66 = .ok (.iconst 3, 1) := by decide +kernel
theorem dX12_spoils_67 : decode cX12_spoils 67 = .ok (.idiv, 1) := by decide +kernel
theorem dX12_spoils_68 : decode cX12_spoils 68 = .ok (.istore 4, 2) := by decide +kernel
theorem dX12_spoils_70 : decode cX12_spoils 70 = .ok (.aload_n 0, 1) := by decide +kernel
theorem dX12_spoils_71 : decode cX12_spoils 71 = .ok (.invokevirtual 399, 3) := by decide +kernel
theorem dX12_spoils_74 : decode cX12_spoils 74 = .ok (.istore 5, 2) := by decide +kernel
theorem dX12_spoils_76 : decode cX12_spoils 76 = .ok (.iinc 6 1, 3) := by decide +kernel
theorem dX12_spoils_79 : decode cX12_spoils 79 = .ok (.goto (-66), 3) := by decide +kernel
theorem dX12_spoils_82 : decode cX12_spoils 82 = .ok (.iload 5, 2) := by decide +kernel
theorem dX12_spoils_84 : decode cX12_spoils 84 = .ok (.iconst 1, 1) := by decide +kernel
theorem dX12_spoils_85 : decode cX12_spoils 85 = .ok (.if_icmp .eq 7, 3) := by decide +kernel
theorem dX12_spoils_88 : decode cX12_spoils 88 = .ok (.iconst 1, 1) := by decide +kernel
theorem dX12_spoils_89 : decode cX12_spoils 89 = .ok (.goto 4, 3) := by decide +kernel
theorem dX12_spoils_92 : decode cX12_spoils 92 = .ok (.iconst 0, 1) := by decide +kernel
theorem dX12_spoils_93 : decode cX12_spoils 93 = .ok (.ireturn, 1) := by decide +kernel
theorem dX12_status_0 : decode cX12_status 0 = .ok (.iload_n 1, 1) := by decide +kernel
theorem dX12_status_1 : decode cX12_status 1 = .ok (.i2l, 1) := by decide +kernel
theorem dX12_status_2 : decode cX12_status 2 = .ok (.lconst 0, 1) := by decide +kernel
theorem dX12_status_3 : decode cX12_status 3 = .ok (.lconst 1, 1) := by decide +kernel
theorem dX12_status_4 : decode cX12_status 4 = .ok (.invokestatic 155, 3) := by decide +kernel
theorem dX12_status_7 : decode cX12_status 7 = .ok (.ifCond .eq 12, 3) := by decide +kernel
theorem dX12_status_10 : decode cX12_status 10 = .ok (.aload_n 0, 1) := by decide +kernel
theorem dX12_status_11 : decode cX12_status 11 = .ok (.getfield 48, 3) := by decide +kernel
theorem dX12_status_14 : decode cX12_status 14 = .ok (.iload_n 1, 1) := by decide +kernel
theorem dX12_status_15 : decode cX12_status 15 = .ok (.iaload, 1) := by decide +kernel
theorem dX12_status_16 : decode cX12_status 16 = .ok (.goto 4, 3) := by decide +kernel
theorem dX12_status_19 : decode cX12_status 19 = .ok (.iconst (-1), 1) := by decide +kernel
theorem dX12_status_20 : decode cX12_status 20 = .ok (.ireturn, 1) := by decide +kernel
theorem dX12_stays_0 : decode cX12_stays 0 = .ok (.iconst 0, 1) := by decide +kernel
theorem dX12_stays_1 : decode cX12_stays 1 = .ok (.istore_n 1, 1) := by decide +kernel
theorem dX12_stays_2 : decode cX12_stays 2 = .ok (.iload_n 1, 1) := by decide +kernel
theorem dX12_stays_3 : decode cX12_stays 3 = .ok (.bipush 10, 2) := by decide +kernel
theorem dX12_stays_5 : decode cX12_stays 5 = .ok (.if_icmp .ge 60, 3) := by decide +kernel
theorem dX12_stays_8 : decode cX12_stays 8 = .ok (.aload_n 0, 1) := by decide +kernel
theorem dX12_stays_9 : decode cX12_stays 9 = .ok (.getfield 45, 3) := by decide +kernel
theorem dX12_stays_12 : decode cX12_stays 12 = .ok (.bipush 10, 2) := by decide +kernel
theorem dX12_stays_14 : decode cX12_stays 14 = .ok (.iload_n 1, 1) := by decide +kernel
theorem dX12_stays_15 : decode cX12_stays 15 = .ok (.iadd, 1) := by decide +kernel
theorem dX12_stays_16 : decode cX12_stays 16 = .ok (.aload_n 0, 1) := by decide +kernel
theorem dX12_stays_17 : decode cX12_stays 17 = .ok (.getfield 51, 3) := by decide +kernel
theorem dX12_stays_20 : decode cX12_stays 20 = .ok (.iload_n 1, 1) := by decide +kernel
theorem dX12_stays_21 : decode cX12_stays 21 = .ok (.iaload, 1) := by decide +kernel
theorem dX12_stays_22 : decode cX12_stays 22 = .ok (.iastore, 1) := by decide +kernel
theorem dX12_stays_23 : decode cX12_stays 23 = .ok (.aload_n 0, 1) := by decide +kernel
theorem dX12_stays_24 : decode cX12_stays 24 = .ok (.getfield 45, 3) := by decide +kernel
theorem dX12_stays_27 : decode cX12_stays 27 = .ok (.bipush 30, 2) := by decide +kernel
theorem dX12_stays_29 : decode cX12_stays 29 = .ok (.iload_n 1, 1) := by decide +kernel
theorem dX12_stays_30 : decode cX12_stays 30 = .ok (.iadd, 1) := by decide +kernel
theorem dX12_stays_31 : decode cX12_stays 31 = .ok (.dup2, 1) := by decide +kernel
theorem dX12_stays_32 : decode cX12_stays 32 = .ok (.iaload, 1) := by decide +kernel
theorem dX12_stays_33 : decode cX12_stays 33 = .ok (.aload_n 0, 1) := by decide +kernel
theorem dX12_stays_34 : decode cX12_stays 34 = .ok (.getfield 57, 3) := by decide +kernel
theorem dX12_stays_37 : decode cX12_stays 37 = .ok (.iload_n 1, 1) := by decide +kernel
theorem dX12_stays_38 : decode cX12_stays 38 = .ok (.iaload, 1) := by decide +kernel
theorem dX12_stays_39 : decode cX12_stays 39 = .ok (.iadd, 1) := by decide +kernel
theorem dX12_stays_40 : decode cX12_stays 40 = .ok (.iastore, 1) := by decide +kernel
theorem dX12_stays_41 : decode cX12_stays 41 = .ok (.aload_n 0, 1) := by decide +kernel
theorem dX12_stays_42 : decode cX12_stays 42 = .ok (.getfield 45, 3) := by decide +kernel
theorem dX12_stays_45 : decode cX12_stays 45 = .ok (.bipush 40, 2) := by decide +kernel
theorem dX12_stays_47 : decode cX12_stays 47 = .ok (.iload_n 1, 1) := by decide +kernel
theorem dX12_stays_48 : decode cX12_stays 48 = .ok (.iadd, 1) := by decide +kernel
theorem dX12_stays_49 : decode cX12_stays 49 = .ok (.dup2, 1) := by decide +kernel
theorem dX12_stays_50 : decode cX12_stays 50 = .ok (.iaload, 1) := by decide +kernel
theorem dX12_stays_51 : decode cX12_stays 51 = .ok (.aload_n 0, 1) := by decide +kernel
theorem dX12_stays_52 : decode cX12_stays 52 = .ok (.getfield 60, 3) := by decide +kernel
theorem dX12_stays_55 : decode cX12_stays 55 = .ok (.iload_n 1, 1) := by decide +kernel
theorem dX12_stays_56 : decode cX12_stays 56 = .ok (.iaload, 1) := by decide +kernel
theorem dX12_stays_57 : decode cX12_stays 57 = .ok (.iadd, 1) := by decide +kernel
theorem dX12_stays_58 : decode cX12_stays 58 = .ok (.iastore, 1) := by decide +kernel
theorem dX12_stays_59 : decode cX12_stays 59 = .ok (.iinc 1 1, 3) := by decide +kernel
theorem dX12_stays_62 : decode cX12_stays 62 = .ok (.goto (-60), 3) := by decide +kernel
theorem dX12_stays_65 : decode cX12_stays 65 = .ok (.aload_n 0, 1) := by decide +kernel
theorem dX12_stays_66 : decode cX12_stays 66 = .ok (.getfield 45, 3) := by decide +kernel
theorem dX12_stays_69 : decode cX12_stays 69 = .ok (.iconst 3, 1) := by decide +kernel
theorem dX12_stays_70 : decode cX12_stays 70 = .ok (.aload_n 0, 1) := by decide +kernel
theorem dX12_stays_71 : decode cX12_stays 71 = .ok (.getfield 348, 3) := by decide +kernel
theorem dX12_stays_74 : decode cX12_stays 74 = .ok (.iastore, 1) := by decide +kernel
theorem dX12_stays_75 : decode cX12_stays 75 = .ok (.return_, 1) := by decide +kernel
theorem dX12_strength_0 : decode cX12_strength 0 = .ok (.iload_n 0, 1) := by decide +kernel
theorem dX12_strength_1 : decode cX12_strength 1 = .ok (.bipush 13, 2) := by decide +kernel
theorem dX12_strength_3 : decode cX12_strength 3 = .ok (.if_icmp .ne 7, 3) := by decide +kernel
theorem dX12_strength_6 : decode cX12_strength 6 = .ok (.iconst 1, 1) := by decide +kernel
theorem dX12_strength_7 : decode cX12_strength 7 = .ok (.goto 24, 3) := by decide +kernel
theorem dX12_strength_10 : decode cX12_strength 10 = .ok (.iload_n 0, 1) := by decide +kernel
theorem dX12_strength_11 : decode cX12_strength 11 = .ok (.bipush 12, 2) := by decide +kernel
theorem dX12_strength_13 : decode cX12_strength 13 = .ok (.if_icmp .ne 7, 3) := by decide +kernel
theorem dX12_strength_16 : decode cX12_strength 16 = .ok (.iconst 2, 1) := by decide +kernel
theorem dX12_strength_17 : decode cX12_strength 17 = .ok (.goto 14, 3) := by decide +kernel
theorem dX12_strength_20 : decode cX12_strength 20 = .ok (.iload_n 0, 1) := by decide +kernel
theorem dX12_strength_21 : decode cX12_strength 21 = .ok (.bipush 11, 2) := by decide +kernel
theorem dX12_strength_23 : decode cX12_strength 23 = .ok (.if_icmp .ne 7, 3) := by decide +kernel
theorem dX12_strength_26 : decode cX12_strength 26 = .ok (.iconst 3, 1) := by decide +kernel
theorem dX12_strength_27 : decode cX12_strength 27 = .ok (.goto 4, 3) := by decide +kernel
theorem dX12_strength_30 : decode cX12_strength 30 = .ok (.iconst 0, 1) := by decide +kernel
theorem dX12_strength_31 : decode cX12_strength 31 = .ok (.ireturn, 1) := by decide +kernel
theorem dX12_sum_0 : decode cX12_sum 0 = .ok (.aload_n 0, 1) := by decide +kernel
theorem dX12_sum_1 : decode cX12_sum 1 = .ok (.invokevirtual 213, 3) := by decide +kernel
theorem dX12_sum_4 : decode cX12_sum 4 = .ok (.ifCond .ne 5, 3) := by decide +kernel
theorem dX12_sum_7 : decode cX12_sum 7 = .ok (.iconst 0, 1) := by decide +kernel
theorem dX12_sum_8 : decode cX12_sum 8 = .ok (.ireturn, 1) := by decide +kernel
theorem dX12_sum_9 : decode cX12_sum 9 = .ok (.aload_n 0, 1) := by decide +kernel
theorem dX12_sum_10 : decode cX12_sum 10 = .ok (.invokevirtual 130, 3) := by decide +kernel
theorem dX12_sum_13 : decode cX12_sum 13 = .ok (.bipush 43, 2) := by decide +kernel
theorem dX12_sum_15 : decode cX12_sum 15 = .ok (.if_icmp .eq 12, 3) := by decide +kernel
theorem dX12_sum_18 : decode cX12_sum 18 = .ok (.aload_n 0, 1) := by decide +kernel
theorem dX12_sum_19 : decode cX12_sum 19 = .ok (.invokevirtual 130, 3) := by decide +kernel
theorem dX12_sum_22 : decode cX12_sum 22 = .ok (.bipush 45, 2) := by decide +kernel
theorem dX12_sum_24 : decode cX12_sum 24 = .ok (.if_icmp .ne 51, 3) := by decide +kernel
theorem dX12_sum_27 : decode cX12_sum 27 = .ok (.aload_n 0, 1) := by decide +kernel
theorem dX12_sum_28 : decode cX12_sum 28 = .ok (.getfield 7, 3) := by decide +kernel
theorem dX12_sum_31 : decode cX12_sum 31 = .ok (.aload_n 0, 1) := by decide +kernel
theorem dX12_sum_32 : decode cX12_sum 32 = .ok (.getfield 127, 3) := by decide +kernel
theorem dX12_sum_35 : decode cX12_sum 35 = .ok (.baload, 1) := by decide +kernel
theorem dX12_sum_36 : decode cX12_sum 36 = .ok (.bipush 43, 2) := by decide +kernel
theorem dX12_sum_38 : decode cX12_sum 38 = .ok (.if_icmp .ne 7, 3) := by decide +kernel
theorem dX12_sum_41 : decode cX12_sum 41 = .ok (.iconst 2, 1) := by decide +kernel
theorem dX12_sum_42 : decode cX12_sum 42 = .ok (.goto 4, 3) := by decide +kernel
theorem dX12_sum_45 : decode cX12_sum 45 = .ok (.iconst 3, 1) := by decide +kernel
theorem dX12_sum_46 : decode cX12_sum 46 = .ok (.istore_n 1, 1) := by decide +kernel
theorem dX12_sum_47 : decode cX12_sum 47 = .ok (.aload_n 0, 1) := by decide +kernel
theorem dX12_sum_48 : decode cX12_sum 48 = .ok (.dup, 1) := by decide +kernel
theorem dX12_sum_49 : decode cX12_sum 49 = .ok (.getfield 127, 3) := by decide +kernel
theorem dX12_sum_52 : decode cX12_sum 52 = .ok (.iconst 1, 1) := by decide +kernel
theorem dX12_sum_53 : decode cX12_sum 53 = .ok (.iadd, 1) := by decide +kernel
theorem dX12_sum_54 : decode cX12_sum 54 = .ok (.putfield 127, 3) := by decide +kernel
theorem dX12_sum_57 : decode cX12_sum 57 = .ok (.aload_n 0, 1) := by decide +kernel
theorem dX12_sum_58 : decode cX12_sum 58 = .ok (.invokevirtual 213, 3) := by decide +kernel
theorem dX12_sum_61 : decode cX12_sum 61 = .ok (.ifCond .ne 5, 3) := by decide +kernel
theorem dX12_sum_64 : decode cX12_sum 64 = .ok (.iconst 0, 1) := by decide +kernel
theorem dX12_sum_65 : decode cX12_sum 65 = .ok (.ireturn, 1) := by decide +kernel
theorem dX12_sum_66 : decode cX12_sum 66 = .ok (.aload_n 0, 1) := by decide +kernel
theorem dX12_sum_67 : decode cX12_sum 67 = .ok (.iload_n 1, 1) := by decide +kernel
theorem dX12_sum_68 : decode cX12_sum 68 = .ok (.iconst 0, 1) := by decide +kernel
theorem dX12_sum_69 : decode cX12_sum 69 = .ok (.invokevirtual 195, 3) := by decide +kernel
theorem dX12_sum_72 : decode cX12_sum 72 = .ok (.goto (-63), 3) := by decide +kernel
theorem dX12_sum_75 : decode cX12_sum 75 = .ok (.iconst 1, 1) := by decide +kernel
theorem dX12_sum_76 : decode cX12_sum 76 = .ok (.ireturn, 1) := by decide +kernel
theorem dX12_takesWord_0 : decode cX12_takesWord 0 = .ok (.aload_n 0, 1) := by decide +kernel
theorem dX12_takesWord_1 : decode cX12_takesWord 1 = .ok (.lload_n 1, 1) := by decide +kernel
theorem dX12_takesWord_2 : decode cX12_takesWord 2 = .ok (.invokevirtual 138, 3) := by decide +kernel
theorem dX12_takesWord_5 : decode cX12_takesWord 5 = .ok (.ifCond .ne 5, 3) := by decide +kernel
theorem dX12_takesWord_8 : decode cX12_takesWord 8 = .ok (.iconst 0, 1) := by decide +kernel
theorem dX12_takesWord_9 : decode cX12_takesWord 9 = .ok (.ireturn, 1) := by decide +kernel
theorem dX12_takesWord_10 : decode cX12_takesWord 10 = .ok (.aload_n 0, 1) := by decide +kernel
theorem dX12_takesWord_11 : decode cX12_takesWord 11 = .ok (.invokevirtual 142, 3) := by decide +kernel
theorem dX12_takesWord_14 : decode cX12_takesWord 14 = .ok (.iconst 1, 1) := by decide +kernel
theorem dX12_takesWord_15 : decode cX12_takesWord 15 = .ok (.ireturn, 1) := by decide +kernel
theorem dX12_tells_0 : decode cX12_tells 0 = .ok (.aload_n 0, 1) := by decide +kernel
theorem dX12_tells_1 : decode cX12_tells 1 = .ok (.iload_n 1, 1) := by decide +kernel
theorem dX12_tells_2 : decode cX12_tells 2 = .ok (.invokevirtual 486, 3) := by decide +kernel
theorem dX12_tells_5 : decode cX12_tells 5 = .ok (.ifCond .eq 13, 3) := by decide +kernel
theorem dX12_tells_8 : decode cX12_tells 8 = .ok (.iload_n 2, 1) := by decide +kernel
theorem dX12_tells_9 : decode cX12_tells 9 = .ok (.i2l, 1) := by decide +kernel
theorem dX12_tells_10 : decode cX12_tells 10 = .ok (.lconst 0, 1) := by decide +kernel
theorem dX12_tells_11 : decode cX12_tells 11 = .ok (.lconst 1, 1) := by decide +kernel
theorem dX12_tells_12 : decode cX12_tells 12 = .ok (.invokestatic 155, 3) := by decide +kernel
theorem dX12_tells_15 : decode cX12_tells 15 = .ok (.ifCond .ne 5, 3) := by decide +kernel
theorem dX12_tells_18 : decode cX12_tells 18 = .ok (.iconst (-1), 1) := by decide +kernel
theorem dX12_tells_19 : decode cX12_tells 19 = .ok (.ireturn, 1) := by decide +kernel
theorem dX12_tells_20 : decode cX12_tells 20 = .ok (.iconst 1, 1) := by decide +kernel
theorem dX12_tells_21 : decode cX12_tells 21 = .ok (.istore_n 3, 1) := by decide +kernel
theorem dX12_tells_22 : decode cX12_tells 22 = .ok (.aload_n 0, 1) := by decide +kernel
theorem dX12_tells_23 : decode cX12_tells 23 = .ok (.iconst 1, 1) := by decide +kernel
theorem dX12_tells_24 : decode cX12_tells 24 = .ok (.iload_n 1, 1) := by decide +kernel
theorem dX12_tells_25 : decode cX12_tells 25 = .ok (.invokevirtual 495, 3) := by decide +kernel
theorem dX12_tells_28 : decode cX12_tells 28 = .ok (.istore 4, 2) := by decide +kernel
theorem dX12_tells_30 : decode cX12_tells 30 = .ok (.iconst 2, 1) := by decide +kernel
theorem dX12_tells_31 : decode cX12_tells 31 = .ok (.istore 5, 2) := by decide +kernel
theorem dX12_tells_33 : decode cX12_tells 33 = .ok (.iload 5, 2) := by decide +kernel
theorem dX12_tells_35 : decode cX12_tells 35 = .ok (.iconst 1, 1) := by decide +kernel
theorem dX12_tells_36 : decode cX12_tells 36 = .ok (.aload_n 0, 1) := by decide +kernel
theorem dX12_tells_37 : decode cX12_tells 37 = .ok (.getfield 45, 3) := by decide +kernel
theorem dX12_tells_40 : decode cX12_tells 40 = .ok (.iconst 0, 1) := by decide +kernel
theorem dX12_tells_41 : decode cX12_tells 41 = .ok (.iaload, 1) := by decide +kernel
theorem dX12_tells_42 : decode cX12_tells 42 = .ok (.ishl, 1) := by decide +kernel
theorem dX12_tells_43 : decode cX12_tells 43 = .ok (.if_icmp .ge 35, 3) := by decide +kernel
theorem dX12_tells_46 : decode cX12_tells 46 = .ok (.aload_n 0, 1) := by decide +kernel
theorem dX12_tells_47 : decode cX12_tells 47 = .ok (.iload 5, 2) := by decide +kernel
theorem dX12_tells_49 : decode cX12_tells 49 = .ok (.iload_n 1, 1) := by decide +kernel
theorem dX12_tells_50 : decode cX12_tells 50 = .ok (.invokevirtual 495, 3) := by decide +kernel
theorem dX12_tells_53 : decode cX12_tells 53 = .ok (.istore 6, 2) := by decide +kernel
theorem dX12_tells_55 : decode cX12_tells 55 = .ok (.iload 6, 2) := by decide +kernel
theorem dX12_tells_57 : decode cX12_tells 57 = .ok (.iload 4, 2) := by decide +kernel
theorem dX12_tells_59 : decode cX12_tells 59 = .ok (.if_icmp .lt 6, 3) := by decide +kernel
theorem dX12_tells_62 : decode cX12_tells 62 = .ok (.goto 10, 3) := by decide +kernel
theorem dX12_tells_65 : decode cX12_tells 65 = .ok (.iload 5, 2) := by decide +kernel
theorem dX12_tells_67 : decode cX12_tells 67 = .ok (.istore_n 3, 1) := by decide +kernel
theorem dX12_tells_68 : decode cX12_tells 68 = .ok (.iload 6, 2) := by decide +kernel
theorem dX12_tells_70 : decode cX12_tells 70 = .ok (.istore 4, 2) := by decide +kernel
theorem dX12_tells_72 : decode cX12_tells 72 = .ok (.iinc 5 1, 3) := by decide +kernel
theorem dX12_tells_75 : decode cX12_tells 75 = .ok (.goto (-42), 3) := by decide +kernel
theorem dX12_tells_78 : decode cX12_tells 78 = .ok (.iload_n 2, 1) := by decide +kernel
theorem dX12_tells_79 : decode cX12_tells 79 = .ok (.ifCond .ne 7, 3) := by decide +kernel
theorem dX12_tells_82 : decode cX12_tells 82 = .ok (.iload_n 3, 1) := by decide +kernel
theorem dX12_tells_83 : decode cX12_tells 83 = .ok (.goto 5, 3) := by decide +kernel
theorem dX12_tells_86 : decode cX12_tells 86 = .ok (.iload 4, 2) := by decide +kernel
theorem dX12_tells_88 : decode cX12_tells 88 = .ok (.ireturn, 1) := by decide +kernel
theorem dX12_term_0 : decode cX12_term 0 = .ok (.aload_n 0, 1) := by decide +kernel
theorem dX12_term_1 : decode cX12_term 1 = .ok (.invokevirtual 209, 3) := by decide +kernel
theorem dX12_term_4 : decode cX12_term 4 = .ok (.ifCond .ne 5, 3) := by decide +kernel
theorem dX12_term_7 : decode cX12_term 7 = .ok (.iconst 0, 1) := by decide +kernel
theorem dX12_term_8 : decode cX12_term 8 = .ok (.ireturn, 1) := by decide +kernel
theorem dX12_term_9 : decode cX12_term 9 = .ok (.aload_n 0, 1) := by decide +kernel
theorem dX12_term_10 : decode cX12_term 10 = .ok (.invokevirtual 130, 3) := by decide +kernel
theorem dX12_term_13 : decode cX12_term 13 = .ok (.bipush 42, 2) := by decide +kernel
theorem dX12_term_15 : decode cX12_term 15 = .ok (.if_icmp .eq 12, 3) := by decide +kernel
theorem dX12_term_18 : decode cX12_term 18 = .ok (.aload_n 0, 1) := by decide +kernel
theorem dX12_term_19 : decode cX12_term 19 = .ok (.invokevirtual 130, 3) := by decide +kernel
theorem dX12_term_22 : decode cX12_term 22 = .ok (.bipush 47, 2) := by decide +kernel
theorem dX12_term_24 : decode cX12_term 24 = .ok (.if_icmp .ne 51, 3) := by decide +kernel
theorem dX12_term_27 : decode cX12_term 27 = .ok (.aload_n 0, 1) := by decide +kernel
theorem dX12_term_28 : decode cX12_term 28 = .ok (.getfield 7, 3) := by decide +kernel
theorem dX12_term_31 : decode cX12_term 31 = .ok (.aload_n 0, 1) := by decide +kernel
theorem dX12_term_32 : decode cX12_term 32 = .ok (.getfield 127, 3) := by decide +kernel
theorem dX12_term_35 : decode cX12_term 35 = .ok (.baload, 1) := by decide +kernel
theorem dX12_term_36 : decode cX12_term 36 = .ok (.bipush 42, 2) := by decide +kernel
theorem dX12_term_38 : decode cX12_term 38 = .ok (.if_icmp .ne 7, 3) := by decide +kernel
theorem dX12_term_41 : decode cX12_term 41 = .ok (.iconst 4, 1) := by decide +kernel
theorem dX12_term_42 : decode cX12_term 42 = .ok (.goto 4, 3) := by decide +kernel
theorem dX12_term_45 : decode cX12_term 45 = .ok (.iconst 5, 1) := by decide +kernel
theorem dX12_term_46 : decode cX12_term 46 = .ok (.istore_n 1, 1) := by decide +kernel
theorem dX12_term_47 : decode cX12_term 47 = .ok (.aload_n 0, 1) := by decide +kernel
theorem dX12_term_48 : decode cX12_term 48 = .ok (.dup, 1) := by decide +kernel
theorem dX12_term_49 : decode cX12_term 49 = .ok (.getfield 127, 3) := by decide +kernel
theorem dX12_term_52 : decode cX12_term 52 = .ok (.iconst 1, 1) := by decide +kernel
theorem dX12_term_53 : decode cX12_term 53 = .ok (.iadd, 1) := by decide +kernel
theorem dX12_term_54 : decode cX12_term 54 = .ok (.putfield 127, 3) := by decide +kernel
theorem dX12_term_57 : decode cX12_term 57 = .ok (.aload_n 0, 1) := by decide +kernel
theorem dX12_term_58 : decode cX12_term 58 = .ok (.invokevirtual 209, 3) := by decide +kernel
theorem dX12_term_61 : decode cX12_term 61 = .ok (.ifCond .ne 5, 3) := by decide +kernel
theorem dX12_term_64 : decode cX12_term 64 = .ok (.iconst 0, 1) := by decide +kernel
theorem dX12_term_65 : decode cX12_term 65 = .ok (.ireturn, 1) := by decide +kernel
theorem dX12_term_66 : decode cX12_term 66 = .ok (.aload_n 0, 1) := by decide +kernel
theorem dX12_term_67 : decode cX12_term 67 = .ok (.iload_n 1, 1) := by decide +kernel
theorem dX12_term_68 : decode cX12_term 68 = .ok (.iconst 0, 1) := by decide +kernel
theorem dX12_term_69 : decode cX12_term 69 = .ok (.invokevirtual 195, 3) := by decide +kernel
theorem dX12_term_72 : decode cX12_term 72 = .ok (.goto (-63), 3) := by decide +kernel
theorem dX12_term_75 : decode cX12_term 75 = .ok (.iconst 1, 1) := by decide +kernel
theorem dX12_term_76 : decode cX12_term 76 = .ok (.ireturn, 1) := by decide +kernel
theorem dX12_tested_0 : decode cX12_tested 0 = .ok (.aload_n 0, 1) := by decide +kernel
theorem dX12_tested_1 : decode cX12_tested 1 = .ok (.iconst 0, 1) := by decide +kernel
theorem dX12_tested_2 : decode cX12_tested 2 = .ok (.putfield 188, 3) := by decide +kernel
theorem dX12_tested_5 : decode cX12_tested 5 = .ok (.aload_n 0, 1) := by decide +kernel
theorem dX12_tested_6 : decode cX12_tested 6 = .ok (.iconst 0, 1) := by decide +kernel
theorem dX12_tested_7 : decode cX12_tested 7 = .ok (.putfield 185, 3) := by decide +kernel
theorem dX12_tested_10 : decode cX12_tested 10 = .ok (.iconst 1, 1) := by decide +kernel
theorem dX12_tested_11 : decode cX12_tested 11 = .ok (.istore_n 1, 1) := by decide +kernel
theorem dX12_tested_12 : decode cX12_tested 12 = .ok (.iload_n 1, 1) := by decide +kernel
theorem dX12_tested_13 : decode cX12_tested 13 = .ok (.ifCond .eq 99, 3) := by decide +kernel
theorem dX12_tested_16 : decode cX12_tested 16 = .ok (.aload_n 0, 1) := by decide +kernel
theorem dX12_tested_17 : decode cX12_tested 17 = .ok (.invokevirtual 233, 3) := by decide +kernel
theorem dX12_tested_20 : decode cX12_tested 20 = .ok (.ifCond .ne 5, 3) := by decide +kernel
theorem dX12_tested_23 : decode cX12_tested 23 = .ok (.iconst 0, 1) := by decide +kernel
theorem dX12_tested_24 : decode cX12_tested 24 = .ok (.ireturn, 1) := by decide +kernel
theorem dX12_tested_25 : decode cX12_tested 25 = .ok (.aload_n 0, 1) := by decide +kernel
theorem dX12_tested_26 : decode cX12_tested 26 = .ok (.invokevirtual 236, 3) := by decide +kernel
theorem dX12_tested_29 : decode cX12_tested 29 = .ok (.aload_n 0, 1) := by decide +kernel
theorem dX12_tested_30 : decode cX12_tested 30 = .ok (.ldc2_w 239, 3) := by decide +kernel
theorem dX12_tested_33 : decode cX12_tested 33 = .ok (.invokevirtual 138, 3) := by decide +kernel
theorem dX12_tested_36 : decode cX12_tested 36 = .ok (.ifCond .ne 13, 3) := by decide +kernel
theorem dX12_tested_39 : decode cX12_tested 39 = .ok (.aload_n 0, 1) := by decide +kernel
theorem dX12_tested_40 : decode cX12_tested 40 = .ok (.ldc2_w 241, 3) := by decide +kernel
theorem dX12_tested_43 : decode cX12_tested 43 = .ok (.invokevirtual 138, 3) := by decide +kernel
theorem dX12_tested_46 : decode cX12_tested 46 = .ok (.ifCond .eq 7, 3) := by decide +kernel
theorem dX12_tested_49 : decode cX12_tested 49 = .ok (.iconst 1, 1) := by decide +kernel
theorem dX12_tested_50 : decode cX12_tested 50 = .ok (.goto 4, 3) := by decide +kernel
theorem dX12_tested_53 : decode cX12_tested 53 = .ok (.iconst 0, 1) := by decide +kernel
theorem dX12_tested_54 : decode cX12_tested 54 = .ok (.istore_n 1, 1) := by decide +kernel
theorem dX12_tested_55 : decode cX12_tested 55 = .ok (.iload_n 1, 1) := by decide +kernel
theorem dX12_tested_56 : decode cX12_tested 56 = .ok (.ifCond .eq (-44), 3) := by decide +kernel
theorem dX12_tested_59 : decode cX12_tested 59 = .ok (.aload_n 0, 1) := by decide +kernel
theorem dX12_tested_60 : decode cX12_tested 60 = .ok (.ldc2_w 239, 3) := by decide +kernel
theorem dX12_tested_63 : decode cX12_tested 63 = .ok (.invokevirtual 138, 3) := by decide +kernel
theorem dX12_tested_66 : decode cX12_tested 66 = .ok (.ifCond .eq 8, 3) := by decide +kernel
theorem dX12_tested_69 : decode cX12_tested 69 = .ok (.bipush 12, 2) := by decide +kernel
theorem dX12_tested_71 : decode cX12_tested 71 = .ok (.goto 5, 3) := by decide +kernel
theorem dX12_tested_74 : decode cX12_tested 74 = .ok (.bipush 13, 2) := by decide +kernel
theorem dX12_tested_76 : decode cX12_tested 76 = .ok (.istore_n 2, 1) := by decide +kernel
theorem dX12_tested_77 : decode cX12_tested 77 = .ok (.aload_n 0, 1) := by decide +kernel
theorem dX12_tested_78 : decode cX12_tested 78 = .ok (.invokevirtual 142, 3) := by decide +kernel
theorem dX12_tested_81 : decode cX12_tested 81 = .ok (.aload_n 0, 1) := by decide +kernel
theorem dX12_tested_82 : decode cX12_tested 82 = .ok (.iload_n 2, 1) := by decide +kernel
theorem dX12_tested_83 : decode cX12_tested 83 = .ok (.invokestatic 191, 3) := by decide +kernel
theorem dX12_tested_86 : decode cX12_tested 86 = .ok (.invokevirtual 227, 3) := by decide +kernel
theorem dX12_tested_89 : decode cX12_tested 89 = .ok (.aload_n 0, 1) := by decide +kernel
theorem dX12_tested_90 : decode cX12_tested 90 = .ok (.getfield 35, 3) := by decide +kernel
theorem dX12_tested_93 : decode cX12_tested 93 = .ok (.aload_n 0, 1) := by decide +kernel
theorem dX12_tested_94 : decode cX12_tested 94 = .ok (.getfield 188, 3) := by decide +kernel
theorem dX12_tested_97 : decode cX12_tested 97 = .ok (.iload_n 2, 1) := by decide +kernel
theorem dX12_tested_98 : decode cX12_tested 98 = .ok (.iastore, 1) := by decide +kernel
theorem dX12_tested_99 : decode cX12_tested 99 = .ok (.aload_n 0, 1) := by decide +kernel
theorem dX12_tested_100 : decode cX12_tested 100 = .ok (.dup, 1) := by decide +kernel
theorem dX12_tested_101 : decode cX12_tested 101 = .ok (.getfield 188, 3) := by decide +kernel
theorem dX12_tested_104 : decode cX12_tested 104 = .ok (.iconst 1, 1) := by decide +kernel
theorem dX12_tested_105 : decode cX12_tested 105 = .ok (.iadd, 1) := by decide +kernel
theorem dX12_tested_106 : decode cX12_tested 106 = .ok (.putfield 188, 3) := by decide +kernel
theorem dX12_tested_109 : decode cX12_tested 109 = .ok (.goto (-97), 3) := by decide +kernel
theorem dX12_tested_112 : decode cX12_tested 112 = .ok (.aload_n 0, 1) := by decide +kernel
theorem dX12_tested_113 : decode cX12_tested 113 = .ok (.invokevirtual 230, 3) := by decide +kernel
theorem dX12_tested_116 : decode cX12_tested 116 = .ok (.ifCond .eq 18, 3) := by decide +kernel
theorem dX12_tested_119 : decode cX12_tested 119 = .ok (.aload_n 0, 1) := by decide +kernel
theorem dX12_tested_120 : decode cX12_tested 120 = .ok (.invokevirtual 130, 3) := by decide +kernel
theorem dX12_tested_123 : decode cX12_tested 123 = .ok (.pop, 1) := by decide +kernel
theorem dX12_tested_124 : decode cX12_tested 124 = .ok (.aload_n 0, 1) := by decide +kernel
theorem dX12_tested_125 : decode cX12_tested 125 = .ok (.iconst 0, 1) := by decide +kernel
theorem dX12_tested_126 : decode cX12_tested 126 = .ok (.aload_n 0, 1) := by decide +kernel
theorem dX12_tested_127 : decode cX12_tested 127 = .ok (.getfield 127, 3) := by decide +kernel
theorem dX12_tested_130 : decode cX12_tested 130 = .ok (.invokevirtual 148, 3) := by decide +kernel
theorem dX12_tested_133 : decode cX12_tested 133 = .ok (.ireturn, 1) := by decide +kernel
theorem dX12_tested_134 : decode cX12_tested 134 = .ok (.aload_n 0, 1) := by decide +kernel
theorem dX12_tested_135 : decode cX12_tested 135 = .ok (.iconst 1, 1) := by decide +kernel
theorem dX12_tested_136 : decode cX12_tested 136 = .ok (.invokevirtual 227, 3) := by decide +kernel
theorem dX12_tested_139 : decode cX12_tested 139 = .ok (.iconst 1, 1) := by decide +kernel
theorem dX12_tested_140 : decode cX12_tested 140 = .ok (.ireturn, 1) := by decide +kernel
theorem dX12_throwsVotes_0 : decode cX12_throwsVotes 0 = .ok (.aload_n 0, 1) := by decide +kernel
theorem dX12_throwsVotes_1 : decode cX12_throwsVotes 1 = .ok (.invokevirtual 393, 3) := by decide +kernel
theorem dX12_throwsVotes_4 : decode cX12_throwsVotes 4 = .ok (.aload_n 0, 1) := by decide +kernel
theorem dX12_throwsVotes_5 : decode cX12_throwsVotes 5 = .ok (.iconst (-1), 1) := by decide +kernel
theorem dX12_throwsVotes_6 : decode cX12_throwsVotes 6 = .ok (.putfield 431, 3) := by decide +kernel
theorem dX12_throwsVotes_9 : decode cX12_throwsVotes 9 = .ok (.iconst 0, 1) := by decide +kernel
theorem dX12_throwsVotes_10 : decode cX12_throwsVotes 10 = .ok (.istore_n 2, 1) := by decide +kernel
theorem dX12_throwsVotes_11 : decode cX12_throwsVotes 11 = .ok (.aload_n 0, 1) := by decide +kernel
theorem dX12_throwsVotes_12 : decode cX12_throwsVotes 12 = .ok (.getfield 69, 3) := by decide +kernel
theorem dX12_throwsVotes_15 : decode cX12_throwsVotes 15 = .ok (.iconst 0, 1) := by decide +kernel
theorem dX12_throwsVotes_16 : decode cX12_throwsVotes 16 = .ok (.iconst 0, 1) := by decide +kernel
theorem dX12_throwsVotes_17 : decode cX12_throwsVotes 17 = .ok (.iastore, 1) := by decide +kernel
theorem dX12_throwsVotes_18 : decode cX12_throwsVotes 18 = .ok (.aload_n 0, 1) := by decide +kernel
theorem dX12_throwsVotes_19 : decode cX12_throwsVotes 19 = .ok (.iconst 0, 1) := by decide +kernel
theorem dX12_throwsVotes_20 : decode cX12_throwsVotes 20 = .ok (.invokevirtual 434, 3) := by decide +kernel
theorem dX12_throwsVotes_23 : decode cX12_throwsVotes 23 = .ok (.iload_n 2, 1) := by decide +kernel
theorem dX12_throwsVotes_24 : decode cX12_throwsVotes 24 = .ok (.ifCond .lt 165, 3) := by decide +kernel
theorem dX12_throwsVotes_27 : decode cX12_throwsVotes 27 = .ok (.aload_n 0, 1) := by decide +kernel
theorem dX12_throwsVotes_28 : decode cX12_throwsVotes 28 = .ok (.getfield 66, 3) := by decide +kernel
theorem dX12_throwsVotes_31 : decode cX12_throwsVotes 31 = .ok (.iload_n 2, 1) := by decide +kernel
theorem dX12_throwsVotes_32 : decode cX12_throwsVotes 32 = .ok (.dup2, 1) := by decide +kernel
theorem dX12_throwsVotes_33 : decode cX12_throwsVotes 33 = .ok (.iaload, 1) := by decide +kernel
theorem dX12_throwsVotes_34 : decode cX12_throwsVotes 34 = .ok (.iconst 1, 1) := by decide +kernel
theorem dX12_throwsVotes_35 : decode cX12_throwsVotes 35 = .ok (.iadd, 1) := by decide +kernel
theorem dX12_throwsVotes_36 : decode cX12_throwsVotes 36 = .ok (.iastore, 1) := by decide +kernel
theorem dX12_throwsVotes_37 : decode cX12_throwsVotes 37 = .ok (.aload_n 0, 1) := by decide +kernel
theorem dX12_throwsVotes_38 : decode cX12_throwsVotes 38 = .ok (.getfield 66, 3) := by decide +kernel
theorem dX12_throwsVotes_41 : decode cX12_throwsVotes 41 = .ok (.iload_n 2, 1) := by decide +kernel
theorem dX12_throwsVotes_42 : decode cX12_throwsVotes 42 = .ok (.iaload, 1) := by decide +kernel
theorem dX12_throwsVotes_43 : decode cX12_throwsVotes 43 = .ok (.aload_n 0, 1) := by decide +kernel
theorem dX12_throwsVotes_44 : decode cX12_throwsVotes 44 = .ok (.iload_n 1, 1) := by decide +kernel
theorem dX12_throwsVotes_45 : decode cX12_throwsVotes 45 = .ok (.invokevirtual 437, 3) := by decide +kernel
theorem dX12_throwsVotes_48 : decode cX12_throwsVotes 48 = .ok (.if_icmp .ne 9, 3) := by decide +kernel
theorem dX12_throwsVotes_51 : decode cX12_throwsVotes 51 = .ok (.iinc 2 (-1), 3) := by decide +kernel
theorem dX12_throwsVotes_54 : decode cX12_throwsVotes 54 = .ok (.goto (-31), 3) := by decide +kernel
theorem dX12_throwsVotes_57 : decode cX12_throwsVotes 57 = .ok (.aload_n 0, 1) := by decide +kernel
theorem dX12_throwsVotes_58 : decode cX12_throwsVotes 58 = .ok (.iload_n 2, 1) := by decide +kernel
theorem dX12_throwsVotes_59 : decode cX12_throwsVotes 59 = .ok (.invokevirtual 440, 3) := by decide +kernel
theorem dX12_throwsVotes_62 : decode cX12_throwsVotes 62 = .ok (.aload_n 0, 1) := by decide +kernel
theorem dX12_throwsVotes_63 : decode cX12_throwsVotes 63 = .ok (.getfield 69, 3) := by decide +kernel
theorem dX12_throwsVotes_66 : decode cX12_throwsVotes 66 = .ok (.iload_n 2, 1) := by decide +kernel
theorem dX12_throwsVotes_67 : decode cX12_throwsVotes 67 = .ok (.iaload, 1) := by decide +kernel
theorem dX12_throwsVotes_68 : decode cX12_throwsVotes 68 = .ok (.aload_n 0, 1) := by decide +kernel
theorem dX12_throwsVotes_69 : decode cX12_throwsVotes 69 = .ok (.iload_n 1, 1) := by decide +kernel
theorem dX12_throwsVotes_70 : decode cX12_throwsVotes 70 = .ok (.aload_n 0, 1) := by decide +kernel
theorem dX12_throwsVotes_71 : decode cX12_throwsVotes 71 = .ok (.getfield 66, 3) := by decide +kernel
theorem dX12_throwsVotes_74 : decode cX12_throwsVotes 74 = .ok (.iload_n 2, 1) := by decide +kernel
theorem dX12_throwsVotes_75 : decode cX12_throwsVotes 75 = .ok (.iaload, 1) := by decide +kernel
theorem dX12_throwsVotes_76 : decode cX12_throwsVotes 76 = .ok (.aload_n 0, 1) := by decide +kernel
theorem dX12_throwsVotes_77 : decode cX12_throwsVotes 77 = .ok (.getfield 54, 3) := by decide +kernel
theorem dX12_throwsVotes_80 : decode cX12_throwsVotes 80 = .ok (.iload_n 2, 1) := by decide +kernel
theorem dX12_throwsVotes_81 : decode cX12_throwsVotes 81 = .ok (.iaload, 1) := by decide +kernel
theorem dX12_throwsVotes_82 : decode cX12_throwsVotes 82 = .ok (.invokevirtual 443, 3) := by decide +kernel
theorem dX12_throwsVotes_85 : decode cX12_throwsVotes 85 = .ok (.iadd, 1) := by decide +kernel
theorem dX12_throwsVotes_86 : decode cX12_throwsVotes 86 = .ok (.istore_n 3, 1) := by decide +kernel
theorem dX12_throwsVotes_87 : decode cX12_throwsVotes 87 = .ok (.aload_n 0, 1) := by decide +kernel
theorem dX12_throwsVotes_88 : decode cX12_throwsVotes 88 = .ok (.getfield 431, 3) := by decide +kernel
theorem dX12_throwsVotes_91 : decode cX12_throwsVotes 91 = .ok (.ifCond .lt 14, 3) := by decide +kernel
theorem dX12_throwsVotes_94 : decode cX12_throwsVotes 94 = .ok (.iload_n 3, 1) := by decide +kernel
theorem dX12_throwsVotes_95 : decode cX12_throwsVotes 95 = .ok (.aload_n 0, 1) := by decide +kernel
theorem dX12_throwsVotes_96 : decode cX12_throwsVotes 96 = .ok (.getfield 431, 3) := by decide +kernel
theorem dX12_throwsVotes_99 : decode cX12_throwsVotes 99 = .ok (.if_icmp .lt 6, 3) := by decide +kernel
theorem dX12_throwsVotes_102 : decode cX12_throwsVotes 102 = .ok (.goto (-79), 3) := by decide +kernel
theorem dX12_throwsVotes_105 : decode cX12_throwsVotes 105 = .ok (.iload_n 2, 1) := by decide +kernel
theorem dX12_throwsVotes_106 : decode cX12_throwsVotes 106 = .ok (.aload_n 0, 1) := by decide +kernel
theorem dX12_throwsVotes_107 : decode cX12_throwsVotes 107 = .ok (.getfield 351, 3) := by decide +kernel
theorem dX12_throwsVotes_110 : decode cX12_throwsVotes 110 = .ok (.iconst 1, 1) := by decide +kernel
theorem dX12_throwsVotes_111 : decode cX12_throwsVotes 111 = .ok (.isub, 1) := by decide +kernel
theorem dX12_throwsVotes_112 : decode cX12_throwsVotes 112 = .ok (.if_icmp .ne 54, 3) := by decide +kernel
theorem dX12_throwsVotes_115 : decode cX12_throwsVotes 115 = .ok (.aload_n 0, 1) := by decide +kernel
theorem dX12_throwsVotes_116 : decode cX12_throwsVotes 116 = .ok (.invokevirtual 383, 3) := by decide +kernel
theorem dX12_throwsVotes_119 : decode cX12_throwsVotes 119 = .ok (.iconst 1, 1) := by decide +kernel
theorem dX12_throwsVotes_120 : decode cX12_throwsVotes 120 = .ok (.if_icmp .eq 6, 3) := by decide +kernel
theorem dX12_throwsVotes_123 : decode cX12_throwsVotes 123 = .ok (.goto (-100), 3) := by decide +kernel
theorem dX12_throwsVotes_126 : decode cX12_throwsVotes 126 = .ok (.aload_n 0, 1) := by decide +kernel
theorem dX12_throwsVotes_127 : decode cX12_throwsVotes 127 = .ok (.iload_n 3, 1) := by decide +kernel
theorem dX12_throwsVotes_128 : decode cX12_throwsVotes 128 = .ok (.putfield 431, 3) := by decide +kernel
theorem dX12_throwsVotes_131 : decode cX12_throwsVotes 131 = .ok (.iconst 0, 1) := by decide +kernel
theorem dX12_throwsVotes_132 : decode cX12_throwsVotes 132 = .ok (.istore 4, 2) := by decide +kernel
theorem dX12_throwsVotes_134 : decode cX12_throwsVotes 134 = .ok (.iload 4, 2) := by decide +kernel
theorem dX12_throwsVotes_136 : decode cX12_throwsVotes 136 = .ok (.aload_n 0, 1) := by decide +kernel
theorem dX12_throwsVotes_137 : decode cX12_throwsVotes 137 = .ok (.getfield 351, 3) := by decide +kernel
theorem dX12_throwsVotes_140 : decode cX12_throwsVotes 140 = .ok (.if_icmp .ge 23, 3) := by decide +kernel
theorem dX12_throwsVotes_143 : decode cX12_throwsVotes 143 = .ok (.aload_n 0, 1) := by decide +kernel
theorem dX12_throwsVotes_144 : decode cX12_throwsVotes 144 = .ok (.getfield 78, 3) := by decide +kernel
theorem dX12_throwsVotes_147 : decode cX12_throwsVotes 147 = .ok (.iload 4, 2) := by decide +kernel
theorem dX12_throwsVotes_149 : decode cX12_throwsVotes 149 = .ok (.aload_n 0, 1) := by decide +kernel
theorem dX12_throwsVotes_150 : decode cX12_throwsVotes 150 = .ok (.getfield 66, 3) := by decide +kernel
theorem dX12_throwsVotes_153 : decode cX12_throwsVotes 153 = .ok (.iload 4, 2) := by decide +kernel
theorem dX12_throwsVotes_155 : decode cX12_throwsVotes 155 = .ok (.iaload, 1) := by decide +kernel
theorem dX12_throwsVotes_156 : decode cX12_throwsVotes 156 = .ok (.iastore, 1) := by decide +kernel
theorem dX12_throwsVotes_157 : decode cX12_throwsVotes 157 = .ok (.iinc 4 1, 3) := by decide +kernel
theorem dX12_throwsVotes_160 : decode cX12_throwsVotes 160 = .ok (.goto (-26), 3) := by decide +kernel
theorem dX12_throwsVotes_163 : decode cX12_throwsVotes 163 = .ok (.goto (-140), 3) := by decide +kernel
theorem dX12_throwsVotes_166 : decode cX12_throwsVotes 166 = .ok (.aload_n 0, 1) := by decide +kernel
theorem dX12_throwsVotes_167 : decode cX12_throwsVotes 167 = .ok (.invokevirtual 399, 3) := by decide +kernel
theorem dX12_throwsVotes_170 : decode cX12_throwsVotes 170 = .ok (.pop, 1) := by decide +kernel
theorem dX12_throwsVotes_171 : decode cX12_throwsVotes 171 = .ok (.iinc 2 1, 3) := by decide +kernel
theorem dX12_throwsVotes_174 : decode cX12_throwsVotes 174 = .ok (.aload_n 0, 1) := by decide +kernel
theorem dX12_throwsVotes_175 : decode cX12_throwsVotes 175 = .ok (.getfield 69, 3) := by decide +kernel
theorem dX12_throwsVotes_178 : decode cX12_throwsVotes 178 = .ok (.iload_n 2, 1) := by decide +kernel
theorem dX12_throwsVotes_179 : decode cX12_throwsVotes 179 = .ok (.iload_n 3, 1) := by decide +kernel
theorem dX12_throwsVotes_180 : decode cX12_throwsVotes 180 = .ok (.iastore, 1) := by decide +kernel
theorem dX12_throwsVotes_181 : decode cX12_throwsVotes 181 = .ok (.aload_n 0, 1) := by decide +kernel
theorem dX12_throwsVotes_182 : decode cX12_throwsVotes 182 = .ok (.iload_n 2, 1) := by decide +kernel
theorem dX12_throwsVotes_183 : decode cX12_throwsVotes 183 = .ok (.invokevirtual 434, 3) := by decide +kernel
theorem dX12_throwsVotes_186 : decode cX12_throwsVotes 186 = .ok (.goto (-163), 3) := by decide +kernel
theorem dX12_throwsVotes_189 : decode cX12_throwsVotes 189 = .ok (.return_, 1) := by decide +kernel
theorem dX12_truly_0 : decode cX12_truly 0 = .ok (.iload_n 0, 1) := by decide +kernel
theorem dX12_truly_1 : decode cX12_truly 1 = .ok (.ifCond .le 7, 3) := by decide +kernel
theorem dX12_truly_4 : decode cX12_truly 4 = .ok (.iconst 1, 1) := by decide +kernel
theorem dX12_truly_5 : decode cX12_truly 5 = .ok (.goto 12, 3) := by decide +kernel
theorem dX12_truly_8 : decode cX12_truly 8 = .ok (.iload_n 0, 1) := by decide +kernel
theorem dX12_truly_9 : decode cX12_truly 9 = .ok (.ifCond .ge 7, 3) := by decide +kernel
theorem dX12_truly_12 : decode cX12_truly 12 = .ok (.iconst 0, 1) := by decide +kernel
theorem dX12_truly_13 : decode cX12_truly 13 = .ok (.goto 4, 3) := by decide +kernel
theorem dX12_truly_16 : decode cX12_truly 16 = .ok (.iconst 2, 1) := by decide +kernel
theorem dX12_truly_17 : decode cX12_truly 17 = .ok (.ireturn, 1) := by decide +kernel
theorem dX12_value_0 : decode cX12_value 0 = .ok (.aload_n 0, 1) := by decide +kernel
theorem dX12_value_1 : decode cX12_value 1 = .ok (.invokevirtual 130, 3) := by decide +kernel
theorem dX12_value_4 : decode cX12_value 4 = .ok (.pop, 1) := by decide +kernel
theorem dX12_value_5 : decode cX12_value 5 = .ok (.aload_n 0, 1) := by decide +kernel
theorem dX12_value_6 : decode cX12_value 6 = .ok (.getfield 127, 3) := by decide +kernel
theorem dX12_value_9 : decode cX12_value 9 = .ok (.istore_n 1, 1) := by decide +kernel
theorem dX12_value_10 : decode cX12_value 10 = .ok (.aload_n 0, 1) := by decide +kernel
theorem dX12_value_11 : decode cX12_value 11 = .ok (.aload_n 0, 1) := by decide +kernel
theorem dX12_value_12 : decode cX12_value 12 = .ok (.getfield 127, 3) := by decide +kernel
theorem dX12_value_15 : decode cX12_value 15 = .ok (.invokevirtual 145, 3) := by decide +kernel
theorem dX12_value_18 : decode cX12_value 18 = .ok (.ifCond .eq 34, 3) := by decide +kernel
theorem dX12_value_21 : decode cX12_value 21 = .ok (.aload_n 0, 1) := by decide +kernel
theorem dX12_value_22 : decode cX12_value 22 = .ok (.iconst 0, 1) := by decide +kernel
theorem dX12_value_23 : decode cX12_value 23 = .ok (.ldc 199, 2) := by decide +kernel
theorem dX12_value_25 : decode cX12_value 25 = .ok (.invokevirtual 200, 3) := by decide +kernel
theorem dX12_value_28 : decode cX12_value 28 = .ok (.ifCond .eq 11, 3) := by decide +kernel
theorem dX12_value_31 : decode cX12_value 31 = .ok (.aload_n 0, 1) := by decide +kernel
theorem dX12_value_32 : decode cX12_value 32 = .ok (.iload_n 1, 1) := by decide +kernel
theorem dX12_value_33 : decode cX12_value 33 = .ok (.invokevirtual 203, 3) := by decide +kernel
theorem dX12_value_36 : decode cX12_value 36 = .ok (.ifCond .ne 5, 3) := by decide +kernel
theorem dX12_value_39 : decode cX12_value 39 = .ok (.iconst 0, 1) := by decide +kernel
theorem dX12_value_40 : decode cX12_value 40 = .ok (.ireturn, 1) := by decide +kernel
theorem dX12_value_41 : decode cX12_value 41 = .ok (.aload_n 0, 1) := by decide +kernel
theorem dX12_value_42 : decode cX12_value 42 = .ok (.iconst 0, 1) := by decide +kernel
theorem dX12_value_43 : decode cX12_value 43 = .ok (.aload_n 0, 1) := by decide +kernel
theorem dX12_value_44 : decode cX12_value 44 = .ok (.getfield 152, 3) := by decide +kernel
theorem dX12_value_47 : decode cX12_value 47 = .ok (.invokevirtual 195, 3) := by decide +kernel
theorem dX12_value_50 : decode cX12_value 50 = .ok (.iconst 1, 1) := by decide +kernel
theorem dX12_value_51 : decode cX12_value 51 = .ok (.ireturn, 1) := by decide +kernel
theorem dX12_value_52 : decode cX12_value 52 = .ok (.aload_n 0, 1) := by decide +kernel
theorem dX12_value_53 : decode cX12_value 53 = .ok (.invokevirtual 206, 3) := by decide +kernel
theorem dX12_value_56 : decode cX12_value 56 = .ok (.istore_n 2, 1) := by decide +kernel
theorem dX12_value_57 : decode cX12_value 57 = .ok (.iload_n 2, 1) := by decide +kernel
theorem dX12_value_58 : decode cX12_value 58 = .ok (.ifCond .ge 10, 3) := by decide +kernel
theorem dX12_value_61 : decode cX12_value 61 = .ok (.aload_n 0, 1) := by decide +kernel
theorem dX12_value_62 : decode cX12_value 62 = .ok (.iconst 0, 1) := by decide +kernel
theorem dX12_value_63 : decode cX12_value 63 = .ok (.iload_n 1, 1) := by decide +kernel
theorem dX12_value_64 : decode cX12_value 64 = .ok (.invokevirtual 148, 3) := by decide +kernel
theorem dX12_value_67 : decode cX12_value 67 = .ok (.ireturn, 1) := by decide +kernel
theorem dX12_value_68 : decode cX12_value 68 = .ok (.aload_n 0, 1) := by decide +kernel
theorem dX12_value_69 : decode cX12_value 69 = .ok (.iload_n 1, 1) := by decide +kernel
theorem dX12_value_70 : decode cX12_value 70 = .ok (.invokevirtual 203, 3) := by decide +kernel
theorem dX12_value_73 : decode cX12_value 73 = .ok (.ifCond .ne 5, 3) := by decide +kernel
theorem dX12_value_76 : decode cX12_value 76 = .ok (.iconst 0, 1) := by decide +kernel
theorem dX12_value_77 : decode cX12_value 77 = .ok (.ireturn, 1) := by decide +kernel
theorem dX12_value_78 : decode cX12_value 78 = .ok (.aload_n 0, 1) := by decide +kernel
theorem dX12_value_79 : decode cX12_value 79 = .ok (.invokevirtual 142, 3) := by decide +kernel
theorem dX12_value_82 : decode cX12_value 82 = .ok (.aload_n 0, 1) := by decide +kernel
theorem dX12_value_83 : decode cX12_value 83 = .ok (.iconst 1, 1) := by decide +kernel
theorem dX12_value_84 : decode cX12_value 84 = .ok (.iload_n 2, 1) := by decide +kernel
theorem dX12_value_85 : decode cX12_value 85 = .ok (.invokevirtual 195, 3) := by decide +kernel
theorem dX12_value_88 : decode cX12_value 88 = .ok (.iconst 1, 1) := by decide +kernel
theorem dX12_value_89 : decode cX12_value 89 = .ok (.ireturn, 1) := by decide +kernel
theorem dX12_voice_0 : decode cX12_voice 0 = .ok (.aload_n 0, 1) := by decide +kernel
theorem dX12_voice_1 : decode cX12_voice 1 = .ok (.iload_n 1, 1) := by decide +kernel
theorem dX12_voice_2 : decode cX12_voice 2 = .ok (.invokevirtual 319, 3) := by decide +kernel
theorem dX12_voice_5 : decode cX12_voice 5 = .ok (.ifCond .eq 15, 3) := by decide +kernel
theorem dX12_voice_8 : decode cX12_voice 8 = .ok (.iload_n 2, 1) := by decide +kernel
theorem dX12_voice_9 : decode cX12_voice 9 = .ok (.i2l, 1) := by decide +kernel
theorem dX12_voice_10 : decode cX12_voice 10 = .ok (.lconst 0, 1) := by decide +kernel
theorem dX12_voice_11 : decode cX12_voice 11 = .ok (.ldc2_w 325, 3) := by decide +kernel
theorem dX12_voice_14 : decode cX12_voice 14 = .ok (.invokestatic 155, 3) := by decide +kernel
theorem dX12_voice_17 : decode cX12_voice 17 = .ok (.ifCond .ne 5, 3) := by decide +kernel
theorem dX12_voice_20 : decode cX12_voice 20 = .ok (.iconst (-1), 1) := by decide +kernel
theorem dX12_voice_21 : decode cX12_voice 21 = .ok (.ireturn, 1) := by decide +kernel
theorem dX12_voice_22 : decode cX12_voice 22 = .ok (.iload_n 2, 1) := by decide +kernel
theorem dX12_voice_23 : decode cX12_voice 23 = .ok (.iconst 2, 1) := by decide +kernel
theorem dX12_voice_24 : decode cX12_voice 24 = .ok (.if_icmp .ne 22, 3) := by decide +kernel
theorem dX12_voice_27 : decode cX12_voice 27 = .ok (.aload_n 0, 1) := by decide +kernel
theorem dX12_voice_28 : decode cX12_voice 28 = .ok (.getfield 45, 3) := by decide +kernel
theorem dX12_voice_31 : decode cX12_voice 31 = .ok (.iconst 2, 1) := by decide +kernel
theorem dX12_voice_32 : decode cX12_voice 32 = .ok (.iaload, 1) := by decide +kernel
theorem dX12_voice_33 : decode cX12_voice 33 = .ok (.iload_n 1, 1) := by decide +kernel
theorem dX12_voice_34 : decode cX12_voice 34 = .ok (.invokestatic 322, 3) := by decide +kernel
theorem dX12_voice_37 : decode cX12_voice 37 = .ok (.ifCond .eq 7, 3) := by decide +kernel
theorem dX12_voice_40 : decode cX12_voice 40 = .ok (.iconst 1, 1) := by decide +kernel
theorem dX12_voice_41 : decode cX12_voice 41 = .ok (.goto 4, 3) := by decide +kernel
theorem dX12_voice_44 : decode cX12_voice 44 = .ok (.iconst 0, 1) := by decide +kernel
theorem dX12_voice_45 : decode cX12_voice 45 = .ok (.ireturn, 1) := by decide +kernel
theorem dX12_voice_46 : decode cX12_voice 46 = .ok (.aload_n 0, 1) := by decide +kernel
theorem dX12_voice_47 : decode cX12_voice 47 = .ok (.getfield 45, 3) := by decide +kernel
theorem dX12_voice_50 : decode cX12_voice 50 = .ok (.iload_n 2, 1) := by decide +kernel
theorem dX12_voice_51 : decode cX12_voice 51 = .ok (.ifCond .ne 8, 3) := by decide +kernel
theorem dX12_voice_54 : decode cX12_voice 54 = .ok (.bipush 10, 2) := by decide +kernel
theorem dX12_voice_56 : decode cX12_voice 56 = .ok (.goto 25, 3) := by decide +kernel
theorem dX12_voice_59 : decode cX12_voice 59 = .ok (.iload_n 2, 1) := by decide +kernel
theorem dX12_voice_60 : decode cX12_voice 60 = .ok (.iconst 1, 1) := by decide +kernel
theorem dX12_voice_61 : decode cX12_voice 61 = .ok (.if_icmp .ne 8, 3) := by decide +kernel
theorem dX12_voice_64 : decode cX12_voice 64 = .ok (.bipush 20, 2) := by decide +kernel
theorem dX12_voice_66 : decode cX12_voice 66 = .ok (.goto 15, 3) := by decide +kernel
theorem dX12_voice_69 : decode cX12_voice 69 = .ok (.iload_n 2, 1) := by decide +kernel
theorem dX12_voice_70 : decode cX12_voice 70 = .ok (.iconst 3, 1) := by decide +kernel
theorem dX12_voice_71 : decode cX12_voice 71 = .ok (.if_icmp .ne 8, 3) := by decide +kernel
theorem dX12_voice_74 : decode cX12_voice 74 = .ok (.bipush 30, 2) := by decide +kernel
theorem dX12_voice_76 : decode cX12_voice 76 = .ok (.goto 5, 3) := by decide +kernel
theorem dX12_voice_79 : decode cX12_voice 79 = .ok (.bipush 40, 2) := by decide +kernel
theorem dX12_voice_81 : decode cX12_voice 81 = .ok (.iload_n 1, 1) := by decide +kernel
theorem dX12_voice_82 : decode cX12_voice 82 = .ok (.iadd, 1) := by decide +kernel
theorem dX12_voice_83 : decode cX12_voice 83 = .ok (.iaload, 1) := by decide +kernel
theorem dX12_voice_84 : decode cX12_voice 84 = .ok (.ireturn, 1) := by decide +kernel
theorem dX12_voicesOf_0 : decode cX12_voicesOf 0 = .ok (.iconst 0, 1) := by decide +kernel
theorem dX12_voicesOf_1 : decode cX12_voicesOf 1 = .ok (.istore_n 2, 1) := by decide +kernel
theorem dX12_voicesOf_2 : decode cX12_voicesOf 2 = .ok (.iconst 0, 1) := by decide +kernel
theorem dX12_voicesOf_3 : decode cX12_voicesOf 3 = .ok (.istore_n 3, 1) := by decide +kernel
theorem dX12_voicesOf_4 : decode cX12_voicesOf 4 = .ok (.iload_n 3, 1) := by decide +kernel
theorem dX12_voicesOf_5 : decode cX12_voicesOf 5 = .ok (.aload_n 0, 1) := by decide +kernel
theorem dX12_voicesOf_6 : decode cX12_voicesOf 6 = .ok (.getfield 45, 3) := by decide +kernel
theorem dX12_voicesOf_9 : decode cX12_voicesOf 9 = .ok (.iconst 0, 1) := by decide +kernel
theorem dX12_voicesOf_10 : decode cX12_voicesOf 10 = .ok (.iaload, 1) := by decide +kernel
theorem dX12_voicesOf_11 : decode cX12_voicesOf 11 = .ok (.if_icmp .ge 30, 3) := by decide +kernel
theorem dX12_voicesOf_14 : decode cX12_voicesOf 14 = .ok (.iload_n 2, 1) := by decide +kernel
theorem dX12_voicesOf_15 : decode cX12_voicesOf 15 = .ok (.iload_n 1, 1) := by decide +kernel
theorem dX12_voicesOf_16 : decode cX12_voicesOf 16 = .ok (.iload_n 3, 1) := by decide +kernel
theorem dX12_voicesOf_17 : decode cX12_voicesOf 17 = .ok (.invokestatic 322, 3) := by decide +kernel
theorem dX12_voicesOf_20 : decode cX12_voicesOf 20 = .ok (.ifCond .eq 12, 3) := by decide +kernel
theorem dX12_voicesOf_23 : decode cX12_voicesOf 23 = .ok (.aload_n 0, 1) := by decide +kernel
theorem dX12_voicesOf_24 : decode cX12_voicesOf 24 = .ok (.getfield 51, 3) := by decide +kernel
theorem dX12_voicesOf_27 : decode cX12_voicesOf 27 = .ok (.iload_n 3, 1) := by decide +kernel
theorem dX12_voicesOf_28 : decode cX12_voicesOf 28 = .ok (.iaload, 1) := by decide +kernel
theorem dX12_voicesOf_29 : decode cX12_voicesOf 29 = .ok (.goto 4, 3) := by decide +kernel
theorem dX12_voicesOf_32 : decode cX12_voicesOf 32 = .ok (.iconst 0, 1) := by decide +kernel
theorem dX12_voicesOf_33 : decode cX12_voicesOf 33 = .ok (.iadd, 1) := by decide +kernel
theorem dX12_voicesOf_34 : decode cX12_voicesOf 34 = .ok (.istore_n 2, 1) := by decide +kernel
theorem dX12_voicesOf_35 : decode cX12_voicesOf 35 = .ok (.iinc 3 1, 3) := by decide +kernel
theorem dX12_voicesOf_38 : decode cX12_voicesOf 38 = .ok (.goto (-34), 3) := by decide +kernel
theorem dX12_voicesOf_41 : decode cX12_voicesOf 41 = .ok (.iload_n 2, 1) := by decide +kernel
theorem dX12_voicesOf_42 : decode cX12_voicesOf 42 = .ok (.ireturn, 1) := by decide +kernel
theorem dX12_vote_0 : decode cX12_vote 0 = .ok (.aload_n 0, 1) := by decide +kernel
theorem dX12_vote_1 : decode cX12_vote 1 = .ok (.iload_n 1, 1) := by decide +kernel
theorem dX12_vote_2 : decode cX12_vote 2 = .ok (.invokevirtual 327, 3) := by decide +kernel
theorem dX12_vote_5 : decode cX12_vote 5 = .ok (.ifCond .ne 9, 3) := by decide +kernel
theorem dX12_vote_8 : decode cX12_vote 8 = .ok (.aload_n 0, 1) := by decide +kernel
theorem dX12_vote_9 : decode cX12_vote 9 = .ok (.iconst 0, 1) := by decide +kernel
theorem dX12_vote_10 : decode cX12_vote 10 = .ok (.invokevirtual 338, 3) := by decide +kernel
theorem dX12_vote_13 : decode cX12_vote 13 = .ok (.ireturn, 1) := by decide +kernel
theorem dX12_vote_14 : decode cX12_vote 14 = .ok (.aload_n 0, 1) := by decide +kernel
theorem dX12_vote_15 : decode cX12_vote 15 = .ok (.invokevirtual 393, 3) := by decide +kernel
theorem dX12_vote_18 : decode cX12_vote 18 = .ok (.aload_n 0, 1) := by decide +kernel
theorem dX12_vote_19 : decode cX12_vote 19 = .ok (.iload_n 1, 1) := by decide +kernel
theorem dX12_vote_20 : decode cX12_vote 20 = .ok (.iconst (-1), 1) := by decide +kernel
theorem dX12_vote_21 : decode cX12_vote 21 = .ok (.invokevirtual 396, 3) := by decide +kernel
theorem dX12_vote_24 : decode cX12_vote 24 = .ok (.aload_n 0, 1) := by decide +kernel
theorem dX12_vote_25 : decode cX12_vote 25 = .ok (.invokevirtual 399, 3) := by decide +kernel
theorem dX12_vote_28 : decode cX12_vote 28 = .ok (.istore_n 2, 1) := by decide +kernel
theorem dX12_vote_29 : decode cX12_vote 29 = .ok (.aload_n 0, 1) := by decide +kernel
theorem dX12_vote_30 : decode cX12_vote 30 = .ok (.invokevirtual 401, 3) := by decide +kernel
theorem dX12_vote_33 : decode cX12_vote 33 = .ok (.iload_n 2, 1) := by decide +kernel
theorem dX12_vote_34 : decode cX12_vote 34 = .ok (.ireturn, 1) := by decide +kernel
theorem dX12_waysOf_0 : decode cX12_waysOf 0 = .ok (.iconst 1, 1) := by decide +kernel
theorem dX12_waysOf_1 : decode cX12_waysOf 1 = .ok (.istore_n 2, 1) := by decide +kernel
theorem dX12_waysOf_2 : decode cX12_waysOf 2 = .ok (.iconst 0, 1) := by decide +kernel
theorem dX12_waysOf_3 : decode cX12_waysOf 3 = .ok (.istore_n 3, 1) := by decide +kernel
theorem dX12_waysOf_4 : decode cX12_waysOf 4 = .ok (.iload_n 3, 1) := by decide +kernel
theorem dX12_waysOf_5 : decode cX12_waysOf 5 = .ok (.aload_n 0, 1) := by decide +kernel
theorem dX12_waysOf_6 : decode cX12_waysOf 6 = .ok (.getfield 45, 3) := by decide +kernel
theorem dX12_waysOf_9 : decode cX12_waysOf 9 = .ok (.iconst 0, 1) := by decide +kernel
theorem dX12_waysOf_10 : decode cX12_waysOf 10 = .ok (.iaload, 1) := by decide +kernel
theorem dX12_waysOf_11 : decode cX12_waysOf 11 = .ok (.if_icmp .ge 13, 3) := by decide +kernel
theorem dX12_waysOf_14 : decode cX12_waysOf 14 = .ok (.iload_n 2, 1) := by decide +kernel
theorem dX12_waysOf_15 : decode cX12_waysOf 15 = .ok (.iload_n 1, 1) := by decide +kernel
theorem dX12_waysOf_16 : decode cX12_waysOf 16 = .ok (.imul, 1) := by decide +kernel
theorem dX12_waysOf_17 : decode cX12_waysOf 17 = .ok (.istore_n 2, 1) := by decide +kernel
theorem dX12_waysOf_18 : decode cX12_waysOf 18 = .ok (.iinc 3 1, 3) := by decide +kernel
theorem dX12_waysOf_21 : decode cX12_waysOf 21 = .ok (.goto (-17), 3) := by decide +kernel
theorem dX12_waysOf_24 : decode cX12_waysOf 24 = .ok (.iload_n 2, 1) := by decide +kernel
theorem dX12_waysOf_25 : decode cX12_waysOf 25 = .ok (.ireturn, 1) := by decide +kernel
theorem dX12_wordHere_0 : decode cX12_wordHere 0 = .ok (.aload_n 0, 1) := by decide +kernel
theorem dX12_wordHere_1 : decode cX12_wordHere 1 = .ok (.ldc2_w 159, 3) := by decide +kernel
theorem dX12_wordHere_4 : decode cX12_wordHere 4 = .ok (.invokevirtual 138, 3) := by decide +kernel
theorem dX12_wordHere_7 : decode cX12_wordHere 7 = .ok (.ifCond .eq 5, 3) := by decide +kernel
theorem dX12_wordHere_10 : decode cX12_wordHere 10 = .ok (.iconst 0, 1) := by decide +kernel
theorem dX12_wordHere_11 : decode cX12_wordHere 11 = .ok (.ireturn, 1) := by decide +kernel
theorem dX12_wordHere_12 : decode cX12_wordHere 12 = .ok (.aload_n 0, 1) := by decide +kernel
theorem dX12_wordHere_13 : decode cX12_wordHere 13 = .ok (.ldc2_w 161, 3) := by decide +kernel
theorem dX12_wordHere_16 : decode cX12_wordHere 16 = .ok (.invokevirtual 138, 3) := by decide +kernel
theorem dX12_wordHere_19 : decode cX12_wordHere 19 = .ok (.ifCond .eq 5, 3) := by decide +kernel
theorem dX12_wordHere_22 : decode cX12_wordHere 22 = .ok (.iconst 1, 1) := by decide +kernel
theorem dX12_wordHere_23 : decode cX12_wordHere 23 = .ok (.ireturn, 1) := by decide +kernel
theorem dX12_wordHere_24 : decode cX12_wordHere 24 = .ok (.aload_n 0, 1) := by decide +kernel
theorem dX12_wordHere_25 : decode cX12_wordHere 25 = .ok (.ldc2_w 163, 3) := by decide +kernel
theorem dX12_wordHere_28 : decode cX12_wordHere 28 = .ok (.invokevirtual 138, 3) := by decide +kernel
theorem dX12_wordHere_31 : decode cX12_wordHere 31 = .ok (.ifCond .eq 5, 3) := by decide +kernel
theorem dX12_wordHere_34 : decode cX12_wordHere 34 = .ok (.iconst 2, 1) := by decide +kernel
theorem dX12_wordHere_35 : decode cX12_wordHere 35 = .ok (.ireturn, 1) := by decide +kernel
theorem dX12_wordHere_36 : decode cX12_wordHere 36 = .ok (.aload_n 0, 1) := by decide +kernel
theorem dX12_wordHere_37 : decode cX12_wordHere 37 = .ok (.ldc2_w 165, 3) := by decide +kernel
theorem dX12_wordHere_40 : decode cX12_wordHere 40 = .ok (.invokevirtual 138, 3) := by decide +kernel
theorem dX12_wordHere_43 : decode cX12_wordHere 43 = .ok (.ifCond .eq 5, 3) := by decide +kernel
theorem dX12_wordHere_46 : decode cX12_wordHere 46 = .ok (.iconst 3, 1) := by decide +kernel
theorem dX12_wordHere_47 : decode cX12_wordHere 47 = .ok (.ireturn, 1) := by decide +kernel
theorem dX12_wordHere_48 : decode cX12_wordHere 48 = .ok (.aload_n 0, 1) := by decide +kernel
theorem dX12_wordHere_49 : decode cX12_wordHere 49 = .ok (.ldc2_w 167, 3) := by decide +kernel
theorem dX12_wordHere_52 : decode cX12_wordHere 52 = .ok (.invokevirtual 138, 3) := by decide +kernel
theorem dX12_wordHere_55 : decode cX12_wordHere 55 = .ok (.ifCond .eq 5, 3) := by decide +kernel
theorem dX12_wordHere_58 : decode cX12_wordHere 58 = .ok (.iconst 4, 1) := by decide +kernel
theorem dX12_wordHere_59 : decode cX12_wordHere 59 = .ok (.ireturn, 1) := by decide +kernel
theorem dX12_wordHere_60 : decode cX12_wordHere 60 = .ok (.aload_n 0, 1) := by decide +kernel
theorem dX12_wordHere_61 : decode cX12_wordHere 61 = .ok (.ldc2_w 169, 3) := by decide +kernel
theorem dX12_wordHere_64 : decode cX12_wordHere 64 = .ok (.invokevirtual 138, 3) := by decide +kernel
theorem dX12_wordHere_67 : decode cX12_wordHere 67 = .ok (.ifCond .eq 5, 3) := by decide +kernel
theorem dX12_wordHere_70 : decode cX12_wordHere 70 = .ok (.iconst 5, 1) := by decide +kernel
theorem dX12_wordHere_71 : decode cX12_wordHere 71 = .ok (.ireturn, 1) := by decide +kernel
theorem dX12_wordHere_72 : decode cX12_wordHere 72 = .ok (.aload_n 0, 1) := by decide +kernel
theorem dX12_wordHere_73 : decode cX12_wordHere 73 = .ok (.ldc2_w 171, 3) := by decide +kernel
theorem dX12_wordHere_76 : decode cX12_wordHere 76 = .ok (.invokevirtual 138, 3) := by decide +kernel
theorem dX12_wordHere_79 : decode cX12_wordHere 79 = .ok (.ifCond .eq 6, 3) := by decide +kernel
theorem dX12_wordHere_82 : decode cX12_wordHere 82 = .ok (.bipush 6, 2) := by decide +kernel
theorem dX12_wordHere_84 : decode cX12_wordHere 84 = .ok (.ireturn, 1) := by decide +kernel
theorem dX12_wordHere_85 : decode cX12_wordHere 85 = .ok (.aload_n 0, 1) := by decide +kernel
theorem dX12_wordHere_86 : decode cX12_wordHere 86 = .ok (.ldc2_w 173, 3) := by decide +kernel
theorem dX12_wordHere_89 : decode cX12_wordHere 89 = .ok (.invokevirtual 138, 3) := by decide +kernel
theorem dX12_wordHere_92 : decode cX12_wordHere 92 = .ok (.ifCond .eq 6, 3) := by decide +kernel
theorem dX12_wordHere_95 : decode cX12_wordHere 95 = .ok (.bipush 7, 2) := by decide +kernel
theorem dX12_wordHere_97 : decode cX12_wordHere 97 = .ok (.ireturn, 1) := by decide +kernel
theorem dX12_wordHere_98 : decode cX12_wordHere 98 = .ok (.aload_n 0, 1) := by decide +kernel
theorem dX12_wordHere_99 : decode cX12_wordHere 99 = .ok (.ldc2_w 175, 3) := by decide +kernel
theorem dX12_wordHere_102 : decode cX12_wordHere 102 = .ok (.invokevirtual 138, 3) := by decide +kernel
theorem dX12_wordHere_105 : decode cX12_wordHere 105 = .ok (.ifCond .eq 8, 3) := by decide +kernel
theorem dX12_wordHere_108 : decode cX12_wordHere 108 = .ok (.bipush 8, 2) := by decide +kernel
theorem dX12_wordHere_110 : decode cX12_wordHere 110 = .ok (.goto 19, 3) := by decide +kernel
theorem dX12_wordHere_113 : decode cX12_wordHere 113 = .ok (.aload_n 0, 1) := by decide +kernel
theorem dX12_wordHere_114 : decode cX12_wordHere 114 = .ok (.ldc2_w 177, 3) := by decide +kernel
theorem dX12_wordHere_117 : decode cX12_wordHere 117 = .ok (.invokevirtual 138, 3) := by decide +kernel
theorem dX12_wordHere_120 : decode cX12_wordHere 120 = .ok (.ifCond .eq 8, 3) := by decide +kernel
theorem dX12_wordHere_123 : decode cX12_wordHere 123 = .ok (.bipush 9, 2) := by decide +kernel
theorem dX12_wordHere_125 : decode cX12_wordHere 125 = .ok (.goto 4, 3) := by decide +kernel
theorem dX12_wordHere_128 : decode cX12_wordHere 128 = .ok (.iconst (-1), 1) := by decide +kernel
theorem dX12_wordHere_129 : decode cX12_wordHere 129 = .ok (.ireturn, 1) := by decide +kernel
theorem dX12_wordsForAll_0 : decode cX12_wordsForAll 0 = .ok (.aload_n 0, 1) := by decide +kernel
theorem dX12_wordsForAll_1 : decode cX12_wordsForAll 1 = .ok (.getfield 42, 3) := by decide +kernel
theorem dX12_wordsForAll_4 : decode cX12_wordsForAll 4 = .ok (.iconst 1, 1) := by decide +kernel
theorem dX12_wordsForAll_5 : decode cX12_wordsForAll 5 = .ok (.iload_n 1, 1) := by decide +kernel
theorem dX12_wordsForAll_6 : decode cX12_wordsForAll 6 = .ok (.i2l, 1) := by decide +kernel
theorem dX12_wordsForAll_7 : decode cX12_wordsForAll 7 = .ok (.lastore, 1) := by decide +kernel
theorem dX12_wordsForAll_8 : decode cX12_wordsForAll 8 = .ok (.aload_n 0, 1) := by decide +kernel
theorem dX12_wordsForAll_9 : decode cX12_wordsForAll 9 = .ok (.getfield 42, 3) := by decide +kernel
theorem dX12_wordsForAll_12 : decode cX12_wordsForAll 12 = .ok (.iconst 4, 1) := by decide +kernel
theorem dX12_wordsForAll_13 : decode cX12_wordsForAll 13 = .ok (.lconst 0, 1) := by decide +kernel
theorem dX12_wordsForAll_14 : decode cX12_wordsForAll 14 = .ok (.lastore, 1) := by decide +kernel
theorem dX12_wordsForAll_15 : decode cX12_wordsForAll 15 = .ok (.aload_n 0, 1) := by decide +kernel
theorem dX12_wordsForAll_16 : decode cX12_wordsForAll 16 = .ok (.getfield 42, 3) := by decide +kernel
theorem dX12_wordsForAll_19 : decode cX12_wordsForAll 19 = .ok (.iconst 5, 1) := by decide +kernel
theorem dX12_wordsForAll_20 : decode cX12_wordsForAll 20 = .ok (.lconst 0, 1) := by decide +kernel
theorem dX12_wordsForAll_21 : decode cX12_wordsForAll 21 = .ok (.lastore, 1) := by decide +kernel
theorem dX12_wordsForAll_22 : decode cX12_wordsForAll 22 = .ok (.aload_n 0, 1) := by decide +kernel
theorem dX12_wordsForAll_23 : decode cX12_wordsForAll 23 = .ok (.getfield 42, 3) := by decide +kernel
theorem dX12_wordsForAll_26 : decode cX12_wordsForAll 26 = .ok (.bipush 6, 2) := by decide +kernel
theorem dX12_wordsForAll_28 : decode cX12_wordsForAll 28 = .ok (.lconst 0, 1) := by decide +kernel
theorem dX12_wordsForAll_29 : decode cX12_wordsForAll 29 = .ok (.lastore, 1) := by decide +kernel
theorem dX12_wordsForAll_30 : decode cX12_wordsForAll 30 = .ok (.iconst 0, 1) := by decide +kernel
theorem dX12_wordsForAll_31 : decode cX12_wordsForAll 31 = .ok (.istore_n 3, 1) := by decide +kernel
theorem dX12_wordsForAll_32 : decode cX12_wordsForAll 32 = .ok (.iload_n 3, 1) := by decide +kernel
theorem dX12_wordsForAll_33 : decode cX12_wordsForAll 33 = .ok (.aload_n 0, 1) := by decide +kernel
theorem dX12_wordsForAll_34 : decode cX12_wordsForAll 34 = .ok (.getfield 45, 3) := by decide +kernel
theorem dX12_wordsForAll_37 : decode cX12_wordsForAll 37 = .ok (.iconst 0, 1) := by decide +kernel
theorem dX12_wordsForAll_38 : decode cX12_wordsForAll 38 = .ok (.iaload, 1) := by decide +kernel
theorem dX12_wordsForAll_39 : decode cX12_wordsForAll 39 = .ok (.if_icmp .ge 100, 3) := by decide +kernel
theorem dX12_wordsForAll_42 : decode cX12_wordsForAll 42 = .ok (.aload_n 0, 1) := by decide +kernel
theorem dX12_wordsForAll_43 : decode cX12_wordsForAll 43 = .ok (.getfield 45, 3) := by decide +kernel
theorem dX12_wordsForAll_46 : decode cX12_wordsForAll 46 = .ok (.iconst 2, 1) := by decide +kernel
theorem dX12_wordsForAll_47 : decode cX12_wordsForAll 47 = .ok (.iaload, 1) := by decide +kernel
theorem dX12_wordsForAll_48 : decode cX12_wordsForAll 48 = .ok (.iload_n 3, 1) := by decide +kernel
theorem dX12_wordsForAll_49 : decode cX12_wordsForAll 49 = .ok (.invokestatic 322, 3) := by decide +kernel
theorem dX12_wordsForAll_52 : decode cX12_wordsForAll 52 = .ok (.ifCond .ne 6, 3) := by decide +kernel
theorem dX12_wordsForAll_55 : decode cX12_wordsForAll 55 = .ok (.goto 78, 3) := by decide +kernel
theorem dX12_wordsForAll_58 : decode cX12_wordsForAll 58 = .ok (.aload_n 0, 1) := by decide +kernel
theorem dX12_wordsForAll_59 : decode cX12_wordsForAll 59 = .ok (.getfield 42, 3) := by decide +kernel
theorem dX12_wordsForAll_62 : decode cX12_wordsForAll 62 = .ok (.iconst 4, 1) := by decide +kernel
theorem dX12_wordsForAll_63 : decode cX12_wordsForAll 63 = .ok (.dup2, 1) := by decide +kernel
theorem dX12_wordsForAll_64 : decode cX12_wordsForAll 64 = .ok (.laload, 1) := by decide +kernel
theorem dX12_wordsForAll_65 : decode cX12_wordsForAll 65 = .ok (.aload_n 0, 1) := by decide +kernel
theorem dX12_wordsForAll_66 : decode cX12_wordsForAll 66 = .ok (.getfield 51, 3) := by decide +kernel
theorem dX12_wordsForAll_69 : decode cX12_wordsForAll 69 = .ok (.iload_n 3, 1) := by decide +kernel
theorem dX12_wordsForAll_70 : decode cX12_wordsForAll 70 = .ok (.iaload, 1) := by decide +kernel
theorem dX12_wordsForAll_71 : decode cX12_wordsForAll 71 = .ok (.i2l, 1) := by decide +kernel
theorem dX12_wordsForAll_72 : decode cX12_wordsForAll 72 = .ok (.ladd, 1) := by decide +kernel
theorem dX12_wordsForAll_73 : decode cX12_wordsForAll 73 = .ok (.lastore, 1) := by decide +kernel
theorem dX12_wordsForAll_74 : decode cX12_wordsForAll 74 = .ok (.aload_n 0, 1) := by decide +kernel
theorem dX12_wordsForAll_75 : decode cX12_wordsForAll 75 = .ok (.getfield 42, 3) := by decide +kernel
theorem dX12_wordsForAll_78 : decode cX12_wordsForAll 78 = .ok (.iconst 5, 1) := by decide +kernel
theorem dX12_wordsForAll_79 : decode cX12_wordsForAll 79 = .ok (.dup2, 1) := by decide +kernel
theorem dX12_wordsForAll_80 : decode cX12_wordsForAll 80 = .ok (.laload, 1) := by decide +kernel
theorem dX12_wordsForAll_81 : decode cX12_wordsForAll 81 = .ok (.aload_n 0, 1) := by decide +kernel
theorem dX12_wordsForAll_82 : decode cX12_wordsForAll 82 = .ok (.iload_n 3, 1) := by decide +kernel
theorem dX12_wordsForAll_83 : decode cX12_wordsForAll 83 = .ok (.iload_n 1, 1) := by decide +kernel
theorem dX12_wordsForAll_84 : decode cX12_wordsForAll 84 = .ok (.invokevirtual 330, 3) := by decide +kernel
theorem dX12_wordsForAll_87 : decode cX12_wordsForAll 87 = .ok (.ifCond .le 13, 3) := by decide +kernel
theorem dX12_wordsForAll_90 : decode cX12_wordsForAll 90 = .ok (.aload_n 0, 1) := by decide +kernel
theorem dX12_wordsForAll_91 : decode cX12_wordsForAll 91 = .ok (.getfield 51, 3) := by decide +kernel
theorem dX12_wordsForAll_94 : decode cX12_wordsForAll 94 = .ok (.iload_n 3, 1) := by decide +kernel
theorem dX12_wordsForAll_95 : decode cX12_wordsForAll 95 = .ok (.iaload, 1) := by decide +kernel
theorem dX12_wordsForAll_96 : decode cX12_wordsForAll 96 = .ok (.i2l, 1) := by decide +kernel
theorem dX12_wordsForAll_97 : decode cX12_wordsForAll 97 = .ok (.goto 4, 3) := by decide +kernel
theorem dX12_wordsForAll_100 : decode cX12_wordsForAll 100 = .ok (.lconst 0, 1) := by decide +kernel
theorem dX12_wordsForAll_101 : decode cX12_wordsForAll 101 = .ok (.ladd, 1) := by decide +kernel
theorem dX12_wordsForAll_102 : decode cX12_wordsForAll 102 = .ok (.lastore, 1) := by decide +kernel
theorem dX12_wordsForAll_103 : decode cX12_wordsForAll 103 = .ok (.aload_n 0, 1) := by decide +kernel
theorem dX12_wordsForAll_104 : decode cX12_wordsForAll 104 = .ok (.getfield 42, 3) := by decide +kernel
theorem dX12_wordsForAll_107 : decode cX12_wordsForAll 107 = .ok (.bipush 6, 2) := by decide +kernel
theorem dX12_wordsForAll_109 : decode cX12_wordsForAll 109 = .ok (.dup2, 1) := by decide +kernel
theorem dX12_wordsForAll_110 : decode cX12_wordsForAll 110 = .ok (.laload, 1) := by decide +kernel
theorem dX12_wordsForAll_111 : decode cX12_wordsForAll 111 = .ok (.aload_n 0, 1) := by decide +kernel
theorem dX12_wordsForAll_112 : decode cX12_wordsForAll 112 = .ok (.iload_n 3, 1) := by decide +kernel
theorem dX12_wordsForAll_113 : decode cX12_wordsForAll 113 = .ok (.iload_n 1, 1) := by decide +kernel
theorem dX12_wordsForAll_114 : decode cX12_wordsForAll 114 = .ok (.invokevirtual 330, 3) := by decide +kernel
theorem dX12_wordsForAll_117 : decode cX12_wordsForAll 117 = .ok (.ifCond .ge 13, 3) := by decide +kernel
theorem dX12_wordsForAll_120 : decode cX12_wordsForAll 120 = .ok (.aload_n 0, 1) := by decide +kernel
theorem dX12_wordsForAll_121 : decode cX12_wordsForAll 121 = .ok (.getfield 51, 3) := by decide +kernel
theorem dX12_wordsForAll_124 : decode cX12_wordsForAll 124 = .ok (.iload_n 3, 1) := by decide +kernel
theorem dX12_wordsForAll_125 : decode cX12_wordsForAll 125 = .ok (.iaload, 1) := by decide +kernel
theorem dX12_wordsForAll_126 : decode cX12_wordsForAll 126 = .ok (.i2l, 1) := by decide +kernel
theorem dX12_wordsForAll_127 : decode cX12_wordsForAll 127 = .ok (.goto 4, 3) := by decide +kernel
theorem dX12_wordsForAll_130 : decode cX12_wordsForAll 130 = .ok (.lconst 0, 1) := by decide +kernel
theorem dX12_wordsForAll_131 : decode cX12_wordsForAll 131 = .ok (.ladd, 1) := by decide +kernel
theorem dX12_wordsForAll_132 : decode cX12_wordsForAll 132 = .ok (.lastore, 1) := by decide +kernel
theorem dX12_wordsForAll_133 : decode cX12_wordsForAll 133 = .ok (.iinc 3 1, 3) := by decide +kernel
theorem dX12_wordsForAll_136 : decode cX12_wordsForAll 136 = .ok (.goto (-104), 3) := by decide +kernel
theorem dX12_wordsForAll_139 : decode cX12_wordsForAll 139 = .ok (.aload_n 0, 1) := by decide +kernel
theorem dX12_wordsForAll_140 : decode cX12_wordsForAll 140 = .ok (.getfield 42, 3) := by decide +kernel
theorem dX12_wordsForAll_143 : decode cX12_wordsForAll 143 = .ok (.bipush 8, 2) := by decide +kernel
theorem dX12_wordsForAll_145 : decode cX12_wordsForAll 145 = .ok (.iload_n 2, 1) := by decide +kernel
theorem dX12_wordsForAll_146 : decode cX12_wordsForAll 146 = .ok (.ifCond .ge 7, 3) := by decide +kernel
theorem dX12_wordsForAll_149 : decode cX12_wordsForAll 149 = .ok (.lconst 0, 1) := by decide +kernel
theorem dX12_wordsForAll_150 : decode cX12_wordsForAll 150 = .ok (.goto 12, 3) := by decide +kernel
theorem dX12_wordsForAll_153 : decode cX12_wordsForAll 153 = .ok (.aload_n 0, 1) := by decide +kernel
theorem dX12_wordsForAll_154 : decode cX12_wordsForAll 154 = .ok (.getfield 351, 3) := by decide +kernel
theorem dX12_wordsForAll_157 : decode cX12_wordsForAll 157 = .ok (.iconst 1, 1) := by decide +kernel
theorem dX12_wordsForAll_158 : decode cX12_wordsForAll 158 = .ok (.isub, 1) := by decide +kernel
theorem dX12_wordsForAll_159 : decode cX12_wordsForAll 159 = .ok (.iload_n 2, 1) := by decide +kernel
theorem dX12_wordsForAll_160 : decode cX12_wordsForAll 160 = .ok (.isub, 1) := by decide +kernel
theorem dX12_wordsForAll_161 : decode cX12_wordsForAll 161 = .ok (.i2l, 1) := by decide +kernel
theorem dX12_wordsForAll_162 : decode cX12_wordsForAll 162 = .ok (.lastore, 1) := by decide +kernel
theorem dX12_wordsForAll_163 : decode cX12_wordsForAll 163 = .ok (.aload_n 0, 1) := by decide +kernel
theorem dX12_wordsForAll_164 : decode cX12_wordsForAll 164 = .ok (.getfield 42, 3) := by decide +kernel
theorem dX12_wordsForAll_167 : decode cX12_wordsForAll 167 = .ok (.bipush 9, 2) := by decide +kernel
theorem dX12_wordsForAll_169 : decode cX12_wordsForAll 169 = .ok (.aload_n 0, 1) := by decide +kernel
theorem dX12_wordsForAll_170 : decode cX12_wordsForAll 170 = .ok (.getfield 348, 3) := by decide +kernel
theorem dX12_wordsForAll_173 : decode cX12_wordsForAll 173 = .ok (.i2l, 1) := by decide +kernel
theorem dX12_wordsForAll_174 : decode cX12_wordsForAll 174 = .ok (.lastore, 1) := by decide +kernel
theorem dX12_wordsForAll_175 : decode cX12_wordsForAll 175 = .ok (.return_, 1) := by decide +kernel
theorem dX12_worth_0 : decode cX12_worth 0 = .ok (.aload_n 0, 1) := by decide +kernel
theorem dX12_worth_1 : decode cX12_worth 1 = .ok (.iload_n 1, 1) := by decide +kernel
theorem dX12_worth_2 : decode cX12_worth 2 = .ok (.invokevirtual 319, 3) := by decide +kernel
theorem dX12_worth_5 : decode cX12_worth 5 = .ok (.ifCond .eq 20, 3) := by decide +kernel
theorem dX12_worth_8 : decode cX12_worth 8 = .ok (.aload_n 0, 1) := by decide +kernel
theorem dX12_worth_9 : decode cX12_worth 9 = .ok (.iload_n 2, 1) := by decide +kernel
theorem dX12_worth_10 : decode cX12_worth 10 = .ok (.invokevirtual 327, 3) := by decide +kernel
theorem dX12_worth_13 : decode cX12_worth 13 = .ok (.ifCond .eq 12, 3) := by decide +kernel
theorem dX12_worth_16 : decode cX12_worth 16 = .ok (.aload_n 0, 1) := by decide +kernel
theorem dX12_worth_17 : decode cX12_worth 17 = .ok (.iload_n 1, 1) := by decide +kernel
theorem dX12_worth_18 : decode cX12_worth 18 = .ok (.iload_n 2, 1) := by decide +kernel
theorem dX12_worth_19 : decode cX12_worth 19 = .ok (.invokevirtual 330, 3) := by decide +kernel
theorem dX12_worth_22 : decode cX12_worth 22 = .ok (.goto 6, 3) := by decide +kernel
theorem dX12_worth_25 : decode cX12_worth 25 = .ok (.sipush (-1000), 3) := by decide +kernel
theorem dX12_worth_28 : decode cX12_worth 28 = .ok (.ireturn, 1) := by decide +kernel
theorem dX12_worthOf_0 : decode cX12_worthOf 0 = .ok (.aload_n 0, 1) := by decide +kernel
theorem dX12_worthOf_1 : decode cX12_worthOf 1 = .ok (.getfield 45, 3) := by decide +kernel
theorem dX12_worthOf_4 : decode cX12_worthOf 4 = .ok (.bipush 50, 2) := by decide +kernel
theorem dX12_worthOf_6 : decode cX12_worthOf 6 = .ok (.bipush 10, 2) := by decide +kernel
theorem dX12_worthOf_8 : decode cX12_worthOf 8 = .ok (.iload_n 2, 1) := by decide +kernel
theorem dX12_worthOf_9 : decode cX12_worthOf 9 = .ok (.imul, 1) := by decide +kernel
theorem dX12_worthOf_10 : decode cX12_worthOf 10 = .ok (.iadd, 1) := by decide +kernel
theorem dX12_worthOf_11 : decode cX12_worthOf 11 = .ok (.iload_n 1, 1) := by decide +kernel
theorem dX12_worthOf_12 : decode cX12_worthOf 12 = .ok (.iadd, 1) := by decide +kernel
theorem dX12_worthOf_13 : decode cX12_worthOf 13 = .ok (.iaload, 1) := by decide +kernel
theorem dX12_worthOf_14 : decode cX12_worthOf 14 = .ok (.ireturn, 1) := by decide +kernel
theorem dX12_year_0 : decode cX12_year 0 = .ok (.aload_n 0, 1) := by decide +kernel
theorem dX12_year_1 : decode cX12_year 1 = .ok (.getfield 45, 3) := by decide +kernel
theorem dX12_year_4 : decode cX12_year 4 = .ok (.iconst 1, 1) := by decide +kernel
theorem dX12_year_5 : decode cX12_year 5 = .ok (.iaload, 1) := by decide +kernel
theorem dX12_year_6 : decode cX12_year 6 = .ok (.ifCond .eq 35, 3) := by decide +kernel
theorem dX12_year_9 : decode cX12_year 9 = .ok (.iload_n 1, 1) := by decide +kernel
theorem dX12_year_10 : decode cX12_year 10 = .ok (.i2l, 1) := by decide +kernel
theorem dX12_year_11 : decode cX12_year 11 = .ok (.lconst 1, 1) := by decide +kernel
theorem dX12_year_12 : decode cX12_year 12 = .ok (.ldc2_w 498, 3) := by decide +kernel
theorem dX12_year_15 : decode cX12_year 15 = .ok (.invokestatic 155, 3) := by decide +kernel
theorem dX12_year_18 : decode cX12_year 18 = .ok (.ifCond .eq 23, 3) := by decide +kernel
theorem dX12_year_21 : decode cX12_year 21 = .ok (.aload_n 0, 1) := by decide +kernel
theorem dX12_year_22 : decode cX12_year 22 = .ok (.iload_n 2, 1) := by decide +kernel
theorem dX12_year_23 : decode cX12_year 23 = .ok (.invokevirtual 319, 3) := by decide +kernel
theorem dX12_year_26 : decode cX12_year 26 = .ok (.ifCond .eq 15, 3) := by decide +kernel
theorem dX12_year_29 : decode cX12_year 29 = .ok (.iload_n 3, 1) := by decide +kernel
theorem dX12_year_30 : decode cX12_year 30 = .ok (.i2l, 1) := by decide +kernel
theorem dX12_year_31 : decode cX12_year 31 = .ok (.lconst 0, 1) := by decide +kernel
theorem dX12_year_32 : decode cX12_year 32 = .ok (.ldc2_w 344, 3) := by decide +kernel
theorem dX12_year_35 : decode cX12_year 35 = .ok (.invokestatic 155, 3) := by decide +kernel
theorem dX12_year_38 : decode cX12_year 38 = .ok (.ifCond .ne 7, 3) := by decide +kernel
theorem dX12_year_41 : decode cX12_year 41 = .ok (.ldc_w 422, 3) := by decide +kernel
theorem dX12_year_44 : decode cX12_year 44 = .ok (.ireturn, 1) := by decide +kernel
theorem dX12_year_45 : decode cX12_year 45 = .ok (.aload_n 0, 1) := by decide +kernel
theorem dX12_year_46 : decode cX12_year 46 = .ok (.invokevirtual 393, 3) := by decide +kernel
theorem dX12_year_49 : decode cX12_year 49 = .ok (.aload_n 0, 1) := by decide +kernel
theorem dX12_year_50 : decode cX12_year 50 = .ok (.iconst 0, 1) := by decide +kernel
theorem dX12_year_51 : decode cX12_year 51 = .ok (.putfield 410, 3) := by decide +kernel
theorem dX12_year_54 : decode cX12_year 54 = .ok (.aload_n 0, 1) := by decide +kernel
theorem dX12_year_55 : decode cX12_year 55 = .ok (.iconst 0, 1) := by decide +kernel
theorem dX12_year_56 : decode cX12_year 56 = .ok (.putfield 407, 3) := by decide +kernel
theorem dX12_year_59 : decode cX12_year 59 = .ok (.iconst 0, 1) := by decide +kernel
theorem dX12_year_60 : decode cX12_year 60 = .ok (.istore 4, 2) := by decide +kernel
theorem dX12_year_62 : decode cX12_year 62 = .ok (.aload_n 0, 1) := by decide +kernel
theorem dX12_year_63 : decode cX12_year 63 = .ok (.getfield 45, 3) := by decide +kernel
theorem dX12_year_66 : decode cX12_year 66 = .ok (.bipush 6, 2) := by decide +kernel
theorem dX12_year_68 : decode cX12_year 68 = .ok (.iaload, 1) := by decide +kernel
theorem dX12_year_69 : decode cX12_year 69 = .ok (.i2l, 1) := by decide +kernel
theorem dX12_year_70 : decode cX12_year 70 = .ok (.lstore 5, 2) := by decide +kernel
theorem dX12_year_72 : decode cX12_year 72 = .ok (.iconst 0, 1) := by decide +kernel
theorem dX12_year_73 : decode cX12_year 73 = .ok (.istore 7, 2) := by decide +kernel
theorem dX12_year_75 : decode cX12_year 75 = .ok (.iload 7, 2) := by decide +kernel
theorem dX12_year_77 : decode cX12_year 77 = .ok (.iload_n 1, 1) := by decide +kernel
theorem dX12_year_78 : decode cX12_year 78 = .ok (.if_icmp .ge 106, 3) := by decide +kernel
theorem dX12_year_81 : decode cX12_year 81 = .ok (.lload 5, 2) := by decide +kernel
theorem dX12_year_83 : decode cX12_year 83 = .ok (.ldc2_w 500, 3) := by decide +kernel
theorem dX12_year_86 : decode cX12_year 86 = .ok (.lmul, 1) := by decide +kernel
theorem dX12_year_87 : decode cX12_year 87 = .ok (.ldc2_w 502, 3) := by decide +kernel
theorem dX12_year_90 : decode cX12_year 90 = .ok (.ladd, 1) := by decide +kernel
theorem dX12_year_91 : decode cX12_year 91 = .ok (.ldc2_w 504, 3) := by decide +kernel
theorem dX12_year_94 : decode cX12_year 94 = .ok (.lrem, 1) := by decide +kernel
theorem dX12_year_95 : decode cX12_year 95 = .ok (.lstore 5, 2) := by decide +kernel
theorem dX12_year_97 : decode cX12_year 97 = .ok (.lload 5, 2) := by decide +kernel
theorem dX12_year_99 : decode cX12_year 99 = .ok (.ldc2_w 506, 3) := by decide +kernel
theorem dX12_year_102 : decode cX12_year 102 = .ok (.ldiv, 1) := by decide +kernel
theorem dX12_year_103 : decode cX12_year 103 = .ok (.aload_n 0, 1) := by decide +kernel
theorem dX12_year_104 : decode cX12_year 104 = .ok (.getfield 45, 3) := by decide +kernel
theorem dX12_year_107 : decode cX12_year 107 = .ok (.iconst 1, 1) := by decide +kernel
theorem dX12_year_108 : decode cX12_year 108 = .ok (.iaload, 1) := by decide +kernel
theorem dX12_year_109 : decode cX12_year 109 = .ok (.i2l, 1) := by decide +kernel
theorem dX12_year_110 : decode cX12_year 110 = .ok (.lrem, 1) := by decide +kernel
theorem dX12_year_111 : decode cX12_year 111 = .ok (.l2i, 1) := by decide +kernel
theorem dX12_year_112 : decode cX12_year 112 = .ok (.istore 8, 2) := by decide +kernel
theorem dX12_year_114 : decode cX12_year 114 = .ok (.aload_n 0, 1) := by decide +kernel
theorem dX12_year_115 : decode cX12_year 115 = .ok (.iload 8, 2) := by decide +kernel
theorem dX12_year_117 : decode cX12_year 117 = .ok (.iconst (-1), 1) := by decide +kernel
theorem dX12_year_118 : decode cX12_year 118 = .ok (.invokevirtual 396, 3) := by decide +kernel
theorem dX12_year_121 : decode cX12_year 121 = .ok (.aload_n 0, 1) := by decide +kernel
theorem dX12_year_122 : decode cX12_year 122 = .ok (.iload_n 2, 1) := by decide +kernel
theorem dX12_year_123 : decode cX12_year 123 = .ok (.iload 8, 2) := by decide +kernel
theorem dX12_year_125 : decode cX12_year 125 = .ok (.aload_n 0, 1) := by decide +kernel
theorem dX12_year_126 : decode cX12_year 126 = .ok (.invokevirtual 399, 3) := by decide +kernel
theorem dX12_year_129 : decode cX12_year 129 = .ok (.invokevirtual 413, 3) := by decide +kernel
theorem dX12_year_132 : decode cX12_year 132 = .ok (.iconst 0, 1) := by decide +kernel
theorem dX12_year_133 : decode cX12_year 133 = .ok (.istore 9, 2) := by decide +kernel
theorem dX12_year_135 : decode cX12_year 135 = .ok (.iload 9, 2) := by decide +kernel
theorem dX12_year_137 : decode cX12_year 137 = .ok (.aload_n 0, 1) := by decide +kernel
theorem dX12_year_138 : decode cX12_year 138 = .ok (.getfield 45, 3) := by decide +kernel
theorem dX12_year_141 : decode cX12_year 141 = .ok (.iconst 0, 1) := by decide +kernel
theorem dX12_year_142 : decode cX12_year 142 = .ok (.iaload, 1) := by decide +kernel
theorem dX12_year_143 : decode cX12_year 143 = .ok (.if_icmp .ge 35, 3) := by decide +kernel
theorem dX12_year_146 : decode cX12_year 146 = .ok (.aload_n 0, 1) := by decide +kernel
theorem dX12_year_147 : decode cX12_year 147 = .ok (.getfield 51, 3) := by decide +kernel
theorem dX12_year_150 : decode cX12_year 150 = .ok (.iload 9, 2) := by decide +kernel
theorem dX12_year_152 : decode cX12_year 152 = .ok (.iaload, 1) := by decide +kernel
theorem dX12_year_153 : decode cX12_year 153 = .ok (.iload 4, 2) := by decide +kernel
theorem dX12_year_155 : decode cX12_year 155 = .ok (.if_icmp .le 13, 3) := by decide +kernel
theorem dX12_year_158 : decode cX12_year 158 = .ok (.aload_n 0, 1) := by decide +kernel
theorem dX12_year_159 : decode cX12_year 159 = .ok (.getfield 51, 3) := by decide +kernel
theorem dX12_year_162 : decode cX12_year 162 = .ok (.iload 9, 2) := by decide +kernel
theorem dX12_year_164 : decode cX12_year 164 = .ok (.iaload, 1) := by decide +kernel
theorem dX12_year_165 : decode cX12_year 165 = .ok (.goto 5, 3) := by decide +kernel
theorem dX12_year_168 : decode cX12_year 168 = .ok (.iload 4, 2) := by decide +kernel
theorem dX12_year_170 : decode cX12_year 170 = .ok (.istore 4, 2) := by decide +kernel
theorem dX12_year_172 : decode cX12_year 172 = .ok (.iinc 9 1, 3) := by decide +kernel
theorem dX12_year_175 : decode cX12_year 175 = .ok (.goto (-40), 3) := by decide +kernel
theorem dX12_year_178 : decode cX12_year 178 = .ok (.iinc 7 1, 3) := by decide +kernel
theorem dX12_year_181 : decode cX12_year 181 = .ok (.goto (-106), 3) := by decide +kernel
theorem dX12_year_184 : decode cX12_year 184 = .ok (.iload_n 3, 1) := by decide +kernel
theorem dX12_year_185 : decode cX12_year 185 = .ok (.ifCond .ne 10, 3) := by decide +kernel
theorem dX12_year_188 : decode cX12_year 188 = .ok (.aload_n 0, 1) := by decide +kernel
theorem dX12_year_189 : decode cX12_year 189 = .ok (.getfield 410, 3) := by decide +kernel
theorem dX12_year_192 : decode cX12_year 192 = .ok (.goto 17, 3) := by decide +kernel
theorem dX12_year_195 : decode cX12_year 195 = .ok (.iload_n 3, 1) := by decide +kernel
theorem dX12_year_196 : decode cX12_year 196 = .ok (.iconst 1, 1) := by decide +kernel
theorem dX12_year_197 : decode cX12_year 197 = .ok (.if_icmp .ne 10, 3) := by decide +kernel
theorem dX12_year_200 : decode cX12_year 200 = .ok (.aload_n 0, 1) := by decide +kernel
theorem dX12_year_201 : decode cX12_year 201 = .ok (.getfield 407, 3) := by decide +kernel
theorem dX12_year_204 : decode cX12_year 204 = .ok (.goto 5, 3) := by decide +kernel
theorem dX12_year_207 : decode cX12_year 207 = .ok (.iload 4, 2) := by decide +kernel
theorem dX12_year_209 : decode cX12_year 209 = .ok (.ireturn, 1) := by decide +kernel
theorem dX1_arrange_0 : decode cX1_arrange 0 = .ok (.iload_n 1, 1) := by decide +kernel
theorem dX1_arrange_1 : decode cX1_arrange 1 = .ok (.aload_n 0, 1) := by decide +kernel
theorem dX1_arrange_2 : decode cX1_arrange 2 = .ok (.getfield 49, 3) := by decide +kernel
theorem dX1_arrange_5 : decode cX1_arrange 5 = .ok (.if_icmp .lt 32, 3) := by decide +kernel
theorem dX1_arrange_8 : decode cX1_arrange 8 = .ok (.iload_n 2, 1) := by decide +kernel
theorem dX1_arrange_9 : decode cX1_arrange 9 = .ok (.aload_n 0, 1) := by decide +kernel
theorem dX1_arrange_10 : decode cX1_arrange 10 = .ok (.getfield 53, 3) := by decide +kernel
theorem dX1_arrange_13 : decode cX1_arrange 13 = .ok (.if_icmp .le 23, 3) := by decide +kernel
theorem dX1_arrange_16 : decode cX1_arrange 16 = .ok (.aload_n 0, 1) := by decide +kernel
theorem dX1_arrange_17 : decode cX1_arrange 17 = .ok (.iload_n 2, 1) := by decide +kernel
theorem dX1_arrange_18 : decode cX1_arrange 18 = .ok (.putfield 53, 3) := by decide +kernel
theorem dX1_arrange_21 : decode cX1_arrange 21 = .ok (.aload_n 0, 1) := by decide +kernel
theorem dX1_arrange_22 : decode cX1_arrange 22 = .ok (.getfield 16, 3) := by decide +kernel
theorem dX1_arrange_25 : decode cX1_arrange 25 = .ok (.iconst 0, 1) := by decide +kernel
theorem dX1_arrange_26 : decode cX1_arrange 26 = .ok (.aload_n 0, 1) := by decide +kernel
theorem dX1_arrange_27 : decode cX1_arrange 27 = .ok (.getfield 20, 3) := by decide +kernel
theorem dX1_arrange_30 : decode cX1_arrange 30 = .ok (.iconst 0, 1) := by decide +kernel
theorem dX1_arrange_31 : decode cX1_arrange 31 = .ok (.bipush 6, 2) := by decide +kernel
theorem dX1_arrange_33 : decode cX1_arrange 33 = .ok (.invokestatic 63, 3) := by decide +kernel
theorem dX1_arrange_36 : decode cX1_arrange 36 = .ok (.return_, 1) := by decide +kernel
theorem dX1_arrange_37 : decode cX1_arrange 37 = .ok (.iload_n 1, 1) := by decide +kernel
theorem dX1_arrange_38 : decode cX1_arrange 38 = .ok (.istore_n 3, 1) := by decide +kernel
theorem dX1_arrange_39 : decode cX1_arrange 39 = .ok (.iload_n 3, 1) := by decide +kernel
theorem dX1_arrange_40 : decode cX1_arrange 40 = .ok (.aload_n 0, 1) := by decide +kernel
theorem dX1_arrange_41 : decode cX1_arrange 41 = .ok (.getfield 49, 3) := by decide +kernel
theorem dX1_arrange_44 : decode cX1_arrange 44 = .ok (.if_icmp .ge 101, 3) := by decide +kernel
theorem dX1_arrange_47 : decode cX1_arrange 47 = .ok (.aload_n 0, 1) := by decide +kernel
theorem dX1_arrange_48 : decode cX1_arrange 48 = .ok (.getfield 16, 3) := by decide +kernel
theorem dX1_arrange_51 : decode cX1_arrange 51 = .ok (.iload_n 3, 1) := by decide +kernel
theorem dX1_arrange_52 : decode cX1_arrange 52 = .ok (.iaload, 1) := by decide +kernel
theorem dX1_arrange_53 : decode cX1_arrange 53 = .ok (.istore 4, 2) := by decide +kernel
theorem dX1_arrange_55 : decode cX1_arrange 55 = .ok (.iload_n 3, 1) := by decide +kernel
theorem dX1_arrange_56 : decode cX1_arrange 56 = .ok (.iload_n 1, 1) := by decide +kernel
theorem dX1_arrange_57 : decode cX1_arrange 57 = .ok (.if_icmp .eq 16, 3) := by decide +kernel
theorem dX1_arrange_60 : decode cX1_arrange 60 = .ok (.iload 4, 2) := by decide +kernel
theorem dX1_arrange_62 : decode cX1_arrange 62 = .ok (.aload_n 0, 1) := by decide +kernel
theorem dX1_arrange_63 : decode cX1_arrange 63 = .ok (.getfield 16, 3) := by decide +kernel
theorem dX1_arrange_66 : decode cX1_arrange 66 = .ok (.iload_n 3, 1) := by decide +kernel
theorem dX1_arrange_67 : decode cX1_arrange 67 = .ok (.iconst 1, 1) := by decide +kernel
theorem dX1_arrange_68 : decode cX1_arrange 68 = .ok (.isub, 1) := by decide +kernel
theorem dX1_arrange_69 : decode cX1_arrange 69 = .ok (.iaload, 1) := by decide +kernel
theorem dX1_arrange_70 : decode cX1_arrange 70 = .ok (.if_icmp .eq 69, 3) := by decide +kernel
theorem dX1_arrange_73 : decode cX1_arrange 73 = .ok (.aload_n 0, 1) := by decide +kernel
theorem dX1_arrange_74 : decode cX1_arrange 74 = .ok (.getfield 16, 3) := by decide +kernel
theorem dX1_arrange_77 : decode cX1_arrange 77 = .ok (.iload_n 1, 1) := by decide +kernel
theorem dX1_arrange_78 : decode cX1_arrange 78 = .ok (.aload_n 0, 1) := by decide +kernel
theorem dX1_arrange_79 : decode cX1_arrange 79 = .ok (.getfield 16, 3) := by decide +kernel
theorem dX1_arrange_82 : decode cX1_arrange 82 = .ok (.iload_n 1, 1) := by decide +kernel
theorem dX1_arrange_83 : decode cX1_arrange 83 = .ok (.iconst 1, 1) := by decide +kernel
theorem dX1_arrange_84 : decode cX1_arrange 84 = .ok (.iadd, 1) := by decide +kernel
theorem dX1_arrange_85 : decode cX1_arrange 85 = .ok (.iload_n 3, 1) := by decide +kernel
theorem dX1_arrange_86 : decode cX1_arrange 86 = .ok (.iload_n 1, 1) := by decide +kernel
theorem dX1_arrange_87 : decode cX1_arrange 87 = .ok (.isub, 1) := by decide +kernel
theorem dX1_arrange_88 : decode cX1_arrange 88 = .ok (.invokestatic 63, 3) := by decide +kernel
theorem dX1_arrange_91 : decode cX1_arrange 91 = .ok (.aload_n 0, 1) := by decide +kernel
theorem dX1_arrange_92 : decode cX1_arrange 92 = .ok (.getfield 16, 3) := by decide +kernel
theorem dX1_arrange_95 : decode cX1_arrange 95 = .ok (.iload_n 1, 1) := by decide +kernel
theorem dX1_arrange_96 : decode cX1_arrange 96 = .ok (.iload 4, 2) := by decide +kernel
theorem dX1_arrange_98 : decode cX1_arrange 98 = .ok (.iastore, 1) := by decide +kernel
theorem dX1_arrange_99 : decode cX1_arrange 99 = .ok (.aload_n 0, 1) := by decide +kernel
theorem dX1_arrange_100 : decode cX1_arrange 100 = .ok (.iload_n 1, 1) := by decide +kernel
theorem dX1_arrange_101 : decode cX1_arrange 101 = .ok (.iconst 1, 1) := by decide +kernel
theorem dX1_arrange_102 : decode cX1_arrange 102 = .ok (.iadd, 1) := by decide +kernel
theorem dX1_arrange_103 : decode cX1_arrange 103 = .ok (.iload_n 2, 1) := by decide +kernel
theorem dX1_arrange_104 : decode cX1_arrange 104 = .ok (.aload_n 0, 1) := by decide +kernel
theorem dX1_arrange_105 : decode cX1_arrange 105 = .ok (.iload_n 1, 1) := by decide +kernel
theorem dX1_arrange_106 : decode cX1_arrange 106 = .ok (.invokevirtual 72, 3) := by decide +kernel
theorem dX1_arrange_109 : decode cX1_arrange 109 = .ok (.iadd, 1) := by decide +kernel
theorem dX1_arrange_110 : decode cX1_arrange 110 = .ok (.invokevirtual 69, 3) := by decide +kernel
theorem dX1_arrange_113 : decode cX1_arrange 113 = .ok (.aload_n 0, 1) := by decide +kernel
theorem dX1_arrange_114 : decode cX1_arrange 114 = .ok (.getfield 16, 3) := by decide +kernel
theorem dX1_arrange_117 : decode cX1_arrange 117 = .ok (.iload_n 1, 1) := by decide +kernel
theorem dX1_arrange_118 : decode cX1_arrange 118 = .ok (.iconst 1, 1) := by decide +kernel
theorem dX1_arrange_119 : decode cX1_arrange 119 = .ok (.iadd, 1) := by decide +kernel
theorem dX1_arrange_120 : decode cX1_arrange 120 = .ok (.aload_n 0, 1) := by decide +kernel
theorem dX1_arrange_121 : decode cX1_arrange 121 = .ok (.getfield 16, 3) := by decide +kernel
theorem dX1_arrange_124 : decode cX1_arrange 124 = .ok (.iload_n 1, 1) := by decide +kernel
theorem dX1_arrange_125 : decode cX1_arrange 125 = .ok (.iload_n 3, 1) := by decide +kernel
theorem dX1_arrange_126 : decode cX1_arrange 126 = .ok (.iload_n 1, 1) := by decide +kernel
theorem dX1_arrange_127 : decode cX1_arrange 127 = .ok (.isub, 1) := by decide +kernel
theorem dX1_arrange_128 : decode cX1_arrange 128 = .ok (.invokestatic 63, 3) := by decide +kernel
theorem dX1_arrange_131 : decode cX1_arrange 131 = .ok (.aload_n 0, 1) := by decide +kernel
theorem dX1_arrange_132 : decode cX1_arrange 132 = .ok (.getfield 16, 3) := by decide +kernel
theorem dX1_arrange_135 : decode cX1_arrange 135 = .ok (.iload_n 3, 1) := by decide +kernel
theorem dX1_arrange_136 : decode cX1_arrange 136 = .ok (.iload 4, 2) := by decide +kernel
theorem dX1_arrange_138 : decode cX1_arrange 138 = .ok (.iastore, 1) := by decide +kernel
theorem dX1_arrange_139 : decode cX1_arrange 139 = .ok (.iinc 3 1, 3) := by decide +kernel
theorem dX1_arrange_142 : decode cX1_arrange 142 = .ok (.goto (-103), 3) := by decide +kernel
theorem dX1_arrange_145 : decode cX1_arrange 145 = .ok (.return_, 1) := by decide +kernel
theorem dX1_gainAt_0 : decode cX1_gainAt 0 = .ok (.aload_n 0, 1) := by decide +kernel
theorem dX1_gainAt_1 : decode cX1_gainAt 1 = .ok (.getfield 27, 3) := by decide +kernel
theorem dX1_gainAt_4 : decode cX1_gainAt 4 = .ok (.aload_n 0, 1) := by decide +kernel
theorem dX1_gainAt_5 : decode cX1_gainAt 5 = .ok (.getfield 16, 3) := by decide +kernel
theorem dX1_gainAt_8 : decode cX1_gainAt 8 = .ok (.iload_n 1, 1) := by decide +kernel
theorem dX1_gainAt_9 : decode cX1_gainAt 9 = .ok (.aload_n 0, 1) := by decide +kernel
theorem dX1_gainAt_10 : decode cX1_gainAt 10 = .ok (.getfield 49, 3) := by decide +kernel
theorem dX1_gainAt_13 : decode cX1_gainAt 13 = .ok (.aload_n 0, 1) := by decide +kernel
theorem dX1_gainAt_14 : decode cX1_gainAt 14 = .ok (.getfield 13, 3) := by decide +kernel
theorem dX1_gainAt_17 : decode cX1_gainAt 17 = .ok (.iload_n 1, 1) := by decide +kernel
theorem dX1_gainAt_18 : decode cX1_gainAt 18 = .ok (.aaload, 1) := by decide +kernel
theorem dX1_gainAt_19 : decode cX1_gainAt 19 = .ok (.aload_n 0, 1) := by decide +kernel
theorem dX1_gainAt_20 : decode cX1_gainAt 20 = .ok (.getfield 23, 3) := by decide +kernel
theorem dX1_gainAt_23 : decode cX1_gainAt 23 = .ok (.getfield 76, 3) := by decide +kernel
theorem dX1_gainAt_26 : decode cX1_gainAt 26 = .ok (.iload_n 1, 1) := by decide +kernel
theorem dX1_gainAt_27 : decode cX1_gainAt 27 = .ok (.iadd, 1) := by decide +kernel
theorem dX1_gainAt_28 : decode cX1_gainAt 28 = .ok (.invokevirtual 79, 3) := by decide +kernel
theorem dX1_gainAt_31 : decode cX1_gainAt 31 = .ok (.aload_n 0, 1) := by decide +kernel
theorem dX1_gainAt_32 : decode cX1_gainAt 32 = .ok (.getfield 27, 3) := by decide +kernel
theorem dX1_gainAt_35 : decode cX1_gainAt 35 = .ok (.aload_n 0, 1) := by decide +kernel
theorem dX1_gainAt_36 : decode cX1_gainAt 36 = .ok (.getfield 23, 3) := by decide +kernel
theorem dX1_gainAt_39 : decode cX1_gainAt 39 = .ok (.getfield 85, 3) := by decide +kernel
theorem dX1_gainAt_42 : decode cX1_gainAt 42 = .ok (.invokevirtual 88, 3) := by decide +kernel
theorem dX1_gainAt_45 : decode cX1_gainAt 45 = .ok (.aload_n 0, 1) := by decide +kernel
theorem dX1_gainAt_46 : decode cX1_gainAt 46 = .ok (.getfield 13, 3) := by decide +kernel
theorem dX1_gainAt_49 : decode cX1_gainAt 49 = .ok (.iload_n 1, 1) := by decide +kernel
theorem dX1_gainAt_50 : decode cX1_gainAt 50 = .ok (.aaload, 1) := by decide +kernel
theorem dX1_gainAt_51 : decode cX1_gainAt 51 = .ok (.iconst 0, 1) := by decide +kernel
theorem dX1_gainAt_52 : decode cX1_gainAt 52 = .ok (.aload_n 0, 1) := by decide +kernel
theorem dX1_gainAt_53 : decode cX1_gainAt 53 = .ok (.getfield 13, 3) := by decide +kernel
theorem dX1_gainAt_56 : decode cX1_gainAt 56 = .ok (.iload_n 1, 1) := by decide +kernel
theorem dX1_gainAt_57 : decode cX1_gainAt 57 = .ok (.iconst 1, 1) := by decide +kernel
theorem dX1_gainAt_58 : decode cX1_gainAt 58 = .ok (.iadd, 1) := by decide +kernel
theorem dX1_gainAt_59 : decode cX1_gainAt 59 = .ok (.aaload, 1) := by decide +kernel
theorem dX1_gainAt_60 : decode cX1_gainAt 60 = .ok (.iconst 0, 1) := by decide +kernel
theorem dX1_gainAt_61 : decode cX1_gainAt 61 = .ok (.bipush 10, 2) := by decide +kernel
theorem dX1_gainAt_63 : decode cX1_gainAt 63 = .ok (.invokestatic 63, 3) := by decide +kernel
theorem dX1_gainAt_66 : decode cX1_gainAt 66 = .ok (.aload_n 0, 1) := by decide +kernel
theorem dX1_gainAt_67 : decode cX1_gainAt 67 = .ok (.getfield 27, 3) := by decide +kernel
theorem dX1_gainAt_70 : decode cX1_gainAt 70 = .ok (.aload_n 0, 1) := by decide +kernel
theorem dX1_gainAt_71 : decode cX1_gainAt 71 = .ok (.getfield 13, 3) := by decide +kernel
theorem dX1_gainAt_74 : decode cX1_gainAt 74 = .ok (.iload_n 1, 1) := by decide +kernel
theorem dX1_gainAt_75 : decode cX1_gainAt 75 = .ok (.iconst 1, 1) := by decide +kernel
theorem dX1_gainAt_76 : decode cX1_gainAt 76 = .ok (.iadd, 1) := by decide +kernel
theorem dX1_gainAt_77 : decode cX1_gainAt 77 = .ok (.aaload, 1) := by decide +kernel
theorem dX1_gainAt_78 : decode cX1_gainAt 78 = .ok (.aload_n 0, 1) := by decide +kernel
theorem dX1_gainAt_79 : decode cX1_gainAt 79 = .ok (.getfield 27, 3) := by decide +kernel
theorem dX1_gainAt_82 : decode cX1_gainAt 82 = .ok (.getfield 92, 3) := by decide +kernel
theorem dX1_gainAt_85 : decode cX1_gainAt 85 = .ok (.aload_n 0, 1) := by decide +kernel
theorem dX1_gainAt_86 : decode cX1_gainAt 86 = .ok (.getfield 27, 3) := by decide +kernel
theorem dX1_gainAt_89 : decode cX1_gainAt 89 = .ok (.getfield 95, 3) := by decide +kernel
theorem dX1_gainAt_92 : decode cX1_gainAt 92 = .ok (.invokevirtual 98, 3) := by decide +kernel
theorem dX1_gainAt_95 : decode cX1_gainAt 95 = .ok (.istore_n 2, 1) := by decide +kernel
theorem dX1_gainAt_96 : decode cX1_gainAt 96 = .ok (.iload_n 2, 1) := by decide +kernel
theorem dX1_gainAt_97 : decode cX1_gainAt 97 = .ok (.iconst 1, 1) := by decide +kernel
theorem dX1_gainAt_98 : decode cX1_gainAt 98 = .ok (.if_icmp .ne 28, 3) := by decide +kernel
theorem dX1_gainAt_101 : decode cX1_gainAt 101 = .ok (.aload_n 0, 1) := by decide +kernel
theorem dX1_gainAt_102 : decode cX1_gainAt 102 = .ok (.getfield 35, 3) := by decide +kernel
theorem dX1_gainAt_105 : decode cX1_gainAt 105 = .ok (.aload_n 0, 1) := by decide +kernel
theorem dX1_gainAt_106 : decode cX1_gainAt 106 = .ok (.getfield 23, 3) := by decide +kernel
theorem dX1_gainAt_109 : decode cX1_gainAt 109 = .ok (.aload_n 0, 1) := by decide +kernel
theorem dX1_gainAt_110 : decode cX1_gainAt 110 = .ok (.getfield 31, 3) := by decide +kernel
theorem dX1_gainAt_113 : decode cX1_gainAt 113 = .ok (.aload_n 0, 1) := by decide +kernel
theorem dX1_gainAt_114 : decode cX1_gainAt 114 = .ok (.getfield 16, 3) := by decide +kernel
theorem dX1_gainAt_117 : decode cX1_gainAt 117 = .ok (.iload_n 1, 1) := by decide +kernel
theorem dX1_gainAt_118 : decode cX1_gainAt 118 = .ok (.iaload, 1) := by decide +kernel
theorem dX1_gainAt_119 : decode cX1_gainAt 119 = .ok (.invokevirtual 102, 3) := by decide +kernel
theorem dX1_gainAt_122 : decode cX1_gainAt 122 = .ok (.imul, 1) := by decide +kernel
theorem dX1_gainAt_123 : decode cX1_gainAt 123 = .ok (.goto 4, 3) := by decide +kernel
theorem dX1_gainAt_126 : decode cX1_gainAt 126 = .ok (.iconst 0, 1) := by decide +kernel
theorem dX1_gainAt_127 : decode cX1_gainAt 127 = .ok (.ireturn, 1) := by decide +kernel
theorem dX1_gainFound_0 : decode cX1_gainFound 0 = .ok (.aload_n 0, 1) := by decide +kernel
theorem dX1_gainFound_1 : decode cX1_gainFound 1 = .ok (.getfield 35, 3) := by decide +kernel
theorem dX1_gainFound_4 : decode cX1_gainFound 4 = .ok (.aload_n 0, 1) := by decide +kernel
theorem dX1_gainFound_5 : decode cX1_gainFound 5 = .ok (.getfield 53, 3) := by decide +kernel
theorem dX1_gainFound_8 : decode cX1_gainFound 8 = .ok (.imul, 1) := by decide +kernel
theorem dX1_gainFound_9 : decode cX1_gainFound 9 = .ok (.ireturn, 1) := by decide +kernel
theorem dX1_init_0 : decode cX1_init 0 = .ok (.aload_n 0, 1) := by decide +kernel
theorem dX1_init_1 : decode cX1_init 1 = .ok (.invokespecial 3, 3) := by decide +kernel
theorem dX1_init_4 : decode cX1_init 4 = .ok (.aload_n 0, 1) := by decide +kernel
theorem dX1_init_5 : decode cX1_init 5 = .ok (.bipush 7, 2) := by decide +kernel
theorem dX1_init_7 : decode cX1_init 7 = .ok (.bipush 10, 2) := by decide +kernel
theorem dX1_init_9 : decode cX1_init 9 = .ok (.multianewarray 11 2, 4) := by decide +kernel
theorem dX1_init_13 : decode cX1_init 13 = .ok (.putfield 13, 3) := by decide +kernel
theorem dX1_init_16 : decode cX1_init 16 = .ok (.aload_n 0, 1) := by decide +kernel
theorem dX1_init_17 : decode cX1_init 17 = .ok (.bipush 6, 2) := by decide +kernel
theorem dX1_init_19 : decode cX1_init 19 = .ok (.newarray .int, 2) := by decide +kernel
theorem dX1_init_21 : decode cX1_init 21 = .ok (.putfield 16, 3) := by decide +kernel
theorem dX1_init_24 : decode cX1_init 24 = .ok (.aload_n 0, 1) := by decide +kernel
theorem dX1_init_25 : decode cX1_init 25 = .ok (.bipush 6, 2) := by decide +kernel
theorem dX1_init_27 : decode cX1_init 27 = .ok (.newarray .int, 2) := by decide +kernel
theorem dX1_init_29 : decode cX1_init 29 = .ok (.putfield 20, 3) := by decide +kernel
theorem dX1_init_32 : decode cX1_init 32 = .ok (.aload_n 0, 1) := by decide +kernel
theorem dX1_init_33 : decode cX1_init 33 = .ok (.aload_n 1, 1) := by decide +kernel
theorem dX1_init_34 : decode cX1_init 34 = .ok (.putfield 23, 3) := by decide +kernel
theorem dX1_init_37 : decode cX1_init 37 = .ok (.aload_n 0, 1) := by decide +kernel
theorem dX1_init_38 : decode cX1_init 38 = .ok (.aload_n 2, 1) := by decide +kernel
theorem dX1_init_39 : decode cX1_init 39 = .ok (.putfield 27, 3) := by decide +kernel
theorem dX1_init_42 : decode cX1_init 42 = .ok (.return_, 1) := by decide +kernel
theorem dX1_insert_0 : decode cX1_insert 0 = .ok (.iload_n 2, 1) := by decide +kernel
theorem dX1_insert_1 : decode cX1_insert 1 = .ok (.istore_n 3, 1) := by decide +kernel
theorem dX1_insert_2 : decode cX1_insert 2 = .ok (.iload_n 3, 1) := by decide +kernel
theorem dX1_insert_3 : decode cX1_insert 3 = .ok (.ifCond .le 35, 3) := by decide +kernel
theorem dX1_insert_6 : decode cX1_insert 6 = .ok (.aload_n 0, 1) := by decide +kernel
theorem dX1_insert_7 : decode cX1_insert 7 = .ok (.getfield 16, 3) := by decide +kernel
theorem dX1_insert_10 : decode cX1_insert 10 = .ok (.iload_n 3, 1) := by decide +kernel
theorem dX1_insert_11 : decode cX1_insert 11 = .ok (.iconst 1, 1) := by decide +kernel
theorem dX1_insert_12 : decode cX1_insert 12 = .ok (.isub, 1) := by decide +kernel
theorem dX1_insert_13 : decode cX1_insert 13 = .ok (.iaload, 1) := by decide +kernel
theorem dX1_insert_14 : decode cX1_insert 14 = .ok (.iload_n 1, 1) := by decide +kernel
theorem dX1_insert_15 : decode cX1_insert 15 = .ok (.if_icmp .le 23, 3) := by decide +kernel
theorem dX1_insert_18 : decode cX1_insert 18 = .ok (.aload_n 0, 1) := by decide +kernel
theorem dX1_insert_19 : decode cX1_insert 19 = .ok (.getfield 16, 3) := by decide +kernel
theorem dX1_insert_22 : decode cX1_insert 22 = .ok (.iload_n 3, 1) := by decide +kernel
theorem dX1_insert_23 : decode cX1_insert 23 = .ok (.aload_n 0, 1) := by decide +kernel
theorem dX1_insert_24 : decode cX1_insert 24 = .ok (.getfield 16, 3) := by decide +kernel
theorem dX1_insert_27 : decode cX1_insert 27 = .ok (.iload_n 3, 1) := by decide +kernel
theorem dX1_insert_28 : decode cX1_insert 28 = .ok (.iconst 1, 1) := by decide +kernel
theorem dX1_insert_29 : decode cX1_insert 29 = .ok (.isub, 1) := by decide +kernel
theorem dX1_insert_30 : decode cX1_insert 30 = .ok (.iaload, 1) := by decide +kernel
theorem dX1_insert_31 : decode cX1_insert 31 = .ok (.iastore, 1) := by decide +kernel
theorem dX1_insert_32 : decode cX1_insert 32 = .ok (.iinc 3 (-1), 3) := by decide +kernel
theorem dX1_insert_35 : decode cX1_insert 35 = .ok (.goto (-33), 3) := by decide +kernel
theorem dX1_insert_38 : decode cX1_insert 38 = .ok (.aload_n 0, 1) := by decide +kernel
theorem dX1_insert_39 : decode cX1_insert 39 = .ok (.getfield 16, 3) := by decide +kernel
theorem dX1_insert_42 : decode cX1_insert 42 = .ok (.iload_n 3, 1) := by decide +kernel
theorem dX1_insert_43 : decode cX1_insert 43 = .ok (.iload_n 1, 1) := by decide +kernel
theorem dX1_insert_44 : decode cX1_insert 44 = .ok (.iastore, 1) := by decide +kernel
theorem dX1_insert_45 : decode cX1_insert 45 = .ok (.return_, 1) := by decide +kernel
theorem dX1_pointAt_0 : decode cX1_pointAt 0 = .ok (.iload_n 1, 1) := by decide +kernel
theorem dX1_pointAt_1 : decode cX1_pointAt 1 = .ok (.ifCond .lt 20, 3) := by decide +kernel
theorem dX1_pointAt_4 : decode cX1_pointAt 4 = .ok (.iload_n 1, 1) := by decide +kernel
theorem dX1_pointAt_5 : decode cX1_pointAt 5 = .ok (.aload_n 0, 1) := by decide +kernel
theorem dX1_pointAt_6 : decode cX1_pointAt 6 = .ok (.getfield 49, 3) := by decide +kernel
theorem dX1_pointAt_9 : decode cX1_pointAt 9 = .ok (.if_icmp .ge 12, 3) := by decide +kernel
theorem dX1_pointAt_12 : decode cX1_pointAt 12 = .ok (.aload_n 0, 1) := by decide +kernel
theorem dX1_pointAt_13 : decode cX1_pointAt 13 = .ok (.getfield 20, 3) := by decide +kernel
theorem dX1_pointAt_16 : decode cX1_pointAt 16 = .ok (.iload_n 1, 1) := by decide +kernel
theorem dX1_pointAt_17 : decode cX1_pointAt 17 = .ok (.iaload, 1) := by decide +kernel
theorem dX1_pointAt_18 : decode cX1_pointAt 18 = .ok (.goto 5, 3) := by decide +kernel
theorem dX1_pointAt_21 : decode cX1_pointAt 21 = .ok (.ldc 105, 2) := by decide +kernel
theorem dX1_pointAt_23 : decode cX1_pointAt 23 = .ok (.ireturn, 1) := by decide +kernel
theorem dX1_seek_0 : decode cX1_seek 0 = .ok (.aload_n 0, 1) := by decide +kernel
theorem dX1_seek_1 : decode cX1_seek 1 = .ok (.iload_n 1, 1) := by decide +kernel
theorem dX1_seek_2 : decode cX1_seek 2 = .ok (.putfield 31, 3) := by decide +kernel
theorem dX1_seek_5 : decode cX1_seek 5 = .ok (.aload_n 0, 1) := by decide +kernel
theorem dX1_seek_6 : decode cX1_seek 6 = .ok (.iload_n 2, 1) := by decide +kernel
theorem dX1_seek_7 : decode cX1_seek 7 = .ok (.ifCond .eq 7, 3) := by decide +kernel
theorem dX1_seek_10 : decode cX1_seek 10 = .ok (.iconst 1, 1) := by decide +kernel
theorem dX1_seek_11 : decode cX1_seek 11 = .ok (.goto 4, 3) := by decide +kernel
theorem dX1_seek_14 : decode cX1_seek 14 = .ok (.iconst (-1), 1) := by decide +kernel
theorem dX1_seek_15 : decode cX1_seek 15 = .ok (.putfield 35, 3) := by decide +kernel
theorem dX1_seek_18 : decode cX1_seek 18 = .ok (.aload_n 0, 1) := by decide +kernel
theorem dX1_seek_19 : decode cX1_seek 19 = .ok (.aload_n 0, 1) := by decide +kernel
theorem dX1_seek_20 : decode cX1_seek 20 = .ok (.getfield 23, 3) := by decide +kernel
theorem dX1_seek_23 : decode cX1_seek 23 = .ok (.getfield 38, 3) := by decide +kernel
theorem dX1_seek_26 : decode cX1_seek 26 = .ok (.bipush 6, 2) := by decide +kernel
theorem dX1_seek_28 : decode cX1_seek 28 = .ok (.invokestatic 43, 3) := by decide +kernel
theorem dX1_seek_31 : decode cX1_seek 31 = .ok (.putfield 49, 3) := by decide +kernel
theorem dX1_seek_34 : decode cX1_seek 34 = .ok (.aload_n 0, 1) := by decide +kernel
theorem dX1_seek_35 : decode cX1_seek 35 = .ok (.ldc 52, 2) := by decide +kernel
theorem dX1_seek_37 : decode cX1_seek 37 = .ok (.putfield 53, 3) := by decide +kernel
theorem dX1_seek_40 : decode cX1_seek 40 = .ok (.iconst 0, 1) := by decide +kernel
theorem dX1_seek_41 : decode cX1_seek 41 = .ok (.istore_n 3, 1) := by decide +kernel
theorem dX1_seek_42 : decode cX1_seek 42 = .ok (.iload_n 3, 1) := by decide +kernel
theorem dX1_seek_43 : decode cX1_seek 43 = .ok (.aload_n 0, 1) := by decide +kernel
theorem dX1_seek_44 : decode cX1_seek 44 = .ok (.getfield 49, 3) := by decide +kernel
theorem dX1_seek_47 : decode cX1_seek 47 = .ok (.if_icmp .ge 23, 3) := by decide +kernel
theorem dX1_seek_50 : decode cX1_seek 50 = .ok (.aload_n 0, 1) := by decide +kernel
theorem dX1_seek_51 : decode cX1_seek 51 = .ok (.aload_n 0, 1) := by decide +kernel
theorem dX1_seek_52 : decode cX1_seek 52 = .ok (.getfield 23, 3) := by decide +kernel
theorem dX1_seek_55 : decode cX1_seek 55 = .ok (.getfield 56, 3) := by decide +kernel
theorem dX1_seek_58 : decode cX1_seek 58 = .ok (.iload_n 3, 1) := by decide +kernel
theorem dX1_seek_59 : decode cX1_seek 59 = .ok (.iaload, 1) := by decide +kernel
theorem dX1_seek_60 : decode cX1_seek 60 = .ok (.iload_n 3, 1) := by decide +kernel
theorem dX1_seek_61 : decode cX1_seek 61 = .ok (.invokevirtual 57, 3) := by decide +kernel
theorem dX1_seek_64 : decode cX1_seek 64 = .ok (.iinc 3 1, 3) := by decide +kernel
theorem dX1_seek_67 : decode cX1_seek 67 = .ok (.goto (-25), 3) := by decide +kernel
theorem dX1_seek_70 : decode cX1_seek 70 = .ok (.aload_n 0, 1) := by decide +kernel
theorem dX1_seek_71 : decode cX1_seek 71 = .ok (.getfield 23, 3) := by decide +kernel
theorem dX1_seek_74 : decode cX1_seek 74 = .ok (.getfield 61, 3) := by decide +kernel
theorem dX1_seek_77 : decode cX1_seek 77 = .ok (.iconst 0, 1) := by decide +kernel
theorem dX1_seek_78 : decode cX1_seek 78 = .ok (.aload_n 0, 1) := by decide +kernel
theorem dX1_seek_79 : decode cX1_seek 79 = .ok (.getfield 13, 3) := by decide +kernel
theorem dX1_seek_82 : decode cX1_seek 82 = .ok (.iconst 0, 1) := by decide +kernel
theorem dX1_seek_83 : decode cX1_seek 83 = .ok (.aaload, 1) := by decide +kernel
theorem dX1_seek_84 : decode cX1_seek 84 = .ok (.iconst 0, 1) := by decide +kernel
theorem dX1_seek_85 : decode cX1_seek 85 = .ok (.bipush 10, 2) := by decide +kernel
theorem dX1_seek_87 : decode cX1_seek 87 = .ok (.invokestatic 63, 3) := by decide +kernel
theorem dX1_seek_90 : decode cX1_seek 90 = .ok (.aload_n 0, 1) := by decide +kernel
theorem dX1_seek_91 : decode cX1_seek 91 = .ok (.iconst 0, 1) := by decide +kernel
theorem dX1_seek_92 : decode cX1_seek 92 = .ok (.iconst 0, 1) := by decide +kernel
theorem dX1_seek_93 : decode cX1_seek 93 = .ok (.invokevirtual 69, 3) := by decide +kernel
theorem dX1_seek_96 : decode cX1_seek 96 = .ok (.return_, 1) := by decide +kernel
theorem dX2_init_0 : decode cX2_init 0 = .ok (.aload_n 0, 1) := by decide +kernel
theorem dX2_init_1 : decode cX2_init 1 = .ok (.invokespecial 3, 3) := by decide +kernel
theorem dX2_init_4 : decode cX2_init 4 = .ok (.aload_n 0, 1) := by decide +kernel
theorem dX2_init_5 : decode cX2_init 5 = .ok (.new 9, 3) := by decide +kernel
theorem dX2_init_8 : decode cX2_init 8 = .ok (.dup, 1) := by decide +kernel
theorem dX2_init_9 : decode cX2_init 9 = .ok (.invokespecial 11, 3) := by decide +kernel
theorem dX2_init_12 : decode cX2_init 12 = .ok (.putfield 12, 3) := by decide +kernel
theorem dX2_init_15 : decode cX2_init 15 = .ok (.return_, 1) := by decide +kernel
theorem dX2_mayStand_0 : decode cX2_mayStand 0 = .ok (.iload_n 2, 1) := by decide +kernel
theorem dX2_mayStand_1 : decode cX2_mayStand 1 = .ok (.ifCond .ne 7, 3) := by decide +kernel
theorem dX2_mayStand_4 : decode cX2_mayStand 4 = .ok (.iload_n 1, 1) := by decide +kernel
theorem dX2_mayStand_5 : decode cX2_mayStand 5 = .ok (.ifCond .ne 17, 3) := by decide +kernel
theorem dX2_mayStand_8 : decode cX2_mayStand 8 = .ok (.iload_n 2, 1) := by decide +kernel
theorem dX2_mayStand_9 : decode cX2_mayStand 9 = .ok (.ifCond .eq 11, 3) := by decide +kernel
theorem dX2_mayStand_12 : decode cX2_mayStand 12 = .ok (.iload_n 1, 1) := by decide +kernel
theorem dX2_mayStand_13 : decode cX2_mayStand 13 = .ok (.ifCond .ne 7, 3) := by decide +kernel
theorem dX2_mayStand_16 : decode cX2_mayStand 16 = .ok (.iconst 1, 1) := by decide +kernel
theorem dX2_mayStand_17 : decode cX2_mayStand 17 = .ok (.goto 4, 3) := by decide +kernel
theorem dX2_mayStand_20 : decode cX2_mayStand 20 = .ok (.iconst 0, 1) := by decide +kernel
theorem dX2_mayStand_21 : decode cX2_mayStand 21 = .ok (.ireturn, 1) := by decide +kernel
theorem dX2_mayStand_22 : decode cX2_mayStand 22 = .ok (.iload_n 1, 1) := by decide +kernel
theorem dX2_mayStand_23 : decode cX2_mayStand 23 = .ok (.iconst 1, 1) := by decide +kernel
theorem dX2_mayStand_24 : decode cX2_mayStand 24 = .ok (.if_icmp .ne 23, 3) := by decide +kernel
theorem dX2_mayStand_27 : decode cX2_mayStand 27 = .ok (.aload_n 0, 1) := by decide +kernel
theorem dX2_mayStand_28 : decode cX2_mayStand 28 = .ok (.getfield 12, 3) := by decide +kernel
theorem dX2_mayStand_31 : decode cX2_mayStand 31 = .ok (.getfield 74, 3) := by decide +kernel
theorem dX2_mayStand_34 : decode cX2_mayStand 34 = .ok (.bipush 12, 2) := by decide +kernel
theorem dX2_mayStand_36 : decode cX2_mayStand 36 = .ok (.if_icmp .ge 7, 3) := by decide +kernel
theorem dX2_mayStand_39 : decode cX2_mayStand 39 = .ok (.iconst 1, 1) := by decide +kernel
theorem dX2_mayStand_40 : decode cX2_mayStand 40 = .ok (.goto 24, 3) := by decide +kernel
theorem dX2_mayStand_43 : decode cX2_mayStand 43 = .ok (.iconst 0, 1) := by decide +kernel
theorem dX2_mayStand_44 : decode cX2_mayStand 44 = .ok (.goto 20, 3) := by decide +kernel
theorem dX2_mayStand_47 : decode cX2_mayStand 47 = .ok (.iload_n 1, 1) := by decide +kernel
theorem dX2_mayStand_48 : decode cX2_mayStand 48 = .ok (.iconst 2, 1) := by decide +kernel
theorem dX2_mayStand_49 : decode cX2_mayStand 49 = .ok (.if_icmp .ne 10, 3) := by decide +kernel
theorem dX2_mayStand_52 : decode cX2_mayStand 52 = .ok (.aload_n 0, 1) := by decide +kernel
theorem dX2_mayStand_53 : decode cX2_mayStand 53 = .ok (.getfield 25, 3) := by decide +kernel
theorem dX2_mayStand_56 : decode cX2_mayStand 56 = .ok (.ifCond .ne 7, 3) := by decide +kernel
theorem dX2_mayStand_59 : decode cX2_mayStand 59 = .ok (.iconst 1, 1) := by decide +kernel
theorem dX2_mayStand_60 : decode cX2_mayStand 60 = .ok (.goto 4, 3) := by decide +kernel
theorem dX2_mayStand_63 : decode cX2_mayStand 63 = .ok (.iconst 0, 1) := by decide +kernel
theorem dX2_mayStand_64 : decode cX2_mayStand 64 = .ok (.ireturn, 1) := by decide +kernel
theorem dX2_numberBehindBlanks_0 : decode cX2_numberBehindBlanks 0 = .ok (.aload_n 0, 1) := by decide +kernel
theorem dX2_numberBehindBlanks_1 : decode cX2_numberBehindBlanks 1 = .ok (.invokevirtual 47, 3) := by decide +kernel
theorem dX2_numberBehindBlanks_4 : decode cX2_numberBehindBlanks 4 = .ok (.pop, 1) := by decide +kernel
theorem dX2_numberBehindBlanks_5 : decode cX2_numberBehindBlanks 5 = .ok (.aload_n 0, 1) := by decide +kernel
theorem dX2_numberBehindBlanks_6 : decode cX2_numberBehindBlanks 6 = .ok (.iload_n 1, 1) := by decide +kernel
theorem dX2_numberBehindBlanks_7 : decode cX2_numberBehindBlanks 7 = .ok (.iload_n 2, 1) := by decide +kernel
theorem dX2_numberBehindBlanks_8 : decode cX2_numberBehindBlanks 8 = .ok (.invokevirtual 96, 3) := by decide +kernel
theorem dX2_numberBehindBlanks_11 : decode cX2_numberBehindBlanks 11 = .ok (.ireturn, 1) := by decide +kernel
theorem dX2_read_0 : decode cX2_read 0 = .ok (.aload_n 0, 1) := by decide +kernel
theorem dX2_read_1 : decode cX2_read 1 = .ok (.aload_n 1, 1) := by decide +kernel
theorem dX2_read_2 : decode cX2_read 2 = .ok (.iload_n 2, 1) := by decide +kernel
theorem dX2_read_3 : decode cX2_read 3 = .ok (.invokevirtual 18, 3) := by decide +kernel
theorem dX2_read_6 : decode cX2_read 6 = .ok (.aload_n 0, 1) := by decide +kernel
theorem dX2_read_7 : decode cX2_read 7 = .ok (.getfield 12, 3) := by decide +kernel
theorem dX2_read_10 : decode cX2_read 10 = .ok (.invokevirtual 22, 3) := by decide +kernel
theorem dX2_read_13 : decode cX2_read 13 = .ok (.aload_n 0, 1) := by decide +kernel
theorem dX2_read_14 : decode cX2_read 14 = .ok (.iconst 0, 1) := by decide +kernel
theorem dX2_read_15 : decode cX2_read 15 = .ok (.putfield 25, 3) := by decide +kernel
theorem dX2_read_18 : decode cX2_read 18 = .ok (.iconst 1, 1) := by decide +kernel
theorem dX2_read_19 : decode cX2_read 19 = .ok (.istore_n 3, 1) := by decide +kernel
theorem dX2_read_20 : decode cX2_read 20 = .ok (.iconst 0, 1) := by decide +kernel
theorem dX2_read_21 : decode cX2_read 21 = .ok (.istore 4, 2) := by decide +kernel
theorem dX2_read_23 : decode cX2_read 23 = .ok (.iload_n 3, 1) := by decide +kernel
theorem dX2_read_24 : decode cX2_read 24 = .ok (.ifCond .eq 27, 3) := by decide +kernel
theorem dX2_read_27 : decode cX2_read 27 = .ok (.iload 4, 2) := by decide +kernel
theorem dX2_read_29 : decode cX2_read 29 = .ok (.bipush 16, 2) := by decide +kernel
theorem dX2_read_31 : decode cX2_read 31 = .ok (.if_icmp .gt 20, 3) := by decide +kernel
theorem dX2_read_34 : decode cX2_read 34 = .ok (.aload_n 0, 1) := by decide +kernel
