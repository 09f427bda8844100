theorem dX6_canSpoil_6 : decode cX6_canSpoil 6 = .ok (.astore_n 3, 1) := by decide +kernel
theorem dX6_canSpoil_7 : decode cX6_canSpoil 7 = .ok (.aload_n 0, 1) := by decide +kernel
theorem dX6_canSpoil_8 : decode cX6_canSpoil 8 = .ok (.getfield 43, 3) := by decide +kernel
theorem dX6_canSpoil_11 : decode cX6_canSpoil 11 = .ok (.aload_n 0, 1) := by decide +kernel
theorem dX6_canSpoil_12 : decode cX6_canSpoil 12 = .ok (.getfield 39, 3) := by decide +kernel
theorem dX6_canSpoil_15 : decode cX6_canSpoil 15 = .ok (.getfield 99, 3) := by decide +kernel
theorem dX6_canSpoil_18 : decode cX6_canSpoil 18 = .ok (.iload_n 1, 1) := by decide +kernel
theorem dX6_canSpoil_19 : decode cX6_canSpoil 19 = .ok (.aload_n 0, 1) := by decide +kernel
theorem dX6_canSpoil_20 : decode cX6_canSpoil 20 = .ok (.getfield 39, 3) := by decide +kernel
theorem dX6_canSpoil_23 : decode cX6_canSpoil 23 = .ok (.getfield 51, 3) := by decide +kernel
theorem dX6_canSpoil_26 : decode cX6_canSpoil 26 = .ok (.aload_n 3, 1) := by decide +kernel
theorem dX6_canSpoil_27 : decode cX6_canSpoil 27 = .ok (.aload_n 0, 1) := by decide +kernel
theorem dX6_canSpoil_28 : decode cX6_canSpoil 28 = .ok (.getfield 39, 3) := by decide +kernel
theorem dX6_canSpoil_31 : decode cX6_canSpoil 31 = .ok (.getfield 116, 3) := by decide +kernel
theorem dX6_canSpoil_34 : decode cX6_canSpoil 34 = .ok (.iload_n 1, 1) := by decide +kernel
theorem dX6_canSpoil_35 : decode cX6_canSpoil 35 = .ok (.iadd, 1) := by decide +kernel
theorem dX6_canSpoil_36 : decode cX6_canSpoil 36 = .ok (.invokevirtual 119, 3) := by decide +kernel
theorem dX6_canSpoil_39 : decode cX6_canSpoil 39 = .ok (.aload_n 0, 1) := by decide +kernel
theorem dX6_canSpoil_40 : decode cX6_canSpoil 40 = .ok (.getfield 43, 3) := by decide +kernel
theorem dX6_canSpoil_43 : decode cX6_canSpoil 43 = .ok (.aload_n 0, 1) := by decide +kernel
theorem dX6_canSpoil_44 : decode cX6_canSpoil 44 = .ok (.getfield 39, 3) := by decide +kernel
theorem dX6_canSpoil_47 : decode cX6_canSpoil 47 = .ok (.getfield 123, 3) := by decide +kernel
theorem dX6_canSpoil_50 : decode cX6_canSpoil 50 = .ok (.aload_n 0, 1) := by decide +kernel
theorem dX6_canSpoil_51 : decode cX6_canSpoil 51 = .ok (.getfield 47, 3) := by decide +kernel
theorem dX6_canSpoil_54 : decode cX6_canSpoil 54 = .ok (.iconst (-1), 1) := by decide +kernel
theorem dX6_canSpoil_55 : decode cX6_canSpoil 55 = .ok (.ixor, 1) := by decide +kernel
theorem dX6_canSpoil_56 : decode cX6_canSpoil 56 = .ok (.iand, 1) := by decide +kernel
theorem dX6_canSpoil_57 : decode cX6_canSpoil 57 = .ok (.iload_n 2, 1) := by decide +kernel
theorem dX6_canSpoil_58 : decode cX6_canSpoil 58 = .ok (.iconst (-1), 1) := by decide +kernel
theorem dX6_canSpoil_59 : decode cX6_canSpoil 59 = .ok (.ixor, 1) := by decide +kernel
theorem dX6_canSpoil_60 : decode cX6_canSpoil 60 = .ok (.iand, 1) := by decide +kernel
theorem dX6_canSpoil_61 : decode cX6_canSpoil 61 = .ok (.invokevirtual 126, 3) := by decide +kernel
theorem dX6_canSpoil_64 : decode cX6_canSpoil 64 = .ok (.aload_n 0, 1) := by decide +kernel
theorem dX6_canSpoil_65 : decode cX6_canSpoil 65 = .ok (.getfield 43, 3) := by decide +kernel
theorem dX6_canSpoil_68 : decode cX6_canSpoil 68 = .ok (.getfield 129, 3) := by decide +kernel
theorem dX6_canSpoil_71 : decode cX6_canSpoil 71 = .ok (.aload_n 0, 1) := by decide +kernel
theorem dX6_canSpoil_72 : decode cX6_canSpoil 72 = .ok (.getfield 16, 3) := by decide +kernel
theorem dX6_canSpoil_75 : decode cX6_canSpoil 75 = .ok (.aload_n 0, 1) := by decide +kernel
theorem dX6_canSpoil_76 : decode cX6_canSpoil 76 = .ok (.getfield 29, 3) := by decide +kernel
theorem dX6_canSpoil_79 : decode cX6_canSpoil 79 = .ok (.iload_n 1, 1) := by decide +kernel
theorem dX6_canSpoil_80 : decode cX6_canSpoil 80 = .ok (.iaload, 1) := by decide +kernel
theorem dX6_canSpoil_81 : decode cX6_canSpoil 81 = .ok (.iaload, 1) := by decide +kernel
theorem dX6_canSpoil_82 : decode cX6_canSpoil 82 = .ok (.ior, 1) := by decide +kernel
theorem dX6_canSpoil_83 : decode cX6_canSpoil 83 = .ok (.istore 4, 2) := by decide +kernel
theorem dX6_canSpoil_85 : decode cX6_canSpoil 85 = .ok (.aload_n 0, 1) := by decide +kernel
theorem dX6_canSpoil_86 : decode cX6_canSpoil 86 = .ok (.getfield 43, 3) := by decide +kernel
theorem dX6_canSpoil_89 : decode cX6_canSpoil 89 = .ok (.getfield 132, 3) := by decide +kernel
theorem dX6_canSpoil_92 : decode cX6_canSpoil 92 = .ok (.aload_n 0, 1) := by decide +kernel
theorem dX6_canSpoil_93 : decode cX6_canSpoil 93 = .ok (.getfield 20, 3) := by decide +kernel
theorem dX6_canSpoil_96 : decode cX6_canSpoil 96 = .ok (.aload_n 0, 1) := by decide +kernel
theorem dX6_canSpoil_97 : decode cX6_canSpoil 97 = .ok (.getfield 29, 3) := by decide +kernel
theorem dX6_canSpoil_100 : decode cX6_canSpoil 100 = .ok (.iload_n 1, 1) := by decide +kernel
theorem dX6_canSpoil_101 : decode cX6_canSpoil 101 = .ok (.iaload, 1) := by decide +kernel
theorem dX6_canSpoil_102 : decode cX6_canSpoil 102 = .ok (.iaload, 1) := by decide +kernel
theorem dX6_canSpoil_103 : decode cX6_canSpoil 103 = .ok (.ior, 1) := by decide +kernel
theorem dX6_canSpoil_104 : decode cX6_canSpoil 104 = .ok (.istore 5, 2) := by decide +kernel
theorem dX6_canSpoil_106 : decode cX6_canSpoil 106 = .ok (.iload_n 1, 1) := by decide +kernel
theorem dX6_canSpoil_107 : decode cX6_canSpoil 107 = .ok (.aload_n 0, 1) := by decide +kernel
theorem dX6_canSpoil_108 : decode cX6_canSpoil 108 = .ok (.getfield 62, 3) := by decide +kernel
theorem dX6_canSpoil_111 : decode cX6_canSpoil 111 = .ok (.if_icmp .lt 26, 3) := by decide +kernel
theorem dX6_canSpoil_114 : decode cX6_canSpoil 114 = .ok (.aload_n 0, 1) := by decide +kernel
theorem dX6_canSpoil_115 : decode cX6_canSpoil 115 = .ok (.getfield 43, 3) := by decide +kernel
theorem dX6_canSpoil_118 : decode cX6_canSpoil 118 = .ok (.aload_n 3, 1) := by decide +kernel
theorem dX6_canSpoil_119 : decode cX6_canSpoil 119 = .ok (.iload 4, 2) := by decide +kernel
theorem dX6_canSpoil_121 : decode cX6_canSpoil 121 = .ok (.iload 5, 2) := by decide +kernel
theorem dX6_canSpoil_123 : decode cX6_canSpoil 123 = .ok (.iload_n 2, 1) := by decide +kernel
theorem dX6_canSpoil_124 : decode cX6_canSpoil 124 = .ok (.ior, 1) := by decide +kernel
theorem dX6_canSpoil_125 : decode cX6_canSpoil 125 = .ok (.invokevirtual 135, 3) := by decide +kernel
theorem dX6_canSpoil_128 : decode cX6_canSpoil 128 = .ok (.ifCond .gt 7, 3) := by decide +kernel
theorem dX6_canSpoil_131 : decode cX6_canSpoil 131 = .ok (.iconst 1, 1) := by decide +kernel
theorem dX6_canSpoil_132 : decode cX6_canSpoil 132 = .ok (.goto 4, 3) := by decide +kernel
theorem dX6_canSpoil_135 : decode cX6_canSpoil 135 = .ok (.iconst 0, 1) := by decide +kernel
theorem dX6_canSpoil_136 : decode cX6_canSpoil 136 = .ok (.ireturn, 1) := by decide +kernel
theorem dX6_canSpoil_137 : decode cX6_canSpoil 137 = .ok (.iconst 0, 1) := by decide +kernel
theorem dX6_canSpoil_138 : decode cX6_canSpoil 138 = .ok (.istore 6, 2) := by decide +kernel
theorem dX6_canSpoil_140 : decode cX6_canSpoil 140 = .ok (.iconst 0, 1) := by decide +kernel
theorem dX6_canSpoil_141 : decode cX6_canSpoil 141 = .ok (.istore 7, 2) := by decide +kernel
theorem dX6_canSpoil_143 : decode cX6_canSpoil 143 = .ok (.iload 7, 2) := by decide +kernel
theorem dX6_canSpoil_145 : decode cX6_canSpoil 145 = .ok (.getstatic 160, 3) := by decide +kernel
theorem dX6_canSpoil_148 : decode cX6_canSpoil 148 = .ok (.arraylength, 1) := by decide +kernel
theorem dX6_canSpoil_149 : decode cX6_canSpoil 149 = .ok (.if_icmp .ge 99, 3) := by decide +kernel
theorem dX6_canSpoil_152 : decode cX6_canSpoil 152 = .ok (.iload 6, 2) := by decide +kernel
theorem dX6_canSpoil_154 : decode cX6_canSpoil 154 = .ok (.ifCond .ne 94, 3) := by decide +kernel
theorem dX6_canSpoil_157 : decode cX6_canSpoil 157 = .ok (.getstatic 160, 3) := by decide +kernel
theorem dX6_canSpoil_160 : decode cX6_canSpoil 160 = .ok (.iload 7, 2) := by decide +kernel
theorem dX6_canSpoil_162 : decode cX6_canSpoil 162 = .ok (.iaload, 1) := by decide +kernel
theorem dX6_canSpoil_163 : decode cX6_canSpoil 163 = .ok (.iconst 1, 1) := by decide +kernel
theorem dX6_canSpoil_164 : decode cX6_canSpoil 164 = .ok (.if_icmp .ne 7, 3) := by decide +kernel
theorem dX6_canSpoil_167 : decode cX6_canSpoil 167 = .ok (.iload_n 2, 1) := by decide +kernel
theorem dX6_canSpoil_168 : decode cX6_canSpoil 168 = .ok (.goto 4, 3) := by decide +kernel
theorem dX6_canSpoil_171 : decode cX6_canSpoil 171 = .ok (.iconst 0, 1) := by decide +kernel
theorem dX6_canSpoil_172 : decode cX6_canSpoil 172 = .ok (.istore 8, 2) := by decide +kernel
theorem dX6_canSpoil_174 : decode cX6_canSpoil 174 = .ok (.getstatic 160, 3) := by decide +kernel
theorem dX6_canSpoil_177 : decode cX6_canSpoil 177 = .ok (.iload 7, 2) := by decide +kernel
theorem dX6_canSpoil_179 : decode cX6_canSpoil 179 = .ok (.iaload, 1) := by decide +kernel
theorem dX6_canSpoil_180 : decode cX6_canSpoil 180 = .ok (.ifCond .ne 7, 3) := by decide +kernel
theorem dX6_canSpoil_183 : decode cX6_canSpoil 183 = .ok (.iload_n 2, 1) := by decide +kernel
theorem dX6_canSpoil_184 : decode cX6_canSpoil 184 = .ok (.goto 4, 3) := by decide +kernel
theorem dX6_canSpoil_187 : decode cX6_canSpoil 187 = .ok (.iconst 0, 1) := by decide +kernel
theorem dX6_canSpoil_188 : decode cX6_canSpoil 188 = .ok (.istore 9, 2) := by decide +kernel
theorem dX6_canSpoil_190 : decode cX6_canSpoil 190 = .ok (.aload_n 3, 1) := by decide +kernel
theorem dX6_canSpoil_191 : decode cX6_canSpoil 191 = .ok (.iconst 0, 1) := by decide +kernel
theorem dX6_canSpoil_192 : decode cX6_canSpoil 192 = .ok (.aload_n 0, 1) := by decide +kernel
theorem dX6_canSpoil_193 : decode cX6_canSpoil 193 = .ok (.getfield 13, 3) := by decide +kernel
theorem dX6_canSpoil_196 : decode cX6_canSpoil 196 = .ok (.iload_n 1, 1) := by decide +kernel
theorem dX6_canSpoil_197 : decode cX6_canSpoil 197 = .ok (.iconst 1, 1) := by decide +kernel
theorem dX6_canSpoil_198 : decode cX6_canSpoil 198 = .ok (.iadd, 1) := by decide +kernel
theorem dX6_canSpoil_199 : decode cX6_canSpoil 199 = .ok (.aaload, 1) := by decide +kernel
theorem dX6_canSpoil_200 : decode cX6_canSpoil 200 = .ok (.iconst 0, 1) := by decide +kernel
theorem dX6_canSpoil_201 : decode cX6_canSpoil 201 = .ok (.bipush 10, 2) := by decide +kernel
theorem dX6_canSpoil_203 : decode cX6_canSpoil 203 = .ok (.invokestatic 80, 3) := by decide +kernel
theorem dX6_canSpoil_206 : decode cX6_canSpoil 206 = .ok (.aload_n 0, 1) := by decide +kernel
theorem dX6_canSpoil_207 : decode cX6_canSpoil 207 = .ok (.getfield 43, 3) := by decide +kernel
theorem dX6_canSpoil_210 : decode cX6_canSpoil 210 = .ok (.aload_n 0, 1) := by decide +kernel
theorem dX6_canSpoil_211 : decode cX6_canSpoil 211 = .ok (.getfield 13, 3) := by decide +kernel
theorem dX6_canSpoil_214 : decode cX6_canSpoil 214 = .ok (.iload_n 1, 1) := by decide +kernel
theorem dX6_canSpoil_215 : decode cX6_canSpoil 215 = .ok (.iconst 1, 1) := by decide +kernel
theorem dX6_canSpoil_216 : decode cX6_canSpoil 216 = .ok (.iadd, 1) := by decide +kernel
theorem dX6_canSpoil_217 : decode cX6_canSpoil 217 = .ok (.aaload, 1) := by decide +kernel
theorem dX6_canSpoil_218 : decode cX6_canSpoil 218 = .ok (.iload 4, 2) := by decide +kernel
theorem dX6_canSpoil_220 : decode cX6_canSpoil 220 = .ok (.iload 8, 2) := by decide +kernel
theorem dX6_canSpoil_222 : decode cX6_canSpoil 222 = .ok (.ior, 1) := by decide +kernel
theorem dX6_canSpoil_223 : decode cX6_canSpoil 223 = .ok (.iload 5, 2) := by decide +kernel
theorem dX6_canSpoil_225 : decode cX6_canSpoil 225 = .ok (.iload 9, 2) := by decide +kernel
theorem dX6_canSpoil_227 : decode cX6_canSpoil 227 = .ok (.ior, 1) := by decide +kernel
theorem dX6_canSpoil_228 : decode cX6_canSpoil 228 = .ok (.invokevirtual 142, 3) := by decide +kernel
theorem dX6_canSpoil_231 : decode cX6_canSpoil 231 = .ok (.pop, 1) := by decide +kernel
theorem dX6_canSpoil_232 : decode cX6_canSpoil 232 = .ok (.aload_n 0, 1) := by decide +kernel
theorem dX6_canSpoil_233 : decode cX6_canSpoil 233 = .ok (.iload_n 1, 1) := by decide +kernel
theorem dX6_canSpoil_234 : decode cX6_canSpoil 234 = .ok (.iconst 1, 1) := by decide +kernel
theorem dX6_canSpoil_235 : decode cX6_canSpoil 235 = .ok (.iadd, 1) := by decide +kernel
theorem dX6_canSpoil_236 : decode cX6_canSpoil 236 = .ok (.iload_n 2, 1) := by decide +kernel
theorem dX6_canSpoil_237 : decode cX6_canSpoil 237 = .ok (.invokevirtual 157, 3) := by decide +kernel
theorem dX6_canSpoil_240 : decode cX6_canSpoil 240 = .ok (.istore 6, 2) := by decide +kernel
theorem dX6_canSpoil_242 : decode cX6_canSpoil 242 = .ok (.iinc 7 1, 3) := by decide +kernel
theorem dX6_canSpoil_245 : decode cX6_canSpoil 245 = .ok (.goto (-102), 3) := by decide +kernel
theorem dX6_canSpoil_248 : decode cX6_canSpoil 248 = .ok (.iload 6, 2) := by decide +kernel
theorem dX6_canSpoil_250 : decode cX6_canSpoil 250 = .ok (.ireturn, 1) := by decide +kernel
theorem dX6_closeWith_0 : decode cX6_closeWith 0 = .ok (.aload_n 0, 1) := by decide +kernel
theorem dX6_closeWith_1 : decode cX6_closeWith 1 = .ok (.getfield 13, 3) := by decide +kernel
theorem dX6_closeWith_4 : decode cX6_closeWith 4 = .ok (.aload_n 0, 1) := by decide +kernel
theorem dX6_closeWith_5 : decode cX6_closeWith 5 = .ok (.getfield 62, 3) := by decide +kernel
theorem dX6_closeWith_8 : decode cX6_closeWith 8 = .ok (.aaload, 1) := by decide +kernel
theorem dX6_closeWith_9 : decode cX6_closeWith 9 = .ok (.astore_n 3, 1) := by decide +kernel
theorem dX6_closeWith_10 : decode cX6_closeWith 10 = .ok (.iload_n 1, 1) := by decide +kernel
theorem dX6_closeWith_11 : decode cX6_closeWith 11 = .ok (.aload_n 0, 1) := by decide +kernel
theorem dX6_closeWith_12 : decode cX6_closeWith 12 = .ok (.getfield 39, 3) := by decide +kernel
theorem dX6_closeWith_15 : decode cX6_closeWith 15 = .ok (.aload_n 3, 1) := by decide +kernel
theorem dX6_closeWith_16 : decode cX6_closeWith 16 = .ok (.aload_n 0, 1) := by decide +kernel
theorem dX6_closeWith_17 : decode cX6_closeWith 17 = .ok (.getfield 47, 3) := by decide +kernel
theorem dX6_closeWith_20 : decode cX6_closeWith 20 = .ok (.invokevirtual 153, 3) := by decide +kernel
theorem dX6_closeWith_23 : decode cX6_closeWith 23 = .ok (.iadd, 1) := by decide +kernel
theorem dX6_closeWith_24 : decode cX6_closeWith 24 = .ok (.ifCond .gt 4, 3) := by decide +kernel
theorem dX6_closeWith_27 : decode cX6_closeWith 27 = .ok (.return_, 1) := by decide +kernel
theorem dX6_closeWith_28 : decode cX6_closeWith 28 = .ok (.iconst 0, 1) := by decide +kernel
theorem dX6_closeWith_29 : decode cX6_closeWith 29 = .ok (.istore 4, 2) := by decide +kernel
theorem dX6_closeWith_31 : decode cX6_closeWith 31 = .ok (.iload 4, 2) := by decide +kernel
theorem dX6_closeWith_33 : decode cX6_closeWith 33 = .ok (.aload_n 0, 1) := by decide +kernel
theorem dX6_closeWith_34 : decode cX6_closeWith 34 = .ok (.getfield 90, 3) := by decide +kernel
theorem dX6_closeWith_37 : decode cX6_closeWith 37 = .ok (.if_icmp .ge 95, 3) := by decide +kernel
theorem dX6_closeWith_40 : decode cX6_closeWith 40 = .ok (.iload_n 2, 1) := by decide +kernel
theorem dX6_closeWith_41 : decode cX6_closeWith 41 = .ok (.aload_n 0, 1) := by decide +kernel
theorem dX6_closeWith_42 : decode cX6_closeWith 42 = .ok (.getfield 23, 3) := by decide +kernel
theorem dX6_closeWith_45 : decode cX6_closeWith 45 = .ok (.aload_n 0, 1) := by decide +kernel
theorem dX6_closeWith_46 : decode cX6_closeWith 46 = .ok (.getfield 62, 3) := by decide +kernel
theorem dX6_closeWith_49 : decode cX6_closeWith 49 = .ok (.bipush 27, 2) := by decide +kernel
theorem dX6_closeWith_51 : decode cX6_closeWith 51 = .ok (.imul, 1) := by decide +kernel
theorem dX6_closeWith_52 : decode cX6_closeWith 52 = .ok (.iload 4, 2) := by decide +kernel
theorem dX6_closeWith_54 : decode cX6_closeWith 54 = .ok (.iadd, 1) := by decide +kernel
theorem dX6_closeWith_55 : decode cX6_closeWith 55 = .ok (.iaload, 1) := by decide +kernel
theorem dX6_closeWith_56 : decode cX6_closeWith 56 = .ok (.iadd, 1) := by decide +kernel
theorem dX6_closeWith_57 : decode cX6_closeWith 57 = .ok (.istore 5, 2) := by decide +kernel
theorem dX6_closeWith_59 : decode cX6_closeWith 59 = .ok (.iload 5, 2) := by decide +kernel
theorem dX6_closeWith_61 : decode cX6_closeWith 61 = .ok (.aload_n 0, 1) := by decide +kernel
theorem dX6_closeWith_62 : decode cX6_closeWith 62 = .ok (.getfield 65, 3) := by decide +kernel
theorem dX6_closeWith_65 : decode cX6_closeWith 65 = .ok (.if_icmp .ge 61, 3) := by decide +kernel
theorem dX6_closeWith_68 : decode cX6_closeWith 68 = .ok (.iload_n 1, 1) := by decide +kernel
theorem dX6_closeWith_69 : decode cX6_closeWith 69 = .ok (.aload_n 0, 1) := by decide +kernel
theorem dX6_closeWith_70 : decode cX6_closeWith 70 = .ok (.getfield 43, 3) := by decide +kernel
theorem dX6_closeWith_73 : decode cX6_closeWith 73 = .ok (.aload_n 3, 1) := by decide +kernel
theorem dX6_closeWith_74 : decode cX6_closeWith 74 = .ok (.aload_n 0, 1) := by decide +kernel
theorem dX6_closeWith_75 : decode cX6_closeWith 75 = .ok (.getfield 16, 3) := by decide +kernel
theorem dX6_closeWith_78 : decode cX6_closeWith 78 = .ok (.iload 4, 2) := by decide +kernel
theorem dX6_closeWith_80 : decode cX6_closeWith 80 = .ok (.iaload, 1) := by decide +kernel
theorem dX6_closeWith_81 : decode cX6_closeWith 81 = .ok (.aload_n 0, 1) := by decide +kernel
theorem dX6_closeWith_82 : decode cX6_closeWith 82 = .ok (.getfield 20, 3) := by decide +kernel
theorem dX6_closeWith_85 : decode cX6_closeWith 85 = .ok (.iload 4, 2) := by decide +kernel
theorem dX6_closeWith_87 : decode cX6_closeWith 87 = .ok (.iaload, 1) := by decide +kernel
theorem dX6_closeWith_88 : decode cX6_closeWith 88 = .ok (.invokevirtual 135, 3) := by decide +kernel
theorem dX6_closeWith_91 : decode cX6_closeWith 91 = .ok (.iadd, 1) := by decide +kernel
theorem dX6_closeWith_92 : decode cX6_closeWith 92 = .ok (.ifCond .le 34, 3) := by decide +kernel
theorem dX6_closeWith_95 : decode cX6_closeWith 95 = .ok (.aload_n 0, 1) := by decide +kernel
theorem dX6_closeWith_96 : decode cX6_closeWith 96 = .ok (.iload 5, 2) := by decide +kernel
theorem dX6_closeWith_98 : decode cX6_closeWith 98 = .ok (.putfield 65, 3) := by decide +kernel
theorem dX6_closeWith_101 : decode cX6_closeWith 101 = .ok (.aload_n 0, 1) := by decide +kernel
theorem dX6_closeWith_102 : decode cX6_closeWith 102 = .ok (.getfield 26, 3) := by decide +kernel
theorem dX6_closeWith_105 : decode cX6_closeWith 105 = .ok (.aload_n 0, 1) := by decide +kernel
theorem dX6_closeWith_106 : decode cX6_closeWith 106 = .ok (.getfield 62, 3) := by decide +kernel
theorem dX6_closeWith_109 : decode cX6_closeWith 109 = .ok (.iload 4, 2) := by decide +kernel
theorem dX6_closeWith_111 : decode cX6_closeWith 111 = .ok (.iastore, 1) := by decide +kernel
theorem dX6_closeWith_112 : decode cX6_closeWith 112 = .ok (.aload_n 0, 1) := by decide +kernel
theorem dX6_closeWith_113 : decode cX6_closeWith 113 = .ok (.getfield 26, 3) := by decide +kernel
theorem dX6_closeWith_116 : decode cX6_closeWith 116 = .ok (.iconst 0, 1) := by decide +kernel
theorem dX6_closeWith_117 : decode cX6_closeWith 117 = .ok (.aload_n 0, 1) := by decide +kernel
theorem dX6_closeWith_118 : decode cX6_closeWith 118 = .ok (.getfield 29, 3) := by decide +kernel
theorem dX6_closeWith_121 : decode cX6_closeWith 121 = .ok (.iconst 0, 1) := by decide +kernel
theorem dX6_closeWith_122 : decode cX6_closeWith 122 = .ok (.iconst 4, 1) := by decide +kernel
theorem dX6_closeWith_123 : decode cX6_closeWith 123 = .ok (.invokestatic 80, 3) := by decide +kernel
theorem dX6_closeWith_126 : decode cX6_closeWith 126 = .ok (.iinc 4 1, 3) := by decide +kernel
theorem dX6_closeWith_129 : decode cX6_closeWith 129 = .ok (.goto (-98), 3) := by decide +kernel
theorem dX6_closeWith_132 : decode cX6_closeWith 132 = .ok (.return_, 1) := by decide +kernel
theorem dX6_descend_0 : decode cX6_descend 0 = .ok (.aload_n 0, 1) := by decide +kernel
theorem dX6_descend_1 : decode cX6_descend 1 = .ok (.getfield 13, 3) := by decide +kernel
theorem dX6_descend_4 : decode cX6_descend 4 = .ok (.iload_n 1, 1) := by decide +kernel
theorem dX6_descend_5 : decode cX6_descend 5 = .ok (.aaload, 1) := by decide +kernel
theorem dX6_descend_6 : decode cX6_descend 6 = .ok (.astore_n 3, 1) := by decide +kernel
theorem dX6_descend_7 : decode cX6_descend 7 = .ok (.aload_n 0, 1) := by decide +kernel
theorem dX6_descend_8 : decode cX6_descend 8 = .ok (.getfield 43, 3) := by decide +kernel
theorem dX6_descend_11 : decode cX6_descend 11 = .ok (.aload_n 0, 1) := by decide +kernel
theorem dX6_descend_12 : decode cX6_descend 12 = .ok (.getfield 39, 3) := by decide +kernel
theorem dX6_descend_15 : decode cX6_descend 15 = .ok (.getfield 99, 3) := by decide +kernel
theorem dX6_descend_18 : decode cX6_descend 18 = .ok (.iload_n 1, 1) := by decide +kernel
theorem dX6_descend_19 : decode cX6_descend 19 = .ok (.aload_n 0, 1) := by decide +kernel
theorem dX6_descend_20 : decode cX6_descend 20 = .ok (.getfield 39, 3) := by decide +kernel
theorem dX6_descend_23 : decode cX6_descend 23 = .ok (.getfield 51, 3) := by decide +kernel
theorem dX6_descend_26 : decode cX6_descend 26 = .ok (.aload_n 3, 1) := by decide +kernel
theorem dX6_descend_27 : decode cX6_descend 27 = .ok (.aload_n 0, 1) := by decide +kernel
theorem dX6_descend_28 : decode cX6_descend 28 = .ok (.getfield 39, 3) := by decide +kernel
theorem dX6_descend_31 : decode cX6_descend 31 = .ok (.getfield 116, 3) := by decide +kernel
theorem dX6_descend_34 : decode cX6_descend 34 = .ok (.iload_n 1, 1) := by decide +kernel
theorem dX6_descend_35 : decode cX6_descend 35 = .ok (.iadd, 1) := by decide +kernel
theorem dX6_descend_36 : decode cX6_descend 36 = .ok (.invokevirtual 119, 3) := by decide +kernel
theorem dX6_descend_39 : decode cX6_descend 39 = .ok (.aload_n 0, 1) := by decide +kernel
theorem dX6_descend_40 : decode cX6_descend 40 = .ok (.getfield 43, 3) := by decide +kernel
theorem dX6_descend_43 : decode cX6_descend 43 = .ok (.aload_n 0, 1) := by decide +kernel
theorem dX6_descend_44 : decode cX6_descend 44 = .ok (.getfield 39, 3) := by decide +kernel
theorem dX6_descend_47 : decode cX6_descend 47 = .ok (.getfield 123, 3) := by decide +kernel
theorem dX6_descend_50 : decode cX6_descend 50 = .ok (.aload_n 0, 1) := by decide +kernel
theorem dX6_descend_51 : decode cX6_descend 51 = .ok (.getfield 47, 3) := by decide +kernel
theorem dX6_descend_54 : decode cX6_descend 54 = .ok (.iconst (-1), 1) := by decide +kernel
theorem dX6_descend_55 : decode cX6_descend 55 = .ok (.ixor, 1) := by decide +kernel
theorem dX6_descend_56 : decode cX6_descend 56 = .ok (.iand, 1) := by decide +kernel
theorem dX6_descend_57 : decode cX6_descend 57 = .ok (.invokevirtual 126, 3) := by decide +kernel
theorem dX6_descend_60 : decode cX6_descend 60 = .ok (.aload_n 0, 1) := by decide +kernel
theorem dX6_descend_61 : decode cX6_descend 61 = .ok (.getfield 43, 3) := by decide +kernel
theorem dX6_descend_64 : decode cX6_descend 64 = .ok (.getfield 129, 3) := by decide +kernel
theorem dX6_descend_67 : decode cX6_descend 67 = .ok (.istore 4, 2) := by decide +kernel
theorem dX6_descend_69 : decode cX6_descend 69 = .ok (.aload_n 0, 1) := by decide +kernel
theorem dX6_descend_70 : decode cX6_descend 70 = .ok (.getfield 43, 3) := by decide +kernel
theorem dX6_descend_73 : decode cX6_descend 73 = .ok (.getfield 132, 3) := by decide +kernel
theorem dX6_descend_76 : decode cX6_descend 76 = .ok (.istore 5, 2) := by decide +kernel
theorem dX6_descend_78 : decode cX6_descend 78 = .ok (.iload_n 1, 1) := by decide +kernel
theorem dX6_descend_79 : decode cX6_descend 79 = .ok (.aload_n 0, 1) := by decide +kernel
theorem dX6_descend_80 : decode cX6_descend 80 = .ok (.getfield 62, 3) := by decide +kernel
theorem dX6_descend_83 : decode cX6_descend 83 = .ok (.if_icmp .lt 21, 3) := by decide +kernel
theorem dX6_descend_86 : decode cX6_descend 86 = .ok (.aload_n 0, 1) := by decide +kernel
theorem dX6_descend_87 : decode cX6_descend 87 = .ok (.aload_n 0, 1) := by decide +kernel
theorem dX6_descend_88 : decode cX6_descend 88 = .ok (.getfield 43, 3) := by decide +kernel
theorem dX6_descend_91 : decode cX6_descend 91 = .ok (.aload_n 3, 1) := by decide +kernel
theorem dX6_descend_92 : decode cX6_descend 92 = .ok (.iload 4, 2) := by decide +kernel
theorem dX6_descend_94 : decode cX6_descend 94 = .ok (.iload 5, 2) := by decide +kernel
theorem dX6_descend_96 : decode cX6_descend 96 = .ok (.invokevirtual 135, 3) := by decide +kernel
theorem dX6_descend_99 : decode cX6_descend 99 = .ok (.iload_n 2, 1) := by decide +kernel
theorem dX6_descend_100 : decode cX6_descend 100 = .ok (.invokevirtual 139, 3) := by decide +kernel
theorem dX6_descend_103 : decode cX6_descend 103 = .ok (.return_, 1) := by decide +kernel
theorem dX6_descend_104 : decode cX6_descend 104 = .ok (.iconst 0, 1) := by decide +kernel
theorem dX6_descend_105 : decode cX6_descend 105 = .ok (.istore 6, 2) := by decide +kernel
theorem dX6_descend_107 : decode cX6_descend 107 = .ok (.iload 6, 2) := by decide +kernel
theorem dX6_descend_109 : decode cX6_descend 109 = .ok (.aload_n 0, 1) := by decide +kernel
theorem dX6_descend_110 : decode cX6_descend 110 = .ok (.getfield 90, 3) := by decide +kernel
theorem dX6_descend_113 : decode cX6_descend 113 = .ok (.if_icmp .ge 115, 3) := by decide +kernel
theorem dX6_descend_116 : decode cX6_descend 116 = .ok (.iload_n 2, 1) := by decide +kernel
theorem dX6_descend_117 : decode cX6_descend 117 = .ok (.aload_n 0, 1) := by decide +kernel
theorem dX6_descend_118 : decode cX6_descend 118 = .ok (.getfield 23, 3) := by decide +kernel
theorem dX6_descend_121 : decode cX6_descend 121 = .ok (.iload_n 1, 1) := by decide +kernel
theorem dX6_descend_122 : decode cX6_descend 122 = .ok (.bipush 27, 2) := by decide +kernel
theorem dX6_descend_124 : decode cX6_descend 124 = .ok (.imul, 1) := by decide +kernel
theorem dX6_descend_125 : decode cX6_descend 125 = .ok (.iload 6, 2) := by decide +kernel
theorem dX6_descend_127 : decode cX6_descend 127 = .ok (.iadd, 1) := by decide +kernel
theorem dX6_descend_128 : decode cX6_descend 128 = .ok (.iaload, 1) := by decide +kernel
theorem dX6_descend_129 : decode cX6_descend 129 = .ok (.iadd, 1) := by decide +kernel
theorem dX6_descend_130 : decode cX6_descend 130 = .ok (.istore 7, 2) := by decide +kernel
theorem dX6_descend_132 : decode cX6_descend 132 = .ok (.iload 7, 2) := by decide +kernel
theorem dX6_descend_134 : decode cX6_descend 134 = .ok (.aload_n 0, 1) := by decide +kernel
theorem dX6_descend_135 : decode cX6_descend 135 = .ok (.getfield 65, 3) := by decide +kernel
theorem dX6_descend_138 : decode cX6_descend 138 = .ok (.if_icmp .ge 84, 3) := by decide +kernel
theorem dX6_descend_141 : decode cX6_descend 141 = .ok (.aload_n 3, 1) := by decide +kernel
theorem dX6_descend_142 : decode cX6_descend 142 = .ok (.iconst 0, 1) := by decide +kernel
theorem dX6_descend_143 : decode cX6_descend 143 = .ok (.aload_n 0, 1) := by decide +kernel
theorem dX6_descend_144 : decode cX6_descend 144 = .ok (.getfield 13, 3) := by decide +kernel
theorem dX6_descend_147 : decode cX6_descend 147 = .ok (.iload_n 1, 1) := by decide +kernel
theorem dX6_descend_148 : decode cX6_descend 148 = .ok (.iconst 1, 1) := by decide +kernel
theorem dX6_descend_149 : decode cX6_descend 149 = .ok (.iadd, 1) := by decide +kernel
theorem dX6_descend_150 : decode cX6_descend 150 = .ok (.aaload, 1) := by decide +kernel
theorem dX6_descend_151 : decode cX6_descend 151 = .ok (.iconst 0, 1) := by decide +kernel
theorem dX6_descend_152 : decode cX6_descend 152 = .ok (.bipush 10, 2) := by decide +kernel
theorem dX6_descend_154 : decode cX6_descend 154 = .ok (.invokestatic 80, 3) := by decide +kernel
theorem dX6_descend_157 : decode cX6_descend 157 = .ok (.aload_n 0, 1) := by decide +kernel
theorem dX6_descend_158 : decode cX6_descend 158 = .ok (.getfield 43, 3) := by decide +kernel
theorem dX6_descend_161 : decode cX6_descend 161 = .ok (.aload_n 0, 1) := by decide +kernel
theorem dX6_descend_162 : decode cX6_descend 162 = .ok (.getfield 13, 3) := by decide +kernel
theorem dX6_descend_165 : decode cX6_descend 165 = .ok (.iload_n 1, 1) := by decide +kernel
theorem dX6_descend_166 : decode cX6_descend 166 = .ok (.iconst 1, 1) := by decide +kernel
theorem dX6_descend_167 : decode cX6_descend 167 = .ok (.iadd, 1) := by decide +kernel
theorem dX6_descend_168 : decode cX6_descend 168 = .ok (.aaload, 1) := by decide +kernel
theorem dX6_descend_169 : decode cX6_descend 169 = .ok (.iload 4, 2) := by decide +kernel
theorem dX6_descend_171 : decode cX6_descend 171 = .ok (.aload_n 0, 1) := by decide +kernel
theorem dX6_descend_172 : decode cX6_descend 172 = .ok (.getfield 16, 3) := by decide +kernel
theorem dX6_descend_175 : decode cX6_descend 175 = .ok (.iload 6, 2) := by decide +kernel
theorem dX6_descend_177 : decode cX6_descend 177 = .ok (.iaload, 1) := by decide +kernel
theorem dX6_descend_178 : decode cX6_descend 178 = .ok (.ior, 1) := by decide +kernel
theorem dX6_descend_179 : decode cX6_descend 179 = .ok (.iload 5, 2) := by decide +kernel
theorem dX6_descend_181 : decode cX6_descend 181 = .ok (.aload_n 0, 1) := by decide +kernel
theorem dX6_descend_182 : decode cX6_descend 182 = .ok (.getfield 20, 3) := by decide +kernel
theorem dX6_descend_185 : decode cX6_descend 185 = .ok (.iload 6, 2) := by decide +kernel
theorem dX6_descend_187 : decode cX6_descend 187 = .ok (.iaload, 1) := by decide +kernel
theorem dX6_descend_188 : decode cX6_descend 188 = .ok (.ior, 1) := by decide +kernel
theorem dX6_descend_189 : decode cX6_descend 189 = .ok (.invokevirtual 142, 3) := by decide +kernel
theorem dX6_descend_192 : decode cX6_descend 192 = .ok (.pop, 1) := by decide +kernel
theorem dX6_descend_193 : decode cX6_descend 193 = .ok (.aload_n 0, 1) := by decide +kernel
theorem dX6_descend_194 : decode cX6_descend 194 = .ok (.getfield 26, 3) := by decide +kernel
theorem dX6_descend_197 : decode cX6_descend 197 = .ok (.iload_n 1, 1) := by decide +kernel
theorem dX6_descend_198 : decode cX6_descend 198 = .ok (.iload 6, 2) := by decide +kernel
theorem dX6_descend_200 : decode cX6_descend 200 = .ok (.iastore, 1) := by decide +kernel
theorem dX6_descend_201 : decode cX6_descend 201 = .ok (.aload_n 0, 1) := by decide +kernel
theorem dX6_descend_202 : decode cX6_descend 202 = .ok (.iload_n 1, 1) := by decide +kernel
theorem dX6_descend_203 : decode cX6_descend 203 = .ok (.iconst 1, 1) := by decide +kernel
theorem dX6_descend_204 : decode cX6_descend 204 = .ok (.iadd, 1) := by decide +kernel
theorem dX6_descend_205 : decode cX6_descend 205 = .ok (.iload 7, 2) := by decide +kernel
theorem dX6_descend_207 : decode cX6_descend 207 = .ok (.invokevirtual 145, 3) := by decide +kernel
theorem dX6_descend_210 : decode cX6_descend 210 = .ok (.ifCond .ne 12, 3) := by decide +kernel
theorem dX6_descend_213 : decode cX6_descend 213 = .ok (.aload_n 0, 1) := by decide +kernel
theorem dX6_descend_214 : decode cX6_descend 214 = .ok (.iload_n 1, 1) := by decide +kernel
theorem dX6_descend_215 : decode cX6_descend 215 = .ok (.iconst 1, 1) := by decide +kernel
theorem dX6_descend_216 : decode cX6_descend 216 = .ok (.iadd, 1) := by decide +kernel
theorem dX6_descend_217 : decode cX6_descend 217 = .ok (.iload 7, 2) := by decide +kernel
theorem dX6_descend_219 : decode cX6_descend 219 = .ok (.invokevirtual 86, 3) := by decide +kernel
theorem dX6_descend_222 : decode cX6_descend 222 = .ok (.iinc 6 1, 3) := by decide +kernel
theorem dX6_descend_225 : decode cX6_descend 225 = .ok (.goto (-118), 3) := by decide +kernel
theorem dX6_descend_228 : decode cX6_descend 228 = .ok (.return_, 1) := by decide +kernel
theorem dX6_init_0 : decode cX6_init 0 = .ok (.aload_n 0, 1) := by decide +kernel
theorem dX6_init_1 : decode cX6_init 1 = .ok (.invokespecial 3, 3) := by decide +kernel
theorem dX6_init_4 : decode cX6_init 4 = .ok (.aload_n 0, 1) := by decide +kernel
theorem dX6_init_5 : decode cX6_init 5 = .ok (.iconst 4, 1) := by decide +kernel
theorem dX6_init_6 : decode cX6_init 6 = .ok (.bipush 10, 2) := by decide +kernel
theorem dX6_init_8 : decode cX6_init 8 = .ok (.multianewarray 11 2, 4) := by decide +kernel
theorem dX6_init_12 : decode cX6_init 12 = .ok (.putfield 13, 3) := by decide +kernel
theorem dX6_init_15 : decode cX6_init 15 = .ok (.aload_n 0, 1) := by decide +kernel
theorem dX6_init_16 : decode cX6_init 16 = .ok (.bipush 27, 2) := by decide +kernel
theorem dX6_init_18 : decode cX6_init 18 = .ok (.newarray .int, 2) := by decide +kernel
theorem dX6_init_20 : decode cX6_init 20 = .ok (.putfield 16, 3) := by decide +kernel
theorem dX6_init_23 : decode cX6_init 23 = .ok (.aload_n 0, 1) := by decide +kernel
theorem dX6_init_24 : decode cX6_init 24 = .ok (.bipush 27, 2) := by decide +kernel
theorem dX6_init_26 : decode cX6_init 26 = .ok (.newarray .int, 2) := by decide +kernel
theorem dX6_init_28 : decode cX6_init 28 = .ok (.putfield 20, 3) := by decide +kernel
theorem dX6_init_31 : decode cX6_init 31 = .ok (.aload_n 0, 1) := by decide +kernel
theorem dX6_init_32 : decode cX6_init 32 = .ok (.bipush 108, 2) := by decide +kernel
theorem dX6_init_34 : decode cX6_init 34 = .ok (.newarray .int, 2) := by decide +kernel
theorem dX6_init_36 : decode cX6_init 36 = .ok (.putfield 23, 3) := by decide +kernel
theorem dX6_init_39 : decode cX6_init 39 = .ok (.aload_n 0, 1) := by decide +kernel
theorem dX6_init_40 : decode cX6_init 40 = .ok (.iconst 4, 1) := by decide +kernel
theorem dX6_init_41 : decode cX6_init 41 = .ok (.newarray .int, 2) := by decide +kernel
theorem dX6_init_43 : decode cX6_init 43 = .ok (.putfield 26, 3) := by decide +kernel
theorem dX6_init_46 : decode cX6_init 46 = .ok (.aload_n 0, 1) := by decide +kernel
theorem dX6_init_47 : decode cX6_init 47 = .ok (.iconst 4, 1) := by decide +kernel
theorem dX6_init_48 : decode cX6_init 48 = .ok (.newarray .int, 2) := by decide +kernel
theorem dX6_init_50 : decode cX6_init 50 = .ok (.putfield 29, 3) := by decide +kernel
theorem dX6_init_53 : decode cX6_init 53 = .ok (.aload_n 0, 1) := by decide +kernel
theorem dX6_init_54 : decode cX6_init 54 = .ok (.sipush 6144, 3) := by decide +kernel
theorem dX6_init_57 : decode cX6_init 57 = .ok (.newarray .long, 2) := by decide +kernel
theorem dX6_init_59 : decode cX6_init 59 = .ok (.putfield 32, 3) := by decide +kernel
theorem dX6_init_62 : decode cX6_init 62 = .ok (.aload_n 0, 1) := by decide +kernel
theorem dX6_init_63 : decode cX6_init 63 = .ok (.sipush 2048, 3) := by decide +kernel
theorem dX6_init_66 : decode cX6_init 66 = .ok (.newarray .int, 2) := by decide +kernel
theorem dX6_init_68 : decode cX6_init 68 = .ok (.putfield 36, 3) := by decide +kernel
theorem dX6_init_71 : decode cX6_init 71 = .ok (.aload_n 0, 1) := by decide +kernel
theorem dX6_init_72 : decode cX6_init 72 = .ok (.aload_n 1, 1) := by decide +kernel
theorem dX6_init_73 : decode cX6_init 73 = .ok (.putfield 39, 3) := by decide +kernel
theorem dX6_init_76 : decode cX6_init 76 = .ok (.aload_n 0, 1) := by decide +kernel
theorem dX6_init_77 : decode cX6_init 77 = .ok (.aload_n 2, 1) := by decide +kernel
theorem dX6_init_78 : decode cX6_init 78 = .ok (.putfield 43, 3) := by decide +kernel
theorem dX6_init_81 : decode cX6_init 81 = .ok (.return_, 1) := by decide +kernel
theorem dX6_isMet_0 : decode cX6_isMet 0 = .ok (.aload_n 0, 1) := by decide +kernel
theorem dX6_isMet_1 : decode cX6_isMet 1 = .ok (.getfield 13, 3) := by decide +kernel
theorem dX6_isMet_4 : decode cX6_isMet 4 = .ok (.iload_n 1, 1) := by decide +kernel
theorem dX6_isMet_5 : decode cX6_isMet 5 = .ok (.aaload, 1) := by decide +kernel
theorem dX6_isMet_6 : decode cX6_isMet 6 = .ok (.astore_n 3, 1) := by decide +kernel
theorem dX6_isMet_7 : decode cX6_isMet 7 = .ok (.iload_n 1, 1) := by decide +kernel
theorem dX6_isMet_8 : decode cX6_isMet 8 = .ok (.i2l, 1) := by decide +kernel
theorem dX6_isMet_9 : decode cX6_isMet 9 = .ok (.lstore 4, 2) := by decide +kernel
theorem dX6_isMet_11 : decode cX6_isMet 11 = .ok (.lconst 0, 1) := by decide +kernel
theorem dX6_isMet_12 : decode cX6_isMet 12 = .ok (.lstore 6, 2) := by decide +kernel
theorem dX6_isMet_14 : decode cX6_isMet 14 = .ok (.iconst 0, 1) := by decide +kernel
theorem dX6_isMet_15 : decode cX6_isMet 15 = .ok (.istore 8, 2) := by decide +kernel
theorem dX6_isMet_17 : decode cX6_isMet 17 = .ok (.iload 8, 2) := by decide +kernel
theorem dX6_isMet_19 : decode cX6_isMet 19 = .ok (.iconst 4, 1) := by decide +kernel
theorem dX6_isMet_20 : decode cX6_isMet 20 = .ok (.if_icmp .ge 37, 3) := by decide +kernel
theorem dX6_isMet_23 : decode cX6_isMet 23 = .ok (.lload 4, 2) := by decide +kernel
theorem dX6_isMet_25 : decode cX6_isMet 25 = .ok (.bipush 14, 2) := by decide +kernel
theorem dX6_isMet_27 : decode cX6_isMet 27 = .ok (.lshl, 1) := by decide +kernel
theorem dX6_isMet_28 : decode cX6_isMet 28 = .ok (.aload_n 3, 1) := by decide +kernel
theorem dX6_isMet_29 : decode cX6_isMet 29 = .ok (.iload 8, 2) := by decide +kernel
theorem dX6_isMet_31 : decode cX6_isMet 31 = .ok (.iaload, 1) := by decide +kernel
theorem dX6_isMet_32 : decode cX6_isMet 32 = .ok (.i2l, 1) := by decide +kernel
theorem dX6_isMet_33 : decode cX6_isMet 33 = .ok (.lor, 1) := by decide +kernel
theorem dX6_isMet_34 : decode cX6_isMet 34 = .ok (.lstore 4, 2) := by decide +kernel
theorem dX6_isMet_36 : decode cX6_isMet 36 = .ok (.lload 6, 2) := by decide +kernel
theorem dX6_isMet_38 : decode cX6_isMet 38 = .ok (.bipush 14, 2) := by decide +kernel
theorem dX6_isMet_40 : decode cX6_isMet 40 = .ok (.lshl, 1) := by decide +kernel
theorem dX6_isMet_41 : decode cX6_isMet 41 = .ok (.aload_n 3, 1) := by decide +kernel
theorem dX6_isMet_42 : decode cX6_isMet 42 = .ok (.iconst 4, 1) := by decide +kernel
theorem dX6_isMet_43 : decode cX6_isMet 43 = .ok (.iload 8, 2) := by decide +kernel
theorem dX6_isMet_45 : decode cX6_isMet 45 = .ok (.iadd, 1) := by decide +kernel
theorem dX6_isMet_46 : decode cX6_isMet 46 = .ok (.iaload, 1) := by decide +kernel
theorem dX6_isMet_47 : decode cX6_isMet 47 = .ok (.i2l, 1) := by decide +kernel
theorem dX6_isMet_48 : decode cX6_isMet 48 = .ok (.lor, 1) := by decide +kernel
theorem dX6_isMet_49 : decode cX6_isMet 49 = .ok (.lstore 6, 2) := by decide +kernel
theorem dX6_isMet_51 : decode cX6_isMet 51 = .ok (.iinc 8 1, 3) := by decide +kernel
theorem dX6_isMet_54 : decode cX6_isMet 54 = .ok (.goto (-37), 3) := by decide +kernel
theorem dX6_isMet_57 : decode cX6_isMet 57 = .ok (.aload_n 3, 1) := by decide +kernel
theorem dX6_isMet_58 : decode cX6_isMet 58 = .ok (.bipush 8, 2) := by decide +kernel
theorem dX6_isMet_60 : decode cX6_isMet 60 = .ok (.iaload, 1) := by decide +kernel
theorem dX6_isMet_61 : decode cX6_isMet 61 = .ok (.i2l, 1) := by decide +kernel
theorem dX6_isMet_62 : decode cX6_isMet 62 = .ok (.bipush 14, 2) := by decide +kernel
theorem dX6_isMet_64 : decode cX6_isMet 64 = .ok (.lshl, 1) := by decide +kernel
theorem dX6_isMet_65 : decode cX6_isMet 65 = .ok (.aload_n 3, 1) := by decide +kernel
theorem dX6_isMet_66 : decode cX6_isMet 66 = .ok (.bipush 9, 2) := by decide +kernel
theorem dX6_isMet_68 : decode cX6_isMet 68 = .ok (.iaload, 1) := by decide +kernel
theorem dX6_isMet_69 : decode cX6_isMet 69 = .ok (.i2l, 1) := by decide +kernel
theorem dX6_isMet_70 : decode cX6_isMet 70 = .ok (.lor, 1) := by decide +kernel
theorem dX6_isMet_71 : decode cX6_isMet 71 = .ok (.lstore 8, 2) := by decide +kernel
theorem dX6_isMet_73 : decode cX6_isMet 73 = .ok (.lload 4, 2) := by decide +kernel
theorem dX6_isMet_75 : decode cX6_isMet 75 = .ok (.ldc2_w 149, 3) := by decide +kernel
theorem dX6_isMet_78 : decode cX6_isMet 78 = .ok (.lmul, 1) := by decide +kernel
theorem dX6_isMet_79 : decode cX6_isMet 79 = .ok (.lload 6, 2) := by decide +kernel
theorem dX6_isMet_81 : decode cX6_isMet 81 = .ok (.ladd, 1) := by decide +kernel
theorem dX6_isMet_82 : decode cX6_isMet 82 = .ok (.ldc2_w 149, 3) := by decide +kernel
theorem dX6_isMet_85 : decode cX6_isMet 85 = .ok (.lmul, 1) := by decide +kernel
theorem dX6_isMet_86 : decode cX6_isMet 86 = .ok (.lload 8, 2) := by decide +kernel
theorem dX6_isMet_88 : decode cX6_isMet 88 = .ok (.ladd, 1) := by decide +kernel
theorem dX6_isMet_89 : decode cX6_isMet 89 = .ok (.lstore 10, 2) := by decide +kernel
theorem dX6_isMet_91 : decode cX6_isMet 91 = .ok (.lload 10, 2) := by decide +kernel
theorem dX6_isMet_93 : decode cX6_isMet 93 = .ok (.ldc2_w 151, 3) := by decide +kernel
theorem dX6_isMet_96 : decode cX6_isMet 96 = .ok (.lmul, 1) := by decide +kernel
theorem dX6_isMet_97 : decode cX6_isMet 97 = .ok (.bipush 53, 2) := by decide +kernel
theorem dX6_isMet_99 : decode cX6_isMet 99 = .ok (.lushr, 1) := by decide +kernel
theorem dX6_isMet_100 : decode cX6_isMet 100 = .ok (.l2i, 1) := by decide +kernel
theorem dX6_isMet_101 : decode cX6_isMet 101 = .ok (.istore 12, 2) := by decide +kernel
theorem dX6_isMet_103 : decode cX6_isMet 103 = .ok (.iload 12, 2) := by decide +kernel
theorem dX6_isMet_105 : decode cX6_isMet 105 = .ok (.iconst 3, 1) := by decide +kernel
theorem dX6_isMet_106 : decode cX6_isMet 106 = .ok (.imul, 1) := by decide +kernel
theorem dX6_isMet_107 : decode cX6_isMet 107 = .ok (.istore 13, 2) := by decide +kernel
theorem dX6_isMet_109 : decode cX6_isMet 109 = .ok (.aload_n 0, 1) := by decide +kernel
theorem dX6_isMet_110 : decode cX6_isMet 110 = .ok (.getfield 68, 3) := by decide +kernel
theorem dX6_isMet_113 : decode cX6_isMet 113 = .ok (.iconst 2, 1) := by decide +kernel
theorem dX6_isMet_114 : decode cX6_isMet 114 = .ok (.imul, 1) := by decide +kernel
theorem dX6_isMet_115 : decode cX6_isMet 115 = .ok (.bipush 100, 2) := by decide +kernel
theorem dX6_isMet_117 : decode cX6_isMet 117 = .ok (.imul, 1) := by decide +kernel
theorem dX6_isMet_118 : decode cX6_isMet 118 = .ok (.istore 14, 2) := by decide +kernel
theorem dX6_isMet_120 : decode cX6_isMet 120 = .ok (.aload_n 0, 1) := by decide +kernel
theorem dX6_isMet_121 : decode cX6_isMet 121 = .ok (.getfield 32, 3) := by decide +kernel
theorem dX6_isMet_124 : decode cX6_isMet 124 = .ok (.iload 13, 2) := by decide +kernel
theorem dX6_isMet_126 : decode cX6_isMet 126 = .ok (.laload, 1) := by decide +kernel
theorem dX6_isMet_127 : decode cX6_isMet 127 = .ok (.lload 4, 2) := by decide +kernel
theorem dX6_isMet_129 : decode cX6_isMet 129 = .ok (.lcmp, 1) := by decide +kernel
theorem dX6_isMet_130 : decode cX6_isMet 130 = .ok (.ifCond .ne 37, 3) := by decide +kernel
theorem dX6_isMet_133 : decode cX6_isMet 133 = .ok (.aload_n 0, 1) := by decide +kernel
theorem dX6_isMet_134 : decode cX6_isMet 134 = .ok (.getfield 32, 3) := by decide +kernel
theorem dX6_isMet_137 : decode cX6_isMet 137 = .ok (.iload 13, 2) := by decide +kernel
theorem dX6_isMet_139 : decode cX6_isMet 139 = .ok (.iconst 1, 1) := by decide +kernel
theorem dX6_isMet_140 : decode cX6_isMet 140 = .ok (.iadd, 1) := by decide +kernel
theorem dX6_isMet_141 : decode cX6_isMet 141 = .ok (.laload, 1) := by decide +kernel
theorem dX6_isMet_142 : decode cX6_isMet 142 = .ok (.lload 6, 2) := by decide +kernel
theorem dX6_isMet_144 : decode cX6_isMet 144 = .ok (.lcmp, 1) := by decide +kernel
theorem dX6_isMet_145 : decode cX6_isMet 145 = .ok (.ifCond .ne 22, 3) := by decide +kernel
theorem dX6_isMet_148 : decode cX6_isMet 148 = .ok (.aload_n 0, 1) := by decide +kernel
theorem dX6_isMet_149 : decode cX6_isMet 149 = .ok (.getfield 32, 3) := by decide +kernel
theorem dX6_isMet_152 : decode cX6_isMet 152 = .ok (.iload 13, 2) := by decide +kernel
theorem dX6_isMet_154 : decode cX6_isMet 154 = .ok (.iconst 2, 1) := by decide +kernel
theorem dX6_isMet_155 : decode cX6_isMet 155 = .ok (.iadd, 1) := by decide +kernel
theorem dX6_isMet_156 : decode cX6_isMet 156 = .ok (.laload, 1) := by decide +kernel
theorem dX6_isMet_157 : decode cX6_isMet 157 = .ok (.lload 8, 2) := by decide +kernel
theorem dX6_isMet_159 : decode cX6_isMet 159 = .ok (.lcmp, 1) := by decide +kernel
theorem dX6_isMet_160 : decode cX6_isMet 160 = .ok (.ifCond .ne 7, 3) := by decide +kernel
theorem dX6_isMet_163 : decode cX6_isMet 163 = .ok (.iconst 1, 1) := by decide +kernel
theorem dX6_isMet_164 : decode cX6_isMet 164 = .ok (.goto 4, 3) := by decide +kernel
theorem dX6_isMet_167 : decode cX6_isMet 167 = .ok (.iconst 0, 1) := by decide +kernel
theorem dX6_isMet_168 : decode cX6_isMet 168 = .ok (.istore 15, 2) := by decide +kernel
theorem dX6_isMet_170 : decode cX6_isMet 170 = .ok (.iload 15, 2) := by decide +kernel
theorem dX6_isMet_172 : decode cX6_isMet 172 = .ok (.ifCond .eq 31, 3) := by decide +kernel
theorem dX6_isMet_175 : decode cX6_isMet 175 = .ok (.aload_n 0, 1) := by decide +kernel
theorem dX6_isMet_176 : decode cX6_isMet 176 = .ok (.getfield 36, 3) := by decide +kernel
theorem dX6_isMet_179 : decode cX6_isMet 179 = .ok (.iload 12, 2) := by decide +kernel
theorem dX6_isMet_181 : decode cX6_isMet 181 = .ok (.iaload, 1) := by decide +kernel
theorem dX6_isMet_182 : decode cX6_isMet 182 = .ok (.iload 14, 2) := by decide +kernel
theorem dX6_isMet_184 : decode cX6_isMet 184 = .ok (.if_icmp .lt 19, 3) := by decide +kernel
theorem dX6_isMet_187 : decode cX6_isMet 187 = .ok (.aload_n 0, 1) := by decide +kernel
theorem dX6_isMet_188 : decode cX6_isMet 188 = .ok (.getfield 36, 3) := by decide +kernel
theorem dX6_isMet_191 : decode cX6_isMet 191 = .ok (.iload 12, 2) := by decide +kernel
theorem dX6_isMet_193 : decode cX6_isMet 193 = .ok (.iaload, 1) := by decide +kernel
theorem dX6_isMet_194 : decode cX6_isMet 194 = .ok (.iload 14, 2) := by decide +kernel
theorem dX6_isMet_196 : decode cX6_isMet 196 = .ok (.iload_n 2, 1) := by decide +kernel
theorem dX6_isMet_197 : decode cX6_isMet 197 = .ok (.iadd, 1) := by decide +kernel
theorem dX6_isMet_198 : decode cX6_isMet 198 = .ok (.if_icmp .gt 5, 3) := by decide +kernel
theorem dX6_isMet_201 : decode cX6_isMet 201 = .ok (.iconst 1, 1) := by decide +kernel
theorem dX6_isMet_202 : decode cX6_isMet 202 = .ok (.ireturn, 1) := by decide +kernel
theorem dX6_isMet_203 : decode cX6_isMet 203 = .ok (.aload_n 0, 1) := by decide +kernel
theorem dX6_isMet_204 : decode cX6_isMet 204 = .ok (.getfield 32, 3) := by decide +kernel
theorem dX6_isMet_207 : decode cX6_isMet 207 = .ok (.iload 13, 2) := by decide +kernel
theorem dX6_isMet_209 : decode cX6_isMet 209 = .ok (.lload 4, 2) := by decide +kernel
theorem dX6_isMet_211 : decode cX6_isMet 211 = .ok (.lastore, 1) := by decide +kernel
theorem dX6_isMet_212 : decode cX6_isMet 212 = .ok (.aload_n 0, 1) := by decide +kernel
theorem dX6_isMet_213 : decode cX6_isMet 213 = .ok (.getfield 32, 3) := by decide +kernel
theorem dX6_isMet_216 : decode cX6_isMet 216 = .ok (.iload 13, 2) := by decide +kernel
theorem dX6_isMet_218 : decode cX6_isMet 218 = .ok (.iconst 1, 1) := by decide +kernel
theorem dX6_isMet_219 : decode cX6_isMet 219 = .ok (.iadd, 1) := by decide +kernel
theorem dX6_isMet_220 : decode cX6_isMet 220 = .ok (.lload 6, 2) := by decide +kernel
theorem dX6_isMet_222 : decode cX6_isMet 222 = .ok (.lastore, 1) := by decide +kernel
theorem dX6_isMet_223 : decode cX6_isMet 223 = .ok (.aload_n 0, 1) := by decide +kernel
theorem dX6_isMet_224 : decode cX6_isMet 224 = .ok (.getfield 32, 3) := by decide +kernel
theorem dX6_isMet_227 : decode cX6_isMet 227 = .ok (.iload 13, 2) := by decide +kernel
theorem dX6_isMet_229 : decode cX6_isMet 229 = .ok (.iconst 2, 1) := by decide +kernel
theorem dX6_isMet_230 : decode cX6_isMet 230 = .ok (.iadd, 1) := by decide +kernel
theorem dX6_isMet_231 : decode cX6_isMet 231 = .ok (.lload 8, 2) := by decide +kernel
theorem dX6_isMet_233 : decode cX6_isMet 233 = .ok (.lastore, 1) := by decide +kernel
theorem dX6_isMet_234 : decode cX6_isMet 234 = .ok (.aload_n 0, 1) := by decide +kernel
theorem dX6_isMet_235 : decode cX6_isMet 235 = .ok (.getfield 36, 3) := by decide +kernel
theorem dX6_isMet_238 : decode cX6_isMet 238 = .ok (.iload 12, 2) := by decide +kernel
theorem dX6_isMet_240 : decode cX6_isMet 240 = .ok (.iload 14, 2) := by decide +kernel
theorem dX6_isMet_242 : decode cX6_isMet 242 = .ok (.iload_n 2, 1) := by decide +kernel
theorem dX6_isMet_243 : decode cX6_isMet 243 = .ok (.iadd, 1) := by decide +kernel
theorem dX6_isMet_244 : decode cX6_isMet 244 = .ok (.iastore, 1) := by decide +kernel
theorem dX6_isMet_245 : decode cX6_isMet 245 = .ok (.iconst 0, 1) := by decide +kernel
theorem dX6_isMet_246 : decode cX6_isMet 246 = .ok (.ireturn, 1) := by decide +kernel
theorem dX6_layOutChoices_0 : decode cX6_layOutChoices 0 = .ok (.aload_n 0, 1) := by decide +kernel
theorem dX6_layOutChoices_1 : decode cX6_layOutChoices 1 = .ok (.iconst 1, 1) := by decide +kernel
theorem dX6_layOutChoices_2 : decode cX6_layOutChoices 2 = .ok (.putfield 90, 3) := by decide +kernel
theorem dX6_layOutChoices_5 : decode cX6_layOutChoices 5 = .ok (.aload_n 0, 1) := by decide +kernel
theorem dX6_layOutChoices_6 : decode cX6_layOutChoices 6 = .ok (.getfield 16, 3) := by decide +kernel
theorem dX6_layOutChoices_9 : decode cX6_layOutChoices 9 = .ok (.iconst 0, 1) := by decide +kernel
theorem dX6_layOutChoices_10 : decode cX6_layOutChoices 10 = .ok (.iconst 0, 1) := by decide +kernel
theorem dX6_layOutChoices_11 : decode cX6_layOutChoices 11 = .ok (.iastore, 1) := by decide +kernel
theorem dX6_layOutChoices_12 : decode cX6_layOutChoices 12 = .ok (.aload_n 0, 1) := by decide +kernel
theorem dX6_layOutChoices_13 : decode cX6_layOutChoices 13 = .ok (.getfield 20, 3) := by decide +kernel
theorem dX6_layOutChoices_16 : decode cX6_layOutChoices 16 = .ok (.iconst 0, 1) := by decide +kernel
theorem dX6_layOutChoices_17 : decode cX6_layOutChoices 17 = .ok (.iconst 0, 1) := by decide +kernel
theorem dX6_layOutChoices_18 : decode cX6_layOutChoices 18 = .ok (.iastore, 1) := by decide +kernel
theorem dX6_layOutChoices_19 : decode cX6_layOutChoices 19 = .ok (.aload_n 0, 1) := by decide +kernel
theorem dX6_layOutChoices_20 : decode cX6_layOutChoices 20 = .ok (.getfield 39, 3) := by decide +kernel
theorem dX6_layOutChoices_23 : decode cX6_layOutChoices 23 = .ok (.getfield 93, 3) := by decide +kernel
theorem dX6_layOutChoices_26 : decode cX6_layOutChoices 26 = .ok (.iconst 1, 1) := by decide +kernel
theorem dX6_layOutChoices_27 : decode cX6_layOutChoices 27 = .ok (.isub, 1) := by decide +kernel
theorem dX6_layOutChoices_28 : decode cX6_layOutChoices 28 = .ok (.istore_n 1, 1) := by decide +kernel
theorem dX6_layOutChoices_29 : decode cX6_layOutChoices 29 = .ok (.iload_n 1, 1) := by decide +kernel
theorem dX6_layOutChoices_30 : decode cX6_layOutChoices 30 = .ok (.ifCond .lt 39, 3) := by decide +kernel
theorem dX6_layOutChoices_33 : decode cX6_layOutChoices 33 = .ok (.aload_n 0, 1) := by decide +kernel
theorem dX6_layOutChoices_34 : decode cX6_layOutChoices 34 = .ok (.getfield 47, 3) := by decide +kernel
theorem dX6_layOutChoices_37 : decode cX6_layOutChoices 37 = .ok (.iload_n 1, 1) := by decide +kernel
theorem dX6_layOutChoices_38 : decode cX6_layOutChoices 38 = .ok (.ishr, 1) := by decide +kernel
theorem dX6_layOutChoices_39 : decode cX6_layOutChoices 39 = .ok (.iconst 1, 1) := by decide +kernel
theorem dX6_layOutChoices_40 : decode cX6_layOutChoices 40 = .ok (.iand, 1) := by decide +kernel
theorem dX6_layOutChoices_41 : decode cX6_layOutChoices 41 = .ok (.iconst 1, 1) := by decide +kernel
theorem dX6_layOutChoices_42 : decode cX6_layOutChoices 42 = .ok (.if_icmp .ne 21, 3) := by decide +kernel
theorem dX6_layOutChoices_45 : decode cX6_layOutChoices 45 = .ok (.aload_n 0, 1) := by decide +kernel
theorem dX6_layOutChoices_46 : decode cX6_layOutChoices 46 = .ok (.getfield 90, 3) := by decide +kernel
theorem dX6_layOutChoices_49 : decode cX6_layOutChoices 49 = .ok (.iconst 3, 1) := by decide +kernel
theorem dX6_layOutChoices_50 : decode cX6_layOutChoices 50 = .ok (.imul, 1) := by decide +kernel
theorem dX6_layOutChoices_51 : decode cX6_layOutChoices 51 = .ok (.bipush 27, 2) := by decide +kernel
theorem dX6_layOutChoices_53 : decode cX6_layOutChoices 53 = .ok (.if_icmp .gt 10, 3) := by decide +kernel
theorem dX6_layOutChoices_56 : decode cX6_layOutChoices 56 = .ok (.aload_n 0, 1) := by decide +kernel
theorem dX6_layOutChoices_57 : decode cX6_layOutChoices 57 = .ok (.iconst 1, 1) := by decide +kernel
theorem dX6_layOutChoices_58 : decode cX6_layOutChoices 58 = .ok (.iload_n 1, 1) := by decide +kernel
theorem dX6_layOutChoices_59 : decode cX6_layOutChoices 59 = .ok (.ishl, 1) := by decide +kernel
theorem dX6_layOutChoices_60 : decode cX6_layOutChoices 60 = .ok (.invokevirtual 96, 3) := by decide +kernel
theorem dX6_layOutChoices_63 : decode cX6_layOutChoices 63 = .ok (.iinc 1 (-1), 3) := by decide +kernel
theorem dX6_layOutChoices_66 : decode cX6_layOutChoices 66 = .ok (.goto (-37), 3) := by decide +kernel
theorem dX6_layOutChoices_69 : decode cX6_layOutChoices 69 = .ok (.return_, 1) := by decide +kernel
theorem dX6_priceChoices_0 : decode cX6_priceChoices 0 = .ok (.iconst 0, 1) := by decide +kernel
theorem dX6_priceChoices_1 : decode cX6_priceChoices 1 = .ok (.istore_n 2, 1) := by decide +kernel
theorem dX6_priceChoices_2 : decode cX6_priceChoices 2 = .ok (.iconst 0, 1) := by decide +kernel
theorem dX6_priceChoices_3 : decode cX6_priceChoices 3 = .ok (.istore_n 3, 1) := by decide +kernel
theorem dX6_priceChoices_4 : decode cX6_priceChoices 4 = .ok (.iconst 0, 1) := by decide +kernel
theorem dX6_priceChoices_5 : decode cX6_priceChoices 5 = .ok (.istore 4, 2) := by decide +kernel
theorem dX6_priceChoices_7 : decode cX6_priceChoices 7 = .ok (.iload 4, 2) := by decide +kernel
theorem dX6_priceChoices_9 : decode cX6_priceChoices 9 = .ok (.aload_n 0, 1) := by decide +kernel
theorem dX6_priceChoices_10 : decode cX6_priceChoices 10 = .ok (.getfield 39, 3) := by decide +kernel
theorem dX6_priceChoices_13 : decode cX6_priceChoices 13 = .ok (.getfield 93, 3) := by decide +kernel
theorem dX6_priceChoices_16 : decode cX6_priceChoices 16 = .ok (.if_icmp .ge 65, 3) := by decide +kernel
theorem dX6_priceChoices_19 : decode cX6_priceChoices 19 = .ok (.aload_n 0, 1) := by decide +kernel
theorem dX6_priceChoices_20 : decode cX6_priceChoices 20 = .ok (.getfield 39, 3) := by decide +kernel
theorem dX6_priceChoices_23 : decode cX6_priceChoices 23 = .ok (.iload 4, 2) := by decide +kernel
theorem dX6_priceChoices_25 : decode cX6_priceChoices 25 = .ok (.aload_n 0, 1) := by decide +kernel
theorem dX6_priceChoices_26 : decode cX6_priceChoices 26 = .ok (.getfield 39, 3) := by decide +kernel
theorem dX6_priceChoices_29 : decode cX6_priceChoices 29 = .ok (.getfield 99, 3) := by decide +kernel
theorem dX6_priceChoices_32 : decode cX6_priceChoices 32 = .ok (.iload_n 1, 1) := by decide +kernel
theorem dX6_priceChoices_33 : decode cX6_priceChoices 33 = .ok (.iaload, 1) := by decide +kernel
theorem dX6_priceChoices_34 : decode cX6_priceChoices 34 = .ok (.invokevirtual 102, 3) := by decide +kernel
theorem dX6_priceChoices_37 : decode cX6_priceChoices 37 = .ok (.invokestatic 105, 3) := by decide +kernel
theorem dX6_priceChoices_40 : decode cX6_priceChoices 40 = .ok (.istore 5, 2) := by decide +kernel
theorem dX6_priceChoices_42 : decode cX6_priceChoices 42 = .ok (.iload_n 2, 1) := by decide +kernel
theorem dX6_priceChoices_43 : decode cX6_priceChoices 43 = .ok (.iload 5, 2) := by decide +kernel
theorem dX6_priceChoices_45 : decode cX6_priceChoices 45 = .ok (.iconst 1, 1) := by decide +kernel
theorem dX6_priceChoices_46 : decode cX6_priceChoices 46 = .ok (.if_icmp .ne 10, 3) := by decide +kernel
theorem dX6_priceChoices_49 : decode cX6_priceChoices 49 = .ok (.iconst 1, 1) := by decide +kernel
theorem dX6_priceChoices_50 : decode cX6_priceChoices 50 = .ok (.iload 4, 2) := by decide +kernel
theorem dX6_priceChoices_52 : decode cX6_priceChoices 52 = .ok (.ishl, 1) := by decide +kernel
theorem dX6_priceChoices_53 : decode cX6_priceChoices 53 = .ok (.goto 4, 3) := by decide +kernel
theorem dX6_priceChoices_56 : decode cX6_priceChoices 56 = .ok (.iconst 0, 1) := by decide +kernel
theorem dX6_priceChoices_57 : decode cX6_priceChoices 57 = .ok (.ior, 1) := by decide +kernel
theorem dX6_priceChoices_58 : decode cX6_priceChoices 58 = .ok (.istore_n 2, 1) := by decide +kernel
theorem dX6_priceChoices_59 : decode cX6_priceChoices 59 = .ok (.iload_n 3, 1) := by decide +kernel
theorem dX6_priceChoices_60 : decode cX6_priceChoices 60 = .ok (.iload 5, 2) := by decide +kernel
theorem dX6_priceChoices_62 : decode cX6_priceChoices 62 = .ok (.ifCond .ne 10, 3) := by decide +kernel
theorem dX6_priceChoices_65 : decode cX6_priceChoices 65 = .ok (.iconst 1, 1) := by decide +kernel
theorem dX6_priceChoices_66 : decode cX6_priceChoices 66 = .ok (.iload 4, 2) := by decide +kernel
theorem dX6_priceChoices_68 : decode cX6_priceChoices 68 = .ok (.ishl, 1) := by decide +kernel
theorem dX6_priceChoices_69 : decode cX6_priceChoices 69 = .ok (.goto 4, 3) := by decide +kernel
theorem dX6_priceChoices_72 : decode cX6_priceChoices 72 = .ok (.iconst 0, 1) := by decide +kernel
theorem dX6_priceChoices_73 : decode cX6_priceChoices 73 = .ok (.ior, 1) := by decide +kernel
theorem dX6_priceChoices_74 : decode cX6_priceChoices 74 = .ok (.istore_n 3, 1) := by decide +kernel
theorem dX6_priceChoices_75 : decode cX6_priceChoices 75 = .ok (.iinc 4 1, 3) := by decide +kernel
theorem dX6_priceChoices_78 : decode cX6_priceChoices 78 = .ok (.goto (-71), 3) := by decide +kernel
theorem dX6_priceChoices_81 : decode cX6_priceChoices 81 = .ok (.iconst 0, 1) := by decide +kernel
theorem dX6_priceChoices_82 : decode cX6_priceChoices 82 = .ok (.istore 4, 2) := by decide +kernel
theorem dX6_priceChoices_84 : decode cX6_priceChoices 84 = .ok (.iload 4, 2) := by decide +kernel
theorem dX6_priceChoices_86 : decode cX6_priceChoices 86 = .ok (.aload_n 0, 1) := by decide +kernel
theorem dX6_priceChoices_87 : decode cX6_priceChoices 87 = .ok (.getfield 90, 3) := by decide +kernel
theorem dX6_priceChoices_90 : decode cX6_priceChoices 90 = .ok (.if_icmp .ge 52, 3) := by decide +kernel
theorem dX6_priceChoices_93 : decode cX6_priceChoices 93 = .ok (.aload_n 0, 1) := by decide +kernel
theorem dX6_priceChoices_94 : decode cX6_priceChoices 94 = .ok (.getfield 16, 3) := by decide +kernel
theorem dX6_priceChoices_97 : decode cX6_priceChoices 97 = .ok (.iload 4, 2) := by decide +kernel
theorem dX6_priceChoices_99 : decode cX6_priceChoices 99 = .ok (.iaload, 1) := by decide +kernel
theorem dX6_priceChoices_100 : decode cX6_priceChoices 100 = .ok (.iload_n 2, 1) := by decide +kernel
theorem dX6_priceChoices_101 : decode cX6_priceChoices 101 = .ok (.ixor, 1) := by decide +kernel
theorem dX6_priceChoices_102 : decode cX6_priceChoices 102 = .ok (.aload_n 0, 1) := by decide +kernel
theorem dX6_priceChoices_103 : decode cX6_priceChoices 103 = .ok (.getfield 20, 3) := by decide +kernel
theorem dX6_priceChoices_106 : decode cX6_priceChoices 106 = .ok (.iload 4, 2) := by decide +kernel
theorem dX6_priceChoices_108 : decode cX6_priceChoices 108 = .ok (.iaload, 1) := by decide +kernel
theorem dX6_priceChoices_109 : decode cX6_priceChoices 109 = .ok (.iload_n 3, 1) := by decide +kernel
theorem dX6_priceChoices_110 : decode cX6_priceChoices 110 = .ok (.ixor, 1) := by decide +kernel
theorem dX6_priceChoices_111 : decode cX6_priceChoices 111 = .ok (.ior, 1) := by decide +kernel
theorem dX6_priceChoices_112 : decode cX6_priceChoices 112 = .ok (.istore 5, 2) := by decide +kernel
theorem dX6_priceChoices_114 : decode cX6_priceChoices 114 = .ok (.aload_n 0, 1) := by decide +kernel
theorem dX6_priceChoices_115 : decode cX6_priceChoices 115 = .ok (.getfield 23, 3) := by decide +kernel
theorem dX6_priceChoices_118 : decode cX6_priceChoices 118 = .ok (.iload_n 1, 1) := by decide +kernel
theorem dX6_priceChoices_119 : decode cX6_priceChoices 119 = .ok (.bipush 27, 2) := by decide +kernel
theorem dX6_priceChoices_121 : decode cX6_priceChoices 121 = .ok (.imul, 1) := by decide +kernel
theorem dX6_priceChoices_122 : decode cX6_priceChoices 122 = .ok (.iload 4, 2) := by decide +kernel
theorem dX6_priceChoices_124 : decode cX6_priceChoices 124 = .ok (.iadd, 1) := by decide +kernel
theorem dX6_priceChoices_125 : decode cX6_priceChoices 125 = .ok (.iload 5, 2) := by decide +kernel
theorem dX6_priceChoices_127 : decode cX6_priceChoices 127 = .ok (.aload_n 0, 1) := by decide +kernel
theorem dX6_priceChoices_128 : decode cX6_priceChoices 128 = .ok (.getfield 47, 3) := by decide +kernel
theorem dX6_priceChoices_131 : decode cX6_priceChoices 131 = .ok (.iand, 1) := by decide +kernel
theorem dX6_priceChoices_132 : decode cX6_priceChoices 132 = .ok (.invokestatic 111, 3) := by decide +kernel
theorem dX6_priceChoices_135 : decode cX6_priceChoices 135 = .ok (.iastore, 1) := by decide +kernel
theorem dX6_priceChoices_136 : decode cX6_priceChoices 136 = .ok (.iinc 4 1, 3) := by decide +kernel
theorem dX6_priceChoices_139 : decode cX6_priceChoices 139 = .ok (.goto (-55), 3) := by decide +kernel
theorem dX6_priceChoices_142 : decode cX6_priceChoices 142 = .ok (.return_, 1) := by decide +kernel
theorem dX6_sayingAt_0 : decode cX6_sayingAt 0 = .ok (.aload_n 0, 1) := by decide +kernel
theorem dX6_sayingAt_1 : decode cX6_sayingAt 1 = .ok (.getfield 29, 3) := by decide +kernel
theorem dX6_sayingAt_4 : decode cX6_sayingAt 4 = .ok (.iload_n 1, 1) := by decide +kernel
theorem dX6_sayingAt_5 : decode cX6_sayingAt 5 = .ok (.iaload, 1) := by decide +kernel
theorem dX6_sayingAt_6 : decode cX6_sayingAt 6 = .ok (.istore_n 3, 1) := by decide +kernel
theorem dX6_sayingAt_7 : decode cX6_sayingAt 7 = .ok (.aload_n 0, 1) := by decide +kernel
theorem dX6_sayingAt_8 : decode cX6_sayingAt 8 = .ok (.getfield 16, 3) := by decide +kernel
theorem dX6_sayingAt_11 : decode cX6_sayingAt 11 = .ok (.iload_n 3, 1) := by decide +kernel
theorem dX6_sayingAt_12 : decode cX6_sayingAt 12 = .ok (.iaload, 1) := by decide +kernel
theorem dX6_sayingAt_13 : decode cX6_sayingAt 13 = .ok (.iload_n 2, 1) := by decide +kernel
theorem dX6_sayingAt_14 : decode cX6_sayingAt 14 = .ok (.ishr, 1) := by decide +kernel
theorem dX6_sayingAt_15 : decode cX6_sayingAt 15 = .ok (.iconst 1, 1) := by decide +kernel
theorem dX6_sayingAt_16 : decode cX6_sayingAt 16 = .ok (.iand, 1) := by decide +kernel
theorem dX6_sayingAt_17 : decode cX6_sayingAt 17 = .ok (.iconst 1, 1) := by decide +kernel
theorem dX6_sayingAt_18 : decode cX6_sayingAt 18 = .ok (.if_icmp .ne 5, 3) := by decide +kernel
theorem dX6_sayingAt_21 : decode cX6_sayingAt 21 = .ok (.iconst 1, 1) := by decide +kernel
theorem dX6_sayingAt_22 : decode cX6_sayingAt 22 = .ok (.ireturn, 1) := by decide +kernel
theorem dX6_sayingAt_23 : decode cX6_sayingAt 23 = .ok (.aload_n 0, 1) := by decide +kernel
theorem dX6_sayingAt_24 : decode cX6_sayingAt 24 = .ok (.getfield 20, 3) := by decide +kernel
theorem dX6_sayingAt_27 : decode cX6_sayingAt 27 = .ok (.iload_n 3, 1) := by decide +kernel
theorem dX6_sayingAt_28 : decode cX6_sayingAt 28 = .ok (.iaload, 1) := by decide +kernel
theorem dX6_sayingAt_29 : decode cX6_sayingAt 29 = .ok (.iload_n 2, 1) := by decide +kernel
theorem dX6_sayingAt_30 : decode cX6_sayingAt 30 = .ok (.ishr, 1) := by decide +kernel
theorem dX6_sayingAt_31 : decode cX6_sayingAt 31 = .ok (.iconst 1, 1) := by decide +kernel
theorem dX6_sayingAt_32 : decode cX6_sayingAt 32 = .ok (.iand, 1) := by decide +kernel
theorem dX6_sayingAt_33 : decode cX6_sayingAt 33 = .ok (.iconst 1, 1) := by decide +kernel
theorem dX6_sayingAt_34 : decode cX6_sayingAt 34 = .ok (.if_icmp .ne 7, 3) := by decide +kernel
theorem dX6_sayingAt_37 : decode cX6_sayingAt 37 = .ok (.iconst 0, 1) := by decide +kernel
theorem dX6_sayingAt_38 : decode cX6_sayingAt 38 = .ok (.goto 4, 3) := by decide +kernel
theorem dX6_sayingAt_41 : decode cX6_sayingAt 41 = .ok (.iconst 2, 1) := by decide +kernel
theorem dX6_sayingAt_42 : decode cX6_sayingAt 42 = .ok (.ireturn, 1) := by decide +kernel
theorem dX6_search_0 : decode cX6_search 0 = .ok (.aload_n 0, 1) := by decide +kernel
theorem dX6_search_1 : decode cX6_search 1 = .ok (.iload_n 1, 1) := by decide +kernel
theorem dX6_search_2 : decode cX6_search 2 = .ok (.putfield 47, 3) := by decide +kernel
theorem dX6_search_5 : decode cX6_search 5 = .ok (.aload_n 0, 1) := by decide +kernel
theorem dX6_search_6 : decode cX6_search 6 = .ok (.aload_n 0, 1) := by decide +kernel
theorem dX6_search_7 : decode cX6_search 7 = .ok (.getfield 39, 3) := by decide +kernel
theorem dX6_search_10 : decode cX6_search 10 = .ok (.getfield 51, 3) := by decide +kernel
theorem dX6_search_13 : decode cX6_search 13 = .ok (.iconst 4, 1) := by decide +kernel
theorem dX6_search_14 : decode cX6_search 14 = .ok (.invokestatic 56, 3) := by decide +kernel
theorem dX6_search_17 : decode cX6_search 17 = .ok (.iconst 1, 1) := by decide +kernel
theorem dX6_search_18 : decode cX6_search 18 = .ok (.isub, 1) := by decide +kernel
theorem dX6_search_19 : decode cX6_search 19 = .ok (.putfield 62, 3) := by decide +kernel
theorem dX6_search_22 : decode cX6_search 22 = .ok (.aload_n 0, 1) := by decide +kernel
theorem dX6_search_23 : decode cX6_search 23 = .ok (.bipush 100, 2) := by decide +kernel
theorem dX6_search_25 : decode cX6_search 25 = .ok (.putfield 65, 3) := by decide +kernel
theorem dX6_search_28 : decode cX6_search 28 = .ok (.aload_n 0, 1) := by decide +kernel
theorem dX6_search_29 : decode cX6_search 29 = .ok (.dup, 1) := by decide +kernel
theorem dX6_search_30 : decode cX6_search 30 = .ok (.getfield 68, 3) := by decide +kernel
theorem dX6_search_33 : decode cX6_search 33 = .ok (.iconst 1, 1) := by decide +kernel
theorem dX6_search_34 : decode cX6_search 34 = .ok (.iadd, 1) := by decide +kernel
theorem dX6_search_35 : decode cX6_search 35 = .ok (.putfield 68, 3) := by decide +kernel
theorem dX6_search_38 : decode cX6_search 38 = .ok (.aload_n 0, 1) := by decide +kernel
theorem dX6_search_39 : decode cX6_search 39 = .ok (.invokevirtual 71, 3) := by decide +kernel
theorem dX6_search_42 : decode cX6_search 42 = .ok (.iconst 0, 1) := by decide +kernel
theorem dX6_search_43 : decode cX6_search 43 = .ok (.istore_n 2, 1) := by decide +kernel
theorem dX6_search_44 : decode cX6_search 44 = .ok (.iload_n 2, 1) := by decide +kernel
theorem dX6_search_45 : decode cX6_search 45 = .ok (.aload_n 0, 1) := by decide +kernel
theorem dX6_search_46 : decode cX6_search 46 = .ok (.getfield 62, 3) := by decide +kernel
theorem dX6_search_49 : decode cX6_search 49 = .ok (.if_icmp .gt 14, 3) := by decide +kernel
theorem dX6_search_52 : decode cX6_search 52 = .ok (.aload_n 0, 1) := by decide +kernel
theorem dX6_search_53 : decode cX6_search 53 = .ok (.iload_n 2, 1) := by decide +kernel
theorem dX6_search_54 : decode cX6_search 54 = .ok (.invokevirtual 74, 3) := by decide +kernel
theorem dX6_search_57 : decode cX6_search 57 = .ok (.iinc 2 1, 3) := by decide +kernel
theorem dX6_search_60 : decode cX6_search 60 = .ok (.goto (-16), 3) := by decide +kernel
theorem dX6_search_63 : decode cX6_search 63 = .ok (.aload_n 0, 1) := by decide +kernel
theorem dX6_search_64 : decode cX6_search 64 = .ok (.getfield 39, 3) := by decide +kernel
theorem dX6_search_67 : decode cX6_search 67 = .ok (.getfield 78, 3) := by decide +kernel
theorem dX6_search_70 : decode cX6_search 70 = .ok (.iconst 0, 1) := by decide +kernel
theorem dX6_search_71 : decode cX6_search 71 = .ok (.aload_n 0, 1) := by decide +kernel
theorem dX6_search_72 : decode cX6_search 72 = .ok (.getfield 13, 3) := by decide +kernel
theorem dX6_search_75 : decode cX6_search 75 = .ok (.iconst 0, 1) := by decide +kernel
theorem dX6_search_76 : decode cX6_search 76 = .ok (.aaload, 1) := by decide +kernel
theorem dX6_search_77 : decode cX6_search 77 = .ok (.iconst 0, 1) := by decide +kernel
theorem dX6_search_78 : decode cX6_search 78 = .ok (.bipush 10, 2) := by decide +kernel
theorem dX6_search_80 : decode cX6_search 80 = .ok (.invokestatic 80, 3) := by decide +kernel
theorem dX6_search_83 : decode cX6_search 83 = .ok (.aload_n 0, 1) := by decide +kernel
theorem dX6_search_84 : decode cX6_search 84 = .ok (.iconst 0, 1) := by decide +kernel
theorem dX6_search_85 : decode cX6_search 85 = .ok (.iconst 0, 1) := by decide +kernel
theorem dX6_search_86 : decode cX6_search 86 = .ok (.invokevirtual 86, 3) := by decide +kernel
theorem dX6_search_89 : decode cX6_search 89 = .ok (.aload_n 0, 1) := by decide +kernel
theorem dX6_search_90 : decode cX6_search 90 = .ok (.getfield 65, 3) := by decide +kernel
theorem dX6_search_93 : decode cX6_search 93 = .ok (.bipush 100, 2) := by decide +kernel
theorem dX6_search_95 : decode cX6_search 95 = .ok (.if_icmp .ge 7, 3) := by decide +kernel
theorem dX6_search_98 : decode cX6_search 98 = .ok (.iconst 1, 1) := by decide +kernel
theorem dX6_search_99 : decode cX6_search 99 = .ok (.goto 4, 3) := by decide +kernel
theorem dX6_search_102 : decode cX6_search 102 = .ok (.iconst 0, 1) := by decide +kernel
theorem dX6_search_103 : decode cX6_search 103 = .ok (.ireturn, 1) := by decide +kernel
theorem dX6_spoilingSet_0 : decode cX6_spoilingSet 0 = .ok (.iconst 0, 1) := by decide +kernel
theorem dX6_spoilingSet_1 : decode cX6_spoilingSet 1 = .ok (.istore_n 1, 1) := by decide +kernel
theorem dX6_spoilingSet_2 : decode cX6_spoilingSet 2 = .ok (.iconst 0, 1) := by decide +kernel
theorem dX6_spoilingSet_3 : decode cX6_spoilingSet 3 = .ok (.istore_n 2, 1) := by decide +kernel
theorem dX6_spoilingSet_4 : decode cX6_spoilingSet 4 = .ok (.iload_n 2, 1) := by decide +kernel
theorem dX6_spoilingSet_5 : decode cX6_spoilingSet 5 = .ok (.aload_n 0, 1) := by decide +kernel
theorem dX6_spoilingSet_6 : decode cX6_spoilingSet 6 = .ok (.getfield 39, 3) := by decide +kernel
theorem dX6_spoilingSet_9 : decode cX6_spoilingSet 9 = .ok (.getfield 93, 3) := by decide +kernel
theorem dX6_spoilingSet_12 : decode cX6_spoilingSet 12 = .ok (.if_icmp .ge 45, 3) := by decide +kernel
theorem dX6_spoilingSet_15 : decode cX6_spoilingSet 15 = .ok (.iconst 1, 1) := by decide +kernel
theorem dX6_spoilingSet_16 : decode cX6_spoilingSet 16 = .ok (.iload_n 2, 1) := by decide +kernel
theorem dX6_spoilingSet_17 : decode cX6_spoilingSet 17 = .ok (.ishl, 1) := by decide +kernel
theorem dX6_spoilingSet_18 : decode cX6_spoilingSet 18 = .ok (.istore_n 3, 1) := by decide +kernel
theorem dX6_spoilingSet_19 : decode cX6_spoilingSet 19 = .ok (.aload_n 0, 1) := by decide +kernel
theorem dX6_spoilingSet_20 : decode cX6_spoilingSet 20 = .ok (.getfield 39, 3) := by decide +kernel
theorem dX6_spoilingSet_23 : decode cX6_spoilingSet 23 = .ok (.getfield 123, 3) := by decide +kernel
theorem dX6_spoilingSet_26 : decode cX6_spoilingSet 26 = .ok (.aload_n 0, 1) := by decide +kernel
theorem dX6_spoilingSet_27 : decode cX6_spoilingSet 27 = .ok (.getfield 47, 3) := by decide +kernel
theorem dX6_spoilingSet_30 : decode cX6_spoilingSet 30 = .ok (.iconst (-1), 1) := by decide +kernel
theorem dX6_spoilingSet_31 : decode cX6_spoilingSet 31 = .ok (.ixor, 1) := by decide +kernel
theorem dX6_spoilingSet_32 : decode cX6_spoilingSet 32 = .ok (.iand, 1) := by decide +kernel
theorem dX6_spoilingSet_33 : decode cX6_spoilingSet 33 = .ok (.iload_n 3, 1) := by decide +kernel
theorem dX6_spoilingSet_34 : decode cX6_spoilingSet 34 = .ok (.iand, 1) := by decide +kernel
theorem dX6_spoilingSet_35 : decode cX6_spoilingSet 35 = .ok (.ifCond .eq 16, 3) := by decide +kernel
theorem dX6_spoilingSet_38 : decode cX6_spoilingSet 38 = .ok (.aload_n 0, 1) := by decide +kernel
theorem dX6_spoilingSet_39 : decode cX6_spoilingSet 39 = .ok (.iconst 0, 1) := by decide +kernel
theorem dX6_spoilingSet_40 : decode cX6_spoilingSet 40 = .ok (.iload_n 3, 1) := by decide +kernel
theorem dX6_spoilingSet_41 : decode cX6_spoilingSet 41 = .ok (.invokevirtual 157, 3) := by decide +kernel
theorem dX6_spoilingSet_44 : decode cX6_spoilingSet 44 = .ok (.ifCond .eq 7, 3) := by decide +kernel
theorem dX6_spoilingSet_47 : decode cX6_spoilingSet 47 = .ok (.iload_n 1, 1) := by decide +kernel
theorem dX6_spoilingSet_48 : decode cX6_spoilingSet 48 = .ok (.iload_n 3, 1) := by decide +kernel
theorem dX6_spoilingSet_49 : decode cX6_spoilingSet 49 = .ok (.ior, 1) := by decide +kernel
theorem dX6_spoilingSet_50 : decode cX6_spoilingSet 50 = .ok (.istore_n 1, 1) := by decide +kernel
theorem dX6_spoilingSet_51 : decode cX6_spoilingSet 51 = .ok (.iinc 2 1, 3) := by decide +kernel
theorem dX6_spoilingSet_54 : decode cX6_spoilingSet 54 = .ok (.goto (-50), 3) := by decide +kernel
theorem dX6_spoilingSet_57 : decode cX6_spoilingSet 57 = .ok (.iload_n 1, 1) := by decide +kernel
theorem dX6_spoilingSet_58 : decode cX6_spoilingSet 58 = .ok (.ireturn, 1) := by decide +kernel
theorem dX7_init_0 : decode cX7_init 0 = .ok (.aload_n 0, 1) := by decide +kernel
theorem dX7_init_1 : decode cX7_init 1 = .ok (.invokespecial 3, 3) := by decide +kernel
theorem dX7_init_4 : decode cX7_init 4 = .ok (.aload_n 0, 1) := by decide +kernel
theorem dX7_init_5 : decode cX7_init 5 = .ok (.bipush 8, 2) := by decide +kernel
theorem dX7_init_7 : decode cX7_init 7 = .ok (.newarray .long, 2) := by decide +kernel
theorem dX7_init_9 : decode cX7_init 9 = .ok (.putfield 11, 3) := by decide +kernel
theorem dX7_init_12 : decode cX7_init 12 = .ok (.iconst 0, 1) := by decide +kernel
theorem dX7_init_13 : decode cX7_init 13 = .ok (.iload_n 2, 1) := by decide +kernel
theorem dX7_init_14 : decode cX7_init 14 = .ok (.aload_n 1, 1) := by decide +kernel
theorem dX7_init_15 : decode cX7_init 15 = .ok (.arraylength, 1) := by decide +kernel
theorem dX7_init_16 : decode cX7_init 16 = .ok (.invokestatic 15, 3) := by decide +kernel
theorem dX7_init_19 : decode cX7_init 19 = .ok (.invokestatic 21, 3) := by decide +kernel
theorem dX7_init_22 : decode cX7_init 22 = .ok (.newarray .int, 2) := by decide +kernel
theorem dX7_init_24 : decode cX7_init 24 = .ok (.astore_n 3, 1) := by decide +kernel
theorem dX7_init_25 : decode cX7_init 25 = .ok (.aload_n 1, 1) := by decide +kernel
theorem dX7_init_26 : decode cX7_init 26 = .ok (.iconst 0, 1) := by decide +kernel
theorem dX7_init_27 : decode cX7_init 27 = .ok (.aload_n 3, 1) := by decide +kernel
theorem dX7_init_28 : decode cX7_init 28 = .ok (.iconst 0, 1) := by decide +kernel
theorem dX7_init_29 : decode cX7_init 29 = .ok (.aload_n 3, 1) := by decide +kernel
theorem dX7_init_30 : decode cX7_init 30 = .ok (.arraylength, 1) := by decide +kernel
theorem dX7_init_31 : decode cX7_init 31 = .ok (.invokestatic 24, 3) := by decide +kernel
theorem dX7_init_34 : decode cX7_init 34 = .ok (.aload_n 0, 1) := by decide +kernel
theorem dX7_init_35 : decode cX7_init 35 = .ok (.aload_n 3, 1) := by decide +kernel
theorem dX7_init_36 : decode cX7_init 36 = .ok (.putfield 30, 3) := by decide +kernel
theorem dX7_init_39 : decode cX7_init 39 = .ok (.return_, 1) := by decide +kernel
theorem dX7_joined_0 : decode cX7_joined 0 = .ok (.iload_n 0, 1) := by decide +kernel
theorem dX7_joined_1 : decode cX7_joined 1 = .ok (.tableswitch 121 2 9 #[47, 51, 55, 59, 73, 85, 97, 109], 47) := by decide +kernel
theorem dX7_joined_48 : decode cX7_joined 48 = .ok (.lload_n 1, 1) := by decide +kernel
theorem dX7_joined_49 : decode cX7_joined 49 = .ok (.lload_n 3, 1) := by decide +kernel
theorem dX7_joined_50 : decode cX7_joined 50 = .ok (.ladd, 1) := by decide +kernel
theorem dX7_joined_51 : decode cX7_joined 51 = .ok (.lreturn, 1) := by decide +kernel
theorem dX7_joined_52 : decode cX7_joined 52 = .ok (.lload_n 1, 1) := by decide +kernel
theorem dX7_joined_53 : decode cX7_joined 53 = .ok (.lload_n 3, 1) := by decide +kernel
theorem dX7_joined_54 : decode cX7_joined 54 = .ok (.lsub, 1) := by decide +kernel
theorem dX7_joined_55 : decode cX7_joined 55 = .ok (.lreturn, 1) := by decide +kernel
theorem dX7_joined_56 : decode cX7_joined 56 = .ok (.lload_n 1, 1) := by decide +kernel
theorem dX7_joined_57 : decode cX7_joined 57 = .ok (.lload_n 3, 1) := by decide +kernel
theorem dX7_joined_58 : decode cX7_joined 58 = .ok (.lmul, 1) := by decide +kernel
theorem dX7_joined_59 : decode cX7_joined 59 = .ok (.lreturn, 1) := by decide +kernel
theorem dX7_joined_60 : decode cX7_joined 60 = .ok (.lload_n 3, 1) := by decide +kernel
theorem dX7_joined_61 : decode cX7_joined 61 = .ok (.lconst 0, 1) := by decide +kernel
theorem dX7_joined_62 : decode cX7_joined 62 = .ok (.lcmp, 1) := by decide +kernel
theorem dX7_joined_63 : decode cX7_joined 63 = .ok (.ifCond .ne 7, 3) := by decide +kernel
theorem dX7_joined_66 : decode cX7_joined 66 = .ok (.lconst 0, 1) := by decide +kernel
theorem dX7_joined_67 : decode cX7_joined 67 = .ok (.goto 6, 3) := by decide +kernel
theorem dX7_joined_70 : decode cX7_joined 70 = .ok (.lload_n 1, 1) := by decide +kernel
theorem dX7_joined_71 : decode cX7_joined 71 = .ok (.lload_n 3, 1) := by decide +kernel
theorem dX7_joined_72 : decode cX7_joined 72 = .ok (.ldiv, 1) := by decide +kernel
theorem dX7_joined_73 : decode cX7_joined 73 = .ok (.lreturn, 1) := by decide +kernel
theorem dX7_joined_74 : decode cX7_joined 74 = .ok (.lload_n 1, 1) := by decide +kernel
theorem dX7_joined_75 : decode cX7_joined 75 = .ok (.lload_n 3, 1) := by decide +kernel
theorem dX7_joined_76 : decode cX7_joined 76 = .ok (.lcmp, 1) := by decide +kernel
theorem dX7_joined_77 : decode cX7_joined 77 = .ok (.ifCond .ge 7, 3) := by decide +kernel
theorem dX7_joined_80 : decode cX7_joined 80 = .ok (.lconst 1, 1) := by decide +kernel
theorem dX7_joined_81 : decode cX7_joined 81 = .ok (.goto 4, 3) := by decide +kernel
theorem dX7_joined_84 : decode cX7_joined 84 = .ok (.lconst 0, 1) := by decide +kernel
theorem dX7_joined_85 : decode cX7_joined 85 = .ok (.lreturn, 1) := by decide +kernel
theorem dX7_joined_86 : decode cX7_joined 86 = .ok (.lload_n 1, 1) := by decide +kernel
theorem dX7_joined_87 : decode cX7_joined 87 = .ok (.lload_n 3, 1) := by decide +kernel
theorem dX7_joined_88 : decode cX7_joined 88 = .ok (.lcmp, 1) := by decide +kernel
theorem dX7_joined_89 : decode cX7_joined 89 = .ok (.ifCond .gt 7, 3) := by decide +kernel
theorem dX7_joined_92 : decode cX7_joined 92 = .ok (.lconst 1, 1) := by decide +kernel
theorem dX7_joined_93 : decode cX7_joined 93 = .ok (.goto 4, 3) := by decide +kernel
theorem dX7_joined_96 : decode cX7_joined 96 = .ok (.lconst 0, 1) := by decide +kernel
theorem dX7_joined_97 : decode cX7_joined 97 = .ok (.lreturn, 1) := by decide +kernel
theorem dX7_joined_98 : decode cX7_joined 98 = .ok (.lload_n 1, 1) := by decide +kernel
theorem dX7_joined_99 : decode cX7_joined 99 = .ok (.lload_n 3, 1) := by decide +kernel
theorem dX7_joined_100 : decode cX7_joined 100 = .ok (.lcmp, 1) := by decide +kernel
theorem dX7_joined_101 : decode cX7_joined 101 = .ok (.ifCond .ne 7, 3) := by decide +kernel
theorem dX7_joined_104 : decode cX7_joined 104 = .ok (.lconst 1, 1) := by decide +kernel
theorem dX7_joined_105 : decode cX7_joined 105 = .ok (.goto 4, 3) := by decide +kernel
theorem dX7_joined_108 : decode cX7_joined 108 = .ok (.lconst 0, 1) := by decide +kernel
theorem dX7_joined_109 : decode cX7_joined 109 = .ok (.lreturn, 1) := by decide +kernel
theorem dX7_joined_110 : decode cX7_joined 110 = .ok (.lload_n 1, 1) := by decide +kernel
theorem dX7_joined_111 : decode cX7_joined 111 = .ok (.lload_n 3, 1) := by decide +kernel
theorem dX7_joined_112 : decode cX7_joined 112 = .ok (.lcmp, 1) := by decide +kernel
theorem dX7_joined_113 : decode cX7_joined 113 = .ok (.ifCond .lt 7, 3) := by decide +kernel
theorem dX7_joined_116 : decode cX7_joined 116 = .ok (.lconst 1, 1) := by decide +kernel
theorem dX7_joined_117 : decode cX7_joined 117 = .ok (.goto 4, 3) := by decide +kernel
theorem dX7_joined_120 : decode cX7_joined 120 = .ok (.lconst 0, 1) := by decide +kernel
theorem dX7_joined_121 : decode cX7_joined 121 = .ok (.lreturn, 1) := by decide +kernel
theorem dX7_joined_122 : decode cX7_joined 122 = .ok (.lload_n 1, 1) := by decide +kernel
theorem dX7_joined_123 : decode cX7_joined 123 = .ok (.lload_n 3, 1) := by decide +kernel
theorem dX7_joined_124 : decode cX7_joined 124 = .ok (.lcmp, 1) := by decide +kernel
theorem dX7_joined_125 : decode cX7_joined 125 = .ok (.ifCond .le 7, 3) := by decide +kernel
theorem dX7_joined_128 : decode cX7_joined 128 = .ok (.lconst 1, 1) := by decide +kernel
theorem dX7_joined_129 : decode cX7_joined 129 = .ok (.goto 4, 3) := by decide +kernel
theorem dX7_joined_132 : decode cX7_joined 132 = .ok (.lconst 0, 1) := by decide +kernel
theorem dX7_joined_133 : decode cX7_joined 133 = .ok (.lreturn, 1) := by decide +kernel
theorem dX7_kindOf_0 : decode cX7_kindOf 0 = .ok (.iload_n 0, 1) := by decide +kernel
theorem dX7_kindOf_1 : decode cX7_kindOf 1 = .ok (.bipush 15, 2) := by decide +kernel
theorem dX7_kindOf_3 : decode cX7_kindOf 3 = .ok (.iand, 1) := by decide +kernel
theorem dX7_kindOf_4 : decode cX7_kindOf 4 = .ok (.ireturn, 1) := by decide +kernel
theorem dX7_sayingOf_0 : decode cX7_sayingOf 0 = .ok (.iconst (-1), 1) := by decide +kernel
theorem dX7_sayingOf_1 : decode cX7_sayingOf 1 = .ok (.istore_n 3, 1) := by decide +kernel
theorem dX7_sayingOf_2 : decode cX7_sayingOf 2 = .ok (.iconst 0, 1) := by decide +kernel
theorem dX7_sayingOf_3 : decode cX7_sayingOf 3 = .ok (.istore 4, 2) := by decide +kernel
theorem dX7_sayingOf_5 : decode cX7_sayingOf 5 = .ok (.iload 4, 2) := by decide +kernel
theorem dX7_sayingOf_7 : decode cX7_sayingOf 7 = .ok (.aload_n 0, 1) := by decide +kernel
theorem dX7_sayingOf_8 : decode cX7_sayingOf 8 = .ok (.getfield 30, 3) := by decide +kernel
theorem dX7_sayingOf_11 : decode cX7_sayingOf 11 = .ok (.arraylength, 1) := by decide +kernel
theorem dX7_sayingOf_12 : decode cX7_sayingOf 12 = .ok (.if_icmp .ge 239, 3) := by decide +kernel
theorem dX7_sayingOf_15 : decode cX7_sayingOf 15 = .ok (.aload_n 0, 1) := by decide +kernel
theorem dX7_sayingOf_16 : decode cX7_sayingOf 16 = .ok (.getfield 30, 3) := by decide +kernel
theorem dX7_sayingOf_19 : decode cX7_sayingOf 19 = .ok (.iload 4, 2) := by decide +kernel
theorem dX7_sayingOf_21 : decode cX7_sayingOf 21 = .ok (.iaload, 1) := by decide +kernel
theorem dX7_sayingOf_22 : decode cX7_sayingOf 22 = .ok (.bipush 15, 2) := by decide +kernel
theorem dX7_sayingOf_24 : decode cX7_sayingOf 24 = .ok (.iand, 1) := by decide +kernel
theorem dX7_sayingOf_25 : decode cX7_sayingOf 25 = .ok (.istore 5, 2) := by decide +kernel
theorem dX7_sayingOf_27 : decode cX7_sayingOf 27 = .ok (.aload_n 0, 1) := by decide +kernel
theorem dX7_sayingOf_28 : decode cX7_sayingOf 28 = .ok (.getfield 30, 3) := by decide +kernel
theorem dX7_sayingOf_31 : decode cX7_sayingOf 31 = .ok (.iload 4, 2) := by decide +kernel
theorem dX7_sayingOf_33 : decode cX7_sayingOf 33 = .ok (.iaload, 1) := by decide +kernel
theorem dX7_sayingOf_34 : decode cX7_sayingOf 34 = .ok (.iconst 4, 1) := by decide +kernel
theorem dX7_sayingOf_35 : decode cX7_sayingOf 35 = .ok (.ishr, 1) := by decide +kernel
theorem dX7_sayingOf_36 : decode cX7_sayingOf 36 = .ok (.istore 6, 2) := by decide +kernel
theorem dX7_sayingOf_38 : decode cX7_sayingOf 38 = .ok (.iload 5, 2) := by decide +kernel
theorem dX7_sayingOf_40 : decode cX7_sayingOf 40 = .ok (.bipush 15, 2) := by decide +kernel
theorem dX7_sayingOf_42 : decode cX7_sayingOf 42 = .ok (.if_icmp .ne 6, 3) := by decide +kernel
theorem dX7_sayingOf_45 : decode cX7_sayingOf 45 = .ok (.iload 6, 2) := by decide +kernel
theorem dX7_sayingOf_47 : decode cX7_sayingOf 47 = .ok (.ireturn, 1) := by decide +kernel
theorem dX7_sayingOf_48 : decode cX7_sayingOf 48 = .ok (.iload 5, 2) := by decide +kernel
theorem dX7_sayingOf_50 : decode cX7_sayingOf 50 = .ok (.iconst 1, 1) := by decide +kernel
theorem dX7_sayingOf_51 : decode cX7_sayingOf 51 = .ok (.if_icmp .gt 37, 3) := by decide +kernel
theorem dX7_sayingOf_54 : decode cX7_sayingOf 54 = .ok (.iinc 3 1, 3) := by decide +kernel
theorem dX7_sayingOf_57 : decode cX7_sayingOf 57 = .ok (.aload_n 0, 1) := by decide +kernel
theorem dX7_sayingOf_58 : decode cX7_sayingOf 58 = .ok (.getfield 11, 3) := by decide +kernel
theorem dX7_sayingOf_61 : decode cX7_sayingOf 61 = .ok (.iload_n 3, 1) := by decide +kernel
theorem dX7_sayingOf_62 : decode cX7_sayingOf 62 = .ok (.bipush 7, 2) := by decide +kernel
theorem dX7_sayingOf_64 : decode cX7_sayingOf 64 = .ok (.iand, 1) := by decide +kernel
theorem dX7_sayingOf_65 : decode cX7_sayingOf 65 = .ok (.iload 5, 2) := by decide +kernel
theorem dX7_sayingOf_67 : decode cX7_sayingOf 67 = .ok (.iconst 1, 1) := by decide +kernel
theorem dX7_sayingOf_68 : decode cX7_sayingOf 68 = .ok (.if_icmp .ne 13, 3) := by decide +kernel
theorem dX7_sayingOf_71 : decode cX7_sayingOf 71 = .ok (.aload_n 2, 1) := by decide +kernel
theorem dX7_sayingOf_72 : decode cX7_sayingOf 72 = .ok (.iload 6, 2) := by decide +kernel
theorem dX7_sayingOf_74 : decode cX7_sayingOf 74 = .ok (.iload_n 1, 1) := by decide +kernel
theorem dX7_sayingOf_75 : decode cX7_sayingOf 75 = .ok (.invokevirtual 34, 3) := by decide +kernel
theorem dX7_sayingOf_78 : decode cX7_sayingOf 78 = .ok (.goto 6, 3) := by decide +kernel
theorem dX7_sayingOf_81 : decode cX7_sayingOf 81 = .ok (.iload 6, 2) := by decide +kernel
theorem dX7_sayingOf_83 : decode cX7_sayingOf 83 = .ok (.i2l, 1) := by decide +kernel
theorem dX7_sayingOf_84 : decode cX7_sayingOf 84 = .ok (.lastore, 1) := by decide +kernel
theorem dX7_sayingOf_85 : decode cX7_sayingOf 85 = .ok (.goto 160, 3) := by decide +kernel
theorem dX7_sayingOf_88 : decode cX7_sayingOf 88 = .ok (.iload 5, 2) := by decide +kernel
theorem dX7_sayingOf_90 : decode cX7_sayingOf 90 = .ok (.bipush 10, 2) := by decide +kernel
theorem dX7_sayingOf_92 : decode cX7_sayingOf 92 = .ok (.if_icmp .gt 47, 3) := by decide +kernel
theorem dX7_sayingOf_95 : decode cX7_sayingOf 95 = .ok (.iinc 3 (-1), 3) := by decide +kernel
theorem dX7_sayingOf_98 : decode cX7_sayingOf 98 = .ok (.aload_n 0, 1) := by decide +kernel
theorem dX7_sayingOf_99 : decode cX7_sayingOf 99 = .ok (.getfield 11, 3) := by decide +kernel
theorem dX7_sayingOf_102 : decode cX7_sayingOf 102 = .ok (.iload_n 3, 1) := by decide +kernel
theorem dX7_sayingOf_103 : decode cX7_sayingOf 103 = .ok (.bipush 7, 2) := by decide +kernel
theorem dX7_sayingOf_105 : decode cX7_sayingOf 105 = .ok (.iand, 1) := by decide +kernel
theorem dX7_sayingOf_106 : decode cX7_sayingOf 106 = .ok (.laload, 1) := by decide +kernel
theorem dX7_sayingOf_107 : decode cX7_sayingOf 107 = .ok (.lstore 7, 2) := by decide +kernel
theorem dX7_sayingOf_109 : decode cX7_sayingOf 109 = .ok (.aload_n 0, 1) := by decide +kernel
theorem dX7_sayingOf_110 : decode cX7_sayingOf 110 = .ok (.getfield 11, 3) := by decide +kernel
theorem dX7_sayingOf_113 : decode cX7_sayingOf 113 = .ok (.iload_n 3, 1) := by decide +kernel
theorem dX7_sayingOf_114 : decode cX7_sayingOf 114 = .ok (.bipush 7, 2) := by decide +kernel
theorem dX7_sayingOf_116 : decode cX7_sayingOf 116 = .ok (.iand, 1) := by decide +kernel
theorem dX7_sayingOf_117 : decode cX7_sayingOf 117 = .ok (.iload 5, 2) := by decide +kernel
theorem dX7_sayingOf_119 : decode cX7_sayingOf 119 = .ok (.lload 7, 2) := by decide +kernel
theorem dX7_sayingOf_121 : decode cX7_sayingOf 121 = .ok (.aload_n 0, 1) := by decide +kernel
theorem dX7_sayingOf_122 : decode cX7_sayingOf 122 = .ok (.getfield 11, 3) := by decide +kernel
theorem dX7_sayingOf_125 : decode cX7_sayingOf 125 = .ok (.iload_n 3, 1) := by decide +kernel
theorem dX7_sayingOf_126 : decode cX7_sayingOf 126 = .ok (.iconst 1, 1) := by decide +kernel
theorem dX7_sayingOf_127 : decode cX7_sayingOf 127 = .ok (.iadd, 1) := by decide +kernel
theorem dX7_sayingOf_128 : decode cX7_sayingOf 128 = .ok (.bipush 7, 2) := by decide +kernel
theorem dX7_sayingOf_130 : decode cX7_sayingOf 130 = .ok (.iand, 1) := by decide +kernel
theorem dX7_sayingOf_131 : decode cX7_sayingOf 131 = .ok (.laload, 1) := by decide +kernel
theorem dX7_sayingOf_132 : decode cX7_sayingOf 132 = .ok (.invokestatic 40, 3) := by decide +kernel
theorem dX7_sayingOf_135 : decode cX7_sayingOf 135 = .ok (.lastore, 1) := by decide +kernel
theorem dX7_sayingOf_136 : decode cX7_sayingOf 136 = .ok (.goto 109, 3) := by decide +kernel
theorem dX7_sayingOf_139 : decode cX7_sayingOf 139 = .ok (.iload 5, 2) := by decide +kernel
theorem dX7_sayingOf_141 : decode cX7_sayingOf 141 = .ok (.bipush 11, 2) := by decide +kernel
theorem dX7_sayingOf_143 : decode cX7_sayingOf 143 = .ok (.if_icmp .ne 26, 3) := by decide +kernel
theorem dX7_sayingOf_146 : decode cX7_sayingOf 146 = .ok (.aload_n 0, 1) := by decide +kernel
theorem dX7_sayingOf_147 : decode cX7_sayingOf 147 = .ok (.getfield 11, 3) := by decide +kernel
theorem dX7_sayingOf_150 : decode cX7_sayingOf 150 = .ok (.iload_n 3, 1) := by decide +kernel
theorem dX7_sayingOf_151 : decode cX7_sayingOf 151 = .ok (.bipush 7, 2) := by decide +kernel
theorem dX7_sayingOf_153 : decode cX7_sayingOf 153 = .ok (.iand, 1) := by decide +kernel
theorem dX7_sayingOf_154 : decode cX7_sayingOf 154 = .ok (.lconst 1, 1) := by decide +kernel
theorem dX7_sayingOf_155 : decode cX7_sayingOf 155 = .ok (.aload_n 0, 1) := by decide +kernel
theorem dX7_sayingOf_156 : decode cX7_sayingOf 156 = .ok (.getfield 11, 3) := by decide +kernel
theorem dX7_sayingOf_159 : decode cX7_sayingOf 159 = .ok (.iload_n 3, 1) := by decide +kernel
theorem dX7_sayingOf_160 : decode cX7_sayingOf 160 = .ok (.bipush 7, 2) := by decide +kernel
theorem dX7_sayingOf_162 : decode cX7_sayingOf 162 = .ok (.iand, 1) := by decide +kernel
theorem dX7_sayingOf_163 : decode cX7_sayingOf 163 = .ok (.laload, 1) := by decide +kernel
theorem dX7_sayingOf_164 : decode cX7_sayingOf 164 = .ok (.lsub, 1) := by decide +kernel
theorem dX7_sayingOf_165 : decode cX7_sayingOf 165 = .ok (.lastore, 1) := by decide +kernel
theorem dX7_sayingOf_166 : decode cX7_sayingOf 166 = .ok (.goto 79, 3) := by decide +kernel
theorem dX7_sayingOf_169 : decode cX7_sayingOf 169 = .ok (.aload_n 0, 1) := by decide +kernel
theorem dX7_sayingOf_170 : decode cX7_sayingOf 170 = .ok (.getfield 11, 3) := by decide +kernel
theorem dX7_sayingOf_173 : decode cX7_sayingOf 173 = .ok (.iload_n 3, 1) := by decide +kernel
theorem dX7_sayingOf_174 : decode cX7_sayingOf 174 = .ok (.bipush 7, 2) := by decide +kernel
theorem dX7_sayingOf_176 : decode cX7_sayingOf 176 = .ok (.iand, 1) := by decide +kernel
theorem dX7_sayingOf_177 : decode cX7_sayingOf 177 = .ok (.laload, 1) := by decide +kernel
theorem dX7_sayingOf_178 : decode cX7_sayingOf 178 = .ok (.lconst 0, 1) := by decide +kernel
theorem dX7_sayingOf_179 : decode cX7_sayingOf 179 = .ok (.lcmp, 1) := by decide +kernel
theorem dX7_sayingOf_180 : decode cX7_sayingOf 180 = .ok (.ifCond .eq 7, 3) := by decide +kernel
theorem dX7_sayingOf_183 : decode cX7_sayingOf 183 = .ok (.iconst 1, 1) := by decide +kernel
theorem dX7_sayingOf_184 : decode cX7_sayingOf 184 = .ok (.goto 4, 3) := by decide +kernel
theorem dX7_sayingOf_187 : decode cX7_sayingOf 187 = .ok (.iconst 0, 1) := by decide +kernel
theorem dX7_sayingOf_188 : decode cX7_sayingOf 188 = .ok (.istore 7, 2) := by decide +kernel
theorem dX7_sayingOf_190 : decode cX7_sayingOf 190 = .ok (.iload 7, 2) := by decide +kernel
theorem dX7_sayingOf_192 : decode cX7_sayingOf 192 = .ok (.iload 5, 2) := by decide +kernel
theorem dX7_sayingOf_194 : decode cX7_sayingOf 194 = .ok (.bipush 13, 2) := by decide +kernel
theorem dX7_sayingOf_196 : decode cX7_sayingOf 196 = .ok (.if_icmp .ne 7, 3) := by decide +kernel
theorem dX7_sayingOf_199 : decode cX7_sayingOf 199 = .ok (.iconst 1, 1) := by decide +kernel
theorem dX7_sayingOf_200 : decode cX7_sayingOf 200 = .ok (.goto 4, 3) := by decide +kernel
theorem dX7_sayingOf_203 : decode cX7_sayingOf 203 = .ok (.iconst 0, 1) := by decide +kernel
theorem dX7_sayingOf_204 : decode cX7_sayingOf 204 = .ok (.if_icmp .ne 7, 3) := by decide +kernel
theorem dX7_sayingOf_207 : decode cX7_sayingOf 207 = .ok (.iconst 1, 1) := by decide +kernel
theorem dX7_sayingOf_208 : decode cX7_sayingOf 208 = .ok (.goto 4, 3) := by decide +kernel
theorem dX7_sayingOf_211 : decode cX7_sayingOf 211 = .ok (.iconst 0, 1) := by decide +kernel
theorem dX7_sayingOf_212 : decode cX7_sayingOf 212 = .ok (.istore 8, 2) := by decide +kernel
theorem dX7_sayingOf_214 : decode cX7_sayingOf 214 = .ok (.iload 8, 2) := by decide +kernel
theorem dX7_sayingOf_216 : decode cX7_sayingOf 216 = .ok (.ifCond .eq 14, 3) := by decide +kernel
theorem dX7_sayingOf_219 : decode cX7_sayingOf 219 = .ok (.iload 4, 2) := by decide +kernel
theorem dX7_sayingOf_221 : decode cX7_sayingOf 221 = .ok (.iload 6, 2) := by decide +kernel
theorem dX7_sayingOf_223 : decode cX7_sayingOf 223 = .ok (.iconst 1, 1) := by decide +kernel
theorem dX7_sayingOf_224 : decode cX7_sayingOf 224 = .ok (.isub, 1) := by decide +kernel
theorem dX7_sayingOf_225 : decode cX7_sayingOf 225 = .ok (.invokestatic 21, 3) := by decide +kernel
theorem dX7_sayingOf_228 : decode cX7_sayingOf 228 = .ok (.istore 4, 2) := by decide +kernel
theorem dX7_sayingOf_230 : decode cX7_sayingOf 230 = .ok (.iload 8, 2) := by decide +kernel
theorem dX7_sayingOf_232 : decode cX7_sayingOf 232 = .ok (.ifCond .eq 10, 3) := by decide +kernel
theorem dX7_sayingOf_235 : decode cX7_sayingOf 235 = .ok (.iload 5, 2) := by decide +kernel
theorem dX7_sayingOf_237 : decode cX7_sayingOf 237 = .ok (.bipush 14, 2) := by decide +kernel
theorem dX7_sayingOf_239 : decode cX7_sayingOf 239 = .ok (.if_icmp .ne 6, 3) := by decide +kernel
theorem dX7_sayingOf_242 : decode cX7_sayingOf 242 = .ok (.iinc 3 (-1), 3) := by decide +kernel
theorem dX7_sayingOf_245 : decode cX7_sayingOf 245 = .ok (.iinc 4 1, 3) := by decide +kernel
theorem dX7_sayingOf_248 : decode cX7_sayingOf 248 = .ok (.goto (-243), 3) := by decide +kernel
theorem dX7_sayingOf_251 : decode cX7_sayingOf 251 = .ok (.iconst (-1), 1) := by decide +kernel
theorem dX7_sayingOf_252 : decode cX7_sayingOf 252 = .ok (.ireturn, 1) := by decide +kernel
theorem dX7_stepOf_0 : decode cX7_stepOf 0 = .ok (.iload_n 1, 1) := by decide +kernel
theorem dX7_stepOf_1 : decode cX7_stepOf 1 = .ok (.iconst 4, 1) := by decide +kernel
theorem dX7_stepOf_2 : decode cX7_stepOf 2 = .ok (.ishl, 1) := by decide +kernel
theorem dX7_stepOf_3 : decode cX7_stepOf 3 = .ok (.iload_n 0, 1) := by decide +kernel
theorem dX7_stepOf_4 : decode cX7_stepOf 4 = .ok (.ior, 1) := by decide +kernel
theorem dX7_stepOf_5 : decode cX7_stepOf 5 = .ok (.ireturn, 1) := by decide +kernel
theorem dX8_aim_0 : decode cX8_aim 0 = .ok (.iload_n 1, 1) := by decide +kernel
theorem dX8_aim_1 : decode cX8_aim 1 = .ok (.ifCond .lt 33, 3) := by decide +kernel
theorem dX8_aim_4 : decode cX8_aim 4 = .ok (.iload_n 1, 1) := by decide +kernel
theorem dX8_aim_5 : decode cX8_aim 5 = .ok (.aload_n 0, 1) := by decide +kernel
theorem dX8_aim_6 : decode cX8_aim 6 = .ok (.getfield 19, 3) := by decide +kernel
theorem dX8_aim_9 : decode cX8_aim 9 = .ok (.if_icmp .ge 25, 3) := by decide +kernel
theorem dX8_aim_12 : decode cX8_aim 12 = .ok (.aload_n 0, 1) := by decide +kernel
theorem dX8_aim_13 : decode cX8_aim 13 = .ok (.getfield 9, 3) := by decide +kernel
theorem dX8_aim_16 : decode cX8_aim 16 = .ok (.iload_n 1, 1) := by decide +kernel
theorem dX8_aim_17 : decode cX8_aim 17 = .ok (.aload_n 0, 1) := by decide +kernel
theorem dX8_aim_18 : decode cX8_aim 18 = .ok (.getfield 9, 3) := by decide +kernel
theorem dX8_aim_21 : decode cX8_aim 21 = .ok (.iload_n 1, 1) := by decide +kernel
theorem dX8_aim_22 : decode cX8_aim 22 = .ok (.iaload, 1) := by decide +kernel
theorem dX8_aim_23 : decode cX8_aim 23 = .ok (.invokestatic 71, 3) := by decide +kernel
theorem dX8_aim_26 : decode cX8_aim 26 = .ok (.aload_n 0, 1) := by decide +kernel
theorem dX8_aim_27 : decode cX8_aim 27 = .ok (.getfield 19, 3) := by decide +kernel
theorem dX8_aim_30 : decode cX8_aim 30 = .ok (.invokestatic 68, 3) := by decide +kernel
theorem dX8_aim_33 : decode cX8_aim 33 = .ok (.iastore, 1) := by decide +kernel
theorem dX8_aim_34 : decode cX8_aim 34 = .ok (.return_, 1) := by decide +kernel
theorem dX8_fact_0 : decode cX8_fact 0 = .ok (.aload_n 0, 1) := by decide +kernel
theorem dX8_fact_1 : decode cX8_fact 1 = .ok (.invokevirtual 26, 3) := by decide +kernel
theorem dX8_fact_4 : decode cX8_fact 4 = .ok (.bipush 91, 2) := by decide +kernel
theorem dX8_fact_6 : decode cX8_fact 6 = .ok (.if_icmp .ne 7, 3) := by decide +kernel
theorem dX8_fact_9 : decode cX8_fact 9 = .ok (.iconst 1, 1) := by decide +kernel
theorem dX8_fact_10 : decode cX8_fact 10 = .ok (.goto 4, 3) := by decide +kernel
theorem dX8_fact_13 : decode cX8_fact 13 = .ok (.iconst 0, 1) := by decide +kernel
theorem dX8_fact_14 : decode cX8_fact 14 = .ok (.istore_n 2, 1) := by decide +kernel
theorem dX8_fact_15 : decode cX8_fact 15 = .ok (.iload_n 2, 1) := by decide +kernel
theorem dX8_fact_16 : decode cX8_fact 16 = .ok (.ifCond .ne 16, 3) := by decide +kernel
theorem dX8_fact_19 : decode cX8_fact 19 = .ok (.aload_n 0, 1) := by decide +kernel
theorem dX8_fact_20 : decode cX8_fact 20 = .ok (.ldc 80, 2) := by decide +kernel
theorem dX8_fact_22 : decode cX8_fact 22 = .ok (.invokevirtual 32, 3) := by decide +kernel
theorem dX8_fact_25 : decode cX8_fact 25 = .ok (.ifCond .ne 7, 3) := by decide +kernel
theorem dX8_fact_28 : decode cX8_fact 28 = .ok (.iconst 1, 1) := by decide +kernel
theorem dX8_fact_29 : decode cX8_fact 29 = .ok (.goto 4, 3) := by decide +kernel
theorem dX8_fact_32 : decode cX8_fact 32 = .ok (.iconst 0, 1) := by decide +kernel
theorem dX8_fact_33 : decode cX8_fact 33 = .ok (.istore_n 3, 1) := by decide +kernel
theorem dX8_fact_34 : decode cX8_fact 34 = .ok (.iload_n 2, 1) := by decide +kernel
theorem dX8_fact_35 : decode cX8_fact 35 = .ok (.ifCond .ne 32, 3) := by decide +kernel
theorem dX8_fact_38 : decode cX8_fact 38 = .ok (.iload_n 3, 1) := by decide +kernel
theorem dX8_fact_39 : decode cX8_fact 39 = .ok (.ifCond .ne 28, 3) := by decide +kernel
theorem dX8_fact_42 : decode cX8_fact 42 = .ok (.aload_n 0, 1) := by decide +kernel
theorem dX8_fact_43 : decode cX8_fact 43 = .ok (.invokevirtual 82, 3) := by decide +kernel
theorem dX8_fact_46 : decode cX8_fact 46 = .ok (.aload_n 0, 1) := by decide +kernel
theorem dX8_fact_47 : decode cX8_fact 47 = .ok (.invokevirtual 85, 3) := by decide +kernel
theorem dX8_fact_50 : decode cX8_fact 50 = .ok (.istore 4, 2) := by decide +kernel
theorem dX8_fact_52 : decode cX8_fact 52 = .ok (.aload_n 0, 1) := by decide +kernel
theorem dX8_fact_53 : decode cX8_fact 53 = .ok (.invokevirtual 82, 3) := by decide +kernel
theorem dX8_fact_56 : decode cX8_fact 56 = .ok (.aload_n 0, 1) := by decide +kernel
theorem dX8_fact_57 : decode cX8_fact 57 = .ok (.iload 4, 2) := by decide +kernel
theorem dX8_fact_59 : decode cX8_fact 59 = .ok (.iconst 0, 1) := by decide +kernel
theorem dX8_fact_60 : decode cX8_fact 60 = .ok (.invokevirtual 54, 3) := by decide +kernel
theorem dX8_fact_63 : decode cX8_fact 63 = .ok (.pop, 1) := by decide +kernel
theorem dX8_fact_64 : decode cX8_fact 64 = .ok (.goto 92, 3) := by decide +kernel
theorem dX8_fact_67 : decode cX8_fact 67 = .ok (.iload_n 1, 1) := by decide +kernel
theorem dX8_fact_68 : decode cX8_fact 68 = .ok (.bipush 10, 2) := by decide +kernel
theorem dX8_fact_70 : decode cX8_fact 70 = .ok (.if_icmp .lt 15, 3) := by decide +kernel
theorem dX8_fact_73 : decode cX8_fact 73 = .ok (.aload_n 0, 1) := by decide +kernel
theorem dX8_fact_74 : decode cX8_fact 74 = .ok (.aload_n 0, 1) := by decide +kernel
theorem dX8_fact_75 : decode cX8_fact 75 = .ok (.getfield 36, 3) := by decide +kernel
theorem dX8_fact_78 : decode cX8_fact 78 = .ok (.iconst 2, 1) := by decide +kernel
theorem dX8_fact_79 : decode cX8_fact 79 = .ok (.invokevirtual 39, 3) := by decide +kernel
theorem dX8_fact_82 : decode cX8_fact 82 = .ok (.goto 74, 3) := by decide +kernel
theorem dX8_fact_85 : decode cX8_fact 85 = .ok (.iload_n 3, 1) := by decide +kernel
theorem dX8_fact_86 : decode cX8_fact 86 = .ok (.ifCond .eq 25, 3) := by decide +kernel
theorem dX8_fact_89 : decode cX8_fact 89 = .ok (.aload_n 0, 1) := by decide +kernel
theorem dX8_fact_90 : decode cX8_fact 90 = .ok (.invokevirtual 43, 3) := by decide +kernel
theorem dX8_fact_93 : decode cX8_fact 93 = .ok (.aload_n 0, 1) := by decide +kernel
theorem dX8_fact_94 : decode cX8_fact 94 = .ok (.iload_n 1, 1) := by decide +kernel
theorem dX8_fact_95 : decode cX8_fact 95 = .ok (.iconst 1, 1) := by decide +kernel
theorem dX8_fact_96 : decode cX8_fact 96 = .ok (.iadd, 1) := by decide +kernel
theorem dX8_fact_97 : decode cX8_fact 97 = .ok (.invokevirtual 75, 3) := by decide +kernel
theorem dX8_fact_100 : decode cX8_fact 100 = .ok (.aload_n 0, 1) := by decide +kernel
theorem dX8_fact_101 : decode cX8_fact 101 = .ok (.bipush 11, 2) := by decide +kernel
theorem dX8_fact_103 : decode cX8_fact 103 = .ok (.iconst 0, 1) := by decide +kernel
theorem dX8_fact_104 : decode cX8_fact 104 = .ok (.invokevirtual 54, 3) := by decide +kernel
theorem dX8_fact_107 : decode cX8_fact 107 = .ok (.pop, 1) := by decide +kernel
theorem dX8_fact_108 : decode cX8_fact 108 = .ok (.goto 48, 3) := by decide +kernel
theorem dX8_fact_111 : decode cX8_fact 111 = .ok (.aload_n 0, 1) := by decide +kernel
theorem dX8_fact_112 : decode cX8_fact 112 = .ok (.dup, 1) := by decide +kernel
theorem dX8_fact_113 : decode cX8_fact 113 = .ok (.getfield 36, 3) := by decide +kernel
theorem dX8_fact_116 : decode cX8_fact 116 = .ok (.iconst 1, 1) := by decide +kernel
theorem dX8_fact_117 : decode cX8_fact 117 = .ok (.iadd, 1) := by decide +kernel
theorem dX8_fact_118 : decode cX8_fact 118 = .ok (.putfield 36, 3) := by decide +kernel
theorem dX8_fact_121 : decode cX8_fact 121 = .ok (.aload_n 0, 1) := by decide +kernel
theorem dX8_fact_122 : decode cX8_fact 122 = .ok (.iload_n 1, 1) := by decide +kernel
theorem dX8_fact_123 : decode cX8_fact 123 = .ok (.iconst 1, 1) := by decide +kernel
theorem dX8_fact_124 : decode cX8_fact 124 = .ok (.iadd, 1) := by decide +kernel
theorem dX8_fact_125 : decode cX8_fact 125 = .ok (.invokevirtual 48, 3) := by decide +kernel
theorem dX8_fact_128 : decode cX8_fact 128 = .ok (.aload_n 0, 1) := by decide +kernel
theorem dX8_fact_129 : decode cX8_fact 129 = .ok (.invokevirtual 26, 3) := by decide +kernel
theorem dX8_fact_132 : decode cX8_fact 132 = .ok (.bipush 93, 2) := by decide +kernel
theorem dX8_fact_134 : decode cX8_fact 134 = .ok (.if_icmp .eq 12, 3) := by decide +kernel
theorem dX8_fact_137 : decode cX8_fact 137 = .ok (.aload_n 0, 1) := by decide +kernel
theorem dX8_fact_138 : decode cX8_fact 138 = .ok (.aload_n 0, 1) := by decide +kernel
theorem dX8_fact_139 : decode cX8_fact 139 = .ok (.getfield 36, 3) := by decide +kernel
theorem dX8_fact_142 : decode cX8_fact 142 = .ok (.iconst 0, 1) := by decide +kernel
theorem dX8_fact_143 : decode cX8_fact 143 = .ok (.invokevirtual 39, 3) := by decide +kernel
theorem dX8_fact_146 : decode cX8_fact 146 = .ok (.aload_n 0, 1) := by decide +kernel
theorem dX8_fact_147 : decode cX8_fact 147 = .ok (.dup, 1) := by decide +kernel
theorem dX8_fact_148 : decode cX8_fact 148 = .ok (.getfield 36, 3) := by decide +kernel
theorem dX8_fact_151 : decode cX8_fact 151 = .ok (.iconst 1, 1) := by decide +kernel
theorem dX8_fact_152 : decode cX8_fact 152 = .ok (.iadd, 1) := by decide +kernel
theorem dX8_fact_153 : decode cX8_fact 153 = .ok (.putfield 36, 3) := by decide +kernel
theorem dX8_fact_156 : decode cX8_fact 156 = .ok (.return_, 1) := by decide +kernel
theorem dX8_init_0 : decode cX8_init 0 = .ok (.aload_n 0, 1) := by decide +kernel
theorem dX8_init_1 : decode cX8_init 1 = .ok (.invokespecial 3, 3) := by decide +kernel
theorem dX8_init_4 : decode cX8_init 4 = .ok (.aload_n 0, 1) := by decide +kernel
theorem dX8_init_5 : decode cX8_init 5 = .ok (.sipush 400, 3) := by decide +kernel
theorem dX8_init_8 : decode cX8_init 8 = .ok (.newarray .int, 2) := by decide +kernel
theorem dX8_init_10 : decode cX8_init 10 = .ok (.putfield 9, 3) := by decide +kernel
theorem dX8_init_13 : decode cX8_init 13 = .ok (.return_, 1) := by decide +kernel
theorem dX8_put_0 : decode cX8_put 0 = .ok (.aload_n 0, 1) := by decide +kernel
theorem dX8_put_1 : decode cX8_put 1 = .ok (.getfield 19, 3) := by decide +kernel
theorem dX8_put_4 : decode cX8_put 4 = .ok (.aload_n 0, 1) := by decide +kernel
theorem dX8_put_5 : decode cX8_put 5 = .ok (.getfield 9, 3) := by decide +kernel
theorem dX8_put_8 : decode cX8_put 8 = .ok (.arraylength, 1) := by decide +kernel
theorem dX8_put_9 : decode cX8_put 9 = .ok (.if_icmp .lt 5, 3) := by decide +kernel
theorem dX8_put_12 : decode cX8_put 12 = .ok (.iconst (-1), 1) := by decide +kernel
theorem dX8_put_13 : decode cX8_put 13 = .ok (.ireturn, 1) := by decide +kernel
theorem dX8_put_14 : decode cX8_put 14 = .ok (.aload_n 0, 1) := by decide +kernel
theorem dX8_put_15 : decode cX8_put 15 = .ok (.getfield 9, 3) := by decide +kernel
theorem dX8_put_18 : decode cX8_put 18 = .ok (.aload_n 0, 1) := by decide +kernel
theorem dX8_put_19 : decode cX8_put 19 = .ok (.getfield 19, 3) := by decide +kernel
theorem dX8_put_22 : decode cX8_put 22 = .ok (.iload_n 1, 1) := by decide +kernel
theorem dX8_put_23 : decode cX8_put 23 = .ok (.iload_n 2, 1) := by decide +kernel
theorem dX8_put_24 : decode cX8_put 24 = .ok (.invokestatic 68, 3) := by decide +kernel
theorem dX8_put_27 : decode cX8_put 27 = .ok (.iastore, 1) := by decide +kernel
theorem dX8_put_28 : decode cX8_put 28 = .ok (.aload_n 0, 1) := by decide +kernel
theorem dX8_put_29 : decode cX8_put 29 = .ok (.dup, 1) := by decide +kernel
theorem dX8_put_30 : decode cX8_put 30 = .ok (.getfield 19, 3) := by decide +kernel
theorem dX8_put_33 : decode cX8_put 33 = .ok (.iconst 1, 1) := by decide +kernel
theorem dX8_put_34 : decode cX8_put 34 = .ok (.iadd, 1) := by decide +kernel
theorem dX8_put_35 : decode cX8_put 35 = .ok (.putfield 19, 3) := by decide +kernel
theorem dX8_put_38 : decode cX8_put 38 = .ok (.aload_n 0, 1) := by decide +kernel
theorem dX8_put_39 : decode cX8_put 39 = .ok (.getfield 19, 3) := by decide +kernel
theorem dX8_put_42 : decode cX8_put 42 = .ok (.iconst 1, 1) := by decide +kernel
theorem dX8_put_43 : decode cX8_put 43 = .ok (.isub, 1) := by decide +kernel
theorem dX8_put_44 : decode cX8_put 44 = .ok (.ireturn, 1) := by decide +kernel
theorem dX8_read_0 : decode cX8_read 0 = .ok (.aload_n 0, 1) := by decide +kernel
theorem dX8_read_1 : decode cX8_read 1 = .ok (.aload_n 1, 1) := by decide +kernel
theorem dX8_read_2 : decode cX8_read 2 = .ok (.iload_n 2, 1) := by decide +kernel
theorem dX8_read_3 : decode cX8_read 3 = .ok (.invokevirtual 15, 3) := by decide +kernel
theorem dX8_read_6 : decode cX8_read 6 = .ok (.aload_n 0, 1) := by decide +kernel
theorem dX8_read_7 : decode cX8_read 7 = .ok (.iconst 0, 1) := by decide +kernel
theorem dX8_read_8 : decode cX8_read 8 = .ok (.putfield 19, 3) := by decide +kernel
theorem dX8_read_11 : decode cX8_read 11 = .ok (.aload_n 0, 1) := by decide +kernel
theorem dX8_read_12 : decode cX8_read 12 = .ok (.iconst 0, 1) := by decide +kernel
theorem dX8_read_13 : decode cX8_read 13 = .ok (.putfield 23, 3) := by decide +kernel
theorem dX8_read_16 : decode cX8_read 16 = .ok (.iconst 1, 1) := by decide +kernel
theorem dX8_read_17 : decode cX8_read 17 = .ok (.istore_n 3, 1) := by decide +kernel
theorem dX8_read_18 : decode cX8_read 18 = .ok (.iconst 0, 1) := by decide +kernel
theorem dX8_read_19 : decode cX8_read 19 = .ok (.istore 4, 2) := by decide +kernel
theorem dX8_read_21 : decode cX8_read 21 = .ok (.iload_n 3, 1) := by decide +kernel
theorem dX8_read_22 : decode cX8_read 22 = .ok (.ifCond .eq 129, 3) := by decide +kernel
theorem dX8_read_25 : decode cX8_read 25 = .ok (.iload 4, 2) := by decide +kernel
theorem dX8_read_27 : decode cX8_read 27 = .ok (.bipush 12, 2) := by decide +kernel
theorem dX8_read_29 : decode cX8_read 29 = .ok (.if_icmp .gt 122, 3) := by decide +kernel
theorem dX8_read_32 : decode cX8_read 32 = .ok (.aload_n 0, 1) := by decide +kernel
theorem dX8_read_33 : decode cX8_read 33 = .ok (.invokevirtual 26, 3) := by decide +kernel
theorem dX8_read_36 : decode cX8_read 36 = .ok (.pop, 1) := by decide +kernel
theorem dX8_read_37 : decode cX8_read 37 = .ok (.aload_n 0, 1) := by decide +kernel
theorem dX8_read_38 : decode cX8_read 38 = .ok (.ldc 30, 2) := by decide +kernel
theorem dX8_read_40 : decode cX8_read 40 = .ok (.invokevirtual 32, 3) := by decide +kernel
theorem dX8_read_43 : decode cX8_read 43 = .ok (.istore 5, 2) := by decide +kernel
theorem dX8_read_45 : decode cX8_read 45 = .ok (.iload 5, 2) := by decide +kernel
theorem dX8_read_47 : decode cX8_read 47 = .ok (.iconst (-1), 1) := by decide +kernel
theorem dX8_read_48 : decode cX8_read 48 = .ok (.if_icmp .ne 15, 3) := by decide +kernel
theorem dX8_read_51 : decode cX8_read 51 = .ok (.aload_n 0, 1) := by decide +kernel
theorem dX8_read_52 : decode cX8_read 52 = .ok (.aload_n 0, 1) := by decide +kernel
theorem dX8_read_53 : decode cX8_read 53 = .ok (.getfield 36, 3) := by decide +kernel
theorem dX8_read_56 : decode cX8_read 56 = .ok (.iconst 0, 1) := by decide +kernel
theorem dX8_read_57 : decode cX8_read 57 = .ok (.invokevirtual 39, 3) := by decide +kernel
theorem dX8_read_60 : decode cX8_read 60 = .ok (.goto 80, 3) := by decide +kernel
theorem dX8_read_63 : decode cX8_read 63 = .ok (.iload 4, 2) := by decide +kernel
theorem dX8_read_65 : decode cX8_read 65 = .ok (.bipush 12, 2) := by decide +kernel
theorem dX8_read_67 : decode cX8_read 67 = .ok (.if_icmp .lt 15, 3) := by decide +kernel
theorem dX8_read_70 : decode cX8_read 70 = .ok (.aload_n 0, 1) := by decide +kernel
theorem dX8_read_71 : decode cX8_read 71 = .ok (.aload_n 0, 1) := by decide +kernel
theorem dX8_read_72 : decode cX8_read 72 = .ok (.getfield 36, 3) := by decide +kernel
theorem dX8_read_75 : decode cX8_read 75 = .ok (.iconst 4, 1) := by decide +kernel
theorem dX8_read_76 : decode cX8_read 76 = .ok (.invokevirtual 39, 3) := by decide +kernel
theorem dX8_read_79 : decode cX8_read 79 = .ok (.goto 61, 3) := by decide +kernel
theorem dX8_read_82 : decode cX8_read 82 = .ok (.aload_n 0, 1) := by decide +kernel
theorem dX8_read_83 : decode cX8_read 83 = .ok (.invokevirtual 43, 3) := by decide +kernel
theorem dX8_read_86 : decode cX8_read 86 = .ok (.iconst (-1), 1) := by decide +kernel
theorem dX8_read_87 : decode cX8_read 87 = .ok (.istore 6, 2) := by decide +kernel
theorem dX8_read_89 : decode cX8_read 89 = .ok (.aload_n 0, 1) := by decide +kernel
theorem dX8_read_90 : decode cX8_read 90 = .ok (.invokevirtual 26, 3) := by decide +kernel
theorem dX8_read_93 : decode cX8_read 93 = .ok (.bipush 105, 2) := by decide +kernel
theorem dX8_read_95 : decode cX8_read 95 = .ok (.if_icmp .ne 30, 3) := by decide +kernel
theorem dX8_read_98 : decode cX8_read 98 = .ok (.aload_n 0, 1) := by decide +kernel
theorem dX8_read_99 : decode cX8_read 99 = .ok (.ldc 46, 2) := by decide +kernel
theorem dX8_read_101 : decode cX8_read 101 = .ok (.invokevirtual 32, 3) := by decide +kernel
theorem dX8_read_104 : decode cX8_read 104 = .ok (.ifCond .ne 21, 3) := by decide +kernel
theorem dX8_read_107 : decode cX8_read 107 = .ok (.aload_n 0, 1) := by decide +kernel
theorem dX8_read_108 : decode cX8_read 108 = .ok (.invokevirtual 43, 3) := by decide +kernel
theorem dX8_read_111 : decode cX8_read 111 = .ok (.aload_n 0, 1) := by decide +kernel
theorem dX8_read_112 : decode cX8_read 112 = .ok (.iconst 0, 1) := by decide +kernel
theorem dX8_read_113 : decode cX8_read 113 = .ok (.invokevirtual 48, 3) := by decide +kernel
theorem dX8_read_116 : decode cX8_read 116 = .ok (.aload_n 0, 1) := by decide +kernel
theorem dX8_read_117 : decode cX8_read 117 = .ok (.bipush 14, 2) := by decide +kernel
theorem dX8_read_119 : decode cX8_read 119 = .ok (.iconst 0, 1) := by decide +kernel
theorem dX8_read_120 : decode cX8_read 120 = .ok (.invokevirtual 54, 3) := by decide +kernel
theorem dX8_read_123 : decode cX8_read 123 = .ok (.istore 6, 2) := by decide +kernel
theorem dX8_read_125 : decode cX8_read 125 = .ok (.aload_n 0, 1) := by decide +kernel
theorem dX8_read_126 : decode cX8_read 126 = .ok (.bipush 15, 2) := by decide +kernel
theorem dX8_read_128 : decode cX8_read 128 = .ok (.iload 5, 2) := by decide +kernel
theorem dX8_read_130 : decode cX8_read 130 = .ok (.invokevirtual 54, 3) := by decide +kernel
theorem dX8_read_133 : decode cX8_read 133 = .ok (.pop, 1) := by decide +kernel
theorem dX8_read_134 : decode cX8_read 134 = .ok (.aload_n 0, 1) := by decide +kernel
theorem dX8_read_135 : decode cX8_read 135 = .ok (.iload 6, 2) := by decide +kernel
theorem dX8_read_137 : decode cX8_read 137 = .ok (.invokevirtual 58, 3) := by decide +kernel
theorem dX8_read_140 : decode cX8_read 140 = .ok (.aload_n 0, 1) := by decide +kernel
theorem dX8_read_141 : decode cX8_read 141 = .ok (.invokevirtual 61, 3) := by decide +kernel
theorem dX8_read_144 : decode cX8_read 144 = .ok (.istore_n 3, 1) := by decide +kernel
theorem dX8_read_145 : decode cX8_read 145 = .ok (.iinc 4 1, 3) := by decide +kernel
theorem dX8_read_148 : decode cX8_read 148 = .ok (.goto (-127), 3) := by decide +kernel
theorem dX8_read_151 : decode cX8_read 151 = .ok (.aload_n 0, 1) := by decide +kernel
theorem dX8_read_152 : decode cX8_read 152 = .ok (.getfield 65, 3) := by decide +kernel
theorem dX8_read_155 : decode cX8_read 155 = .ok (.ireturn, 1) := by decide +kernel
theorem dX8_sign_0 : decode cX8_sign 0 = .ok (.aload_n 0, 1) := by decide +kernel
theorem dX8_sign_1 : decode cX8_sign 1 = .ok (.invokevirtual 26, 3) := by decide +kernel
theorem dX8_sign_4 : decode cX8_sign 4 = .ok (.istore_n 1, 1) := by decide +kernel
theorem dX8_sign_5 : decode cX8_sign 5 = .ok (.aload_n 0, 1) := by decide +kernel
theorem dX8_sign_6 : decode cX8_sign 6 = .ok (.getfield 36, 3) := by decide +kernel
theorem dX8_sign_9 : decode cX8_sign 9 = .ok (.istore_n 2, 1) := by decide +kernel
theorem dX8_sign_10 : decode cX8_sign 10 = .ok (.iload_n 1, 1) := by decide +kernel
theorem dX8_sign_11 : decode cX8_sign 11 = .ok (.bipush 60, 2) := by decide +kernel
theorem dX8_sign_13 : decode cX8_sign 13 = .ok (.if_icmp .ne 7, 3) := by decide +kernel
theorem dX8_sign_16 : decode cX8_sign 16 = .ok (.iconst 1, 1) := by decide +kernel
theorem dX8_sign_17 : decode cX8_sign 17 = .ok (.goto 4, 3) := by decide +kernel
theorem dX8_sign_20 : decode cX8_sign 20 = .ok (.iconst 0, 1) := by decide +kernel
theorem dX8_sign_21 : decode cX8_sign 21 = .ok (.istore_n 3, 1) := by decide +kernel
theorem dX8_sign_22 : decode cX8_sign 22 = .ok (.iload_n 1, 1) := by decide +kernel
theorem dX8_sign_23 : decode cX8_sign 23 = .ok (.bipush 62, 2) := by decide +kernel
theorem dX8_sign_25 : decode cX8_sign 25 = .ok (.if_icmp .ne 7, 3) := by decide +kernel
theorem dX8_sign_28 : decode cX8_sign 28 = .ok (.iconst 1, 1) := by decide +kernel
theorem dX8_sign_29 : decode cX8_sign 29 = .ok (.goto 4, 3) := by decide +kernel
theorem dX8_sign_32 : decode cX8_sign 32 = .ok (.iconst 0, 1) := by decide +kernel
theorem dX8_sign_33 : decode cX8_sign 33 = .ok (.istore 4, 2) := by decide +kernel
theorem dX8_sign_35 : decode cX8_sign 35 = .ok (.iload_n 3, 1) := by decide +kernel
theorem dX8_sign_36 : decode cX8_sign 36 = .ok (.ifCond .ne 23, 3) := by decide +kernel
theorem dX8_sign_39 : decode cX8_sign 39 = .ok (.iload 4, 2) := by decide +kernel
theorem dX8_sign_41 : decode cX8_sign 41 = .ok (.ifCond .ne 18, 3) := by decide +kernel
theorem dX8_sign_44 : decode cX8_sign 44 = .ok (.iload_n 1, 1) := by decide +kernel
theorem dX8_sign_45 : decode cX8_sign 45 = .ok (.bipush 61, 2) := by decide +kernel
theorem dX8_sign_47 : decode cX8_sign 47 = .ok (.if_icmp .eq 12, 3) := by decide +kernel
theorem dX8_sign_50 : decode cX8_sign 50 = .ok (.aload_n 0, 1) := by decide +kernel
theorem dX8_sign_51 : decode cX8_sign 51 = .ok (.aload_n 0, 1) := by decide +kernel
theorem dX8_sign_52 : decode cX8_sign 52 = .ok (.getfield 36, 3) := by decide +kernel
theorem dX8_sign_55 : decode cX8_sign 55 = .ok (.iconst 0, 1) := by decide +kernel
theorem dX8_sign_56 : decode cX8_sign 56 = .ok (.invokevirtual 39, 3) := by decide +kernel
theorem dX8_sign_59 : decode cX8_sign 59 = .ok (.aload_n 0, 1) := by decide +kernel
theorem dX8_sign_60 : decode cX8_sign 60 = .ok (.iload_n 2, 1) := by decide +kernel
theorem dX8_sign_61 : decode cX8_sign 61 = .ok (.invokevirtual 88, 3) := by decide +kernel
theorem dX8_sign_64 : decode cX8_sign 64 = .ok (.aload_n 0, 1) := by decide +kernel
theorem dX8_sign_65 : decode cX8_sign 65 = .ok (.dup, 1) := by decide +kernel
theorem dX8_sign_66 : decode cX8_sign 66 = .ok (.getfield 36, 3) := by decide +kernel
theorem dX8_sign_69 : decode cX8_sign 69 = .ok (.iconst 1, 1) := by decide +kernel
theorem dX8_sign_70 : decode cX8_sign 70 = .ok (.iadd, 1) := by decide +kernel
theorem dX8_sign_71 : decode cX8_sign 71 = .ok (.putfield 36, 3) := by decide +kernel
theorem dX8_sign_74 : decode cX8_sign 74 = .ok (.iload_n 3, 1) := by decide +kernel
theorem dX8_sign_75 : decode cX8_sign 75 = .ok (.ifCond .ne 8, 3) := by decide +kernel
theorem dX8_sign_78 : decode cX8_sign 78 = .ok (.iload 4, 2) := by decide +kernel
theorem dX8_sign_80 : decode cX8_sign 80 = .ok (.ifCond .eq 16, 3) := by decide +kernel
theorem dX8_sign_83 : decode cX8_sign 83 = .ok (.aload_n 0, 1) := by decide +kernel
theorem dX8_sign_84 : decode cX8_sign 84 = .ok (.invokevirtual 91, 3) := by decide +kernel
theorem dX8_sign_87 : decode cX8_sign 87 = .ok (.bipush 61, 2) := by decide +kernel
theorem dX8_sign_89 : decode cX8_sign 89 = .ok (.if_icmp .ne 7, 3) := by decide +kernel
theorem dX8_sign_92 : decode cX8_sign 92 = .ok (.iconst 1, 1) := by decide +kernel
theorem dX8_sign_93 : decode cX8_sign 93 = .ok (.goto 4, 3) := by decide +kernel
theorem dX8_sign_96 : decode cX8_sign 96 = .ok (.iconst 0, 1) := by decide +kernel
theorem dX8_sign_97 : decode cX8_sign 97 = .ok (.istore 5, 2) := by decide +kernel
theorem dX8_sign_99 : decode cX8_sign 99 = .ok (.iload 5, 2) := by decide +kernel
theorem dX8_sign_101 : decode cX8_sign 101 = .ok (.ifCond .eq 25, 3) := by decide +kernel
theorem dX8_sign_104 : decode cX8_sign 104 = .ok (.aload_n 0, 1) := by decide +kernel
theorem dX8_sign_105 : decode cX8_sign 105 = .ok (.dup, 1) := by decide +kernel
theorem dX8_sign_106 : decode cX8_sign 106 = .ok (.getfield 36, 3) := by decide +kernel
theorem dX8_sign_109 : decode cX8_sign 109 = .ok (.iconst 1, 1) := by decide +kernel
theorem dX8_sign_110 : decode cX8_sign 110 = .ok (.iadd, 1) := by decide +kernel
theorem dX8_sign_111 : decode cX8_sign 111 = .ok (.putfield 36, 3) := by decide +kernel
theorem dX8_sign_114 : decode cX8_sign 114 = .ok (.iload_n 3, 1) := by decide +kernel
theorem dX8_sign_115 : decode cX8_sign 115 = .ok (.ifCond .eq 8, 3) := by decide +kernel
theorem dX8_sign_118 : decode cX8_sign 118 = .ok (.bipush 7, 2) := by decide +kernel
theorem dX8_sign_120 : decode cX8_sign 120 = .ok (.goto 5, 3) := by decide +kernel
theorem dX8_sign_123 : decode cX8_sign 123 = .ok (.bipush 9, 2) := by decide +kernel
theorem dX8_sign_125 : decode cX8_sign 125 = .ok (.ireturn, 1) := by decide +kernel
theorem dX8_sign_126 : decode cX8_sign 126 = .ok (.iload_n 3, 1) := by decide +kernel
theorem dX8_sign_127 : decode cX8_sign 127 = .ok (.ifCond .eq 8, 3) := by decide +kernel
theorem dX8_sign_130 : decode cX8_sign 130 = .ok (.bipush 6, 2) := by decide +kernel
theorem dX8_sign_132 : decode cX8_sign 132 = .ok (.goto 15, 3) := by decide +kernel
theorem dX8_sign_135 : decode cX8_sign 135 = .ok (.iload 4, 2) := by decide +kernel
theorem dX8_sign_137 : decode cX8_sign 137 = .ok (.ifCond .eq 8, 3) := by decide +kernel
theorem dX8_sign_140 : decode cX8_sign 140 = .ok (.bipush 10, 2) := by decide +kernel
theorem dX8_sign_142 : decode cX8_sign 142 = .ok (.goto 5, 3) := by decide +kernel
theorem dX8_sign_145 : decode cX8_sign 145 = .ok (.bipush 8, 2) := by decide +kernel
theorem dX8_sign_147 : decode cX8_sign 147 = .ok (.ireturn, 1) := by decide +kernel
theorem dX8_sum_0 : decode cX8_sum 0 = .ok (.iconst (-1), 1) := by decide +kernel
theorem dX8_sum_1 : decode cX8_sum 1 = .ok (.istore_n 1, 1) := by decide +kernel
theorem dX8_sum_2 : decode cX8_sum 2 = .ok (.iconst 1, 1) := by decide +kernel
theorem dX8_sum_3 : decode cX8_sum 3 = .ok (.istore_n 2, 1) := by decide +kernel
theorem dX8_sum_4 : decode cX8_sum 4 = .ok (.aload_n 0, 1) := by decide +kernel
theorem dX8_sum_5 : decode cX8_sum 5 = .ok (.invokevirtual 94, 3) := by decide +kernel
theorem dX8_sum_8 : decode cX8_sum 8 = .ok (.iconst 0, 1) := by decide +kernel
theorem dX8_sum_9 : decode cX8_sum 9 = .ok (.istore_n 3, 1) := by decide +kernel
theorem dX8_sum_10 : decode cX8_sum 10 = .ok (.iload_n 2, 1) := by decide +kernel
theorem dX8_sum_11 : decode cX8_sum 11 = .ok (.ifCond .eq 141, 3) := by decide +kernel
theorem dX8_sum_14 : decode cX8_sum 14 = .ok (.aload_n 0, 1) := by decide +kernel
theorem dX8_sum_15 : decode cX8_sum 15 = .ok (.getfield 65, 3) := by decide +kernel
theorem dX8_sum_18 : decode cX8_sum 18 = .ok (.ifCond .ne 134, 3) := by decide +kernel
theorem dX8_sum_21 : decode cX8_sum 21 = .ok (.iload_n 3, 1) := by decide +kernel
theorem dX8_sum_22 : decode cX8_sum 22 = .ok (.sipush 400, 3) := by decide +kernel
theorem dX8_sum_25 : decode cX8_sum 25 = .ok (.if_icmp .ge 127, 3) := by decide +kernel
theorem dX8_sum_28 : decode cX8_sum 28 = .ok (.aload_n 0, 1) := by decide +kernel
theorem dX8_sum_29 : decode cX8_sum 29 = .ok (.invokevirtual 26, 3) := by decide +kernel
theorem dX8_sum_32 : decode cX8_sum 32 = .ok (.istore 4, 2) := by decide +kernel
theorem dX8_sum_34 : decode cX8_sum 34 = .ok (.iload 4, 2) := by decide +kernel
theorem dX8_sum_36 : decode cX8_sum 36 = .ok (.bipush 42, 2) := by decide +kernel
theorem dX8_sum_38 : decode cX8_sum 38 = .ok (.if_icmp .eq 10, 3) := by decide +kernel
theorem dX8_sum_41 : decode cX8_sum 41 = .ok (.iload 4, 2) := by decide +kernel
theorem dX8_sum_43 : decode cX8_sum 43 = .ok (.bipush 47, 2) := by decide +kernel
theorem dX8_sum_45 : decode cX8_sum 45 = .ok (.if_icmp .ne 38, 3) := by decide +kernel
theorem dX8_sum_48 : decode cX8_sum 48 = .ok (.aload_n 0, 1) := by decide +kernel
theorem dX8_sum_49 : decode cX8_sum 49 = .ok (.dup, 1) := by decide +kernel
theorem dX8_sum_50 : decode cX8_sum 50 = .ok (.getfield 36, 3) := by decide +kernel
theorem dX8_sum_53 : decode cX8_sum 53 = .ok (.iconst 1, 1) := by decide +kernel
theorem dX8_sum_54 : decode cX8_sum 54 = .ok (.iadd, 1) := by decide +kernel
theorem dX8_sum_55 : decode cX8_sum 55 = .ok (.putfield 36, 3) := by decide +kernel
theorem dX8_sum_58 : decode cX8_sum 58 = .ok (.aload_n 0, 1) := by decide +kernel
theorem dX8_sum_59 : decode cX8_sum 59 = .ok (.invokevirtual 94, 3) := by decide +kernel
theorem dX8_sum_62 : decode cX8_sum 62 = .ok (.aload_n 0, 1) := by decide +kernel
theorem dX8_sum_63 : decode cX8_sum 63 = .ok (.iload 4, 2) := by decide +kernel
theorem dX8_sum_65 : decode cX8_sum 65 = .ok (.bipush 42, 2) := by decide +kernel
theorem dX8_sum_67 : decode cX8_sum 67 = .ok (.if_icmp .ne 7, 3) := by decide +kernel
theorem dX8_sum_70 : decode cX8_sum 70 = .ok (.iconst 4, 1) := by decide +kernel
theorem dX8_sum_71 : decode cX8_sum 71 = .ok (.goto 4, 3) := by decide +kernel
theorem dX8_sum_74 : decode cX8_sum 74 = .ok (.iconst 5, 1) := by decide +kernel
theorem dX8_sum_75 : decode cX8_sum 75 = .ok (.iconst 0, 1) := by decide +kernel
theorem dX8_sum_76 : decode cX8_sum 76 = .ok (.invokevirtual 54, 3) := by decide +kernel
theorem dX8_sum_79 : decode cX8_sum 79 = .ok (.pop, 1) := by decide +kernel
theorem dX8_sum_80 : decode cX8_sum 80 = .ok (.goto 66, 3) := by decide +kernel
theorem dX8_sum_83 : decode cX8_sum 83 = .ok (.iload_n 1, 1) := by decide +kernel
theorem dX8_sum_84 : decode cX8_sum 84 = .ok (.iconst (-1), 1) := by decide +kernel
theorem dX8_sum_85 : decode cX8_sum 85 = .ok (.if_icmp .eq 10, 3) := by decide +kernel
theorem dX8_sum_88 : decode cX8_sum 88 = .ok (.aload_n 0, 1) := by decide +kernel
theorem dX8_sum_89 : decode cX8_sum 89 = .ok (.iload_n 1, 1) := by decide +kernel
theorem dX8_sum_90 : decode cX8_sum 90 = .ok (.iconst 0, 1) := by decide +kernel
theorem dX8_sum_91 : decode cX8_sum 91 = .ok (.invokevirtual 54, 3) := by decide +kernel
theorem dX8_sum_94 : decode cX8_sum 94 = .ok (.pop, 1) := by decide +kernel
theorem dX8_sum_95 : decode cX8_sum 95 = .ok (.iload 4, 2) := by decide +kernel
theorem dX8_sum_97 : decode cX8_sum 97 = .ok (.bipush 43, 2) := by decide +kernel
theorem dX8_sum_99 : decode cX8_sum 99 = .ok (.if_icmp .eq 10, 3) := by decide +kernel
theorem dX8_sum_102 : decode cX8_sum 102 = .ok (.iload 4, 2) := by decide +kernel
theorem dX8_sum_104 : decode cX8_sum 104 = .ok (.bipush 45, 2) := by decide +kernel
theorem dX8_sum_106 : decode cX8_sum 106 = .ok (.if_icmp .ne 7, 3) := by decide +kernel
theorem dX8_sum_109 : decode cX8_sum 109 = .ok (.iconst 1, 1) := by decide +kernel
theorem dX8_sum_110 : decode cX8_sum 110 = .ok (.goto 4, 3) := by decide +kernel
theorem dX8_sum_113 : decode cX8_sum 113 = .ok (.iconst 0, 1) := by decide +kernel
theorem dX8_sum_114 : decode cX8_sum 114 = .ok (.istore_n 2, 1) := by decide +kernel
theorem dX8_sum_115 : decode cX8_sum 115 = .ok (.iload_n 2, 1) := by decide +kernel
theorem dX8_sum_116 : decode cX8_sum 116 = .ok (.ifCond .eq 30, 3) := by decide +kernel
theorem dX8_sum_119 : decode cX8_sum 119 = .ok (.aload_n 0, 1) := by decide +kernel
theorem dX8_sum_120 : decode cX8_sum 120 = .ok (.dup, 1) := by decide +kernel
theorem dX8_sum_121 : decode cX8_sum 121 = .ok (.getfield 36, 3) := by decide +kernel
theorem dX8_sum_124 : decode cX8_sum 124 = .ok (.iconst 1, 1) := by decide +kernel
theorem dX8_sum_125 : decode cX8_sum 125 = .ok (.iadd, 1) := by decide +kernel
theorem dX8_sum_126 : decode cX8_sum 126 = .ok (.putfield 36, 3) := by decide +kernel
theorem dX8_sum_129 : decode cX8_sum 129 = .ok (.iload 4, 2) := by decide +kernel
theorem dX8_sum_131 : decode cX8_sum 131 = .ok (.bipush 43, 2) := by decide +kernel
theorem dX8_sum_133 : decode cX8_sum 133 = .ok (.if_icmp .ne 7, 3) := by decide +kernel
theorem dX8_sum_136 : decode cX8_sum 136 = .ok (.iconst 2, 1) := by decide +kernel
theorem dX8_sum_137 : decode cX8_sum 137 = .ok (.goto 4, 3) := by decide +kernel
theorem dX8_sum_140 : decode cX8_sum 140 = .ok (.iconst 3, 1) := by decide +kernel
theorem dX8_sum_141 : decode cX8_sum 141 = .ok (.istore_n 1, 1) := by decide +kernel
theorem dX8_sum_142 : decode cX8_sum 142 = .ok (.aload_n 0, 1) := by decide +kernel
theorem dX8_sum_143 : decode cX8_sum 143 = .ok (.invokevirtual 94, 3) := by decide +kernel
theorem dX8_sum_146 : decode cX8_sum 146 = .ok (.iinc 3 1, 3) := by decide +kernel
theorem dX8_sum_149 : decode cX8_sum 149 = .ok (.goto (-139), 3) := by decide +kernel
theorem dX8_sum_152 : decode cX8_sum 152 = .ok (.return_, 1) := by decide +kernel
theorem dX8_test_0 : decode cX8_test 0 = .ok (.iconst (-1), 1) := by decide +kernel
theorem dX8_test_1 : decode cX8_test 1 = .ok (.istore_n 2, 1) := by decide +kernel
theorem dX8_test_2 : decode cX8_test 2 = .ok (.iconst 1, 1) := by decide +kernel
theorem dX8_test_3 : decode cX8_test 3 = .ok (.istore_n 3, 1) := by decide +kernel
theorem dX8_test_4 : decode cX8_test 4 = .ok (.aload_n 0, 1) := by decide +kernel
theorem dX8_test_5 : decode cX8_test 5 = .ok (.iload_n 1, 1) := by decide +kernel
theorem dX8_test_6 : decode cX8_test 6 = .ok (.invokevirtual 75, 3) := by decide +kernel
theorem dX8_test_9 : decode cX8_test 9 = .ok (.iconst 0, 1) := by decide +kernel
theorem dX8_test_10 : decode cX8_test 10 = .ok (.istore 4, 2) := by decide +kernel
theorem dX8_test_12 : decode cX8_test 12 = .ok (.iload_n 3, 1) := by decide +kernel
theorem dX8_test_13 : decode cX8_test 13 = .ok (.ifCond .eq 109, 3) := by decide +kernel
theorem dX8_test_16 : decode cX8_test 16 = .ok (.aload_n 0, 1) := by decide +kernel
theorem dX8_test_17 : decode cX8_test 17 = .ok (.getfield 65, 3) := by decide +kernel
theorem dX8_test_20 : decode cX8_test 20 = .ok (.ifCond .ne 102, 3) := by decide +kernel
theorem dX8_test_23 : decode cX8_test 23 = .ok (.iload 4, 2) := by decide +kernel
theorem dX8_test_25 : decode cX8_test 25 = .ok (.sipush 400, 3) := by decide +kernel
theorem dX8_test_28 : decode cX8_test 28 = .ok (.if_icmp .ge 94, 3) := by decide +kernel
theorem dX8_test_31 : decode cX8_test 31 = .ok (.aload_n 0, 1) := by decide +kernel
theorem dX8_test_32 : decode cX8_test 32 = .ok (.invokevirtual 26, 3) := by decide +kernel
theorem dX8_test_35 : decode cX8_test 35 = .ok (.pop, 1) := by decide +kernel
theorem dX8_test_36 : decode cX8_test 36 = .ok (.aload_n 0, 1) := by decide +kernel
theorem dX8_test_37 : decode cX8_test 37 = .ok (.ldc 78, 2) := by decide +kernel
theorem dX8_test_39 : decode cX8_test 39 = .ok (.invokevirtual 32, 3) := by decide +kernel
theorem dX8_test_42 : decode cX8_test 42 = .ok (.istore 5, 2) := by decide +kernel
theorem dX8_test_44 : decode cX8_test 44 = .ok (.iload 5, 2) := by decide +kernel
theorem dX8_test_46 : decode cX8_test 46 = .ok (.ifCond .ne 30, 3) := by decide +kernel
theorem dX8_test_49 : decode cX8_test 49 = .ok (.aload_n 0, 1) := by decide +kernel
theorem dX8_test_50 : decode cX8_test 50 = .ok (.invokevirtual 43, 3) := by decide +kernel
theorem dX8_test_53 : decode cX8_test 53 = .ok (.aload_n 0, 1) := by decide +kernel
theorem dX8_test_54 : decode cX8_test 54 = .ok (.bipush 12, 2) := by decide +kernel
theorem dX8_test_56 : decode cX8_test 56 = .ok (.iconst 0, 1) := by decide +kernel
theorem dX8_test_57 : decode cX8_test 57 = .ok (.invokevirtual 54, 3) := by decide +kernel
theorem dX8_test_60 : decode cX8_test 60 = .ok (.istore 6, 2) := by decide +kernel
theorem dX8_test_62 : decode cX8_test 62 = .ok (.aload_n 0, 1) := by decide +kernel
theorem dX8_test_63 : decode cX8_test 63 = .ok (.iload_n 1, 1) := by decide +kernel
theorem dX8_test_64 : decode cX8_test 64 = .ok (.invokevirtual 75, 3) := by decide +kernel
theorem dX8_test_67 : decode cX8_test 67 = .ok (.aload_n 0, 1) := by decide +kernel
theorem dX8_test_68 : decode cX8_test 68 = .ok (.iload 6, 2) := by decide +kernel
theorem dX8_test_70 : decode cX8_test 70 = .ok (.invokevirtual 58, 3) := by decide +kernel
theorem dX8_test_73 : decode cX8_test 73 = .ok (.goto 43, 3) := by decide +kernel
theorem dX8_test_76 : decode cX8_test 76 = .ok (.aload_n 0, 1) := by decide +kernel
theorem dX8_test_77 : decode cX8_test 77 = .ok (.iload_n 2, 1) := by decide +kernel
theorem dX8_test_78 : decode cX8_test 78 = .ok (.invokevirtual 58, 3) := by decide +kernel
theorem dX8_test_81 : decode cX8_test 81 = .ok (.iconst (-1), 1) := by decide +kernel
theorem dX8_test_82 : decode cX8_test 82 = .ok (.istore_n 2, 1) := by decide +kernel
theorem dX8_test_83 : decode cX8_test 83 = .ok (.iload 5, 2) := by decide +kernel
theorem dX8_test_85 : decode cX8_test 85 = .ok (.iconst 1, 1) := by decide +kernel
theorem dX8_test_86 : decode cX8_test 86 = .ok (.if_icmp .ne 7, 3) := by decide +kernel
theorem dX8_test_89 : decode cX8_test 89 = .ok (.iconst 1, 1) := by decide +kernel
theorem dX8_test_90 : decode cX8_test 90 = .ok (.goto 4, 3) := by decide +kernel
theorem dX8_test_93 : decode cX8_test 93 = .ok (.iconst 0, 1) := by decide +kernel
theorem dX8_test_94 : decode cX8_test 94 = .ok (.istore_n 3, 1) := by decide +kernel
theorem dX8_test_95 : decode cX8_test 95 = .ok (.iload_n 3, 1) := by decide +kernel
theorem dX8_test_96 : decode cX8_test 96 = .ok (.ifCond .eq 20, 3) := by decide +kernel
theorem dX8_test_99 : decode cX8_test 99 = .ok (.aload_n 0, 1) := by decide +kernel
theorem dX8_test_100 : decode cX8_test 100 = .ok (.invokevirtual 43, 3) := by decide +kernel
theorem dX8_test_103 : decode cX8_test 103 = .ok (.aload_n 0, 1) := by decide +kernel
theorem dX8_test_104 : decode cX8_test 104 = .ok (.bipush 13, 2) := by decide +kernel
theorem dX8_test_106 : decode cX8_test 106 = .ok (.iconst 0, 1) := by decide +kernel
theorem dX8_test_107 : decode cX8_test 107 = .ok (.invokevirtual 54, 3) := by decide +kernel
theorem dX8_test_110 : decode cX8_test 110 = .ok (.istore_n 2, 1) := by decide +kernel
theorem dX8_test_111 : decode cX8_test 111 = .ok (.aload_n 0, 1) := by decide +kernel
theorem dX8_test_112 : decode cX8_test 112 = .ok (.iload_n 1, 1) := by decide +kernel
theorem dX8_test_113 : decode cX8_test 113 = .ok (.invokevirtual 75, 3) := by decide +kernel
theorem dX8_test_116 : decode cX8_test 116 = .ok (.iinc 4 1, 3) := by decide +kernel
theorem dX8_test_119 : decode cX8_test 119 = .ok (.goto (-107), 3) := by decide +kernel
theorem dX8_test_122 : decode cX8_test 122 = .ok (.return_, 1) := by decide +kernel
theorem dX8_value_0 : decode cX8_value 0 = .ok (.aload_n 0, 1) := by decide +kernel
theorem dX8_value_1 : decode cX8_value 1 = .ok (.invokevirtual 26, 3) := by decide +kernel
theorem dX8_value_4 : decode cX8_value 4 = .ok (.pop, 1) := by decide +kernel
theorem dX8_value_5 : decode cX8_value 5 = .ok (.aload_n 0, 1) := by decide +kernel
theorem dX8_value_6 : decode cX8_value 6 = .ok (.getfield 36, 3) := by decide +kernel
theorem dX8_value_9 : decode cX8_value 9 = .ok (.istore_n 1, 1) := by decide +kernel
theorem dX8_value_10 : decode cX8_value 10 = .ok (.aload_n 0, 1) := by decide +kernel
theorem dX8_value_11 : decode cX8_value 11 = .ok (.invokevirtual 97, 3) := by decide +kernel
theorem dX8_value_14 : decode cX8_value 14 = .ok (.ifCond .eq 19, 3) := by decide +kernel
theorem dX8_value_17 : decode cX8_value 17 = .ok (.aload_n 0, 1) := by decide +kernel
theorem dX8_value_18 : decode cX8_value 18 = .ok (.iconst 0, 1) := by decide +kernel
theorem dX8_value_19 : decode cX8_value 19 = .ok (.aload_n 0, 1) := by decide +kernel
theorem dX8_value_20 : decode cX8_value 20 = .ok (.iconst 0, 1) := by decide +kernel
theorem dX8_value_21 : decode cX8_value 21 = .ok (.ldc 100, 2) := by decide +kernel
theorem dX8_value_23 : decode cX8_value 23 = .ok (.invokevirtual 101, 3) := by decide +kernel
theorem dX8_value_26 : decode cX8_value 26 = .ok (.invokevirtual 54, 3) := by decide +kernel
theorem dX8_value_29 : decode cX8_value 29 = .ok (.pop, 1) := by decide +kernel
theorem dX8_value_30 : decode cX8_value 30 = .ok (.goto 35, 3) := by decide +kernel
theorem dX8_value_33 : decode cX8_value 33 = .ok (.aload_n 0, 1) := by decide +kernel
theorem dX8_value_34 : decode cX8_value 34 = .ok (.ldc 104, 2) := by decide +kernel
theorem dX8_value_36 : decode cX8_value 36 = .ok (.invokevirtual 32, 3) := by decide +kernel
theorem dX8_value_39 : decode cX8_value 39 = .ok (.istore_n 2, 1) := by decide +kernel
theorem dX8_value_40 : decode cX8_value 40 = .ok (.iload_n 2, 1) := by decide +kernel
theorem dX8_value_41 : decode cX8_value 41 = .ok (.iconst (-1), 1) := by decide +kernel
theorem dX8_value_42 : decode cX8_value 42 = .ok (.if_icmp .ne 12, 3) := by decide +kernel
theorem dX8_value_45 : decode cX8_value 45 = .ok (.aload_n 0, 1) := by decide +kernel
theorem dX8_value_46 : decode cX8_value 46 = .ok (.aload_n 0, 1) := by decide +kernel
theorem dX8_value_47 : decode cX8_value 47 = .ok (.getfield 36, 3) := by decide +kernel
theorem dX8_value_50 : decode cX8_value 50 = .ok (.iconst 0, 1) := by decide +kernel
theorem dX8_value_51 : decode cX8_value 51 = .ok (.invokevirtual 39, 3) := by decide +kernel
theorem dX8_value_54 : decode cX8_value 54 = .ok (.aload_n 0, 1) := by decide +kernel
theorem dX8_value_55 : decode cX8_value 55 = .ok (.invokevirtual 43, 3) := by decide +kernel
