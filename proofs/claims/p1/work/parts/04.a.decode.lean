theorem dJ6_bitCount_0f7a4_0 : decode cJ6_bitCount_0f7a4 0 = .ok (.iload_n 0, 1) := by decide +kernel
theorem dJ6_bitCount_0f7a4_1 : decode cJ6_bitCount_0f7a4 1 = .ok (.iload_n 0, 1) := by decide +kernel
theorem dJ6_bitCount_0f7a4_2 : decode cJ6_bitCount_0f7a4 2 = .ok (.iconst 1, 1) := by decide +kernel
theorem dJ6_bitCount_0f7a4_3 : decode cJ6_bitCount_0f7a4 3 = .ok (.iushr, 1) := by decide +kernel
theorem dJ6_bitCount_0f7a4_4 : decode cJ6_bitCount_0f7a4 4 = .ok (.ldc_w 265, 3) := by decide +kernel
theorem dJ6_bitCount_0f7a4_7 : decode cJ6_bitCount_0f7a4 7 = .ok (.iand, 1) := by decide +kernel
theorem dJ6_bitCount_0f7a4_8 : decode cJ6_bitCount_0f7a4 8 = .ok (.isub, 1) := by decide +kernel
theorem dJ6_bitCount_0f7a4_9 : decode cJ6_bitCount_0f7a4 9 = .ok (.istore_n 0, 1) := by decide +kernel
theorem dJ6_bitCount_0f7a4_10 : decode cJ6_bitCount_0f7a4 10 = .ok (.iload_n 0, 1) := by decide +kernel
theorem dJ6_bitCount_0f7a4_11 : decode cJ6_bitCount_0f7a4 11 = .ok (.ldc_w 266, 3) := by decide +kernel
theorem dJ6_bitCount_0f7a4_14 : decode cJ6_bitCount_0f7a4 14 = .ok (.iand, 1) := by decide +kernel
theorem dJ6_bitCount_0f7a4_15 : decode cJ6_bitCount_0f7a4 15 = .ok (.iload_n 0, 1) := by decide +kernel
theorem dJ6_bitCount_0f7a4_16 : decode cJ6_bitCount_0f7a4 16 = .ok (.iconst 2, 1) := by decide +kernel
theorem dJ6_bitCount_0f7a4_17 : decode cJ6_bitCount_0f7a4 17 = .ok (.iushr, 1) := by decide +kernel
theorem dJ6_bitCount_0f7a4_18 : decode cJ6_bitCount_0f7a4 18 = .ok (.ldc_w 266, 3) := by decide +kernel
theorem dJ6_bitCount_0f7a4_21 : decode cJ6_bitCount_0f7a4 21 = .ok (.iand, 1) := by decide +kernel
theorem dJ6_bitCount_0f7a4_22 : decode cJ6_bitCount_0f7a4 22 = .ok (.iadd, 1) := by decide +kernel
theorem dJ6_bitCount_0f7a4_23 : decode cJ6_bitCount_0f7a4 23 = .ok (.istore_n 0, 1) := by decide +kernel
theorem dJ6_bitCount_0f7a4_24 : decode cJ6_bitCount_0f7a4 24 = .ok (.iload_n 0, 1) := by decide +kernel
theorem dJ6_bitCount_0f7a4_25 : decode cJ6_bitCount_0f7a4 25 = .ok (.iload_n 0, 1) := by decide +kernel
theorem dJ6_bitCount_0f7a4_26 : decode cJ6_bitCount_0f7a4 26 = .ok (.iconst 4, 1) := by decide +kernel
theorem dJ6_bitCount_0f7a4_27 : decode cJ6_bitCount_0f7a4 27 = .ok (.iushr, 1) := by decide +kernel
theorem dJ6_bitCount_0f7a4_28 : decode cJ6_bitCount_0f7a4 28 = .ok (.iadd, 1) := by decide +kernel
theorem dJ6_bitCount_0f7a4_29 : decode cJ6_bitCount_0f7a4 29 = .ok (.ldc_w 267, 3) := by decide +kernel
theorem dJ6_bitCount_0f7a4_32 : decode cJ6_bitCount_0f7a4 32 = .ok (.iand, 1) := by decide +kernel
theorem dJ6_bitCount_0f7a4_33 : decode cJ6_bitCount_0f7a4 33 = .ok (.istore_n 0, 1) := by decide +kernel
theorem dJ6_bitCount_0f7a4_34 : decode cJ6_bitCount_0f7a4 34 = .ok (.iload_n 0, 1) := by decide +kernel
theorem dJ6_bitCount_0f7a4_35 : decode cJ6_bitCount_0f7a4 35 = .ok (.iload_n 0, 1) := by decide +kernel
theorem dJ6_bitCount_0f7a4_36 : decode cJ6_bitCount_0f7a4 36 = .ok (.bipush 8, 2) := by decide +kernel
theorem dJ6_bitCount_0f7a4_38 : decode cJ6_bitCount_0f7a4 38 = .ok (.iushr, 1) := by decide +kernel
theorem dJ6_bitCount_0f7a4_39 : decode cJ6_bitCount_0f7a4 39 = .ok (.iadd, 1) := by decide +kernel
theorem dJ6_bitCount_0f7a4_40 : decode cJ6_bitCount_0f7a4 40 = .ok (.istore_n 0, 1) := by decide +kernel
theorem dJ6_bitCount_0f7a4_41 : decode cJ6_bitCount_0f7a4 41 = .ok (.iload_n 0, 1) := by decide +kernel
theorem dJ6_bitCount_0f7a4_42 : decode cJ6_bitCount_0f7a4 42 = .ok (.iload_n 0, 1) := by decide +kernel
theorem dJ6_bitCount_0f7a4_43 : decode cJ6_bitCount_0f7a4 43 = .ok (.bipush 16, 2) := by decide +kernel
theorem dJ6_bitCount_0f7a4_45 : decode cJ6_bitCount_0f7a4 45 = .ok (.iushr, 1) := by decide +kernel
theorem dJ6_bitCount_0f7a4_46 : decode cJ6_bitCount_0f7a4 46 = .ok (.iadd, 1) := by decide +kernel
theorem dJ6_bitCount_0f7a4_47 : decode cJ6_bitCount_0f7a4 47 = .ok (.istore_n 0, 1) := by decide +kernel
theorem dJ6_bitCount_0f7a4_48 : decode cJ6_bitCount_0f7a4 48 = .ok (.iload_n 0, 1) := by decide +kernel
theorem dJ6_bitCount_0f7a4_49 : decode cJ6_bitCount_0f7a4 49 = .ok (.bipush 63, 2) := by decide +kernel
theorem dJ6_bitCount_0f7a4_51 : decode cJ6_bitCount_0f7a4 51 = .ok (.iand, 1) := by decide +kernel
theorem dJ6_bitCount_0f7a4_52 : decode cJ6_bitCount_0f7a4 52 = .ok (.ireturn, 1) := by decide +kernel
theorem dL_law_0 : decode cL_law 0 = .ok (.new 7, 3) := by decide +kernel
theorem dL_law_3 : decode cL_law 3 = .ok (.dup, 1) := by decide +kernel
theorem dL_law_4 : decode cL_law 4 = .ok (.invokespecial 9, 3) := by decide +kernel
theorem dL_law_7 : decode cL_law 7 = .ok (.astore_n 1, 1) := by decide +kernel
theorem dL_law_8 : decode cL_law 8 = .ok (.new 10, 3) := by decide +kernel
theorem dL_law_11 : decode cL_law 11 = .ok (.dup, 1) := by decide +kernel
theorem dL_law_12 : decode cL_law 12 = .ok (.invokespecial 12, 3) := by decide +kernel
theorem dL_law_15 : decode cL_law 15 = .ok (.astore_n 2, 1) := by decide +kernel
theorem dL_law_16 : decode cL_law 16 = .ok (.iconst 0, 1) := by decide +kernel
theorem dL_law_17 : decode cL_law 17 = .ok (.istore_n 3, 1) := by decide +kernel
theorem dL_law_18 : decode cL_law 18 = .ok (.iload_n 3, 1) := by decide +kernel
theorem dL_law_19 : decode cL_law 19 = .ok (.aload_n 0, 1) := by decide +kernel
theorem dL_law_20 : decode cL_law 20 = .ok (.arraylength, 1) := by decide +kernel
theorem dL_law_21 : decode cL_law 21 = .ok (.bipush 6, 2) := by decide +kernel
theorem dL_law_23 : decode cL_law 23 = .ok (.isub, 1) := by decide +kernel
theorem dL_law_24 : decode cL_law 24 = .ok (.if_icmp .gt 1139, 3) := by decide +kernel
theorem dL_law_27 : decode cL_law 27 = .ok (.aload_n 0, 1) := by decide +kernel
theorem dL_law_28 : decode cL_law 28 = .ok (.iload_n 3, 1) := by decide +kernel
theorem dL_law_29 : decode cL_law 29 = .ok (.iaload, 1) := by decide +kernel
theorem dL_law_30 : decode cL_law 30 = .ok (.bipush 31, 2) := by decide +kernel
theorem dL_law_32 : decode cL_law 32 = .ok (.iand, 1) := by decide +kernel
theorem dL_law_33 : decode cL_law 33 = .ok (.tableswitch 1124 0 30 #[139, 202, 225, 238, 251, 284, 317, 350, 399, 432, 465, 488, 521, 544, 567, 580, 623, 646, 689, 712, 755, 814, 837, 890, 933, 966, 989, 1032, 1055, 1078, 1101], 139) := by decide +kernel
theorem dL_law_172 : decode cL_law 172 = .ok (.aload_n 1, 1) := by decide +kernel
theorem dL_law_173 : decode cL_law 173 = .ok (.aload_n 0, 1) := by decide +kernel
theorem dL_law_174 : decode cL_law 174 = .ok (.iload_n 3, 1) := by decide +kernel
theorem dL_law_175 : decode cL_law 175 = .ok (.iconst 1, 1) := by decide +kernel
theorem dL_law_176 : decode cL_law 176 = .ok (.iadd, 1) := by decide +kernel
theorem dL_law_177 : decode cL_law 177 = .ok (.iaload, 1) := by decide +kernel
theorem dL_law_178 : decode cL_law 178 = .ok (.aload_n 0, 1) := by decide +kernel
theorem dL_law_179 : decode cL_law 179 = .ok (.iload_n 3, 1) := by decide +kernel
theorem dL_law_180 : decode cL_law 180 = .ok (.iconst 2, 1) := by decide +kernel
theorem dL_law_181 : decode cL_law 181 = .ok (.iadd, 1) := by decide +kernel
theorem dL_law_182 : decode cL_law 182 = .ok (.iaload, 1) := by decide +kernel
theorem dL_law_183 : decode cL_law 183 = .ok (.aload_n 0, 1) := by decide +kernel
theorem dL_law_184 : decode cL_law 184 = .ok (.iload_n 3, 1) := by decide +kernel
theorem dL_law_185 : decode cL_law 185 = .ok (.iconst 3, 1) := by decide +kernel
theorem dL_law_186 : decode cL_law 186 = .ok (.iadd, 1) := by decide +kernel
theorem dL_law_187 : decode cL_law 187 = .ok (.iaload, 1) := by decide +kernel
theorem dL_law_188 : decode cL_law 188 = .ok (.aload_n 0, 1) := by decide +kernel
theorem dL_law_189 : decode cL_law 189 = .ok (.iload_n 3, 1) := by decide +kernel
theorem dL_law_190 : decode cL_law 190 = .ok (.iconst 4, 1) := by decide +kernel
theorem dL_law_191 : decode cL_law 191 = .ok (.iadd, 1) := by decide +kernel
theorem dL_law_192 : decode cL_law 192 = .ok (.iaload, 1) := by decide +kernel
theorem dL_law_193 : decode cL_law 193 = .ok (.aload_n 0, 1) := by decide +kernel
theorem dL_law_194 : decode cL_law 194 = .ok (.iload_n 3, 1) := by decide +kernel
theorem dL_law_195 : decode cL_law 195 = .ok (.iconst 5, 1) := by decide +kernel
theorem dL_law_196 : decode cL_law 196 = .ok (.iadd, 1) := by decide +kernel
theorem dL_law_197 : decode cL_law 197 = .ok (.iaload, 1) := by decide +kernel
theorem dL_law_198 : decode cL_law 198 = .ok (.invokevirtual 13, 3) := by decide +kernel
theorem dL_law_201 : decode cL_law 201 = .ok (.aload_n 2, 1) := by decide +kernel
theorem dL_law_202 : decode cL_law 202 = .ok (.aload_n 0, 1) := by decide +kernel
theorem dL_law_203 : decode cL_law 203 = .ok (.iload_n 3, 1) := by decide +kernel
theorem dL_law_204 : decode cL_law 204 = .ok (.iconst 1, 1) := by decide +kernel
theorem dL_law_205 : decode cL_law 205 = .ok (.iadd, 1) := by decide +kernel
theorem dL_law_206 : decode cL_law 206 = .ok (.iaload, 1) := by decide +kernel
theorem dL_law_207 : decode cL_law 207 = .ok (.aload_n 0, 1) := by decide +kernel
theorem dL_law_208 : decode cL_law 208 = .ok (.iload_n 3, 1) := by decide +kernel
theorem dL_law_209 : decode cL_law 209 = .ok (.iconst 2, 1) := by decide +kernel
theorem dL_law_210 : decode cL_law 210 = .ok (.iadd, 1) := by decide +kernel
theorem dL_law_211 : decode cL_law 211 = .ok (.iaload, 1) := by decide +kernel
theorem dL_law_212 : decode cL_law 212 = .ok (.aload_n 0, 1) := by decide +kernel
theorem dL_law_213 : decode cL_law 213 = .ok (.iload_n 3, 1) := by decide +kernel
theorem dL_law_214 : decode cL_law 214 = .ok (.iconst 3, 1) := by decide +kernel
theorem dL_law_215 : decode cL_law 215 = .ok (.iadd, 1) := by decide +kernel
theorem dL_law_216 : decode cL_law 216 = .ok (.iaload, 1) := by decide +kernel
theorem dL_law_217 : decode cL_law 217 = .ok (.aload_n 0, 1) := by decide +kernel
theorem dL_law_218 : decode cL_law 218 = .ok (.iload_n 3, 1) := by decide +kernel
theorem dL_law_219 : decode cL_law 219 = .ok (.iconst 4, 1) := by decide +kernel
theorem dL_law_220 : decode cL_law 220 = .ok (.iadd, 1) := by decide +kernel
theorem dL_law_221 : decode cL_law 221 = .ok (.iaload, 1) := by decide +kernel
theorem dL_law_222 : decode cL_law 222 = .ok (.aload_n 0, 1) := by decide +kernel
theorem dL_law_223 : decode cL_law 223 = .ok (.iload_n 3, 1) := by decide +kernel
theorem dL_law_224 : decode cL_law 224 = .ok (.iconst 5, 1) := by decide +kernel
theorem dL_law_225 : decode cL_law 225 = .ok (.iadd, 1) := by decide +kernel
theorem dL_law_226 : decode cL_law 226 = .ok (.iaload, 1) := by decide +kernel
theorem dL_law_227 : decode cL_law 227 = .ok (.invokevirtual 17, 3) := by decide +kernel
theorem dL_law_230 : decode cL_law 230 = .ok (.if_icmp .eq 927, 3) := by decide +kernel
theorem dL_law_235 : decode cL_law 235 = .ok (.aload_n 1, 1) := by decide +kernel
theorem dL_law_236 : decode cL_law 236 = .ok (.aload_n 0, 1) := by decide +kernel
theorem dL_law_237 : decode cL_law 237 = .ok (.iload_n 3, 1) := by decide +kernel
theorem dL_law_238 : decode cL_law 238 = .ok (.iconst 1, 1) := by decide +kernel
theorem dL_law_239 : decode cL_law 239 = .ok (.iadd, 1) := by decide +kernel
theorem dL_law_240 : decode cL_law 240 = .ok (.iaload, 1) := by decide +kernel
theorem dL_law_241 : decode cL_law 241 = .ok (.invokevirtual 18, 3) := by decide +kernel
theorem dL_law_244 : decode cL_law 244 = .ok (.aload_n 2, 1) := by decide +kernel
theorem dL_law_245 : decode cL_law 245 = .ok (.aload_n 0, 1) := by decide +kernel
theorem dL_law_246 : decode cL_law 246 = .ok (.iload_n 3, 1) := by decide +kernel
theorem dL_law_247 : decode cL_law 247 = .ok (.iconst 1, 1) := by decide +kernel
theorem dL_law_248 : decode cL_law 248 = .ok (.iadd, 1) := by decide +kernel
theorem dL_law_249 : decode cL_law 249 = .ok (.iaload, 1) := by decide +kernel
theorem dL_law_250 : decode cL_law 250 = .ok (.invokevirtual 22, 3) := by decide +kernel
theorem dL_law_253 : decode cL_law 253 = .ok (.if_icmp .eq 904, 3) := by decide +kernel
theorem dL_law_258 : decode cL_law 258 = .ok (.aload_n 1, 1) := by decide +kernel
theorem dL_law_259 : decode cL_law 259 = .ok (.invokevirtual 23, 3) := by decide +kernel
theorem dL_law_262 : decode cL_law 262 = .ok (.aload_n 2, 1) := by decide +kernel
theorem dL_law_263 : decode cL_law 263 = .ok (.invokevirtual 27, 3) := by decide +kernel
theorem dL_law_266 : decode cL_law 266 = .ok (.if_icmp .eq 891, 3) := by decide +kernel
theorem dL_law_271 : decode cL_law 271 = .ok (.aload_n 1, 1) := by decide +kernel
theorem dL_law_272 : decode cL_law 272 = .ok (.invokevirtual 28, 3) := by decide +kernel
theorem dL_law_275 : decode cL_law 275 = .ok (.aload_n 2, 1) := by decide +kernel
theorem dL_law_276 : decode cL_law 276 = .ok (.invokevirtual 31, 3) := by decide +kernel
theorem dL_law_279 : decode cL_law 279 = .ok (.if_icmp .eq 878, 3) := by decide +kernel
theorem dL_law_284 : decode cL_law 284 = .ok (.aload_n 1, 1) := by decide +kernel
theorem dL_law_285 : decode cL_law 285 = .ok (.aload_n 0, 1) := by decide +kernel
theorem dL_law_286 : decode cL_law 286 = .ok (.iload_n 3, 1) := by decide +kernel
theorem dL_law_287 : decode cL_law 287 = .ok (.iconst 1, 1) := by decide +kernel
theorem dL_law_288 : decode cL_law 288 = .ok (.iadd, 1) := by decide +kernel
theorem dL_law_289 : decode cL_law 289 = .ok (.iaload, 1) := by decide +kernel
theorem dL_law_290 : decode cL_law 290 = .ok (.aload_n 0, 1) := by decide +kernel
theorem dL_law_291 : decode cL_law 291 = .ok (.iload_n 3, 1) := by decide +kernel
theorem dL_law_292 : decode cL_law 292 = .ok (.iconst 2, 1) := by decide +kernel
theorem dL_law_293 : decode cL_law 293 = .ok (.iadd, 1) := by decide +kernel
theorem dL_law_294 : decode cL_law 294 = .ok (.iaload, 1) := by decide +kernel
theorem dL_law_295 : decode cL_law 295 = .ok (.invokevirtual 32, 3) := by decide +kernel
theorem dL_law_298 : decode cL_law 298 = .ok (.aload_n 2, 1) := by decide +kernel
theorem dL_law_299 : decode cL_law 299 = .ok (.aload_n 0, 1) := by decide +kernel
theorem dL_law_300 : decode cL_law 300 = .ok (.iload_n 3, 1) := by decide +kernel
theorem dL_law_301 : decode cL_law 301 = .ok (.iconst 1, 1) := by decide +kernel
theorem dL_law_302 : decode cL_law 302 = .ok (.iadd, 1) := by decide +kernel
theorem dL_law_303 : decode cL_law 303 = .ok (.iaload, 1) := by decide +kernel
theorem dL_law_304 : decode cL_law 304 = .ok (.aload_n 0, 1) := by decide +kernel
theorem dL_law_305 : decode cL_law 305 = .ok (.iload_n 3, 1) := by decide +kernel
theorem dL_law_306 : decode cL_law 306 = .ok (.iconst 2, 1) := by decide +kernel
theorem dL_law_307 : decode cL_law 307 = .ok (.iadd, 1) := by decide +kernel
theorem dL_law_308 : decode cL_law 308 = .ok (.iaload, 1) := by decide +kernel
theorem dL_law_309 : decode cL_law 309 = .ok (.invokevirtual 36, 3) := by decide +kernel
theorem dL_law_312 : decode cL_law 312 = .ok (.if_icmp .eq 845, 3) := by decide +kernel
theorem dL_law_317 : decode cL_law 317 = .ok (.aload_n 1, 1) := by decide +kernel
theorem dL_law_318 : decode cL_law 318 = .ok (.aload_n 0, 1) := by decide +kernel
theorem dL_law_319 : decode cL_law 319 = .ok (.iload_n 3, 1) := by decide +kernel
theorem dL_law_320 : decode cL_law 320 = .ok (.iconst 1, 1) := by decide +kernel
theorem dL_law_321 : decode cL_law 321 = .ok (.iadd, 1) := by decide +kernel
theorem dL_law_322 : decode cL_law 322 = .ok (.iaload, 1) := by decide +kernel
theorem dL_law_323 : decode cL_law 323 = .ok (.aload_n 0, 1) := by decide +kernel
theorem dL_law_324 : decode cL_law 324 = .ok (.iload_n 3, 1) := by decide +kernel
theorem dL_law_325 : decode cL_law 325 = .ok (.iconst 2, 1) := by decide +kernel
theorem dL_law_326 : decode cL_law 326 = .ok (.iadd, 1) := by decide +kernel
theorem dL_law_327 : decode cL_law 327 = .ok (.iaload, 1) := by decide +kernel
theorem dL_law_328 : decode cL_law 328 = .ok (.invokevirtual 37, 3) := by decide +kernel
theorem dL_law_331 : decode cL_law 331 = .ok (.aload_n 2, 1) := by decide +kernel
theorem dL_law_332 : decode cL_law 332 = .ok (.aload_n 0, 1) := by decide +kernel
theorem dL_law_333 : decode cL_law 333 = .ok (.iload_n 3, 1) := by decide +kernel
theorem dL_law_334 : decode cL_law 334 = .ok (.iconst 1, 1) := by decide +kernel
theorem dL_law_335 : decode cL_law 335 = .ok (.iadd, 1) := by decide +kernel
theorem dL_law_336 : decode cL_law 336 = .ok (.iaload, 1) := by decide +kernel
theorem dL_law_337 : decode cL_law 337 = .ok (.aload_n 0, 1) := by decide +kernel
theorem dL_law_338 : decode cL_law 338 = .ok (.iload_n 3, 1) := by decide +kernel
theorem dL_law_339 : decode cL_law 339 = .ok (.iconst 2, 1) := by decide +kernel
theorem dL_law_340 : decode cL_law 340 = .ok (.iadd, 1) := by decide +kernel
theorem dL_law_341 : decode cL_law 341 = .ok (.iaload, 1) := by decide +kernel
theorem dL_law_342 : decode cL_law 342 = .ok (.invokevirtual 40, 3) := by decide +kernel
theorem dL_law_345 : decode cL_law 345 = .ok (.if_icmp .eq 812, 3) := by decide +kernel
theorem dL_law_350 : decode cL_law 350 = .ok (.aload_n 1, 1) := by decide +kernel
theorem dL_law_351 : decode cL_law 351 = .ok (.aload_n 0, 1) := by decide +kernel
theorem dL_law_352 : decode cL_law 352 = .ok (.iload_n 3, 1) := by decide +kernel
theorem dL_law_353 : decode cL_law 353 = .ok (.iconst 1, 1) := by decide +kernel
theorem dL_law_354 : decode cL_law 354 = .ok (.iadd, 1) := by decide +kernel
theorem dL_law_355 : decode cL_law 355 = .ok (.iaload, 1) := by decide +kernel
theorem dL_law_356 : decode cL_law 356 = .ok (.aload_n 0, 1) := by decide +kernel
theorem dL_law_357 : decode cL_law 357 = .ok (.iload_n 3, 1) := by decide +kernel
theorem dL_law_358 : decode cL_law 358 = .ok (.iconst 2, 1) := by decide +kernel
theorem dL_law_359 : decode cL_law 359 = .ok (.iadd, 1) := by decide +kernel
theorem dL_law_360 : decode cL_law 360 = .ok (.iaload, 1) := by decide +kernel
theorem dL_law_361 : decode cL_law 361 = .ok (.invokevirtual 41, 3) := by decide +kernel
theorem dL_law_364 : decode cL_law 364 = .ok (.aload_n 2, 1) := by decide +kernel
theorem dL_law_365 : decode cL_law 365 = .ok (.aload_n 0, 1) := by decide +kernel
theorem dL_law_366 : decode cL_law 366 = .ok (.iload_n 3, 1) := by decide +kernel
theorem dL_law_367 : decode cL_law 367 = .ok (.iconst 1, 1) := by decide +kernel
theorem dL_law_368 : decode cL_law 368 = .ok (.iadd, 1) := by decide +kernel
theorem dL_law_369 : decode cL_law 369 = .ok (.iaload, 1) := by decide +kernel
theorem dL_law_370 : decode cL_law 370 = .ok (.aload_n 0, 1) := by decide +kernel
theorem dL_law_371 : decode cL_law 371 = .ok (.iload_n 3, 1) := by decide +kernel
theorem dL_law_372 : decode cL_law 372 = .ok (.iconst 2, 1) := by decide +kernel
theorem dL_law_373 : decode cL_law 373 = .ok (.iadd, 1) := by decide +kernel
theorem dL_law_374 : decode cL_law 374 = .ok (.iaload, 1) := by decide +kernel
theorem dL_law_375 : decode cL_law 375 = .ok (.invokevirtual 44, 3) := by decide +kernel
theorem dL_law_378 : decode cL_law 378 = .ok (.if_icmp .eq 779, 3) := by decide +kernel
theorem dL_law_383 : decode cL_law 383 = .ok (.aload_n 1, 1) := by decide +kernel
theorem dL_law_384 : decode cL_law 384 = .ok (.aload_n 0, 1) := by decide +kernel
theorem dL_law_385 : decode cL_law 385 = .ok (.iload_n 3, 1) := by decide +kernel
theorem dL_law_386 : decode cL_law 386 = .ok (.iconst 1, 1) := by decide +kernel
theorem dL_law_387 : decode cL_law 387 = .ok (.iadd, 1) := by decide +kernel
theorem dL_law_388 : decode cL_law 388 = .ok (.iaload, 1) := by decide +kernel
theorem dL_law_389 : decode cL_law 389 = .ok (.aload_n 0, 1) := by decide +kernel
theorem dL_law_390 : decode cL_law 390 = .ok (.iload_n 3, 1) := by decide +kernel
theorem dL_law_391 : decode cL_law 391 = .ok (.iconst 2, 1) := by decide +kernel
theorem dL_law_392 : decode cL_law 392 = .ok (.iadd, 1) := by decide +kernel
theorem dL_law_393 : decode cL_law 393 = .ok (.iaload, 1) := by decide +kernel
theorem dL_law_394 : decode cL_law 394 = .ok (.ifCond .eq 7, 3) := by decide +kernel
theorem dL_law_397 : decode cL_law 397 = .ok (.iconst 1, 1) := by decide +kernel
theorem dL_law_398 : decode cL_law 398 = .ok (.goto 4, 3) := by decide +kernel
theorem dL_law_401 : decode cL_law 401 = .ok (.iconst 0, 1) := by decide +kernel
theorem dL_law_402 : decode cL_law 402 = .ok (.invokevirtual 45, 3) := by decide +kernel
theorem dL_law_405 : decode cL_law 405 = .ok (.aload_n 2, 1) := by decide +kernel
theorem dL_law_406 : decode cL_law 406 = .ok (.aload_n 0, 1) := by decide +kernel
theorem dL_law_407 : decode cL_law 407 = .ok (.iload_n 3, 1) := by decide +kernel
theorem dL_law_408 : decode cL_law 408 = .ok (.iconst 1, 1) := by decide +kernel
theorem dL_law_409 : decode cL_law 409 = .ok (.iadd, 1) := by decide +kernel
theorem dL_law_410 : decode cL_law 410 = .ok (.iaload, 1) := by decide +kernel
theorem dL_law_411 : decode cL_law 411 = .ok (.aload_n 0, 1) := by decide +kernel
theorem dL_law_412 : decode cL_law 412 = .ok (.iload_n 3, 1) := by decide +kernel
theorem dL_law_413 : decode cL_law 413 = .ok (.iconst 2, 1) := by decide +kernel
theorem dL_law_414 : decode cL_law 414 = .ok (.iadd, 1) := by decide +kernel
theorem dL_law_415 : decode cL_law 415 = .ok (.iaload, 1) := by decide +kernel
theorem dL_law_416 : decode cL_law 416 = .ok (.ifCond .eq 7, 3) := by decide +kernel
theorem dL_law_419 : decode cL_law 419 = .ok (.iconst 1, 1) := by decide +kernel
theorem dL_law_420 : decode cL_law 420 = .ok (.goto 4, 3) := by decide +kernel
theorem dL_law_423 : decode cL_law 423 = .ok (.iconst 0, 1) := by decide +kernel
theorem dL_law_424 : decode cL_law 424 = .ok (.invokevirtual 49, 3) := by decide +kernel
theorem dL_law_427 : decode cL_law 427 = .ok (.if_icmp .eq 730, 3) := by decide +kernel
theorem dL_law_432 : decode cL_law 432 = .ok (.aload_n 1, 1) := by decide +kernel
theorem dL_law_433 : decode cL_law 433 = .ok (.aload_n 0, 1) := by decide +kernel
theorem dL_law_434 : decode cL_law 434 = .ok (.iload_n 3, 1) := by decide +kernel
theorem dL_law_435 : decode cL_law 435 = .ok (.iconst 1, 1) := by decide +kernel
theorem dL_law_436 : decode cL_law 436 = .ok (.iadd, 1) := by decide +kernel
theorem dL_law_437 : decode cL_law 437 = .ok (.iaload, 1) := by decide +kernel
theorem dL_law_438 : decode cL_law 438 = .ok (.aload_n 0, 1) := by decide +kernel
theorem dL_law_439 : decode cL_law 439 = .ok (.iload_n 3, 1) := by decide +kernel
theorem dL_law_440 : decode cL_law 440 = .ok (.iconst 2, 1) := by decide +kernel
theorem dL_law_441 : decode cL_law 441 = .ok (.iadd, 1) := by decide +kernel
theorem dL_law_442 : decode cL_law 442 = .ok (.iaload, 1) := by decide +kernel
theorem dL_law_443 : decode cL_law 443 = .ok (.invokevirtual 50, 3) := by decide +kernel
theorem dL_law_446 : decode cL_law 446 = .ok (.aload_n 2, 1) := by decide +kernel
theorem dL_law_447 : decode cL_law 447 = .ok (.aload_n 0, 1) := by decide +kernel
theorem dL_law_448 : decode cL_law 448 = .ok (.iload_n 3, 1) := by decide +kernel
theorem dL_law_449 : decode cL_law 449 = .ok (.iconst 1, 1) := by decide +kernel
theorem dL_law_450 : decode cL_law 450 = .ok (.iadd, 1) := by decide +kernel
theorem dL_law_451 : decode cL_law 451 = .ok (.iaload, 1) := by decide +kernel
theorem dL_law_452 : decode cL_law 452 = .ok (.aload_n 0, 1) := by decide +kernel
theorem dL_law_453 : decode cL_law 453 = .ok (.iload_n 3, 1) := by decide +kernel
theorem dL_law_454 : decode cL_law 454 = .ok (.iconst 2, 1) := by decide +kernel
theorem dL_law_455 : decode cL_law 455 = .ok (.iadd, 1) := by decide +kernel
theorem dL_law_456 : decode cL_law 456 = .ok (.iaload, 1) := by decide +kernel
theorem dL_law_457 : decode cL_law 457 = .ok (.invokevirtual 53, 3) := by decide +kernel
theorem dL_law_460 : decode cL_law 460 = .ok (.if_icmp .eq 697, 3) := by decide +kernel
theorem dL_law_465 : decode cL_law 465 = .ok (.aload_n 1, 1) := by decide +kernel
theorem dL_law_466 : decode cL_law 466 = .ok (.aload_n 0, 1) := by decide +kernel
theorem dL_law_467 : decode cL_law 467 = .ok (.iload_n 3, 1) := by decide +kernel
theorem dL_law_468 : decode cL_law 468 = .ok (.iconst 1, 1) := by decide +kernel
theorem dL_law_469 : decode cL_law 469 = .ok (.iadd, 1) := by decide +kernel
theorem dL_law_470 : decode cL_law 470 = .ok (.iaload, 1) := by decide +kernel
theorem dL_law_471 : decode cL_law 471 = .ok (.aload_n 0, 1) := by decide +kernel
theorem dL_law_472 : decode cL_law 472 = .ok (.iload_n 3, 1) := by decide +kernel
theorem dL_law_473 : decode cL_law 473 = .ok (.iconst 2, 1) := by decide +kernel
theorem dL_law_474 : decode cL_law 474 = .ok (.iadd, 1) := by decide +kernel
theorem dL_law_475 : decode cL_law 475 = .ok (.iaload, 1) := by decide +kernel
theorem dL_law_476 : decode cL_law 476 = .ok (.invokevirtual 54, 3) := by decide +kernel
theorem dL_law_479 : decode cL_law 479 = .ok (.aload_n 2, 1) := by decide +kernel
theorem dL_law_480 : decode cL_law 480 = .ok (.aload_n 0, 1) := by decide +kernel
theorem dL_law_481 : decode cL_law 481 = .ok (.iload_n 3, 1) := by decide +kernel
theorem dL_law_482 : decode cL_law 482 = .ok (.iconst 1, 1) := by decide +kernel
theorem dL_law_483 : decode cL_law 483 = .ok (.iadd, 1) := by decide +kernel
theorem dL_law_484 : decode cL_law 484 = .ok (.iaload, 1) := by decide +kernel
theorem dL_law_485 : decode cL_law 485 = .ok (.aload_n 0, 1) := by decide +kernel
theorem dL_law_486 : decode cL_law 486 = .ok (.iload_n 3, 1) := by decide +kernel
theorem dL_law_487 : decode cL_law 487 = .ok (.iconst 2, 1) := by decide +kernel
theorem dL_law_488 : decode cL_law 488 = .ok (.iadd, 1) := by decide +kernel
theorem dL_law_489 : decode cL_law 489 = .ok (.iaload, 1) := by decide +kernel
theorem dL_law_490 : decode cL_law 490 = .ok (.invokevirtual 57, 3) := by decide +kernel
theorem dL_law_493 : decode cL_law 493 = .ok (.if_icmp .eq 664, 3) := by decide +kernel
theorem dL_law_498 : decode cL_law 498 = .ok (.aload_n 1, 1) := by decide +kernel
theorem dL_law_499 : decode cL_law 499 = .ok (.aload_n 0, 1) := by decide +kernel
theorem dL_law_500 : decode cL_law 500 = .ok (.iload_n 3, 1) := by decide +kernel
theorem dL_law_501 : decode cL_law 501 = .ok (.iconst 1, 1) := by decide +kernel
theorem dL_law_502 : decode cL_law 502 = .ok (.iadd, 1) := by decide +kernel
theorem dL_law_503 : decode cL_law 503 = .ok (.iaload, 1) := by decide +kernel
theorem dL_law_504 : decode cL_law 504 = .ok (.invokevirtual 58, 3) := by decide +kernel
theorem dL_law_507 : decode cL_law 507 = .ok (.aload_n 2, 1) := by decide +kernel
theorem dL_law_508 : decode cL_law 508 = .ok (.aload_n 0, 1) := by decide +kernel
theorem dL_law_509 : decode cL_law 509 = .ok (.iload_n 3, 1) := by decide +kernel
theorem dL_law_510 : decode cL_law 510 = .ok (.iconst 1, 1) := by decide +kernel
theorem dL_law_511 : decode cL_law 511 = .ok (.iadd, 1) := by decide +kernel
theorem dL_law_512 : decode cL_law 512 = .ok (.iaload, 1) := by decide +kernel
theorem dL_law_513 : decode cL_law 513 = .ok (.invokevirtual 61, 3) := by decide +kernel
theorem dL_law_516 : decode cL_law 516 = .ok (.if_icmp .eq 641, 3) := by decide +kernel
theorem dL_law_521 : decode cL_law 521 = .ok (.aload_n 1, 1) := by decide +kernel
theorem dL_law_522 : decode cL_law 522 = .ok (.aload_n 0, 1) := by decide +kernel
theorem dL_law_523 : decode cL_law 523 = .ok (.iload_n 3, 1) := by decide +kernel
theorem dL_law_524 : decode cL_law 524 = .ok (.iconst 1, 1) := by decide +kernel
theorem dL_law_525 : decode cL_law 525 = .ok (.iadd, 1) := by decide +kernel
theorem dL_law_526 : decode cL_law 526 = .ok (.iaload, 1) := by decide +kernel
theorem dL_law_527 : decode cL_law 527 = .ok (.aload_n 0, 1) := by decide +kernel
theorem dL_law_528 : decode cL_law 528 = .ok (.iload_n 3, 1) := by decide +kernel
theorem dL_law_529 : decode cL_law 529 = .ok (.iconst 2, 1) := by decide +kernel
theorem dL_law_530 : decode cL_law 530 = .ok (.iadd, 1) := by decide +kernel
theorem dL_law_531 : decode cL_law 531 = .ok (.iaload, 1) := by decide +kernel
theorem dL_law_532 : decode cL_law 532 = .ok (.invokevirtual 62, 3) := by decide +kernel
theorem dL_law_535 : decode cL_law 535 = .ok (.aload_n 2, 1) := by decide +kernel
theorem dL_law_536 : decode cL_law 536 = .ok (.aload_n 0, 1) := by decide +kernel
theorem dL_law_537 : decode cL_law 537 = .ok (.iload_n 3, 1) := by decide +kernel
theorem dL_law_538 : decode cL_law 538 = .ok (.iconst 1, 1) := by decide +kernel
theorem dL_law_539 : decode cL_law 539 = .ok (.iadd, 1) := by decide +kernel
theorem dL_law_540 : decode cL_law 540 = .ok (.iaload, 1) := by decide +kernel
theorem dL_law_541 : decode cL_law 541 = .ok (.aload_n 0, 1) := by decide +kernel
theorem dL_law_542 : decode cL_law 542 = .ok (.iload_n 3, 1) := by decide +kernel
theorem dL_law_543 : decode cL_law 543 = .ok (.iconst 2, 1) := by decide +kernel
theorem dL_law_544 : decode cL_law 544 = .ok (.iadd, 1) := by decide +kernel
theorem dL_law_545 : decode cL_law 545 = .ok (.iaload, 1) := by decide +kernel
theorem dL_law_546 : decode cL_law 546 = .ok (.invokevirtual 65, 3) := by decide +kernel
theorem dL_law_549 : decode cL_law 549 = .ok (.if_icmp .eq 608, 3) := by decide +kernel
theorem dL_law_554 : decode cL_law 554 = .ok (.aload_n 1, 1) := by decide +kernel
theorem dL_law_555 : decode cL_law 555 = .ok (.aload_n 0, 1) := by decide +kernel
theorem dL_law_556 : decode cL_law 556 = .ok (.iload_n 3, 1) := by decide +kernel
theorem dL_law_557 : decode cL_law 557 = .ok (.iconst 1, 1) := by decide +kernel
theorem dL_law_558 : decode cL_law 558 = .ok (.iadd, 1) := by decide +kernel
theorem dL_law_559 : decode cL_law 559 = .ok (.iaload, 1) := by decide +kernel
theorem dL_law_560 : decode cL_law 560 = .ok (.invokevirtual 66, 3) := by decide +kernel
theorem dL_law_563 : decode cL_law 563 = .ok (.aload_n 2, 1) := by decide +kernel
theorem dL_law_564 : decode cL_law 564 = .ok (.aload_n 0, 1) := by decide +kernel
theorem dL_law_565 : decode cL_law 565 = .ok (.iload_n 3, 1) := by decide +kernel
theorem dL_law_566 : decode cL_law 566 = .ok (.iconst 1, 1) := by decide +kernel
theorem dL_law_567 : decode cL_law 567 = .ok (.iadd, 1) := by decide +kernel
theorem dL_law_568 : decode cL_law 568 = .ok (.iaload, 1) := by decide +kernel
theorem dL_law_569 : decode cL_law 569 = .ok (.invokevirtual 69, 3) := by decide +kernel
theorem dL_law_572 : decode cL_law 572 = .ok (.if_icmp .eq 585, 3) := by decide +kernel
theorem dL_law_577 : decode cL_law 577 = .ok (.aload_n 1, 1) := by decide +kernel
theorem dL_law_578 : decode cL_law 578 = .ok (.aload_n 0, 1) := by decide +kernel
theorem dL_law_579 : decode cL_law 579 = .ok (.iload_n 3, 1) := by decide +kernel
theorem dL_law_580 : decode cL_law 580 = .ok (.iconst 1, 1) := by decide +kernel
theorem dL_law_581 : decode cL_law 581 = .ok (.iadd, 1) := by decide +kernel
theorem dL_law_582 : decode cL_law 582 = .ok (.iaload, 1) := by decide +kernel
theorem dL_law_583 : decode cL_law 583 = .ok (.invokevirtual 70, 3) := by decide +kernel
theorem dL_law_586 : decode cL_law 586 = .ok (.aload_n 2, 1) := by decide +kernel
theorem dL_law_587 : decode cL_law 587 = .ok (.aload_n 0, 1) := by decide +kernel
theorem dL_law_588 : decode cL_law 588 = .ok (.iload_n 3, 1) := by decide +kernel
theorem dL_law_589 : decode cL_law 589 = .ok (.iconst 1, 1) := by decide +kernel
theorem dL_law_590 : decode cL_law 590 = .ok (.iadd, 1) := by decide +kernel
theorem dL_law_591 : decode cL_law 591 = .ok (.iaload, 1) := by decide +kernel
theorem dL_law_592 : decode cL_law 592 = .ok (.invokevirtual 73, 3) := by decide +kernel
theorem dL_law_595 : decode cL_law 595 = .ok (.if_icmp .eq 562, 3) := by decide +kernel
theorem dL_law_600 : decode cL_law 600 = .ok (.aload_n 1, 1) := by decide +kernel
theorem dL_law_601 : decode cL_law 601 = .ok (.invokevirtual 74, 3) := by decide +kernel
theorem dL_law_604 : decode cL_law 604 = .ok (.aload_n 2, 1) := by decide +kernel
theorem dL_law_605 : decode cL_law 605 = .ok (.invokevirtual 77, 3) := by decide +kernel
theorem dL_law_608 : decode cL_law 608 = .ok (.if_icmp .eq 549, 3) := by decide +kernel
theorem dL_law_613 : decode cL_law 613 = .ok (.aload_n 1, 1) := by decide +kernel
theorem dL_law_614 : decode cL_law 614 = .ok (.aload_n 0, 1) := by decide +kernel
theorem dL_law_615 : decode cL_law 615 = .ok (.iload_n 3, 1) := by decide +kernel
theorem dL_law_616 : decode cL_law 616 = .ok (.iconst 1, 1) := by decide +kernel
theorem dL_law_617 : decode cL_law 617 = .ok (.iadd, 1) := by decide +kernel
theorem dL_law_618 : decode cL_law 618 = .ok (.iaload, 1) := by decide +kernel
theorem dL_law_619 : decode cL_law 619 = .ok (.aload_n 0, 1) := by decide +kernel
theorem dL_law_620 : decode cL_law 620 = .ok (.iload_n 3, 1) := by decide +kernel
theorem dL_law_621 : decode cL_law 621 = .ok (.iconst 2, 1) := by decide +kernel
theorem dL_law_622 : decode cL_law 622 = .ok (.iadd, 1) := by decide +kernel
theorem dL_law_623 : decode cL_law 623 = .ok (.iaload, 1) := by decide +kernel
theorem dL_law_624 : decode cL_law 624 = .ok (.aload_n 0, 1) := by decide +kernel
theorem dL_law_625 : decode cL_law 625 = .ok (.iload_n 3, 1) := by decide +kernel
theorem dL_law_626 : decode cL_law 626 = .ok (.iconst 3, 1) := by decide +kernel
theorem dL_law_627 : decode cL_law 627 = .ok (.iadd, 1) := by decide +kernel
theorem dL_law_628 : decode cL_law 628 = .ok (.iaload, 1) := by decide +kernel
theorem dL_law_629 : decode cL_law 629 = .ok (.invokevirtual 78, 3) := by decide +kernel
theorem dL_law_632 : decode cL_law 632 = .ok (.aload_n 2, 1) := by decide +kernel
theorem dL_law_633 : decode cL_law 633 = .ok (.aload_n 0, 1) := by decide +kernel
theorem dL_law_634 : decode cL_law 634 = .ok (.iload_n 3, 1) := by decide +kernel
theorem dL_law_635 : decode cL_law 635 = .ok (.iconst 1, 1) := by decide +kernel
theorem dL_law_636 : decode cL_law 636 = .ok (.iadd, 1) := by decide +kernel
theorem dL_law_637 : decode cL_law 637 = .ok (.iaload, 1) := by decide +kernel
theorem dL_law_638 : decode cL_law 638 = .ok (.aload_n 0, 1) := by decide +kernel
theorem dL_law_639 : decode cL_law 639 = .ok (.iload_n 3, 1) := by decide +kernel
theorem dL_law_640 : decode cL_law 640 = .ok (.iconst 2, 1) := by decide +kernel
theorem dL_law_641 : decode cL_law 641 = .ok (.iadd, 1) := by decide +kernel
theorem dL_law_642 : decode cL_law 642 = .ok (.iaload, 1) := by decide +kernel
theorem dL_law_643 : decode cL_law 643 = .ok (.aload_n 0, 1) := by decide +kernel
theorem dL_law_644 : decode cL_law 644 = .ok (.iload_n 3, 1) := by decide +kernel
theorem dL_law_645 : decode cL_law 645 = .ok (.iconst 3, 1) := by decide +kernel
theorem dL_law_646 : decode cL_law 646 = .ok (.iadd, 1) := by decide +kernel
theorem dL_law_647 : decode cL_law 647 = .ok (.iaload, 1) := by decide +kernel
theorem dL_law_648 : decode cL_law 648 = .ok (.invokevirtual 82, 3) := by decide +kernel
theorem dL_law_651 : decode cL_law 651 = .ok (.if_icmp .eq 506, 3) := by decide +kernel
theorem dL_law_656 : decode cL_law 656 = .ok (.aload_n 1, 1) := by decide +kernel
theorem dL_law_657 : decode cL_law 657 = .ok (.aload_n 0, 1) := by decide +kernel
theorem dL_law_658 : decode cL_law 658 = .ok (.iload_n 3, 1) := by decide +kernel
theorem dL_law_659 : decode cL_law 659 = .ok (.iconst 1, 1) := by decide +kernel
theorem dL_law_660 : decode cL_law 660 = .ok (.iadd, 1) := by decide +kernel
theorem dL_law_661 : decode cL_law 661 = .ok (.iaload, 1) := by decide +kernel
theorem dL_law_662 : decode cL_law 662 = .ok (.invokevirtual 83, 3) := by decide +kernel
theorem dL_law_665 : decode cL_law 665 = .ok (.aload_n 2, 1) := by decide +kernel
theorem dL_law_666 : decode cL_law 666 = .ok (.aload_n 0, 1) := by decide +kernel
theorem dL_law_667 : decode cL_law 667 = .ok (.iload_n 3, 1) := by decide +kernel
theorem dL_law_668 : decode cL_law 668 = .ok (.iconst 1, 1) := by decide +kernel
theorem dL_law_669 : decode cL_law 669 = .ok (.iadd, 1) := by decide +kernel
theorem dL_law_670 : decode cL_law 670 = .ok (.iaload, 1) := by decide +kernel
theorem dL_law_671 : decode cL_law 671 = .ok (.invokevirtual 86, 3) := by decide +kernel
theorem dL_law_674 : decode cL_law 674 = .ok (.if_icmp .eq 483, 3) := by decide +kernel
theorem dL_law_679 : decode cL_law 679 = .ok (.aload_n 1, 1) := by decide +kernel
theorem dL_law_680 : decode cL_law 680 = .ok (.aload_n 0, 1) := by decide +kernel
theorem dL_law_681 : decode cL_law 681 = .ok (.iload_n 3, 1) := by decide +kernel
theorem dL_law_682 : decode cL_law 682 = .ok (.iconst 1, 1) := by decide +kernel
theorem dL_law_683 : decode cL_law 683 = .ok (.iadd, 1) := by decide +kernel
theorem dL_law_684 : decode cL_law 684 = .ok (.iaload, 1) := by decide +kernel
theorem dL_law_685 : decode cL_law 685 = .ok (.aload_n 0, 1) := by decide +kernel
theorem dL_law_686 : decode cL_law 686 = .ok (.iload_n 3, 1) := by decide +kernel
theorem dL_law_687 : decode cL_law 687 = .ok (.iconst 2, 1) := by decide +kernel
theorem dL_law_688 : decode cL_law 688 = .ok (.iadd, 1) := by decide +kernel
theorem dL_law_689 : decode cL_law 689 = .ok (.iaload, 1) := by decide +kernel
theorem dL_law_690 : decode cL_law 690 = .ok (.aload_n 0, 1) := by decide +kernel
theorem dL_law_691 : decode cL_law 691 = .ok (.iload_n 3, 1) := by decide +kernel
theorem dL_law_692 : decode cL_law 692 = .ok (.iconst 3, 1) := by decide +kernel
theorem dL_law_693 : decode cL_law 693 = .ok (.iadd, 1) := by decide +kernel
theorem dL_law_694 : decode cL_law 694 = .ok (.iaload, 1) := by decide +kernel
theorem dL_law_695 : decode cL_law 695 = .ok (.invokevirtual 87, 3) := by decide +kernel
theorem dL_law_698 : decode cL_law 698 = .ok (.aload_n 2, 1) := by decide +kernel
theorem dL_law_699 : decode cL_law 699 = .ok (.aload_n 0, 1) := by decide +kernel
theorem dL_law_700 : decode cL_law 700 = .ok (.iload_n 3, 1) := by decide +kernel
theorem dL_law_701 : decode cL_law 701 = .ok (.iconst 1, 1) := by decide +kernel
theorem dL_law_702 : decode cL_law 702 = .ok (.iadd, 1) := by decide +kernel
theorem dL_law_703 : decode cL_law 703 = .ok (.iaload, 1) := by decide +kernel
theorem dL_law_704 : decode cL_law 704 = .ok (.aload_n 0, 1) := by decide +kernel
theorem dL_law_705 : decode cL_law 705 = .ok (.iload_n 3, 1) := by decide +kernel
theorem dL_law_706 : decode cL_law 706 = .ok (.iconst 2, 1) := by decide +kernel
theorem dL_law_707 : decode cL_law 707 = .ok (.iadd, 1) := by decide +kernel
theorem dL_law_708 : decode cL_law 708 = .ok (.iaload, 1) := by decide +kernel
theorem dL_law_709 : decode cL_law 709 = .ok (.aload_n 0, 1) := by decide +kernel
theorem dL_law_710 : decode cL_law 710 = .ok (.iload_n 3, 1) := by decide +kernel
theorem dL_law_711 : decode cL_law 711 = .ok (.iconst 3, 1) := by decide +kernel
theorem dL_law_712 : decode cL_law 712 = .ok (.iadd, 1) := by decide +kernel
theorem dL_law_713 : decode cL_law 713 = .ok (.iaload, 1) := by decide +kernel
theorem dL_law_714 : decode cL_law 714 = .ok (.invokevirtual 90, 3) := by decide +kernel
theorem dL_law_717 : decode cL_law 717 = .ok (.if_icmp .eq 440, 3) := by decide +kernel
theorem dL_law_722 : decode cL_law 722 = .ok (.aload_n 1, 1) := by decide +kernel
theorem dL_law_723 : decode cL_law 723 = .ok (.aload_n 0, 1) := by decide +kernel
theorem dL_law_724 : decode cL_law 724 = .ok (.iload_n 3, 1) := by decide +kernel
theorem dL_law_725 : decode cL_law 725 = .ok (.iconst 1, 1) := by decide +kernel
theorem dL_law_726 : decode cL_law 726 = .ok (.iadd, 1) := by decide +kernel
theorem dL_law_727 : decode cL_law 727 = .ok (.iaload, 1) := by decide +kernel
theorem dL_law_728 : decode cL_law 728 = .ok (.invokevirtual 91, 3) := by decide +kernel
theorem dL_law_731 : decode cL_law 731 = .ok (.aload_n 2, 1) := by decide +kernel
theorem dL_law_732 : decode cL_law 732 = .ok (.aload_n 0, 1) := by decide +kernel
theorem dL_law_733 : decode cL_law 733 = .ok (.iload_n 3, 1) := by decide +kernel
theorem dL_law_734 : decode cL_law 734 = .ok (.iconst 1, 1) := by decide +kernel
theorem dL_law_735 : decode cL_law 735 = .ok (.iadd, 1) := by decide +kernel
theorem dL_law_736 : decode cL_law 736 = .ok (.iaload, 1) := by decide +kernel
theorem dL_law_737 : decode cL_law 737 = .ok (.invokevirtual 94, 3) := by decide +kernel
theorem dL_law_740 : decode cL_law 740 = .ok (.if_icmp .eq 417, 3) := by decide +kernel
theorem dL_law_745 : decode cL_law 745 = .ok (.aload_n 1, 1) := by decide +kernel
theorem dL_law_746 : decode cL_law 746 = .ok (.aload_n 0, 1) := by decide +kernel
theorem dL_law_747 : decode cL_law 747 = .ok (.iload_n 3, 1) := by decide +kernel
theorem dL_law_748 : decode cL_law 748 = .ok (.iconst 1, 1) := by decide +kernel
theorem dL_law_749 : decode cL_law 749 = .ok (.iadd, 1) := by decide +kernel
theorem dL_law_750 : decode cL_law 750 = .ok (.iaload, 1) := by decide +kernel
theorem dL_law_751 : decode cL_law 751 = .ok (.aload_n 0, 1) := by decide +kernel
theorem dL_law_752 : decode cL_law 752 = .ok (.iload_n 3, 1) := by decide +kernel
theorem dL_law_753 : decode cL_law 753 = .ok (.iconst 2, 1) := by decide +kernel
theorem dL_law_754 : decode cL_law 754 = .ok (.iadd, 1) := by decide +kernel
theorem dL_law_755 : decode cL_law 755 = .ok (.iaload, 1) := by decide +kernel
theorem dL_law_756 : decode cL_law 756 = .ok (.aload_n 0, 1) := by decide +kernel
theorem dL_law_757 : decode cL_law 757 = .ok (.iload_n 3, 1) := by decide +kernel
theorem dL_law_758 : decode cL_law 758 = .ok (.iconst 3, 1) := by decide +kernel
theorem dL_law_759 : decode cL_law 759 = .ok (.iadd, 1) := by decide +kernel
theorem dL_law_760 : decode cL_law 760 = .ok (.iaload, 1) := by decide +kernel
theorem dL_law_761 : decode cL_law 761 = .ok (.invokevirtual 95, 3) := by decide +kernel
theorem dL_law_764 : decode cL_law 764 = .ok (.aload_n 2, 1) := by decide +kernel
theorem dL_law_765 : decode cL_law 765 = .ok (.aload_n 0, 1) := by decide +kernel
theorem dL_law_766 : decode cL_law 766 = .ok (.iload_n 3, 1) := by decide +kernel
theorem dL_law_767 : decode cL_law 767 = .ok (.iconst 1, 1) := by decide +kernel
theorem dL_law_768 : decode cL_law 768 = .ok (.iadd, 1) := by decide +kernel
theorem dL_law_769 : decode cL_law 769 = .ok (.iaload, 1) := by decide +kernel
theorem dL_law_770 : decode cL_law 770 = .ok (.aload_n 0, 1) := by decide +kernel
theorem dL_law_771 : decode cL_law 771 = .ok (.iload_n 3, 1) := by decide +kernel
theorem dL_law_772 : decode cL_law 772 = .ok (.iconst 2, 1) := by decide +kernel
theorem dL_law_773 : decode cL_law 773 = .ok (.iadd, 1) := by decide +kernel
theorem dL_law_774 : decode cL_law 774 = .ok (.iaload, 1) := by decide +kernel
theorem dL_law_775 : decode cL_law 775 = .ok (.aload_n 0, 1) := by decide +kernel
theorem dL_law_776 : decode cL_law 776 = .ok (.iload_n 3, 1) := by decide +kernel
theorem dL_law_777 : decode cL_law 777 = .ok (.iconst 3, 1) := by decide +kernel
theorem dL_law_778 : decode cL_law 778 = .ok (.iadd, 1) := by decide +kernel
theorem dL_law_779 : decode cL_law 779 = .ok (.iaload, 1) := by decide +kernel
theorem dL_law_780 : decode cL_law 780 = .ok (.invokevirtual 98, 3) := by decide +kernel
theorem dL_law_783 : decode cL_law 783 = .ok (.if_icmp .eq 374, 3) := by decide +kernel
theorem dL_law_788 : decode cL_law 788 = .ok (.aload_n 1, 1) := by decide +kernel
theorem dL_law_789 : decode cL_law 789 = .ok (.aload_n 0, 1) := by decide +kernel
theorem dL_law_790 : decode cL_law 790 = .ok (.iload_n 3, 1) := by decide +kernel
theorem dL_law_791 : decode cL_law 791 = .ok (.iconst 1, 1) := by decide +kernel
theorem dL_law_792 : decode cL_law 792 = .ok (.iadd, 1) := by decide +kernel
theorem dL_law_793 : decode cL_law 793 = .ok (.iaload, 1) := by decide +kernel
theorem dL_law_794 : decode cL_law 794 = .ok (.aload_n 0, 1) := by decide +kernel
theorem dL_law_795 : decode cL_law 795 = .ok (.iload_n 3, 1) := by decide +kernel
theorem dL_law_796 : decode cL_law 796 = .ok (.iconst 2, 1) := by decide +kernel
theorem dL_law_797 : decode cL_law 797 = .ok (.iadd, 1) := by decide +kernel
theorem dL_law_798 : decode cL_law 798 = .ok (.iaload, 1) := by decide +kernel
theorem dL_law_799 : decode cL_law 799 = .ok (.ifCond .eq 7, 3) := by decide +kernel
theorem dL_law_802 : decode cL_law 802 = .ok (.iconst 1, 1) := by decide +kernel
theorem dL_law_803 : decode cL_law 803 = .ok (.goto 4, 3) := by decide +kernel
theorem dL_law_806 : decode cL_law 806 = .ok (.iconst 0, 1) := by decide +kernel
theorem dL_law_807 : decode cL_law 807 = .ok (.aload_n 0, 1) := by decide +kernel
theorem dL_law_808 : decode cL_law 808 = .ok (.iload_n 3, 1) := by decide +kernel
theorem dL_law_809 : decode cL_law 809 = .ok (.iconst 3, 1) := by decide +kernel
theorem dL_law_810 : decode cL_law 810 = .ok (.iadd, 1) := by decide +kernel
theorem dL_law_811 : decode cL_law 811 = .ok (.iaload, 1) := by decide +kernel
theorem dL_law_812 : decode cL_law 812 = .ok (.invokevirtual 99, 3) := by decide +kernel
theorem dL_law_815 : decode cL_law 815 = .ok (.aload_n 2, 1) := by decide +kernel
theorem dL_law_816 : decode cL_law 816 = .ok (.aload_n 0, 1) := by decide +kernel
theorem dL_law_817 : decode cL_law 817 = .ok (.iload_n 3, 1) := by decide +kernel
theorem dL_law_818 : decode cL_law 818 = .ok (.iconst 1, 1) := by decide +kernel
theorem dL_law_819 : decode cL_law 819 = .ok (.iadd, 1) := by decide +kernel
theorem dL_law_820 : decode cL_law 820 = .ok (.iaload, 1) := by decide +kernel
theorem dL_law_821 : decode cL_law 821 = .ok (.aload_n 0, 1) := by decide +kernel
theorem dL_law_822 : decode cL_law 822 = .ok (.iload_n 3, 1) := by decide +kernel
theorem dL_law_823 : decode cL_law 823 = .ok (.iconst 2, 1) := by decide +kernel
theorem dL_law_824 : decode cL_law 824 = .ok (.iadd, 1) := by decide +kernel
theorem dL_law_825 : decode cL_law 825 = .ok (.iaload, 1) := by decide +kernel
theorem dL_law_826 : decode cL_law 826 = .ok (.ifCond .eq 7, 3) := by decide +kernel
theorem dL_law_829 : decode cL_law 829 = .ok (.iconst 1, 1) := by decide +kernel
theorem dL_law_830 : decode cL_law 830 = .ok (.goto 4, 3) := by decide +kernel
theorem dL_law_833 : decode cL_law 833 = .ok (.iconst 0, 1) := by decide +kernel
theorem dL_law_834 : decode cL_law 834 = .ok (.aload_n 0, 1) := by decide +kernel
theorem dL_law_835 : decode cL_law 835 = .ok (.iload_n 3, 1) := by decide +kernel
theorem dL_law_836 : decode cL_law 836 = .ok (.iconst 3, 1) := by decide +kernel
theorem dL_law_837 : decode cL_law 837 = .ok (.iadd, 1) := by decide +kernel
theorem dL_law_838 : decode cL_law 838 = .ok (.iaload, 1) := by decide +kernel
theorem dL_law_839 : decode cL_law 839 = .ok (.invokevirtual 103, 3) := by decide +kernel
theorem dL_law_842 : decode cL_law 842 = .ok (.if_icmp .eq 315, 3) := by decide +kernel
theorem dL_law_847 : decode cL_law 847 = .ok (.aload_n 1, 1) := by decide +kernel
theorem dL_law_848 : decode cL_law 848 = .ok (.aload_n 0, 1) := by decide +kernel
theorem dL_law_849 : decode cL_law 849 = .ok (.iload_n 3, 1) := by decide +kernel
theorem dL_law_850 : decode cL_law 850 = .ok (.iconst 1, 1) := by decide +kernel
theorem dL_law_851 : decode cL_law 851 = .ok (.iadd, 1) := by decide +kernel
theorem dL_law_852 : decode cL_law 852 = .ok (.iaload, 1) := by decide +kernel
theorem dL_law_853 : decode cL_law 853 = .ok (.invokevirtual 104, 3) := by decide +kernel
theorem dL_law_856 : decode cL_law 856 = .ok (.aload_n 2, 1) := by decide +kernel
theorem dL_law_857 : decode cL_law 857 = .ok (.aload_n 0, 1) := by decide +kernel
theorem dL_law_858 : decode cL_law 858 = .ok (.iload_n 3, 1) := by decide +kernel
theorem dL_law_859 : decode cL_law 859 = .ok (.iconst 1, 1) := by decide +kernel
theorem dL_law_860 : decode cL_law 860 = .ok (.iadd, 1) := by decide +kernel
theorem dL_law_861 : decode cL_law 861 = .ok (.iaload, 1) := by decide +kernel
theorem dL_law_862 : decode cL_law 862 = .ok (.invokevirtual 107, 3) := by decide +kernel
theorem dL_law_865 : decode cL_law 865 = .ok (.if_icmp .eq 292, 3) := by decide +kernel
theorem dL_law_870 : decode cL_law 870 = .ok (.aload_n 1, 1) := by decide +kernel
theorem dL_law_871 : decode cL_law 871 = .ok (.aload_n 0, 1) := by decide +kernel
theorem dL_law_872 : decode cL_law 872 = .ok (.iload_n 3, 1) := by decide +kernel
theorem dL_law_873 : decode cL_law 873 = .ok (.iconst 1, 1) := by decide +kernel
theorem dL_law_874 : decode cL_law 874 = .ok (.iadd, 1) := by decide +kernel
theorem dL_law_875 : decode cL_law 875 = .ok (.iaload, 1) := by decide +kernel
theorem dL_law_876 : decode cL_law 876 = .ok (.aload_n 0, 1) := by decide +kernel
theorem dL_law_877 : decode cL_law 877 = .ok (.iload_n 3, 1) := by decide +kernel
theorem dL_law_878 : decode cL_law 878 = .ok (.iconst 2, 1) := by decide +kernel
theorem dL_law_879 : decode cL_law 879 = .ok (.iadd, 1) := by decide +kernel
theorem dL_law_880 : decode cL_law 880 = .ok (.iaload, 1) := by decide +kernel
theorem dL_law_881 : decode cL_law 881 = .ok (.aload_n 0, 1) := by decide +kernel
theorem dL_law_882 : decode cL_law 882 = .ok (.iload_n 3, 1) := by decide +kernel
theorem dL_law_883 : decode cL_law 883 = .ok (.iconst 3, 1) := by decide +kernel
theorem dL_law_884 : decode cL_law 884 = .ok (.iadd, 1) := by decide +kernel
theorem dL_law_885 : decode cL_law 885 = .ok (.iaload, 1) := by decide +kernel
theorem dL_law_886 : decode cL_law 886 = .ok (.aload_n 0, 1) := by decide +kernel
theorem dL_law_887 : decode cL_law 887 = .ok (.iload_n 3, 1) := by decide +kernel
theorem dL_law_888 : decode cL_law 888 = .ok (.iconst 4, 1) := by decide +kernel
theorem dL_law_889 : decode cL_law 889 = .ok (.iadd, 1) := by decide +kernel
theorem dL_law_890 : decode cL_law 890 = .ok (.iaload, 1) := by decide +kernel
theorem dL_law_891 : decode cL_law 891 = .ok (.invokevirtual 108, 3) := by decide +kernel
theorem dL_law_894 : decode cL_law 894 = .ok (.aload_n 2, 1) := by decide +kernel
theorem dL_law_895 : decode cL_law 895 = .ok (.aload_n 0, 1) := by decide +kernel
theorem dL_law_896 : decode cL_law 896 = .ok (.iload_n 3, 1) := by decide +kernel
theorem dL_law_897 : decode cL_law 897 = .ok (.iconst 1, 1) := by decide +kernel
theorem dL_law_898 : decode cL_law 898 = .ok (.iadd, 1) := by decide +kernel
theorem dL_law_899 : decode cL_law 899 = .ok (.iaload, 1) := by decide +kernel
theorem dL_law_900 : decode cL_law 900 = .ok (.aload_n 0, 1) := by decide +kernel
theorem dL_law_901 : decode cL_law 901 = .ok (.iload_n 3, 1) := by decide +kernel
theorem dL_law_902 : decode cL_law 902 = .ok (.iconst 2, 1) := by decide +kernel
theorem dL_law_903 : decode cL_law 903 = .ok (.iadd, 1) := by decide +kernel
theorem dL_law_904 : decode cL_law 904 = .ok (.iaload, 1) := by decide +kernel
theorem dL_law_905 : decode cL_law 905 = .ok (.aload_n 0, 1) := by decide +kernel
theorem dL_law_906 : decode cL_law 906 = .ok (.iload_n 3, 1) := by decide +kernel
theorem dL_law_907 : decode cL_law 907 = .ok (.iconst 3, 1) := by decide +kernel
theorem dL_law_908 : decode cL_law 908 = .ok (.iadd, 1) := by decide +kernel
theorem dL_law_909 : decode cL_law 909 = .ok (.iaload, 1) := by decide +kernel
theorem dL_law_910 : decode cL_law 910 = .ok (.aload_n 0, 1) := by decide +kernel
theorem dL_law_911 : decode cL_law 911 = .ok (.iload_n 3, 1) := by decide +kernel
theorem dL_law_912 : decode cL_law 912 = .ok (.iconst 4, 1) := by decide +kernel
theorem dL_law_913 : decode cL_law 913 = .ok (.iadd, 1) := by decide +kernel
theorem dL_law_914 : decode cL_law 914 = .ok (.iaload, 1) := by decide +kernel
theorem dL_law_915 : decode cL_law 915 = .ok (.invokevirtual 112, 3) := by decide +kernel
theorem dL_law_918 : decode cL_law 918 = .ok (.if_icmp .eq 239, 3) := by decide +kernel
theorem dL_law_923 : decode cL_law 923 = .ok (.aload_n 1, 1) := by decide +kernel
theorem dL_law_924 : decode cL_law 924 = .ok (.aload_n 0, 1) := by decide +kernel
theorem dL_law_925 : decode cL_law 925 = .ok (.iload_n 3, 1) := by decide +kernel
theorem dL_law_926 : decode cL_law 926 = .ok (.iconst 1, 1) := by decide +kernel
theorem dL_law_927 : decode cL_law 927 = .ok (.iadd, 1) := by decide +kernel
theorem dL_law_928 : decode cL_law 928 = .ok (.iaload, 1) := by decide +kernel
theorem dL_law_929 : decode cL_law 929 = .ok (.aload_n 0, 1) := by decide +kernel
theorem dL_law_930 : decode cL_law 930 = .ok (.iload_n 3, 1) := by decide +kernel
theorem dL_law_931 : decode cL_law 931 = .ok (.iconst 2, 1) := by decide +kernel
theorem dL_law_932 : decode cL_law 932 = .ok (.iadd, 1) := by decide +kernel
theorem dL_law_933 : decode cL_law 933 = .ok (.iaload, 1) := by decide +kernel
theorem dL_law_934 : decode cL_law 934 = .ok (.aload_n 0, 1) := by decide +kernel
theorem dL_law_935 : decode cL_law 935 = .ok (.iload_n 3, 1) := by decide +kernel
theorem dL_law_936 : decode cL_law 936 = .ok (.iconst 3, 1) := by decide +kernel
theorem dL_law_937 : decode cL_law 937 = .ok (.iadd, 1) := by decide +kernel
theorem dL_law_938 : decode cL_law 938 = .ok (.iaload, 1) := by decide +kernel
theorem dL_law_939 : decode cL_law 939 = .ok (.invokevirtual 113, 3) := by decide +kernel
theorem dL_law_942 : decode cL_law 942 = .ok (.aload_n 2, 1) := by decide +kernel
theorem dL_law_943 : decode cL_law 943 = .ok (.aload_n 0, 1) := by decide +kernel
theorem dL_law_944 : decode cL_law 944 = .ok (.iload_n 3, 1) := by decide +kernel
theorem dL_law_945 : decode cL_law 945 = .ok (.iconst 1, 1) := by decide +kernel
theorem dL_law_946 : decode cL_law 946 = .ok (.iadd, 1) := by decide +kernel
theorem dL_law_947 : decode cL_law 947 = .ok (.iaload, 1) := by decide +kernel
theorem dL_law_948 : decode cL_law 948 = .ok (.aload_n 0, 1) := by decide +kernel
theorem dL_law_949 : decode cL_law 949 = .ok (.iload_n 3, 1) := by decide +kernel
theorem dL_law_950 : decode cL_law 950 = .ok (.iconst 2, 1) := by decide +kernel
theorem dL_law_951 : decode cL_law 951 = .ok (.iadd, 1) := by decide +kernel
theorem dL_law_952 : decode cL_law 952 = .ok (.iaload, 1) := by decide +kernel
theorem dL_law_953 : decode cL_law 953 = .ok (.aload_n 0, 1) := by decide +kernel
theorem dL_law_954 : decode cL_law 954 = .ok (.iload_n 3, 1) := by decide +kernel
theorem dL_law_955 : decode cL_law 955 = .ok (.iconst 3, 1) := by decide +kernel
theorem dL_law_956 : decode cL_law 956 = .ok (.iadd, 1) := by decide +kernel
theorem dL_law_957 : decode cL_law 957 = .ok (.iaload, 1) := by decide +kernel
theorem dL_law_958 : decode cL_law 958 = .ok (.invokevirtual 116, 3) := by decide +kernel
theorem dL_law_961 : decode cL_law 961 = .ok (.if_icmp .eq 196, 3) := by decide +kernel
theorem dL_law_966 : decode cL_law 966 = .ok (.aload_n 1, 1) := by decide +kernel
theorem dL_law_967 : decode cL_law 967 = .ok (.aload_n 0, 1) := by decide +kernel
theorem dL_law_968 : decode cL_law 968 = .ok (.iload_n 3, 1) := by decide +kernel
theorem dL_law_969 : decode cL_law 969 = .ok (.iconst 1, 1) := by decide +kernel
theorem dL_law_970 : decode cL_law 970 = .ok (.iadd, 1) := by decide +kernel
theorem dL_law_971 : decode cL_law 971 = .ok (.iaload, 1) := by decide +kernel
theorem dL_law_972 : decode cL_law 972 = .ok (.aload_n 0, 1) := by decide +kernel
theorem dL_law_973 : decode cL_law 973 = .ok (.iload_n 3, 1) := by decide +kernel
theorem dL_law_974 : decode cL_law 974 = .ok (.iconst 2, 1) := by decide +kernel
theorem dL_law_975 : decode cL_law 975 = .ok (.iadd, 1) := by decide +kernel
theorem dL_law_976 : decode cL_law 976 = .ok (.iaload, 1) := by decide +kernel
theorem dL_law_977 : decode cL_law 977 = .ok (.invokevirtual 117, 3) := by decide +kernel
theorem dL_law_980 : decode cL_law 980 = .ok (.aload_n 2, 1) := by decide +kernel
theorem dL_law_981 : decode cL_law 981 = .ok (.aload_n 0, 1) := by decide +kernel
theorem dL_law_982 : decode cL_law 982 = .ok (.iload_n 3, 1) := by decide +kernel
theorem dL_law_983 : decode cL_law 983 = .ok (.iconst 1, 1) := by decide +kernel
theorem dL_law_984 : decode cL_law 984 = .ok (.iadd, 1) := by decide +kernel
theorem dL_law_985 : decode cL_law 985 = .ok (.iaload, 1) := by decide +kernel
theorem dL_law_986 : decode cL_law 986 = .ok (.aload_n 0, 1) := by decide +kernel
theorem dL_law_987 : decode cL_law 987 = .ok (.iload_n 3, 1) := by decide +kernel
theorem dL_law_988 : decode cL_law 988 = .ok (.iconst 2, 1) := by decide +kernel
theorem dL_law_989 : decode cL_law 989 = .ok (.iadd, 1) := by decide +kernel
theorem dL_law_990 : decode cL_law 990 = .ok (.iaload, 1) := by decide +kernel
theorem dL_law_991 : decode cL_law 991 = .ok (.invokevirtual 120, 3) := by decide +kernel
theorem dL_law_994 : decode cL_law 994 = .ok (.if_icmp .eq 163, 3) := by decide +kernel
theorem dL_law_999 : decode cL_law 999 = .ok (.aload_n 1, 1) := by decide +kernel
theorem dL_law_1000 : decode cL_law 1000 = .ok (.aload_n 0, 1) := by decide +kernel
theorem dL_law_1001 : decode cL_law 1001 = .ok (.iload_n 3, 1) := by decide +kernel
theorem dL_law_1002 : decode cL_law 1002 = .ok (.iconst 1, 1) := by decide +kernel
theorem dL_law_1003 : decode cL_law 1003 = .ok (.iadd, 1) := by decide +kernel
theorem dL_law_1004 : decode cL_law 1004 = .ok (.iaload, 1) := by decide +kernel
theorem dL_law_1005 : decode cL_law 1005 = .ok (.invokevirtual 121, 3) := by decide +kernel
theorem dL_law_1008 : decode cL_law 1008 = .ok (.aload_n 2, 1) := by decide +kernel
theorem dL_law_1009 : decode cL_law 1009 = .ok (.aload_n 0, 1) := by decide +kernel
theorem dL_law_1010 : decode cL_law 1010 = .ok (.iload_n 3, 1) := by decide +kernel
theorem dL_law_1011 : decode cL_law 1011 = .ok (.iconst 1, 1) := by decide +kernel
theorem dL_law_1012 : decode cL_law 1012 = .ok (.iadd, 1) := by decide +kernel
theorem dL_law_1013 : decode cL_law 1013 = .ok (.iaload, 1) := by decide +kernel
theorem dL_law_1014 : decode cL_law 1014 = .ok (.invokevirtual 124, 3) := by decide +kernel
theorem dL_law_1017 : decode cL_law 1017 = .ok (.if_icmp .eq 140, 3) := by decide +kernel
theorem dL_law_1022 : decode cL_law 1022 = .ok (.aload_n 1, 1) := by decide +kernel
theorem dL_law_1023 : decode cL_law 1023 = .ok (.aload_n 0, 1) := by decide +kernel
theorem dL_law_1024 : decode cL_law 1024 = .ok (.iload_n 3, 1) := by decide +kernel
theorem dL_law_1025 : decode cL_law 1025 = .ok (.iconst 1, 1) := by decide +kernel
theorem dL_law_1026 : decode cL_law 1026 = .ok (.iadd, 1) := by decide +kernel
theorem dL_law_1027 : decode cL_law 1027 = .ok (.iaload, 1) := by decide +kernel
theorem dL_law_1028 : decode cL_law 1028 = .ok (.aload_n 0, 1) := by decide +kernel
theorem dL_law_1029 : decode cL_law 1029 = .ok (.iload_n 3, 1) := by decide +kernel
theorem dL_law_1030 : decode cL_law 1030 = .ok (.iconst 2, 1) := by decide +kernel
theorem dL_law_1031 : decode cL_law 1031 = .ok (.iadd, 1) := by decide +kernel
theorem dL_law_1032 : decode cL_law 1032 = .ok (.iaload, 1) := by decide +kernel
theorem dL_law_1033 : decode cL_law 1033 = .ok (.aload_n 0, 1) := by decide +kernel
theorem dL_law_1034 : decode cL_law 1034 = .ok (.iload_n 3, 1) := by decide +kernel
theorem dL_law_1035 : decode cL_law 1035 = .ok (.iconst 3, 1) := by decide +kernel
theorem dL_law_1036 : decode cL_law 1036 = .ok (.iadd, 1) := by decide +kernel
theorem dL_law_1037 : decode cL_law 1037 = .ok (.iaload, 1) := by decide +kernel
theorem dL_law_1038 : decode cL_law 1038 = .ok (.invokevirtual 125, 3) := by decide +kernel
theorem dL_law_1041 : decode cL_law 1041 = .ok (.aload_n 2, 1) := by decide +kernel
theorem dL_law_1042 : decode cL_law 1042 = .ok (.aload_n 0, 1) := by decide +kernel
theorem dL_law_1043 : decode cL_law 1043 = .ok (.iload_n 3, 1) := by decide +kernel
theorem dL_law_1044 : decode cL_law 1044 = .ok (.iconst 1, 1) := by decide +kernel
theorem dL_law_1045 : decode cL_law 1045 = .ok (.iadd, 1) := by decide +kernel
theorem dL_law_1046 : decode cL_law 1046 = .ok (.iaload, 1) := by decide +kernel
theorem dL_law_1047 : decode cL_law 1047 = .ok (.aload_n 0, 1) := by decide +kernel
theorem dL_law_1048 : decode cL_law 1048 = .ok (.iload_n 3, 1) := by decide +kernel
theorem dL_law_1049 : decode cL_law 1049 = .ok (.iconst 2, 1) := by decide +kernel
theorem dL_law_1050 : decode cL_law 1050 = .ok (.iadd, 1) := by decide +kernel
theorem dL_law_1051 : decode cL_law 1051 = .ok (.iaload, 1) := by decide +kernel
theorem dL_law_1052 : decode cL_law 1052 = .ok (.aload_n 0, 1) := by decide +kernel
theorem dL_law_1053 : decode cL_law 1053 = .ok (.iload_n 3, 1) := by decide +kernel
theorem dL_law_1054 : decode cL_law 1054 = .ok (.iconst 3, 1) := by decide +kernel
theorem dL_law_1055 : decode cL_law 1055 = .ok (.iadd, 1) := by decide +kernel
theorem dL_law_1056 : decode cL_law 1056 = .ok (.iaload, 1) := by decide +kernel
theorem dL_law_1057 : decode cL_law 1057 = .ok (.invokevirtual 128, 3) := by decide +kernel
theorem dL_law_1060 : decode cL_law 1060 = .ok (.if_icmp .eq 97, 3) := by decide +kernel
theorem dL_law_1065 : decode cL_law 1065 = .ok (.aload_n 1, 1) := by decide +kernel
theorem dL_law_1066 : decode cL_law 1066 = .ok (.aload_n 0, 1) := by decide +kernel
theorem dL_law_1067 : decode cL_law 1067 = .ok (.iload_n 3, 1) := by decide +kernel
theorem dL_law_1068 : decode cL_law 1068 = .ok (.iconst 1, 1) := by decide +kernel
theorem dL_law_1069 : decode cL_law 1069 = .ok (.iadd, 1) := by decide +kernel
theorem dL_law_1070 : decode cL_law 1070 = .ok (.iaload, 1) := by decide +kernel
theorem dL_law_1071 : decode cL_law 1071 = .ok (.invokevirtual 129, 3) := by decide +kernel
theorem dL_law_1074 : decode cL_law 1074 = .ok (.aload_n 2, 1) := by decide +kernel
theorem dL_law_1075 : decode cL_law 1075 = .ok (.aload_n 0, 1) := by decide +kernel
theorem dL_law_1076 : decode cL_law 1076 = .ok (.iload_n 3, 1) := by decide +kernel
theorem dL_law_1077 : decode cL_law 1077 = .ok (.iconst 1, 1) := by decide +kernel
theorem dL_law_1078 : decode cL_law 1078 = .ok (.iadd, 1) := by decide +kernel
theorem dL_law_1079 : decode cL_law 1079 = .ok (.iaload, 1) := by decide +kernel
theorem dL_law_1080 : decode cL_law 1080 = .ok (.invokevirtual 132, 3) := by decide +kernel
theorem dL_law_1083 : decode cL_law 1083 = .ok (.if_icmp .eq 74, 3) := by decide +kernel
theorem dL_law_1088 : decode cL_law 1088 = .ok (.aload_n 1, 1) := by decide +kernel
theorem dL_law_1089 : decode cL_law 1089 = .ok (.aload_n 0, 1) := by decide +kernel
theorem dL_law_1090 : decode cL_law 1090 = .ok (.iload_n 3, 1) := by decide +kernel
theorem dL_law_1091 : decode cL_law 1091 = .ok (.iconst 1, 1) := by decide +kernel
theorem dL_law_1092 : decode cL_law 1092 = .ok (.iadd, 1) := by decide +kernel
theorem dL_law_1093 : decode cL_law 1093 = .ok (.iaload, 1) := by decide +kernel
theorem dL_law_1094 : decode cL_law 1094 = .ok (.invokevirtual 133, 3) := by decide +kernel
theorem dL_law_1097 : decode cL_law 1097 = .ok (.aload_n 2, 1) := by decide +kernel
theorem dL_law_1098 : decode cL_law 1098 = .ok (.aload_n 0, 1) := by decide +kernel
theorem dL_law_1099 : decode cL_law 1099 = .ok (.iload_n 3, 1) := by decide +kernel
theorem dL_law_1100 : decode cL_law 1100 = .ok (.iconst 1, 1) := by decide +kernel
theorem dL_law_1101 : decode cL_law 1101 = .ok (.iadd, 1) := by decide +kernel
theorem dL_law_1102 : decode cL_law 1102 = .ok (.iaload, 1) := by decide +kernel
theorem dL_law_1103 : decode cL_law 1103 = .ok (.invokevirtual 136, 3) := by decide +kernel
theorem dL_law_1106 : decode cL_law 1106 = .ok (.if_icmp .eq 51, 3) := by decide +kernel
theorem dL_law_1111 : decode cL_law 1111 = .ok (.aload_n 1, 1) := by decide +kernel
theorem dL_law_1112 : decode cL_law 1112 = .ok (.aload_n 0, 1) := by decide +kernel
theorem dL_law_1113 : decode cL_law 1113 = .ok (.iload_n 3, 1) := by decide +kernel
theorem dL_law_1114 : decode cL_law 1114 = .ok (.iconst 1, 1) := by decide +kernel
theorem dL_law_1115 : decode cL_law 1115 = .ok (.iadd, 1) := by decide +kernel
theorem dL_law_1116 : decode cL_law 1116 = .ok (.iaload, 1) := by decide +kernel
theorem dL_law_1117 : decode cL_law 1117 = .ok (.invokevirtual 137, 3) := by decide +kernel
theorem dL_law_1120 : decode cL_law 1120 = .ok (.aload_n 2, 1) := by decide +kernel
theorem dL_law_1121 : decode cL_law 1121 = .ok (.aload_n 0, 1) := by decide +kernel
theorem dL_law_1122 : decode cL_law 1122 = .ok (.iload_n 3, 1) := by decide +kernel
theorem dL_law_1123 : decode cL_law 1123 = .ok (.iconst 1, 1) := by decide +kernel
theorem dL_law_1124 : decode cL_law 1124 = .ok (.iadd, 1) := by decide +kernel
theorem dL_law_1125 : decode cL_law 1125 = .ok (.iaload, 1) := by decide +kernel
theorem dL_law_1126 : decode cL_law 1126 = .ok (.invokevirtual 140, 3) := by decide +kernel
theorem dL_law_1129 : decode cL_law 1129 = .ok (.if_icmp .eq 28, 3) := by decide +kernel
theorem dL_law_1134 : decode cL_law 1134 = .ok (.aload_n 1, 1) := by decide +kernel
theorem dL_law_1135 : decode cL_law 1135 = .ok (.aload_n 0, 1) := by decide +kernel
theorem dL_law_1136 : decode cL_law 1136 = .ok (.iload_n 3, 1) := by decide +kernel
theorem dL_law_1137 : decode cL_law 1137 = .ok (.iconst 1, 1) := by decide +kernel
theorem dL_law_1138 : decode cL_law 1138 = .ok (.iadd, 1) := by decide +kernel
theorem dL_law_1139 : decode cL_law 1139 = .ok (.iaload, 1) := by decide +kernel
theorem dL_law_1140 : decode cL_law 1140 = .ok (.invokevirtual 141, 3) := by decide +kernel
theorem dL_law_1143 : decode cL_law 1143 = .ok (.aload_n 2, 1) := by decide +kernel
theorem dL_law_1144 : decode cL_law 1144 = .ok (.aload_n 0, 1) := by decide +kernel
theorem dL_law_1145 : decode cL_law 1145 = .ok (.iload_n 3, 1) := by decide +kernel
theorem dL_law_1146 : decode cL_law 1146 = .ok (.iconst 1, 1) := by decide +kernel
theorem dL_law_1147 : decode cL_law 1147 = .ok (.iadd, 1) := by decide +kernel
theorem dL_law_1148 : decode cL_law 1148 = .ok (.iaload, 1) := by decide +kernel
theorem dL_law_1149 : decode cL_law 1149 = .ok (.invokevirtual 144, 3) := by decide +kernel
theorem dL_law_1152 : decode cL_law 1152 = .ok (.if_icmp .eq 5, 3) := by decide +kernel
theorem dL_law_1157 : decode cL_law 1157 = .ok (.iinc 3 6, 3) := by decide +kernel
theorem dL_law_1160 : decode cL_law 1160 = .ok (.goto (-1142), 3) := by decide +kernel
theorem dL_law_1163 : decode cL_law 1163 = .ok (.iconst 1, 1) := by decide +kernel
theorem dL_law_1164 : decode cL_law 1164 = .ok (.ireturn, 1) := by decide +kernel
theorem dX0_init_0 : decode cX0_init 0 = .ok (.aload_n 0, 1) := by decide +kernel
theorem dX0_init_1 : decode cX0_init 1 = .ok (.invokespecial 3, 3) := by decide +kernel
theorem dX0_init_4 : decode cX0_init 4 = .ok (.aload_n 0, 1) := by decide +kernel
theorem dX0_init_5 : decode cX0_init 5 = .ok (.bipush 10, 2) := by decide +kernel
theorem dX0_init_7 : decode cX0_init 7 = .ok (.newarray .int, 2) := by decide +kernel
theorem dX0_init_9 : decode cX0_init 9 = .ok (.putfield 9, 3) := by decide +kernel
theorem dX0_init_12 : decode cX0_init 12 = .ok (.aload_n 0, 1) := by decide +kernel
theorem dX0_init_13 : decode cX0_init 13 = .ok (.bipush 10, 2) := by decide +kernel
theorem dX0_init_15 : decode cX0_init 15 = .ok (.newarray .int, 2) := by decide +kernel
theorem dX0_init_17 : decode cX0_init 17 = .ok (.putfield 15, 3) := by decide +kernel
theorem dX0_init_20 : decode cX0_init 20 = .ok (.aload_n 0, 1) := by decide +kernel
theorem dX0_init_21 : decode cX0_init 21 = .ok (.bipush 10, 2) := by decide +kernel
theorem dX0_init_23 : decode cX0_init 23 = .ok (.newarray .int, 2) := by decide +kernel
theorem dX0_init_25 : decode cX0_init 25 = .ok (.putfield 18, 3) := by decide +kernel
theorem dX0_init_28 : decode cX0_init 28 = .ok (.aload_n 0, 1) := by decide +kernel
theorem dX0_init_29 : decode cX0_init 29 = .ok (.bipush 10, 2) := by decide +kernel
theorem dX0_init_31 : decode cX0_init 31 = .ok (.newarray .int, 2) := by decide +kernel
theorem dX0_init_33 : decode cX0_init 33 = .ok (.putfield 21, 3) := by decide +kernel
theorem dX0_init_36 : decode cX0_init 36 = .ok (.aload_n 0, 1) := by decide +kernel
theorem dX0_init_37 : decode cX0_init 37 = .ok (.bipush 64, 2) := by decide +kernel
theorem dX0_init_39 : decode cX0_init 39 = .ok (.newarray .int, 2) := by decide +kernel
theorem dX0_init_41 : decode cX0_init 41 = .ok (.putfield 24, 3) := by decide +kernel
theorem dX0_init_44 : decode cX0_init 44 = .ok (.aload_n 0, 1) := by decide +kernel
theorem dX0_init_45 : decode cX0_init 45 = .ok (.sipush 128, 3) := by decide +kernel
theorem dX0_init_48 : decode cX0_init 48 = .ok (.newarray .int, 2) := by decide +kernel
theorem dX0_init_50 : decode cX0_init 50 = .ok (.putfield 27, 3) := by decide +kernel
theorem dX0_init_53 : decode cX0_init 53 = .ok (.aload_n 0, 1) := by decide +kernel
theorem dX0_init_54 : decode cX0_init 54 = .ok (.bipush 64, 2) := by decide +kernel
theorem dX0_init_56 : decode cX0_init 56 = .ok (.newarray .int, 2) := by decide +kernel
theorem dX0_init_58 : decode cX0_init 58 = .ok (.putfield 30, 3) := by decide +kernel
theorem dX0_init_61 : decode cX0_init 61 = .ok (.aload_n 0, 1) := by decide +kernel
theorem dX0_init_62 : decode cX0_init 62 = .ok (.aload_n 1, 1) := by decide +kernel
theorem dX0_init_63 : decode cX0_init 63 = .ok (.putfield 33, 3) := by decide +kernel
theorem dX0_init_66 : decode cX0_init 66 = .ok (.aload_n 0, 1) := by decide +kernel
theorem dX0_init_67 : decode cX0_init 67 = .ok (.aload_n 2, 1) := by decide +kernel
theorem dX0_init_68 : decode cX0_init 68 = .ok (.putfield 37, 3) := by decide +kernel
theorem dX0_init_71 : decode cX0_init 71 = .ok (.return_, 1) := by decide +kernel
theorem dX10_begin_0 : decode cX10_begin 0 = .ok (.aload_n 0, 1) := by decide +kernel
theorem dX10_begin_1 : decode cX10_begin 1 = .ok (.aload_n 1, 1) := by decide +kernel
theorem dX10_begin_2 : decode cX10_begin 2 = .ok (.putfield 9, 3) := by decide +kernel
theorem dX10_begin_5 : decode cX10_begin 5 = .ok (.aload_n 0, 1) := by decide +kernel
theorem dX10_begin_6 : decode cX10_begin 6 = .ok (.aload_n 1, 1) := by decide +kernel
theorem dX10_begin_7 : decode cX10_begin 7 = .ok (.ifnonnull 7, 3) := by decide +kernel
theorem dX10_begin_14 : decode cX10_begin 14 = .ok (.iload_n 2, 1) := by decide +kernel
theorem dX10_begin_15 : decode cX10_begin 15 = .ok (.aload_n 1, 1) := by decide +kernel
theorem dX10_begin_16 : decode cX10_begin 16 = .ok (.arraylength, 1) := by decide +kernel
theorem dX10_begin_17 : decode cX10_begin 17 = .ok (.invokestatic 15, 3) := by decide +kernel
theorem dX10_begin_20 : decode cX10_begin 20 = .ok (.putfield 21, 3) := by decide +kernel
theorem dX10_begin_23 : decode cX10_begin 23 = .ok (.aload_n 0, 1) := by decide +kernel
theorem dX10_begin_24 : decode cX10_begin 24 = .ok (.iconst 0, 1) := by decide +kernel
theorem dX10_begin_25 : decode cX10_begin 25 = .ok (.putfield 25, 3) := by decide +kernel
theorem dX10_begin_28 : decode cX10_begin 28 = .ok (.aload_n 0, 1) := by decide +kernel
theorem dX10_begin_29 : decode cX10_begin 29 = .ok (.iconst 0, 1) := by decide +kernel
theorem dX10_begin_30 : decode cX10_begin 30 = .ok (.putfield 28, 3) := by decide +kernel
theorem dX10_begin_33 : decode cX10_begin 33 = .ok (.return_, 1) := by decide +kernel
theorem dX10_fail_0 : decode cX10_fail 0 = .ok (.aload_n 0, 1) := by decide +kernel
theorem dX10_fail_1 : decode cX10_fail 1 = .ok (.getfield 28, 3) := by decide +kernel
theorem dX10_fail_4 : decode cX10_fail 4 = .ok (.ifCond .ne 15, 3) := by decide +kernel
theorem dX10_fail_7 : decode cX10_fail 7 = .ok (.aload_n 0, 1) := by decide +kernel
theorem dX10_fail_8 : decode cX10_fail 8 = .ok (.iconst 1, 1) := by decide +kernel
theorem dX10_fail_9 : decode cX10_fail 9 = .ok (.bipush 8, 2) := by decide +kernel
theorem dX10_fail_11 : decode cX10_fail 11 = .ok (.iload_n 1, 1) := by decide +kernel
theorem dX10_fail_12 : decode cX10_fail 12 = .ok (.imul, 1) := by decide +kernel
theorem dX10_fail_13 : decode cX10_fail 13 = .ok (.iadd, 1) := by decide +kernel
theorem dX10_fail_14 : decode cX10_fail 14 = .ok (.iload_n 2, 1) := by decide +kernel
theorem dX10_fail_15 : decode cX10_fail 15 = .ok (.iadd, 1) := by decide +kernel
theorem dX10_fail_16 : decode cX10_fail 16 = .ok (.putfield 28, 3) := by decide +kernel
theorem dX10_fail_19 : decode cX10_fail 19 = .ok (.return_, 1) := by decide +kernel
theorem dX10_goesOn_0 : decode cX10_goesOn 0 = .ok (.aload_n 0, 1) := by decide +kernel
theorem dX10_goesOn_1 : decode cX10_goesOn 1 = .ok (.invokevirtual 54, 3) := by decide +kernel
theorem dX10_goesOn_4 : decode cX10_goesOn 4 = .ok (.istore_n 1, 1) := by decide +kernel
theorem dX10_goesOn_5 : decode cX10_goesOn 5 = .ok (.aload_n 0, 1) := by decide +kernel
theorem dX10_goesOn_6 : decode cX10_goesOn 6 = .ok (.getfield 28, 3) := by decide +kernel
theorem dX10_goesOn_9 : decode cX10_goesOn 9 = .ok (.ifCond .ne 14, 3) := by decide +kernel
theorem dX10_goesOn_23 : decode cX10_goesOn 23 = .ok (.iconst 0, 1) := by decide +kernel
theorem dX10_goesOn_24 : decode cX10_goesOn 24 = .ok (.ireturn, 1) := by decide +kernel
theorem dX10_here_0 : decode cX10_here 0 = .ok (.aload_n 0, 1) := by decide +kernel
theorem dX10_here_1 : decode cX10_here 1 = .ok (.getfield 25, 3) := by decide +kernel
theorem dX10_here_4 : decode cX10_here 4 = .ok (.ifCond .lt 26, 3) := by decide +kernel
theorem dX10_here_7 : decode cX10_here 7 = .ok (.aload_n 0, 1) := by decide +kernel
theorem dX10_here_8 : decode cX10_here 8 = .ok (.getfield 25, 3) := by decide +kernel
theorem dX10_here_11 : decode cX10_here 11 = .ok (.aload_n 0, 1) := by decide +kernel
theorem dX10_here_12 : decode cX10_here 12 = .ok (.getfield 21, 3) := by decide +kernel
theorem dX10_here_15 : decode cX10_here 15 = .ok (.if_icmp .ge 15, 3) := by decide +kernel
theorem dX10_here_30 : decode cX10_here 30 = .ok (.iconst (-1), 1) := by decide +kernel
theorem dX10_here_31 : decode cX10_here 31 = .ok (.ireturn, 1) := by decide +kernel
theorem dX10_hereBehindBlanks_0 : decode cX10_hereBehindBlanks 0 = .ok (.aload_n 0, 1) := by decide +kernel
theorem dX10_hereBehindBlanks_1 : decode cX10_hereBehindBlanks 1 = .ok (.getfield 25, 3) := by decide +kernel
theorem dX10_hereBehindBlanks_4 : decode cX10_hereBehindBlanks 4 = .ok (.aload_n 0, 1) := by decide +kernel
theorem dX10_hereBehindBlanks_5 : decode cX10_hereBehindBlanks 5 = .ok (.getfield 21, 3) := by decide +kernel
theorem dX10_hereBehindBlanks_8 : decode cX10_hereBehindBlanks 8 = .ok (.if_icmp .ge 30, 3) := by decide +kernel
theorem dX10_hereBehindBlanks_38 : decode cX10_hereBehindBlanks 38 = .ok (.aload_n 0, 1) := by decide +kernel
theorem dX10_hereBehindBlanks_39 : decode cX10_hereBehindBlanks 39 = .ok (.invokevirtual 31, 3) := by decide +kernel
theorem dX10_hereBehindBlanks_42 : decode cX10_hereBehindBlanks 42 = .ok (.ireturn, 1) := by decide +kernel
theorem dX10_init_0 : decode cX10_init 0 = .ok (.aload_n 0, 1) := by decide +kernel
theorem dX10_init_1 : decode cX10_init 1 = .ok (.invokespecial 3, 3) := by decide +kernel
theorem dX10_init_4 : decode cX10_init 4 = .ok (.return_, 1) := by decide +kernel
theorem dX10_whichWord_0 : decode cX10_whichWord 0 = .ok (.aload_n 0, 1) := by decide +kernel
theorem dX10_whichWord_1 : decode cX10_whichWord 1 = .ok (.getfield 25, 3) := by decide +kernel
theorem dX10_whichWord_4 : decode cX10_whichWord 4 = .ok (.istore_n 2, 1) := by decide +kernel
theorem dX10_whichWord_5 : decode cX10_whichWord 5 = .ok (.iload_n 2, 1) := by decide +kernel
theorem dX10_whichWord_6 : decode cX10_whichWord 6 = .ok (.aload_n 0, 1) := by decide +kernel
theorem dX10_whichWord_7 : decode cX10_whichWord 7 = .ok (.getfield 21, 3) := by decide +kernel
theorem dX10_whichWord_10 : decode cX10_whichWord 10 = .ok (.if_icmp .ge 31, 3) := by decide +kernel
theorem dX10_whichWord_41 : decode cX10_whichWord 41 = .ok (.aload_n 0, 1) := by decide +kernel
theorem dX10_whichWord_42 : decode cX10_whichWord 42 = .ok (.iload_n 2, 1) := by decide +kernel
theorem dX10_whichWord_43 : decode cX10_whichWord 43 = .ok (.putfield 35, 3) := by decide +kernel
theorem dX10_whichWord_46 : decode cX10_whichWord 46 = .ok (.iconst 0, 1) := by decide +kernel
theorem dX10_whichWord_47 : decode cX10_whichWord 47 = .ok (.istore_n 3, 1) := by decide +kernel
theorem dX10_whichWord_48 : decode cX10_whichWord 48 = .ok (.aload_n 0, 1) := by decide +kernel
theorem dX10_whichWord_49 : decode cX10_whichWord 49 = .ok (.getfield 25, 3) := by decide +kernel
theorem dX10_whichWord_52 : decode cX10_whichWord 52 = .ok (.istore 4, 2) := by decide +kernel
theorem dX10_whichWord_54 : decode cX10_whichWord 54 = .ok (.iconst 0, 1) := by decide +kernel
theorem dX10_whichWord_55 : decode cX10_whichWord 55 = .ok (.istore 5, 2) := by decide +kernel
theorem dX10_whichWord_57 : decode cX10_whichWord 57 = .ok (.iload 5, 2) := by decide +kernel
theorem dX10_whichWord_59 : decode cX10_whichWord 59 = .ok (.aload_n 1, 1) := by decide +kernel
theorem dX10_whichWord_60 : decode cX10_whichWord 60 = .ok (.invokevirtual 38, 3) := by decide +kernel
theorem dX10_whichWord_63 : decode cX10_whichWord 63 = .ok (.if_icmp .ge 81, 3) := by decide +kernel
theorem dX10_whichWord_66 : decode cX10_whichWord 66 = .ok (.aload_n 1, 1) := by decide +kernel
theorem dX10_whichWord_67 : decode cX10_whichWord 67 = .ok (.iload 5, 2) := by decide +kernel
theorem dX10_whichWord_69 : decode cX10_whichWord 69 = .ok (.invokevirtual 42, 3) := by decide +kernel
theorem dX10_whichWord_72 : decode cX10_whichWord 72 = .ok (.istore 6, 2) := by decide +kernel
theorem dX10_whichWord_74 : decode cX10_whichWord 74 = .ok (.iload 6, 2) := by decide +kernel
theorem dX10_whichWord_76 : decode cX10_whichWord 76 = .ok (.bipush 32, 2) := by decide +kernel
theorem dX10_whichWord_78 : decode cX10_whichWord 78 = .ok (.if_icmp .ne 23, 3) := by decide +kernel
theorem dX10_whichWord_81 : decode cX10_whichWord 81 = .ok (.iload 4, 2) := by decide +kernel
theorem dX10_whichWord_83 : decode cX10_whichWord 83 = .ok (.iload_n 2, 1) := by decide +kernel
theorem dX10_whichWord_84 : decode cX10_whichWord 84 = .ok (.if_icmp .ne 5, 3) := by decide +kernel
theorem dX10_whichWord_89 : decode cX10_whichWord 89 = .ok (.iinc 3 1, 3) := by decide +kernel
theorem dX10_whichWord_92 : decode cX10_whichWord 92 = .ok (.aload_n 0, 1) := by decide +kernel
theorem dX10_whichWord_93 : decode cX10_whichWord 93 = .ok (.getfield 25, 3) := by decide +kernel
theorem dX10_whichWord_96 : decode cX10_whichWord 96 = .ok (.istore 4, 2) := by decide +kernel
theorem dX10_whichWord_98 : decode cX10_whichWord 98 = .ok (.goto 40, 3) := by decide +kernel
theorem dX10_whichWord_101 : decode cX10_whichWord 101 = .ok (.iload 4, 2) := by decide +kernel
theorem dX10_whichWord_103 : decode cX10_whichWord 103 = .ok (.aload_n 0, 1) := by decide +kernel
theorem dX10_whichWord_104 : decode cX10_whichWord 104 = .ok (.getfield 25, 3) := by decide +kernel
theorem dX10_whichWord_107 : decode cX10_whichWord 107 = .ok (.if_icmp .lt 31, 3) := by decide +kernel
theorem dX10_whichWord_110 : decode cX10_whichWord 110 = .ok (.iload 4, 2) := by decide +kernel
theorem dX10_whichWord_112 : decode cX10_whichWord 112 = .ok (.iload_n 2, 1) := by decide +kernel
theorem dX10_whichWord_113 : decode cX10_whichWord 113 = .ok (.if_icmp .ge 22, 3) := by decide +kernel
theorem dX10_whichWord_135 : decode cX10_whichWord 135 = .ok (.iconst (-1), 1) := by decide +kernel
theorem dX10_whichWord_136 : decode cX10_whichWord 136 = .ok (.istore 4, 2) := by decide +kernel
theorem dX10_whichWord_138 : decode cX10_whichWord 138 = .ok (.iinc 5 1, 3) := by decide +kernel
theorem dX10_whichWord_141 : decode cX10_whichWord 141 = .ok (.goto (-84), 3) := by decide +kernel
theorem dX10_whichWord_144 : decode cX10_whichWord 144 = .ok (.iconst (-1), 1) := by decide +kernel
theorem dX10_whichWord_145 : decode cX10_whichWord 145 = .ok (.ireturn, 1) := by decide +kernel
theorem dX11_attends_0 : decode cX11_attends 0 = .ok (.aload_n 0, 1) := by decide +kernel
theorem dX11_attends_1 : decode cX11_attends 1 = .ok (.getfield 31, 3) := by decide +kernel
theorem dX11_attends_4 : decode cX11_attends 4 = .ok (.iload_n 1, 1) := by decide +kernel
theorem dX11_attends_5 : decode cX11_attends 5 = .ok (.invokevirtual 132, 3) := by decide +kernel
theorem dX11_attends_8 : decode cX11_attends 8 = .ok (.ifCond .eq 15, 3) := by decide +kernel
theorem dX11_attends_23 : decode cX11_attends 23 = .ok (.aload_n 0, 1) := by decide +kernel
theorem dX11_attends_24 : decode cX11_attends 24 = .ok (.iconst 0, 1) := by decide +kernel
theorem dX11_attends_25 : decode cX11_attends 25 = .ok (.invokevirtual 158, 3) := by decide +kernel
theorem dX11_attends_28 : decode cX11_attends 28 = .ok (.ireturn, 1) := by decide +kernel
theorem dX11_back_0 : decode cX11_back 0 = .ok (.iload_n 1, 1) := by decide +kernel
theorem dX11_back_1 : decode cX11_back 1 = .ok (.ifCond .lt 17, 3) := by decide +kernel
theorem dX11_back_4 : decode cX11_back 4 = .ok (.iload_n 1, 1) := by decide +kernel
theorem dX11_back_5 : decode cX11_back 5 = .ok (.iconst 4, 1) := by decide +kernel
theorem dX11_back_6 : decode cX11_back 6 = .ok (.if_icmp .ge 12, 3) := by decide +kernel
theorem dX11_back_9 : decode cX11_back 9 = .ok (.aload_n 0, 1) := by decide +kernel
theorem dX11_back_10 : decode cX11_back 10 = .ok (.getfield 19, 3) := by decide +kernel
theorem dX11_back_13 : decode cX11_back 13 = .ok (.iload_n 1, 1) := by decide +kernel
theorem dX11_back_14 : decode cX11_back 14 = .ok (.aaload, 1) := by decide +kernel
theorem dX11_back_15 : decode cX11_back 15 = .ok (.ifnonnull 9, 3) := by decide +kernel
theorem dX11_back_18 : decode cX11_back 18 = .ok (.aload_n 0, 1) := by decide +kernel
theorem dX11_back_19 : decode cX11_back 19 = .ok (.iconst 0, 1) := by decide +kernel
theorem dX11_back_20 : decode cX11_back 20 = .ok (.invokevirtual 158, 3) := by decide +kernel
theorem dX11_back_23 : decode cX11_back 23 = .ok (.ireturn, 1) := by decide +kernel
theorem dX11_bench_0 : decode cX11_bench 0 = .ok (.aload_n 0, 1) := by decide +kernel
theorem dX11_bench_1 : decode cX11_bench 1 = .ok (.getfield 31, 3) := by decide +kernel
theorem dX11_bench_4 : decode cX11_bench 4 = .ok (.iload_n 1, 1) := by decide +kernel
theorem dX11_bench_5 : decode cX11_bench 5 = .ok (.invokevirtual 199, 3) := by decide +kernel
theorem dX11_bench_8 : decode cX11_bench 8 = .ok (.ifCond .eq 20, 3) := by decide +kernel
theorem dX11_bench_28 : decode cX11_bench 28 = .ok (.aload_n 0, 1) := by decide +kernel
theorem dX11_bench_29 : decode cX11_bench 29 = .ok (.iconst 0, 1) := by decide +kernel
theorem dX11_bench_30 : decode cX11_bench 30 = .ok (.invokevirtual 158, 3) := by decide +kernel
theorem dX11_bench_33 : decode cX11_bench 33 = .ok (.ireturn, 1) := by decide +kernel
theorem dX11_bend_0 : decode cX11_bend 0 = .ok (.aload_n 0, 1) := by decide +kernel
theorem dX11_bend_1 : decode cX11_bend 1 = .ok (.getfield 31, 3) := by decide +kernel
theorem dX11_bend_4 : decode cX11_bend 4 = .ok (.iload_n 1, 1) := by decide +kernel
theorem dX11_bend_5 : decode cX11_bend 5 = .ok (.invokevirtual 132, 3) := by decide +kernel
theorem dX11_bend_8 : decode cX11_bend 8 = .ok (.ifCond .eq 14, 3) := by decide +kernel
theorem dX11_bend_22 : decode cX11_bend 22 = .ok (.aload_n 0, 1) := by decide +kernel
theorem dX11_bend_23 : decode cX11_bend 23 = .ok (.iconst 0, 1) := by decide +kernel
theorem dX11_bend_24 : decode cX11_bend 24 = .ok (.invokevirtual 158, 3) := by decide +kernel
theorem dX11_bend_27 : decode cX11_bend 27 = .ok (.ireturn, 1) := by decide +kernel
theorem dX11_beside_0 : decode cX11_beside 0 = .ok (.iload_n 1, 1) := by decide +kernel
theorem dX11_beside_1 : decode cX11_beside 1 = .ok (.ifCond .lt 24, 3) := by decide +kernel
theorem dX11_beside_4 : decode cX11_beside 4 = .ok (.iload_n 1, 1) := by decide +kernel
theorem dX11_beside_5 : decode cX11_beside 5 = .ok (.iconst 2, 1) := by decide +kernel
theorem dX11_beside_6 : decode cX11_beside 6 = .ok (.if_icmp .gt 19, 3) := by decide +kernel
theorem dX11_beside_9 : decode cX11_beside 9 = .ok (.iload_n 2, 1) := by decide +kernel
theorem dX11_beside_10 : decode cX11_beside 10 = .ok (.iconst 1, 1) := by decide +kernel
theorem dX11_beside_11 : decode cX11_beside 11 = .ok (.if_icmp .lt 14, 3) := by decide +kernel
theorem dX11_beside_14 : decode cX11_beside 14 = .ok (.iload_n 2, 1) := by decide +kernel
theorem dX11_beside_15 : decode cX11_beside 15 = .ok (.sipush 9999, 3) := by decide +kernel
theorem dX11_beside_18 : decode cX11_beside 18 = .ok (.if_icmp .gt 7, 3) := by decide +kernel
theorem dX11_beside_21 : decode cX11_beside 21 = .ok (.iconst 1, 1) := by decide +kernel
theorem dX11_beside_22 : decode cX11_beside 22 = .ok (.goto 4, 3) := by decide +kernel
theorem dX11_beside_25 : decode cX11_beside 25 = .ok (.iconst 0, 1) := by decide +kernel
theorem dX11_beside_26 : decode cX11_beside 26 = .ok (.istore_n 3, 1) := by decide +kernel
theorem dX11_beside_27 : decode cX11_beside 27 = .ok (.aload_n 0, 1) := by decide +kernel
theorem dX11_beside_28 : decode cX11_beside 28 = .ok (.getfield 31, 3) := by decide +kernel
theorem dX11_beside_31 : decode cX11_beside 31 = .ok (.invokevirtual 170, 3) := by decide +kernel
theorem dX11_beside_34 : decode cX11_beside 34 = .ok (.ifCond .eq 7, 3) := by decide +kernel
theorem dX11_beside_41 : decode cX11_beside 41 = .ok (.aload_n 0, 1) := by decide +kernel
theorem dX11_beside_42 : decode cX11_beside 42 = .ok (.iconst 0, 1) := by decide +kernel
theorem dX11_beside_43 : decode cX11_beside 43 = .ok (.invokevirtual 158, 3) := by decide +kernel
theorem dX11_beside_46 : decode cX11_beside 46 = .ok (.ireturn, 1) := by decide +kernel
theorem dX11_chair_0 : decode cX11_chair 0 = .ok (.aload_n 0, 1) := by decide +kernel
theorem dX11_chair_1 : decode cX11_chair 1 = .ok (.getfield 31, 3) := by decide +kernel
theorem dX11_chair_4 : decode cX11_chair 4 = .ok (.getfield 202, 3) := by decide +kernel
theorem dX11_chair_7 : decode cX11_chair 7 = .ok (.iconst 1, 1) := by decide +kernel
theorem dX11_chair_8 : decode cX11_chair 8 = .ok (.if_icmp .lt 19, 3) := by decide +kernel
theorem dX11_chair_27 : decode cX11_chair 27 = .ok (.iconst 0, 1) := by decide +kernel
theorem dX11_chair_28 : decode cX11_chair 28 = .ok (.istore 4, 2) := by decide +kernel
theorem dX11_chair_30 : decode cX11_chair 30 = .ok (.aload_n 0, 1) := by decide +kernel
theorem dX11_chair_31 : decode cX11_chair 31 = .ok (.getfield 31, 3) := by decide +kernel
theorem dX11_chair_34 : decode cX11_chair 34 = .ok (.iload_n 1, 1) := by decide +kernel
theorem dX11_chair_35 : decode cX11_chair 35 = .ok (.invokevirtual 132, 3) := by decide +kernel
theorem dX11_chair_38 : decode cX11_chair 38 = .ok (.ifCond .eq 23, 3) := by decide +kernel
theorem dX11_chair_61 : decode cX11_chair 61 = .ok (.ldc 215, 2) := by decide +kernel
theorem dX11_chair_63 : decode cX11_chair 63 = .ok (.ireturn, 1) := by decide +kernel
theorem dX11_council_0 : decode cX11_council 0 = .ok (.aload_n 0, 1) := by decide +kernel
theorem dX11_council_1 : decode cX11_council 1 = .ok (.getfield 46, 3) := by decide +kernel
theorem dX11_council_4 : decode cX11_council 4 = .ok (.aload_n 0, 1) := by decide +kernel
theorem dX11_council_5 : decode cX11_council 5 = .ok (.getfield 9, 3) := by decide +kernel
theorem dX11_council_8 : decode cX11_council 8 = .ok (.aload_n 0, 1) := by decide +kernel
theorem dX11_council_9 : decode cX11_council 9 = .ok (.getfield 94, 3) := by decide +kernel
theorem dX11_council_12 : decode cX11_council 12 = .ok (.invokevirtual 102, 3) := by decide +kernel
theorem dX11_council_15 : decode cX11_council 15 = .ok (.istore_n 1, 1) := by decide +kernel
theorem dX11_council_16 : decode cX11_council 16 = .ok (.iload_n 1, 1) := by decide +kernel
theorem dX11_council_17 : decode cX11_council 17 = .ok (.ifCond .eq 8, 3) := by decide +kernel
theorem dX11_council_20 : decode cX11_council 20 = .ok (.bipush (-2), 2) := by decide +kernel
theorem dX11_council_22 : decode cX11_council 22 = .ok (.iload_n 1, 1) := by decide +kernel
theorem dX11_council_23 : decode cX11_council 23 = .ok (.isub, 1) := by decide +kernel
theorem dX11_council_24 : decode cX11_council 24 = .ok (.ireturn, 1) := by decide +kernel
theorem dX11_count_0 : decode cX11_count 0 = .ok (.iload_n 1, 1) := by decide +kernel
theorem dX11_count_1 : decode cX11_count 1 = .ok (.tableswitch 170 0 11 #[63, 71, 79, 84, 95, 117, 125, 133, 141, 149, 154, 162], 63) := by decide +kernel
theorem dX11_count_64 : decode cX11_count 64 = .ok (.aload_n 0, 1) := by decide +kernel
theorem dX11_count_65 : decode cX11_count 65 = .ok (.getfield 31, 3) := by decide +kernel
theorem dX11_count_68 : decode cX11_count 68 = .ok (.getfield 116, 3) := by decide +kernel
theorem dX11_count_71 : decode cX11_count 71 = .ok (.ireturn, 1) := by decide +kernel
theorem dX11_count_72 : decode cX11_count 72 = .ok (.aload_n 0, 1) := by decide +kernel
theorem dX11_count_73 : decode cX11_count 73 = .ok (.getfield 31, 3) := by decide +kernel
theorem dX11_count_76 : decode cX11_count 76 = .ok (.getfield 310, 3) := by decide +kernel
theorem dX11_count_79 : decode cX11_count 79 = .ok (.ireturn, 1) := by decide +kernel
theorem dX11_count_80 : decode cX11_count 80 = .ok (.aload_n 0, 1) := by decide +kernel
theorem dX11_count_81 : decode cX11_count 81 = .ok (.getfield 119, 3) := by decide +kernel
theorem dX11_count_84 : decode cX11_count 84 = .ok (.ireturn, 1) := by decide +kernel
theorem dX11_count_85 : decode cX11_count 85 = .ok (.aload_n 0, 1) := by decide +kernel
theorem dX11_count_86 : decode cX11_count 86 = .ok (.getfield 31, 3) := by decide +kernel
theorem dX11_count_89 : decode cX11_count 89 = .ok (.getfield 142, 3) := by decide +kernel
theorem dX11_count_92 : decode cX11_count 92 = .ok (.invokestatic 165, 3) := by decide +kernel
theorem dX11_count_95 : decode cX11_count 95 = .ok (.ireturn, 1) := by decide +kernel
theorem dX11_count_96 : decode cX11_count 96 = .ok (.aload_n 0, 1) := by decide +kernel
theorem dX11_count_97 : decode cX11_count 97 = .ok (.getfield 31, 3) := by decide +kernel
theorem dX11_count_100 : decode cX11_count 100 = .ok (.aload_n 0, 1) := by decide +kernel
theorem dX11_count_101 : decode cX11_count 101 = .ok (.getfield 31, 3) := by decide +kernel
theorem dX11_count_104 : decode cX11_count 104 = .ok (.getfield 136, 3) := by decide +kernel
theorem dX11_count_107 : decode cX11_count 107 = .ok (.aload_n 0, 1) := by decide +kernel
theorem dX11_count_108 : decode cX11_count 108 = .ok (.getfield 31, 3) := by decide +kernel
theorem dX11_count_111 : decode cX11_count 111 = .ok (.getfield 142, 3) := by decide +kernel
theorem dX11_count_114 : decode cX11_count 114 = .ok (.invokevirtual 320, 3) := by decide +kernel
theorem dX11_count_117 : decode cX11_count 117 = .ok (.ireturn, 1) := by decide +kernel
theorem dX11_count_118 : decode cX11_count 118 = .ok (.aload_n 0, 1) := by decide +kernel
theorem dX11_count_119 : decode cX11_count 119 = .ok (.getfield 31, 3) := by decide +kernel
theorem dX11_count_122 : decode cX11_count 122 = .ok (.getfield 180, 3) := by decide +kernel
theorem dX11_count_125 : decode cX11_count 125 = .ok (.ireturn, 1) := by decide +kernel
theorem dX11_count_126 : decode cX11_count 126 = .ok (.aload_n 0, 1) := by decide +kernel
theorem dX11_count_127 : decode cX11_count 127 = .ok (.getfield 31, 3) := by decide +kernel
theorem dX11_count_130 : decode cX11_count 130 = .ok (.getfield 202, 3) := by decide +kernel
theorem dX11_count_133 : decode cX11_count 133 = .ok (.ireturn, 1) := by decide +kernel
theorem dX11_count_134 : decode cX11_count 134 = .ok (.aload_n 0, 1) := by decide +kernel
theorem dX11_count_135 : decode cX11_count 135 = .ok (.getfield 31, 3) := by decide +kernel
theorem dX11_count_138 : decode cX11_count 138 = .ok (.getfield 276, 3) := by decide +kernel
theorem dX11_count_141 : decode cX11_count 141 = .ok (.ireturn, 1) := by decide +kernel
theorem dX11_count_142 : decode cX11_count 142 = .ok (.aload_n 0, 1) := by decide +kernel
theorem dX11_count_143 : decode cX11_count 143 = .ok (.getfield 31, 3) := by decide +kernel
theorem dX11_count_146 : decode cX11_count 146 = .ok (.getfield 106, 3) := by decide +kernel
theorem dX11_count_149 : decode cX11_count 149 = .ok (.ireturn, 1) := by decide +kernel
theorem dX11_count_150 : decode cX11_count 150 = .ok (.aload_n 0, 1) := by decide +kernel
theorem dX11_count_151 : decode cX11_count 151 = .ok (.getfield 94, 3) := by decide +kernel
theorem dX11_count_154 : decode cX11_count 154 = .ok (.ireturn, 1) := by decide +kernel
theorem dX11_count_155 : decode cX11_count 155 = .ok (.aload_n 0, 1) := by decide +kernel
theorem dX11_count_156 : decode cX11_count 156 = .ok (.getfield 31, 3) := by decide +kernel
theorem dX11_count_159 : decode cX11_count 159 = .ok (.getfield 174, 3) := by decide +kernel
theorem dX11_count_162 : decode cX11_count 162 = .ok (.ireturn, 1) := by decide +kernel
theorem dX11_count_163 : decode cX11_count 163 = .ok (.aload_n 0, 1) := by decide +kernel
theorem dX11_count_164 : decode cX11_count 164 = .ok (.getfield 31, 3) := by decide +kernel
theorem dX11_count_167 : decode cX11_count 167 = .ok (.getfield 177, 3) := by decide +kernel
theorem dX11_count_170 : decode cX11_count 170 = .ok (.ireturn, 1) := by decide +kernel
theorem dX11_count_171 : decode cX11_count 171 = .ok (.iconst (-1), 1) := by decide +kernel
theorem dX11_count_172 : decode cX11_count 172 = .ok (.ireturn, 1) := by decide +kernel
theorem dX11_day_0 : decode cX11_day 0 = .ok (.aload_n 0, 1) := by decide +kernel
theorem dX11_day_1 : decode cX11_day 1 = .ok (.getfield 31, 3) := by decide +kernel
theorem dX11_day_4 : decode cX11_day 4 = .ok (.invokevirtual 170, 3) := by decide +kernel
theorem dX11_day_7 : decode cX11_day 7 = .ok (.ifCond .ne 9, 3) := by decide +kernel
theorem dX11_day_10 : decode cX11_day 10 = .ok (.aload_n 0, 1) := by decide +kernel
theorem dX11_day_11 : decode cX11_day 11 = .ok (.iconst 0, 1) := by decide +kernel
theorem dX11_day_12 : decode cX11_day 12 = .ok (.invokevirtual 158, 3) := by decide +kernel
theorem dX11_day_15 : decode cX11_day 15 = .ok (.ireturn, 1) := by decide +kernel
theorem dX11_end_0 : decode cX11_end 0 = .ok (.iload_n 1, 1) := by decide +kernel
theorem dX11_end_1 : decode cX11_end 1 = .ok (.ifCond .lt 11, 3) := by decide +kernel
theorem dX11_end_4 : decode cX11_end 4 = .ok (.iload_n 1, 1) := by decide +kernel
theorem dX11_end_5 : decode cX11_end 5 = .ok (.aload_n 0, 1) := by decide +kernel
theorem dX11_end_6 : decode cX11_end 6 = .ok (.getfield 94, 3) := by decide +kernel
theorem dX11_end_9 : decode cX11_end 9 = .ok (.if_icmp .le 5, 3) := by decide +kernel
theorem dX11_end_12 : decode cX11_end 12 = .ok (.iconst (-1), 1) := by decide +kernel
theorem dX11_end_13 : decode cX11_end 13 = .ok (.ireturn, 1) := by decide +kernel
theorem dX11_end_14 : decode cX11_end 14 = .ok (.aload_n 0, 1) := by decide +kernel
theorem dX11_end_15 : decode cX11_end 15 = .ok (.iload_n 1, 1) := by decide +kernel
theorem dX11_end_16 : decode cX11_end 16 = .ok (.putfield 94, 3) := by decide +kernel
theorem dX11_end_19 : decode cX11_end 19 = .ok (.iload_n 1, 1) := by decide +kernel
theorem dX11_end_20 : decode cX11_end 20 = .ok (.ireturn, 1) := by decide +kernel
theorem dX11_entry_0 : decode cX11_entry 0 = .ok (.iload_n 1, 1) := by decide +kernel
theorem dX11_entry_1 : decode cX11_entry 1 = .ok (.iconst (-1), 1) := by decide +kernel
theorem dX11_entry_2 : decode cX11_entry 2 = .ok (.if_icmp .ne 13, 3) := by decide +kernel
theorem dX11_entry_5 : decode cX11_entry 5 = .ok (.aload_n 0, 1) := by decide +kernel
theorem dX11_entry_6 : decode cX11_entry 6 = .ok (.getfield 31, 3) := by decide +kernel
theorem dX11_entry_9 : decode cX11_entry 9 = .ok (.iconst 0, 1) := by decide +kernel
theorem dX11_entry_10 : decode cX11_entry 10 = .ok (.putfield 276, 3) := by decide +kernel
theorem dX11_entry_13 : decode cX11_entry 13 = .ok (.iconst 0, 1) := by decide +kernel
theorem dX11_entry_14 : decode cX11_entry 14 = .ok (.ireturn, 1) := by decide +kernel
theorem dX11_entry_15 : decode cX11_entry 15 = .ok (.aload_n 0, 1) := by decide +kernel
theorem dX11_entry_16 : decode cX11_entry 16 = .ok (.getfield 31, 3) := by decide +kernel
theorem dX11_entry_19 : decode cX11_entry 19 = .ok (.iload_n 1, 1) := by decide +kernel
theorem dX11_entry_20 : decode cX11_entry 20 = .ok (.invokevirtual 199, 3) := by decide +kernel
theorem dX11_entry_23 : decode cX11_entry 23 = .ok (.ifCond .eq 24, 3) := by decide +kernel
theorem dX11_entry_47 : decode cX11_entry 47 = .ok (.iconst 0, 1) := by decide +kernel
theorem dX11_entry_48 : decode cX11_entry 48 = .ok (.istore 5, 2) := by decide +kernel
theorem dX11_entry_50 : decode cX11_entry 50 = .ok (.iload 5, 2) := by decide +kernel
theorem dX11_entry_52 : decode cX11_entry 52 = .ok (.ifCond .eq 18, 3) := by decide +kernel
theorem dX11_entry_70 : decode cX11_entry 70 = .ok (.aload_n 0, 1) := by decide +kernel
theorem dX11_entry_71 : decode cX11_entry 71 = .ok (.iconst 0, 1) := by decide +kernel
theorem dX11_entry_72 : decode cX11_entry 72 = .ok (.invokevirtual 158, 3) := by decide +kernel
theorem dX11_entry_75 : decode cX11_entry 75 = .ok (.ireturn, 1) := by decide +kernel
theorem dX11_feed_0 : decode cX11_feed 0 = .ok (.aload_n 0, 1) := by decide +kernel
theorem dX11_feed_1 : decode cX11_feed 1 = .ok (.getfield 94, 3) := by decide +kernel
theorem dX11_feed_4 : decode cX11_feed 4 = .ok (.bipush 20, 2) := by decide +kernel
theorem dX11_feed_6 : decode cX11_feed 6 = .ok (.iadd, 1) := by decide +kernel
theorem dX11_feed_7 : decode cX11_feed 7 = .ok (.sipush 400, 3) := by decide +kernel
theorem dX11_feed_10 : decode cX11_feed 10 = .ok (.if_icmp .le 5, 3) := by decide +kernel
theorem dX11_feed_15 : decode cX11_feed 15 = .ok (.aload_n 0, 1) := by decide +kernel
theorem dX11_feed_16 : decode cX11_feed 16 = .ok (.iload_n 1, 1) := by decide +kernel
theorem dX11_feed_17 : decode cX11_feed 17 = .ok (.invokevirtual 98, 3) := by decide +kernel
theorem dX11_feed_20 : decode cX11_feed 20 = .ok (.aload_n 0, 1) := by decide +kernel
theorem dX11_feed_21 : decode cX11_feed 21 = .ok (.iload_n 2, 1) := by decide +kernel
theorem dX11_feed_22 : decode cX11_feed 22 = .ok (.invokevirtual 98, 3) := by decide +kernel
theorem dX11_feed_25 : decode cX11_feed 25 = .ok (.aload_n 0, 1) := by decide +kernel
theorem dX11_feed_26 : decode cX11_feed 26 = .ok (.iload_n 3, 1) := by decide +kernel
theorem dX11_feed_27 : decode cX11_feed 27 = .ok (.invokevirtual 98, 3) := by decide +kernel
theorem dX11_feed_30 : decode cX11_feed 30 = .ok (.aload_n 0, 1) := by decide +kernel
theorem dX11_feed_31 : decode cX11_feed 31 = .ok (.iload 4, 2) := by decide +kernel
theorem dX11_feed_33 : decode cX11_feed 33 = .ok (.invokevirtual 98, 3) := by decide +kernel
theorem dX11_feed_36 : decode cX11_feed 36 = .ok (.aload_n 0, 1) := by decide +kernel
theorem dX11_feed_37 : decode cX11_feed 37 = .ok (.iload 5, 2) := by decide +kernel
theorem dX11_feed_39 : decode cX11_feed 39 = .ok (.invokevirtual 98, 3) := by decide +kernel
theorem dX11_feed_42 : decode cX11_feed 42 = .ok (.aload_n 0, 1) := by decide +kernel
theorem dX11_feed_43 : decode cX11_feed 43 = .ok (.getfield 94, 3) := by decide +kernel
theorem dX11_feed_46 : decode cX11_feed 46 = .ok (.ireturn, 1) := by decide +kernel
theorem dX11_fits_0 : decode cX11_fits 0 = .ok (.aload_n 0, 1) := by decide +kernel
theorem dX11_fits_1 : decode cX11_fits 1 = .ok (.iload_n 1, 1) := by decide +kernel
theorem dX11_fits_2 : decode cX11_fits 2 = .ok (.invokevirtual 287, 3) := by decide +kernel
theorem dX11_fits_5 : decode cX11_fits 5 = .ok (.ifCond .eq 23, 3) := by decide +kernel
theorem dX11_fits_28 : decode cX11_fits 28 = .ok (.iconst (-1), 1) := by decide +kernel
theorem dX11_fits_29 : decode cX11_fits 29 = .ok (.ireturn, 1) := by decide +kernel
theorem dX11_image_0 : decode cX11_image 0 = .ok (.iload_n 1, 1) := by decide +kernel
theorem dX11_image_1 : decode cX11_image 1 = .ok (.ifCond .lt 8, 3) := by decide +kernel
theorem dX11_image_4 : decode cX11_image 4 = .ok (.iload_n 1, 1) := by decide +kernel
theorem dX11_image_5 : decode cX11_image 5 = .ok (.iconst 4, 1) := by decide +kernel
theorem dX11_image_6 : decode cX11_image 6 = .ok (.if_icmp .lt 9, 3) := by decide +kernel
theorem dX11_image_9 : decode cX11_image 9 = .ok (.aload_n 0, 1) := by decide +kernel
theorem dX11_image_10 : decode cX11_image 10 = .ok (.iconst 0, 1) := by decide +kernel
theorem dX11_image_11 : decode cX11_image 11 = .ok (.invokevirtual 158, 3) := by decide +kernel
theorem dX11_image_14 : decode cX11_image 14 = .ok (.ireturn, 1) := by decide +kernel
theorem dX11_image_15 : decode cX11_image 15 = .ok (.aload_n 0, 1) := by decide +kernel
theorem dX11_image_16 : decode cX11_image 16 = .ok (.getfield 19, 3) := by decide +kernel
theorem dX11_image_19 : decode cX11_image 19 = .ok (.iload_n 1, 1) := by decide +kernel
theorem dX11_image_20 : decode cX11_image 20 = .ok (.aaload, 1) := by decide +kernel
theorem dX11_image_21 : decode cX11_image 21 = .ok (.ifnonnull 16, 3) := by decide +kernel
theorem dX11_image_24 : decode cX11_image 24 = .ok (.aload_n 0, 1) := by decide +kernel
theorem dX11_image_25 : decode cX11_image 25 = .ok (.getfield 19, 3) := by decide +kernel
theorem dX11_image_28 : decode cX11_image 28 = .ok (.iload_n 1, 1) := by decide +kernel
theorem dX11_image_29 : decode cX11_image 29 = .ok (.new 17, 3) := by decide +kernel
theorem dX11_image_32 : decode cX11_image 32 = .ok (.dup, 1) := by decide +kernel
theorem dX11_image_33 : decode cX11_image 33 = .ok (.invokespecial 23, 3) := by decide +kernel
theorem dX11_image_36 : decode cX11_image 36 = .ok (.aastore, 1) := by decide +kernel
theorem dX11_image_37 : decode cX11_image 37 = .ok (.aload_n 0, 1) := by decide +kernel
theorem dX11_image_38 : decode cX11_image 38 = .ok (.getfield 19, 3) := by decide +kernel
theorem dX11_image_41 : decode cX11_image 41 = .ok (.iload_n 1, 1) := by decide +kernel
theorem dX11_image_42 : decode cX11_image 42 = .ok (.aaload, 1) := by decide +kernel
theorem dX11_image_43 : decode cX11_image 43 = .ok (.aload_n 0, 1) := by decide +kernel
theorem dX11_image_44 : decode cX11_image 44 = .ok (.getfield 31, 3) := by decide +kernel
theorem dX11_image_47 : decode cX11_image 47 = .ok (.invokevirtual 112, 3) := by decide +kernel
theorem dX11_image_50 : decode cX11_image 50 = .ok (.aload_n 0, 1) := by decide +kernel
theorem dX11_image_51 : decode cX11_image 51 = .ok (.getfield 31, 3) := by decide +kernel
theorem dX11_image_54 : decode cX11_image 54 = .ok (.getfield 180, 3) := by decide +kernel
theorem dX11_image_57 : decode cX11_image 57 = .ok (.ireturn, 1) := by decide +kernel
theorem dX11_init_0 : decode cX11_init 0 = .ok (.aload_n 0, 1) := by decide +kernel
theorem dX11_init_1 : decode cX11_init 1 = .ok (.invokespecial 1, 3) := by decide +kernel
theorem dX11_init_4 : decode cX11_init 4 = .ok (.aload_n 0, 1) := by decide +kernel
theorem dX11_init_5 : decode cX11_init 5 = .ok (.sipush 400, 3) := by decide +kernel
theorem dX11_init_8 : decode cX11_init 8 = .ok (.newarray .byte, 2) := by decide +kernel
theorem dX11_init_10 : decode cX11_init 10 = .ok (.putfield 9, 3) := by decide +kernel
theorem dX11_init_13 : decode cX11_init 13 = .ok (.aload_n 0, 1) := by decide +kernel
theorem dX11_init_14 : decode cX11_init 14 = .ok (.iconst 2, 1) := by decide +kernel
theorem dX11_init_15 : decode cX11_init 15 = .ok (.newarray .int, 2) := by decide +kernel
theorem dX11_init_17 : decode cX11_init 17 = .ok (.putfield 13, 3) := by decide +kernel
theorem dX11_init_20 : decode cX11_init 20 = .ok (.aload_n 0, 1) := by decide +kernel
theorem dX11_init_21 : decode cX11_init 21 = .ok (.iconst 4, 1) := by decide +kernel
theorem dX11_init_22 : decode cX11_init 22 = .ok (.anewarray 17, 3) := by decide +kernel
theorem dX11_init_25 : decode cX11_init 25 = .ok (.putfield 19, 3) := by decide +kernel
theorem dX11_init_28 : decode cX11_init 28 = .ok (.new 17, 3) := by decide +kernel
theorem dX11_init_31 : decode cX11_init 31 = .ok (.dup, 1) := by decide +kernel
theorem dX11_init_32 : decode cX11_init 32 = .ok (.invokespecial 23, 3) := by decide +kernel
theorem dX11_init_35 : decode cX11_init 35 = .ok (.astore_n 1, 1) := by decide +kernel
theorem dX11_init_36 : decode cX11_init 36 = .ok (.bipush 6, 2) := by decide +kernel
theorem dX11_init_38 : decode cX11_init 38 = .ok (.anewarray 24, 3) := by decide +kernel
theorem dX11_init_41 : decode cX11_init 41 = .ok (.astore_n 2, 1) := by decide +kernel
theorem dX11_init_42 : decode cX11_init 42 = .ok (.new 26, 3) := by decide +kernel
theorem dX11_init_45 : decode cX11_init 45 = .ok (.dup, 1) := by decide +kernel
theorem dX11_init_46 : decode cX11_init 46 = .ok (.aload_n 1, 1) := by decide +kernel
theorem dX11_init_47 : decode cX11_init 47 = .ok (.aload_n 2, 1) := by decide +kernel
theorem dX11_init_48 : decode cX11_init 48 = .ok (.invokespecial 28, 3) := by decide +kernel
theorem dX11_init_51 : decode cX11_init 51 = .ok (.astore_n 3, 1) := by decide +kernel
theorem dX11_init_52 : decode cX11_init 52 = .ok (.aload_n 0, 1) := by decide +kernel
theorem dX11_init_53 : decode cX11_init 53 = .ok (.aload_n 1, 1) := by decide +kernel
theorem dX11_init_54 : decode cX11_init 54 = .ok (.putfield 31, 3) := by decide +kernel
theorem dX11_init_57 : decode cX11_init 57 = .ok (.aload_n 0, 1) := by decide +kernel
theorem dX11_init_58 : decode cX11_init 58 = .ok (.aload_n 2, 1) := by decide +kernel
theorem dX11_init_59 : decode cX11_init 59 = .ok (.putfield 35, 3) := by decide +kernel
theorem dX11_init_62 : decode cX11_init 62 = .ok (.aload_n 0, 1) := by decide +kernel
theorem dX11_init_63 : decode cX11_init 63 = .ok (.aload_n 3, 1) := by decide +kernel
theorem dX11_init_64 : decode cX11_init 64 = .ok (.putfield 39, 3) := by decide +kernel
theorem dX11_init_67 : decode cX11_init 67 = .ok (.aload_n 0, 1) := by decide +kernel
theorem dX11_init_68 : decode cX11_init 68 = .ok (.new 43, 3) := by decide +kernel
theorem dX11_init_71 : decode cX11_init 71 = .ok (.dup, 1) := by decide +kernel
theorem dX11_init_72 : decode cX11_init 72 = .ok (.invokespecial 45, 3) := by decide +kernel
theorem dX11_init_75 : decode cX11_init 75 = .ok (.putfield 46, 3) := by decide +kernel
theorem dX11_init_78 : decode cX11_init 78 = .ok (.aload_n 0, 1) := by decide +kernel
theorem dX11_init_79 : decode cX11_init 79 = .ok (.new 50, 3) := by decide +kernel
theorem dX11_init_82 : decode cX11_init 82 = .ok (.dup, 1) := by decide +kernel
theorem dX11_init_83 : decode cX11_init 83 = .ok (.invokespecial 52, 3) := by decide +kernel
theorem dX11_init_86 : decode cX11_init 86 = .ok (.putfield 53, 3) := by decide +kernel
theorem dX11_init_89 : decode cX11_init 89 = .ok (.aload_n 0, 1) := by decide +kernel
theorem dX11_init_90 : decode cX11_init 90 = .ok (.new 57, 3) := by decide +kernel
theorem dX11_init_93 : decode cX11_init 93 = .ok (.dup, 1) := by decide +kernel
theorem dX11_init_94 : decode cX11_init 94 = .ok (.aload_n 1, 1) := by decide +kernel
theorem dX11_init_95 : decode cX11_init 95 = .ok (.aload_n 3, 1) := by decide +kernel
theorem dX11_init_96 : decode cX11_init 96 = .ok (.invokespecial 59, 3) := by decide +kernel
theorem dX11_init_99 : decode cX11_init 99 = .ok (.putfield 62, 3) := by decide +kernel
theorem dX11_init_102 : decode cX11_init 102 = .ok (.aload_n 0, 1) := by decide +kernel
theorem dX11_init_103 : decode cX11_init 103 = .ok (.new 66, 3) := by decide +kernel
theorem dX11_init_106 : decode cX11_init 106 = .ok (.dup, 1) := by decide +kernel
theorem dX11_init_107 : decode cX11_init 107 = .ok (.aload_n 1, 1) := by decide +kernel
theorem dX11_init_108 : decode cX11_init 108 = .ok (.aload_n 3, 1) := by decide +kernel
theorem dX11_init_109 : decode cX11_init 109 = .ok (.invokespecial 68, 3) := by decide +kernel
theorem dX11_init_112 : decode cX11_init 112 = .ok (.putfield 69, 3) := by decide +kernel
theorem dX11_init_115 : decode cX11_init 115 = .ok (.aload_n 0, 1) := by decide +kernel
theorem dX11_init_116 : decode cX11_init 116 = .ok (.new 73, 3) := by decide +kernel
theorem dX11_init_119 : decode cX11_init 119 = .ok (.dup, 1) := by decide +kernel
theorem dX11_init_120 : decode cX11_init 120 = .ok (.aload_n 1, 1) := by decide +kernel
theorem dX11_init_121 : decode cX11_init 121 = .ok (.aload_n 3, 1) := by decide +kernel
theorem dX11_init_122 : decode cX11_init 122 = .ok (.invokespecial 75, 3) := by decide +kernel
theorem dX11_init_125 : decode cX11_init 125 = .ok (.putfield 76, 3) := by decide +kernel
theorem dX11_init_128 : decode cX11_init 128 = .ok (.aload_n 0, 1) := by decide +kernel
theorem dX11_init_129 : decode cX11_init 129 = .ok (.new 80, 3) := by decide +kernel
theorem dX11_init_132 : decode cX11_init 132 = .ok (.dup, 1) := by decide +kernel
theorem dX11_init_133 : decode cX11_init 133 = .ok (.aload_n 1, 1) := by decide +kernel
theorem dX11_init_134 : decode cX11_init 134 = .ok (.aload_n 3, 1) := by decide +kernel
theorem dX11_init_135 : decode cX11_init 135 = .ok (.invokespecial 82, 3) := by decide +kernel
theorem dX11_init_138 : decode cX11_init 138 = .ok (.putfield 83, 3) := by decide +kernel
theorem dX11_init_141 : decode cX11_init 141 = .ok (.aload_n 0, 1) := by decide +kernel
theorem dX11_init_142 : decode cX11_init 142 = .ok (.new 87, 3) := by decide +kernel
theorem dX11_init_145 : decode cX11_init 145 = .ok (.dup, 1) := by decide +kernel
theorem dX11_init_146 : decode cX11_init 146 = .ok (.aload_n 1, 1) := by decide +kernel
theorem dX11_init_147 : decode cX11_init 147 = .ok (.aload_n 3, 1) := by decide +kernel
theorem dX11_init_148 : decode cX11_init 148 = .ok (.invokespecial 89, 3) := by decide +kernel
theorem dX11_init_151 : decode cX11_init 151 = .ok (.putfield 90, 3) := by decide +kernel
theorem dX11_init_154 : decode cX11_init 154 = .ok (.return_, 1) := by decide +kernel
theorem dX11_isForBooks_0 : decode cX11_isForBooks 0 = .ok (.aload_n 0, 1) := by decide +kernel
theorem dX11_isForBooks_1 : decode cX11_isForBooks 1 = .ok (.getfield 31, 3) := by decide +kernel
theorem dX11_isForBooks_4 : decode cX11_isForBooks 4 = .ok (.invokevirtual 170, 3) := by decide +kernel
theorem dX11_isForBooks_7 : decode cX11_isForBooks 7 = .ok (.ifCond .eq 29, 3) := by decide +kernel
theorem dX11_isForBooks_36 : decode cX11_isForBooks 36 = .ok (.iconst 0, 1) := by decide +kernel
theorem dX11_isForBooks_37 : decode cX11_isForBooks 37 = .ok (.ireturn, 1) := by decide +kernel
theorem dX11_lay_0 : decode cX11_lay 0 = .ok (.bipush 24, 2) := by decide +kernel
theorem dX11_lay_2 : decode cX11_lay 2 = .ok (.istore_n 2, 1) := by decide +kernel
theorem dX11_lay_3 : decode cX11_lay 3 = .ok (.iload_n 2, 1) := by decide +kernel
theorem dX11_lay_4 : decode cX11_lay 4 = .ok (.ifCond .lt 42, 3) := by decide +kernel
theorem dX11_lay_7 : decode cX11_lay 7 = .ok (.aload_n 0, 1) := by decide +kernel
theorem dX11_lay_8 : decode cX11_lay 8 = .ok (.getfield 94, 3) := by decide +kernel
theorem dX11_lay_11 : decode cX11_lay 11 = .ok (.sipush 400, 3) := by decide +kernel
theorem dX11_lay_14 : decode cX11_lay 14 = .ok (.if_icmp .ge 32, 3) := by decide +kernel
theorem dX11_lay_17 : decode cX11_lay 17 = .ok (.aload_n 0, 1) := by decide +kernel
theorem dX11_lay_18 : decode cX11_lay 18 = .ok (.getfield 9, 3) := by decide +kernel
theorem dX11_lay_21 : decode cX11_lay 21 = .ok (.aload_n 0, 1) := by decide +kernel
theorem dX11_lay_22 : decode cX11_lay 22 = .ok (.getfield 94, 3) := by decide +kernel
theorem dX11_lay_25 : decode cX11_lay 25 = .ok (.iload_n 1, 1) := by decide +kernel
theorem dX11_lay_26 : decode cX11_lay 26 = .ok (.iload_n 2, 1) := by decide +kernel
theorem dX11_lay_27 : decode cX11_lay 27 = .ok (.ishr, 1) := by decide +kernel
theorem dX11_lay_28 : decode cX11_lay 28 = .ok (.i2b, 1) := by decide +kernel
theorem dX11_lay_29 : decode cX11_lay 29 = .ok (.bastore, 1) := by decide +kernel
theorem dX11_lay_30 : decode cX11_lay 30 = .ok (.aload_n 0, 1) := by decide +kernel
theorem dX11_lay_31 : decode cX11_lay 31 = .ok (.dup, 1) := by decide +kernel
theorem dX11_lay_32 : decode cX11_lay 32 = .ok (.getfield 94, 3) := by decide +kernel
theorem dX11_lay_35 : decode cX11_lay 35 = .ok (.iconst 1, 1) := by decide +kernel
theorem dX11_lay_36 : decode cX11_lay 36 = .ok (.iadd, 1) := by decide +kernel
theorem dX11_lay_37 : decode cX11_lay 37 = .ok (.putfield 94, 3) := by decide +kernel
theorem dX11_lay_40 : decode cX11_lay 40 = .ok (.iinc 2 (-8), 3) := by decide +kernel
theorem dX11_lay_43 : decode cX11_lay 43 = .ok (.goto (-40), 3) := by decide +kernel
theorem dX11_lay_46 : decode cX11_lay 46 = .ok (.return_, 1) := by decide +kernel
theorem dX11_lose_0 : decode cX11_lose 0 = .ok (.aload_n 0, 1) := by decide +kernel
theorem dX11_lose_1 : decode cX11_lose 1 = .ok (.iload_n 1, 1) := by decide +kernel
theorem dX11_lose_2 : decode cX11_lose 2 = .ok (.invokevirtual 226, 3) := by decide +kernel
theorem dX11_lose_5 : decode cX11_lose 5 = .ok (.ifCond .ne 5, 3) := by decide +kernel
theorem dX11_lose_8 : decode cX11_lose 8 = .ok (.iconst (-1), 1) := by decide +kernel
theorem dX11_lose_9 : decode cX11_lose 9 = .ok (.ireturn, 1) := by decide +kernel
theorem dX11_mayThrow_0 : decode cX11_mayThrow 0 = .ok (.aload_n 0, 1) := by decide +kernel
theorem dX11_mayThrow_1 : decode cX11_mayThrow 1 = .ok (.getfield 31, 3) := by decide +kernel
theorem dX11_mayThrow_4 : decode cX11_mayThrow 4 = .ok (.iload_n 1, 1) := by decide +kernel
theorem dX11_mayThrow_5 : decode cX11_mayThrow 5 = .ok (.invokevirtual 242, 3) := by decide +kernel
theorem dX11_mayThrow_8 : decode cX11_mayThrow 8 = .ok (.ifCond .eq 25, 3) := by decide +kernel
theorem dX11_mayThrow_33 : decode cX11_mayThrow 33 = .ok (.iconst 0, 1) := by decide +kernel
theorem dX11_mayThrow_34 : decode cX11_mayThrow 34 = .ok (.ireturn, 1) := by decide +kernel
theorem dX11_open_0 : decode cX11_open 0 = .ok (.iload_n 1, 1) := by decide +kernel
theorem dX11_open_1 : decode cX11_open 1 = .ok (.ifCond .lt 29, 3) := by decide +kernel
theorem dX11_open_4 : decode cX11_open 4 = .ok (.iload_n 1, 1) := by decide +kernel
theorem dX11_open_5 : decode cX11_open 5 = .ok (.bipush 60, 2) := by decide +kernel
theorem dX11_open_7 : decode cX11_open 7 = .ok (.if_icmp .gt 23, 3) := by decide +kernel
theorem dX11_open_10 : decode cX11_open 10 = .ok (.aload_n 0, 1) := by decide +kernel
theorem dX11_open_11 : decode cX11_open 11 = .ok (.getfield 31, 3) := by decide +kernel
theorem dX11_open_14 : decode cX11_open 14 = .ok (.iload_n 2, 1) := by decide +kernel
theorem dX11_open_15 : decode cX11_open 15 = .ok (.invokevirtual 132, 3) := by decide +kernel
theorem dX11_open_18 : decode cX11_open 18 = .ok (.ifCond .eq 12, 3) := by decide +kernel
theorem dX11_open_30 : decode cX11_open 30 = .ok (.ldc 215, 2) := by decide +kernel
theorem dX11_open_32 : decode cX11_open 32 = .ok (.ireturn, 1) := by decide +kernel
theorem dX11_order_0 : decode cX11_order 0 = .ok (.iload_n 1, 1) := by decide +kernel
theorem dX11_order_1 : decode cX11_order 1 = .ok (.iconst (-1), 1) := by decide +kernel
theorem dX11_order_2 : decode cX11_order 2 = .ok (.if_icmp .ne 13, 3) := by decide +kernel
theorem dX11_order_5 : decode cX11_order 5 = .ok (.aload_n 0, 1) := by decide +kernel
theorem dX11_order_6 : decode cX11_order 6 = .ok (.getfield 31, 3) := by decide +kernel
theorem dX11_order_9 : decode cX11_order 9 = .ok (.iconst 0, 1) := by decide +kernel
theorem dX11_order_10 : decode cX11_order 10 = .ok (.putfield 202, 3) := by decide +kernel
theorem dX11_order_13 : decode cX11_order 13 = .ok (.iconst 0, 1) := by decide +kernel
theorem dX11_order_14 : decode cX11_order 14 = .ok (.ireturn, 1) := by decide +kernel
theorem dX11_order_15 : decode cX11_order 15 = .ok (.aload_n 0, 1) := by decide +kernel
theorem dX11_order_16 : decode cX11_order 16 = .ok (.getfield 31, 3) := by decide +kernel
theorem dX11_order_19 : decode cX11_order 19 = .ok (.iload_n 1, 1) := by decide +kernel
theorem dX11_order_20 : decode cX11_order 20 = .ok (.invokevirtual 151, 3) := by decide +kernel
theorem dX11_order_23 : decode cX11_order 23 = .ok (.ifCond .ne 9, 3) := by decide +kernel
theorem dX11_order_26 : decode cX11_order 26 = .ok (.aload_n 0, 1) := by decide +kernel
theorem dX11_order_27 : decode cX11_order 27 = .ok (.iconst 0, 1) := by decide +kernel
theorem dX11_order_28 : decode cX11_order 28 = .ok (.invokevirtual 158, 3) := by decide +kernel
theorem dX11_order_31 : decode cX11_order 31 = .ok (.ireturn, 1) := by decide +kernel
theorem dX11_ordered_0 : decode cX11_ordered 0 = .ok (.aload_n 0, 1) := by decide +kernel
theorem dX11_ordered_1 : decode cX11_ordered 1 = .ok (.getfield 31, 3) := by decide +kernel
theorem dX11_ordered_4 : decode cX11_ordered 4 = .ok (.iload_n 1, 1) := by decide +kernel
theorem dX11_ordered_5 : decode cX11_ordered 5 = .ok (.invokevirtual 208, 3) := by decide +kernel
theorem dX11_ordered_8 : decode cX11_ordered 8 = .ok (.ifCond .eq 15, 3) := by decide +kernel
theorem dX11_ordered_23 : decode cX11_ordered 23 = .ok (.iconst (-1), 1) := by decide +kernel
theorem dX11_ordered_24 : decode cX11_ordered 24 = .ok (.ireturn, 1) := by decide +kernel
theorem dX11_plan_0 : decode cX11_plan 0 = .ok (.aload_n 0, 1) := by decide +kernel
theorem dX11_plan_1 : decode cX11_plan 1 = .ok (.iload_n 1, 1) := by decide +kernel
theorem dX11_plan_2 : decode cX11_plan 2 = .ok (.invokevirtual 226, 3) := by decide +kernel
theorem dX11_plan_5 : decode cX11_plan 5 = .ok (.ifCond .eq 29, 3) := by decide +kernel
theorem dX11_plan_34 : decode cX11_plan 34 = .ok (.iconst 0, 1) := by decide +kernel
theorem dX11_plan_35 : decode cX11_plan 35 = .ok (.istore 4, 2) := by decide +kernel
theorem dX11_plan_37 : decode cX11_plan 37 = .ok (.iload 4, 2) := by decide +kernel
theorem dX11_plan_39 : decode cX11_plan 39 = .ok (.ifCond .eq 11, 3) := by decide +kernel
theorem dX11_plan_50 : decode cX11_plan 50 = .ok (.iconst (-1), 1) := by decide +kernel
theorem dX11_plan_51 : decode cX11_plan 51 = .ok (.ireturn, 1) := by decide +kernel
theorem dX11_refuse_0 : decode cX11_refuse 0 = .ok (.iload_n 1, 1) := by decide +kernel
theorem dX11_refuse_1 : decode cX11_refuse 1 = .ok (.ifCond .lt 22, 3) := by decide +kernel
theorem dX11_refuse_4 : decode cX11_refuse 4 = .ok (.iload_n 1, 1) := by decide +kernel
theorem dX11_refuse_5 : decode cX11_refuse 5 = .ok (.aload_n 0, 1) := by decide +kernel
theorem dX11_refuse_6 : decode cX11_refuse 6 = .ok (.getfield 13, 3) := by decide +kernel
theorem dX11_refuse_9 : decode cX11_refuse 9 = .ok (.arraylength, 1) := by decide +kernel
theorem dX11_refuse_10 : decode cX11_refuse 10 = .ok (.if_icmp .ge 13, 3) := by decide +kernel
theorem dX11_refuse_13 : decode cX11_refuse 13 = .ok (.aload_n 0, 1) := by decide +kernel
theorem dX11_refuse_14 : decode cX11_refuse 14 = .ok (.getfield 13, 3) := by decide +kernel
theorem dX11_refuse_17 : decode cX11_refuse 17 = .ok (.iload_n 1, 1) := by decide +kernel
theorem dX11_refuse_18 : decode cX11_refuse 18 = .ok (.dup2, 1) := by decide +kernel
theorem dX11_refuse_19 : decode cX11_refuse 19 = .ok (.iaload, 1) := by decide +kernel
theorem dX11_refuse_20 : decode cX11_refuse 20 = .ok (.iconst 1, 1) := by decide +kernel
theorem dX11_refuse_21 : decode cX11_refuse 21 = .ok (.iadd, 1) := by decide +kernel
theorem dX11_refuse_22 : decode cX11_refuse 22 = .ok (.iastore, 1) := by decide +kernel
theorem dX11_refuse_23 : decode cX11_refuse 23 = .ok (.bipush (-2), 2) := by decide +kernel
theorem dX11_refuse_25 : decode cX11_refuse 25 = .ok (.ireturn, 1) := by decide +kernel
theorem dX11_rounds_0 : decode cX11_rounds 0 = .ok (.aload_n 0, 1) := by decide +kernel
theorem dX11_rounds_1 : decode cX11_rounds 1 = .ok (.getfield 31, 3) := by decide +kernel
theorem dX11_rounds_4 : decode cX11_rounds 4 = .ok (.getfield 202, 3) := by decide +kernel
theorem dX11_rounds_7 : decode cX11_rounds 7 = .ok (.iconst 1, 1) := by decide +kernel
theorem dX11_rounds_8 : decode cX11_rounds 8 = .ok (.if_icmp .lt 20, 3) := by decide +kernel
theorem dX11_rounds_28 : decode cX11_rounds 28 = .ok (.iconst (-1), 1) := by decide +kernel
theorem dX11_rounds_29 : decode cX11_rounds 29 = .ok (.ireturn, 1) := by decide +kernel
theorem dX11_rule_0 : decode cX11_rule 0 = .ok (.aload_n 0, 1) := by decide +kernel
theorem dX11_rule_1 : decode cX11_rule 1 = .ok (.getfield 119, 3) := by decide +kernel
theorem dX11_rule_4 : decode cX11_rule 4 = .ok (.bipush 6, 2) := by decide +kernel
theorem dX11_rule_6 : decode cX11_rule 6 = .ok (.if_icmp .lt 5, 3) := by decide +kernel
theorem dX11_rule_11 : decode cX11_rule 11 = .ok (.aload_n 0, 1) := by decide +kernel
theorem dX11_rule_12 : decode cX11_rule 12 = .ok (.getfield 53, 3) := by decide +kernel
theorem dX11_rule_15 : decode cX11_rule 15 = .ok (.aload_n 0, 1) := by decide +kernel
theorem dX11_rule_16 : decode cX11_rule 16 = .ok (.getfield 9, 3) := by decide +kernel
theorem dX11_rule_19 : decode cX11_rule 19 = .ok (.aload_n 0, 1) := by decide +kernel
theorem dX11_rule_20 : decode cX11_rule 20 = .ok (.getfield 94, 3) := by decide +kernel
theorem dX11_rule_23 : decode cX11_rule 23 = .ok (.invokevirtual 122, 3) := by decide +kernel
theorem dX11_rule_26 : decode cX11_rule 26 = .ok (.istore_n 1, 1) := by decide +kernel
theorem dX11_rule_27 : decode cX11_rule 27 = .ok (.aload_n 0, 1) := by decide +kernel
theorem dX11_rule_28 : decode cX11_rule 28 = .ok (.iconst 0, 1) := by decide +kernel
theorem dX11_rule_29 : decode cX11_rule 29 = .ok (.putfield 94, 3) := by decide +kernel
theorem dX11_rule_32 : decode cX11_rule 32 = .ok (.iload_n 1, 1) := by decide +kernel
theorem dX11_rule_33 : decode cX11_rule 33 = .ok (.ifCond .eq 8, 3) := by decide +kernel
theorem dX11_rule_36 : decode cX11_rule 36 = .ok (.bipush (-2), 2) := by decide +kernel
theorem dX11_rule_38 : decode cX11_rule 38 = .ok (.iload_n 1, 1) := by decide +kernel
theorem dX11_rule_39 : decode cX11_rule 39 = .ok (.isub, 1) := by decide +kernel
theorem dX11_rule_40 : decode cX11_rule 40 = .ok (.ireturn, 1) := by decide +kernel
theorem dX11_says_0 : decode cX11_says 0 = .ok (.aload_n 0, 1) := by decide +kernel
theorem dX11_says_1 : decode cX11_says 1 = .ok (.getfield 31, 3) := by decide +kernel
theorem dX11_says_4 : decode cX11_says 4 = .ok (.iload_n 1, 1) := by decide +kernel
theorem dX11_says_5 : decode cX11_says 5 = .ok (.invokevirtual 132, 3) := by decide +kernel
theorem dX11_says_8 : decode cX11_says 8 = .ok (.ifCond .eq 25, 3) := by decide +kernel
theorem dX11_says_33 : decode cX11_says 33 = .ok (.iconst (-1), 1) := by decide +kernel
theorem dX11_says_34 : decode cX11_says 34 = .ok (.ireturn, 1) := by decide +kernel
theorem dX11_seed_0 : decode cX11_seed 0 = .ok (.iload_n 1, 1) := by decide +kernel
theorem dX11_seed_1 : decode cX11_seed 1 = .ok (.ifCond .ge 9, 3) := by decide +kernel
theorem dX11_seed_4 : decode cX11_seed 4 = .ok (.aload_n 0, 1) := by decide +kernel
theorem dX11_seed_5 : decode cX11_seed 5 = .ok (.iconst 0, 1) := by decide +kernel
theorem dX11_seed_6 : decode cX11_seed 6 = .ok (.invokevirtual 158, 3) := by decide +kernel
theorem dX11_seed_9 : decode cX11_seed 9 = .ok (.ireturn, 1) := by decide +kernel
theorem dX11_seed_10 : decode cX11_seed 10 = .ok (.aload_n 0, 1) := by decide +kernel
theorem dX11_seed_11 : decode cX11_seed 11 = .ok (.getfield 31, 3) := by decide +kernel
theorem dX11_seed_14 : decode cX11_seed 14 = .ok (.getfield 106, 3) := by decide +kernel
theorem dX11_seed_17 : decode cX11_seed 17 = .ok (.istore_n 2, 1) := by decide +kernel
theorem dX11_seed_18 : decode cX11_seed 18 = .ok (.aload_n 0, 1) := by decide +kernel
theorem dX11_seed_19 : decode cX11_seed 19 = .ok (.getfield 31, 3) := by decide +kernel
theorem dX11_seed_22 : decode cX11_seed 22 = .ok (.iload_n 1, 1) := by decide +kernel
theorem dX11_seed_23 : decode cX11_seed 23 = .ok (.putfield 106, 3) := by decide +kernel
theorem dX11_seed_26 : decode cX11_seed 26 = .ok (.iload_n 2, 1) := by decide +kernel
theorem dX11_seed_27 : decode cX11_seed 27 = .ok (.ireturn, 1) := by decide +kernel
theorem dX11_sides_0 : decode cX11_sides 0 = .ok (.aload_n 0, 1) := by decide +kernel
theorem dX11_sides_1 : decode cX11_sides 1 = .ok (.getfield 31, 3) := by decide +kernel
theorem dX11_sides_4 : decode cX11_sides 4 = .ok (.iload_n 1, 1) := by decide +kernel
theorem dX11_sides_5 : decode cX11_sides 5 = .ok (.invokevirtual 242, 3) := by decide +kernel
theorem dX11_sides_8 : decode cX11_sides 8 = .ok (.ifCond .eq 24, 3) := by decide +kernel
theorem dX11_sides_32 : decode cX11_sides 32 = .ok (.iconst 0, 1) := by decide +kernel
theorem dX11_sides_33 : decode cX11_sides 33 = .ok (.istore 4, 2) := by decide +kernel
theorem dX11_sides_35 : decode cX11_sides 35 = .ok (.iload 4, 2) := by decide +kernel
theorem dX11_sides_37 : decode cX11_sides 37 = .ok (.ifCond .eq 22, 3) := by decide +kernel
theorem dX11_sides_59 : decode cX11_sides 59 = .ok (.ldc 215, 2) := by decide +kernel
theorem dX11_sides_61 : decode cX11_sides 61 = .ok (.ireturn, 1) := by decide +kernel
theorem dX11_spoilers_0 : decode cX11_spoilers 0 = .ok (.aload_n 0, 1) := by decide +kernel
theorem dX11_spoilers_1 : decode cX11_spoilers 1 = .ok (.iload_n 1, 1) := by decide +kernel
theorem dX11_spoilers_2 : decode cX11_spoilers 2 = .ok (.invokevirtual 226, 3) := by decide +kernel
theorem dX11_spoilers_5 : decode cX11_spoilers 5 = .ok (.ifCond .ne 5, 3) := by decide +kernel
theorem dX11_spoilers_8 : decode cX11_spoilers 8 = .ok (.iconst (-1), 1) := by decide +kernel
theorem dX11_spoilers_9 : decode cX11_spoilers 9 = .ok (.ireturn, 1) := by decide +kernel
theorem dX11_status_0 : decode cX11_status 0 = .ok (.iload_n 1, 1) := by decide +kernel
theorem dX11_status_1 : decode cX11_status 1 = .ok (.ifCond .lt 21, 3) := by decide +kernel
theorem dX11_status_4 : decode cX11_status 4 = .ok (.iload_n 1, 1) := by decide +kernel
theorem dX11_status_5 : decode cX11_status 5 = .ok (.aload_n 0, 1) := by decide +kernel
theorem dX11_status_6 : decode cX11_status 6 = .ok (.getfield 13, 3) := by decide +kernel
theorem dX11_status_9 : decode cX11_status 9 = .ok (.arraylength, 1) := by decide +kernel
theorem dX11_status_10 : decode cX11_status 10 = .ok (.if_icmp .ge 12, 3) := by decide +kernel
theorem dX11_status_13 : decode cX11_status 13 = .ok (.aload_n 0, 1) := by decide +kernel
theorem dX11_status_14 : decode cX11_status 14 = .ok (.getfield 13, 3) := by decide +kernel
theorem dX11_status_17 : decode cX11_status 17 = .ok (.iload_n 1, 1) := by decide +kernel
theorem dX11_status_18 : decode cX11_status 18 = .ok (.iaload, 1) := by decide +kernel
theorem dX11_status_19 : decode cX11_status 19 = .ok (.goto 4, 3) := by decide +kernel
theorem dX11_status_22 : decode cX11_status 22 = .ok (.iconst (-1), 1) := by decide +kernel
theorem dX11_status_23 : decode cX11_status 23 = .ok (.ireturn, 1) := by decide +kernel
theorem dX11_tells_0 : decode cX11_tells 0 = .ok (.aload_n 0, 1) := by decide +kernel
theorem dX11_tells_1 : decode cX11_tells 1 = .ok (.iload_n 1, 1) := by decide +kernel
theorem dX11_tells_2 : decode cX11_tells 2 = .ok (.invokevirtual 287, 3) := by decide +kernel
theorem dX11_tells_5 : decode cX11_tells 5 = .ok (.ifCond .eq 12, 3) := by decide +kernel
theorem dX11_tells_17 : decode cX11_tells 17 = .ok (.iconst (-1), 1) := by decide +kernel
theorem dX11_tells_18 : decode cX11_tells 18 = .ok (.ireturn, 1) := by decide +kernel
theorem dX11_voice_0 : decode cX11_voice 0 = .ok (.aload_n 0, 1) := by decide +kernel
theorem dX11_voice_1 : decode cX11_voice 1 = .ok (.getfield 31, 3) := by decide +kernel
theorem dX11_voice_4 : decode cX11_voice 4 = .ok (.iload_n 1, 1) := by decide +kernel
theorem dX11_voice_5 : decode cX11_voice 5 = .ok (.invokevirtual 132, 3) := by decide +kernel
theorem dX11_voice_8 : decode cX11_voice 8 = .ok (.ifCond .ne 5, 3) := by decide +kernel
theorem dX11_voice_11 : decode cX11_voice 11 = .ok (.iconst (-1), 1) := by decide +kernel
theorem dX11_voice_12 : decode cX11_voice 12 = .ok (.ireturn, 1) := by decide +kernel
theorem dX11_vote_0 : decode cX11_vote 0 = .ok (.aload_n 0, 1) := by decide +kernel
theorem dX11_vote_1 : decode cX11_vote 1 = .ok (.getfield 31, 3) := by decide +kernel
theorem dX11_vote_4 : decode cX11_vote 4 = .ok (.iload_n 1, 1) := by decide +kernel
theorem dX11_vote_5 : decode cX11_vote 5 = .ok (.invokevirtual 151, 3) := by decide +kernel
theorem dX11_vote_8 : decode cX11_vote 8 = .ok (.ifCond .ne 9, 3) := by decide +kernel
theorem dX11_vote_11 : decode cX11_vote 11 = .ok (.aload_n 0, 1) := by decide +kernel
theorem dX11_vote_12 : decode cX11_vote 12 = .ok (.iconst 0, 1) := by decide +kernel
theorem dX11_vote_13 : decode cX11_vote 13 = .ok (.invokevirtual 158, 3) := by decide +kernel
theorem dX11_vote_16 : decode cX11_vote 16 = .ok (.ireturn, 1) := by decide +kernel
theorem dX11_worth_0 : decode cX11_worth 0 = .ok (.aload_n 0, 1) := by decide +kernel
theorem dX11_worth_1 : decode cX11_worth 1 = .ok (.getfield 31, 3) := by decide +kernel
theorem dX11_worth_4 : decode cX11_worth 4 = .ok (.iload_n 1, 1) := by decide +kernel
theorem dX11_worth_5 : decode cX11_worth 5 = .ok (.invokevirtual 132, 3) := by decide +kernel
theorem dX11_worth_8 : decode cX11_worth 8 = .ok (.ifCond .eq 26, 3) := by decide +kernel
theorem dX11_worth_34 : decode cX11_worth 34 = .ok (.sipush (-1000), 3) := by decide +kernel
theorem dX11_worth_37 : decode cX11_worth 37 = .ok (.ireturn, 1) := by decide +kernel
theorem dX11_year_0 : decode cX11_year 0 = .ok (.aload_n 0, 1) := by decide +kernel
theorem dX11_year_1 : decode cX11_year 1 = .ok (.getfield 31, 3) := by decide +kernel
theorem dX11_year_4 : decode cX11_year 4 = .ok (.iload_n 2, 1) := by decide +kernel
theorem dX11_year_5 : decode cX11_year 5 = .ok (.invokevirtual 132, 3) := by decide +kernel
theorem dX11_year_8 : decode cX11_year 8 = .ok (.ifCond .eq 17, 3) := by decide +kernel
theorem dX11_year_25 : decode cX11_year 25 = .ok (.iconst 0, 1) := by decide +kernel
theorem dX11_year_26 : decode cX11_year 26 = .ok (.istore 4, 2) := by decide +kernel
theorem dX11_year_28 : decode cX11_year 28 = .ok (.iload 4, 2) := by decide +kernel
theorem dX11_year_30 : decode cX11_year 30 = .ok (.ifCond .eq 24, 3) := by decide +kernel
theorem dX11_year_54 : decode cX11_year 54 = .ok (.ldc 215, 2) := by decide +kernel
theorem dX11_year_56 : decode cX11_year 56 = .ok (.ireturn, 1) := by decide +kernel
theorem dX12_attends_0 : decode cX12_attends 0 = .ok (.aload_n 0, 1) := by decide +kernel
theorem dX12_attends_1 : decode cX12_attends 1 = .ok (.iload_n 1, 1) := by decide +kernel
theorem dX12_attends_2 : decode cX12_attends 2 = .ok (.invokevirtual 319, 3) := by decide +kernel
theorem dX12_attends_5 : decode cX12_attends 5 = .ok (.ifCond .eq 17, 3) := by decide +kernel
theorem dX12_attends_22 : decode cX12_attends 22 = .ok (.aload_n 0, 1) := by decide +kernel
theorem dX12_attends_23 : decode cX12_attends 23 = .ok (.iconst 0, 1) := by decide +kernel
theorem dX12_attends_24 : decode cX12_attends 24 = .ok (.invokevirtual 338, 3) := by decide +kernel
theorem dX12_attends_27 : decode cX12_attends 27 = .ok (.ireturn, 1) := by decide +kernel
theorem dX12_back_0 : decode cX12_back 0 = .ok (.iload_n 1, 1) := by decide +kernel
theorem dX12_back_1 : decode cX12_back 1 = .ok (.i2l, 1) := by decide +kernel
theorem dX12_back_2 : decode cX12_back 2 = .ok (.lconst 0, 1) := by decide +kernel
theorem dX12_back_3 : decode cX12_back 3 = .ok (.ldc2_w 426, 3) := by decide +kernel
theorem dX12_back_6 : decode cX12_back 6 = .ok (.invokestatic 155, 3) := by decide +kernel
theorem dX12_back_9 : decode cX12_back 9 = .ok (.ifCond .eq 12, 3) := by decide +kernel
theorem dX12_back_12 : decode cX12_back 12 = .ok (.aload_n 0, 1) := by decide +kernel
theorem dX12_back_13 : decode cX12_back 13 = .ok (.getfield 112, 3) := by decide +kernel
theorem dX12_back_16 : decode cX12_back 16 = .ok (.iload_n 1, 1) := by decide +kernel
theorem dX12_back_17 : decode cX12_back 17 = .ok (.baload, 1) := by decide +kernel
theorem dX12_back_18 : decode cX12_back 18 = .ok (.ifCond .ne 9, 3) := by decide +kernel
theorem dX12_back_21 : decode cX12_back 21 = .ok (.aload_n 0, 1) := by decide +kernel
theorem dX12_back_22 : decode cX12_back 22 = .ok (.iconst 0, 1) := by decide +kernel
theorem dX12_back_23 : decode cX12_back 23 = .ok (.invokevirtual 338, 3) := by decide +kernel
theorem dX12_back_26 : decode cX12_back 26 = .ok (.ireturn, 1) := by decide +kernel
theorem dX12_bench_0 : decode cX12_bench 0 = .ok (.aload_n 0, 1) := by decide +kernel
theorem dX12_bench_1 : decode cX12_bench 1 = .ok (.getfield 45, 3) := by decide +kernel
theorem dX12_bench_4 : decode cX12_bench 4 = .ok (.iconst 0, 1) := by decide +kernel
theorem dX12_bench_5 : decode cX12_bench 5 = .ok (.iaload, 1) := by decide +kernel
theorem dX12_bench_6 : decode cX12_bench 6 = .ok (.ifCond .eq 25, 3) := by decide +kernel
theorem dX12_bench_31 : decode cX12_bench 31 = .ok (.aload_n 0, 1) := by decide +kernel
theorem dX12_bench_32 : decode cX12_bench 32 = .ok (.iconst 0, 1) := by decide +kernel
theorem dX12_bench_33 : decode cX12_bench 33 = .ok (.invokevirtual 338, 3) := by decide +kernel
theorem dX12_bench_36 : decode cX12_bench 36 = .ok (.ireturn, 1) := by decide +kernel
theorem dX12_bend_0 : decode cX12_bend 0 = .ok (.aload_n 0, 1) := by decide +kernel
theorem dX12_bend_1 : decode cX12_bend 1 = .ok (.iload_n 1, 1) := by decide +kernel
theorem dX12_bend_2 : decode cX12_bend 2 = .ok (.invokevirtual 319, 3) := by decide +kernel
theorem dX12_bend_5 : decode cX12_bend 5 = .ok (.ifCond .eq 17, 3) := by decide +kernel
theorem dX12_bend_22 : decode cX12_bend 22 = .ok (.aload_n 0, 1) := by decide +kernel
theorem dX12_bend_23 : decode cX12_bend 23 = .ok (.iconst 0, 1) := by decide +kernel
theorem dX12_bend_24 : decode cX12_bend 24 = .ok (.invokevirtual 338, 3) := by decide +kernel
theorem dX12_bend_27 : decode cX12_bend 27 = .ok (.ireturn, 1) := by decide +kernel
theorem dX12_beside_0 : decode cX12_beside 0 = .ok (.aload_n 0, 1) := by decide +kernel
theorem dX12_beside_1 : decode cX12_beside 1 = .ok (.getfield 45, 3) := by decide +kernel
theorem dX12_beside_4 : decode cX12_beside 4 = .ok (.iconst 0, 1) := by decide +kernel
theorem dX12_beside_5 : decode cX12_beside 5 = .ok (.iaload, 1) := by decide +kernel
theorem dX12_beside_6 : decode cX12_beside 6 = .ok (.ifCond .eq 27, 3) := by decide +kernel
theorem dX12_beside_33 : decode cX12_beside 33 = .ok (.aload_n 0, 1) := by decide +kernel
theorem dX12_beside_34 : decode cX12_beside 34 = .ok (.iconst 0, 1) := by decide +kernel
theorem dX12_beside_35 : decode cX12_beside 35 = .ok (.invokevirtual 338, 3) := by decide +kernel
theorem dX12_beside_38 : decode cX12_beside 38 = .ok (.ireturn, 1) := by decide +kernel
theorem dX12_bits_0 : decode cX12_bits 0 = .ok (.iconst 0, 1) := by decide +kernel
theorem dX12_bits_1 : decode cX12_bits 1 = .ok (.istore_n 1, 1) := by decide +kernel
theorem dX12_bits_2 : decode cX12_bits 2 = .ok (.iload_n 0, 1) := by decide +kernel
theorem dX12_bits_3 : decode cX12_bits 3 = .ok (.istore_n 2, 1) := by decide +kernel
theorem dX12_bits_4 : decode cX12_bits 4 = .ok (.iload_n 2, 1) := by decide +kernel
theorem dX12_bits_5 : decode cX12_bits 5 = .ok (.ifCond .eq 15, 3) := by decide +kernel
theorem dX12_bits_20 : decode cX12_bits 20 = .ok (.iload_n 1, 1) := by decide +kernel
theorem dX12_bits_21 : decode cX12_bits 21 = .ok (.ireturn, 1) := by decide +kernel
theorem dX12_canFit_0 : decode cX12_canFit 0 = .ok (.aload_n 0, 1) := by decide +kernel
theorem dX12_canFit_1 : decode cX12_canFit 1 = .ok (.getfield 45, 3) := by decide +kernel
theorem dX12_canFit_4 : decode cX12_canFit 4 = .ok (.iconst 0, 1) := by decide +kernel
theorem dX12_canFit_5 : decode cX12_canFit 5 = .ok (.iaload, 1) := by decide +kernel
theorem dX12_canFit_6 : decode cX12_canFit 6 = .ok (.i2l, 1) := by decide +kernel
theorem dX12_canFit_7 : decode cX12_canFit 7 = .ok (.lconst 1, 1) := by decide +kernel
theorem dX12_canFit_8 : decode cX12_canFit 8 = .ok (.ldc2_w 336, 3) := by decide +kernel
theorem dX12_canFit_11 : decode cX12_canFit 11 = .ok (.invokestatic 155, 3) := by decide +kernel
theorem dX12_canFit_14 : decode cX12_canFit 14 = .ok (.ifCond .eq 19, 3) := by decide +kernel
theorem dX12_canFit_33 : decode cX12_canFit 33 = .ok (.iconst 0, 1) := by decide +kernel
theorem dX12_canFit_34 : decode cX12_canFit 34 = .ok (.ireturn, 1) := by decide +kernel
theorem dX12_canLose_0 : decode cX12_canLose 0 = .ok (.aload_n 0, 1) := by decide +kernel
theorem dX12_canLose_1 : decode cX12_canLose 1 = .ok (.iload_n 1, 1) := by decide +kernel
theorem dX12_canLose_2 : decode cX12_canLose 2 = .ok (.invokevirtual 404, 3) := by decide +kernel
theorem dX12_canLose_5 : decode cX12_canLose 5 = .ok (.ifCond .eq 52, 3) := by decide +kernel
theorem dX12_canLose_8 : decode cX12_canLose 8 = .ok (.iload_n 1, 1) := by decide +kernel
theorem dX12_canLose_9 : decode cX12_canLose 9 = .ok (.invokestatic 341, 3) := by decide +kernel
theorem dX12_canLose_12 : decode cX12_canLose 12 = .ok (.i2l, 1) := by decide +kernel
theorem dX12_canLose_13 : decode cX12_canLose 13 = .ok (.lconst 1, 1) := by decide +kernel
theorem dX12_canLose_14 : decode cX12_canLose 14 = .ok (.ldc2_w 426, 3) := by decide +kernel
theorem dX12_canLose_17 : decode cX12_canLose 17 = .ok (.invokestatic 155, 3) := by decide +kernel
theorem dX12_canLose_20 : decode cX12_canLose 20 = .ok (.ifCond .eq 37, 3) := by decide +kernel
theorem dX12_canLose_57 : decode cX12_canLose 57 = .ok (.iconst 0, 1) := by decide +kernel
theorem dX12_canLose_58 : decode cX12_canLose 58 = .ok (.ireturn, 1) := by decide +kernel
theorem dX12_chair_0 : decode cX12_chair 0 = .ok (.aload_n 0, 1) := by decide +kernel
theorem dX12_chair_1 : decode cX12_chair 1 = .ok (.getfield 45, 3) := by decide +kernel
theorem dX12_chair_4 : decode cX12_chair 4 = .ok (.iconst 4, 1) := by decide +kernel
theorem dX12_chair_5 : decode cX12_chair 5 = .ok (.iaload, 1) := by decide +kernel
theorem dX12_chair_6 : decode cX12_chair 6 = .ok (.istore 4, 2) := by decide +kernel
theorem dX12_chair_8 : decode cX12_chair 8 = .ok (.aload_n 0, 1) := by decide +kernel
theorem dX12_chair_9 : decode cX12_chair 9 = .ok (.iload_n 1, 1) := by decide +kernel
theorem dX12_chair_10 : decode cX12_chair 10 = .ok (.invokevirtual 319, 3) := by decide +kernel
theorem dX12_chair_13 : decode cX12_chair 13 = .ok (.ifCond .eq 28, 3) := by decide +kernel
theorem dX12_chair_41 : decode cX12_chair 41 = .ok (.ldc_w 422, 3) := by decide +kernel
theorem dX12_chair_44 : decode cX12_chair 44 = .ok (.ireturn, 1) := by decide +kernel
theorem dX12_clauseHere_0 : decode cX12_clauseHere 0 = .ok (.aload_n 0, 1) := by decide +kernel
theorem dX12_clauseHere_1 : decode cX12_clauseHere 1 = .ok (.invokevirtual 130, 3) := by decide +kernel
theorem dX12_clauseHere_4 : decode cX12_clauseHere 4 = .ok (.pop, 1) := by decide +kernel
theorem dX12_clauseHere_5 : decode cX12_clauseHere 5 = .ok (.aload_n 0, 1) := by decide +kernel
theorem dX12_clauseHere_6 : decode cX12_clauseHere 6 = .ok (.getfield 127, 3) := by decide +kernel
theorem dX12_clauseHere_9 : decode cX12_clauseHere 9 = .ok (.istore_n 1, 1) := by decide +kernel
theorem dX12_clauseHere_10 : decode cX12_clauseHere 10 = .ok (.aload_n 0, 1) := by decide +kernel
theorem dX12_clauseHere_11 : decode cX12_clauseHere 11 = .ok (.getfield 179, 3) := by decide +kernel
theorem dX12_clauseHere_14 : decode cX12_clauseHere 14 = .ok (.bipush 6, 2) := by decide +kernel
theorem dX12_clauseHere_16 : decode cX12_clauseHere 16 = .ok (.if_icmp .ne 7, 3) := by decide +kernel
theorem dX12_clauseHere_19 : decode cX12_clauseHere 19 = .ok (.iconst 1, 1) := by decide +kernel
theorem dX12_clauseHere_20 : decode cX12_clauseHere 20 = .ok (.goto 4, 3) := by decide +kernel
theorem dX12_clauseHere_23 : decode cX12_clauseHere 23 = .ok (.iconst 0, 1) := by decide +kernel
theorem dX12_clauseHere_24 : decode cX12_clauseHere 24 = .ok (.istore_n 2, 1) := by decide +kernel
theorem dX12_clauseHere_25 : decode cX12_clauseHere 25 = .ok (.iload_n 2, 1) := by decide +kernel
theorem dX12_clauseHere_26 : decode cX12_clauseHere 26 = .ok (.ifCond .eq 51, 3) := by decide +kernel
theorem dX12_clauseHere_29 : decode cX12_clauseHere 29 = .ok (.aload_n 0, 1) := by decide +kernel
theorem dX12_clauseHere_30 : decode cX12_clauseHere 30 = .ok (.ldc2_w 264, 3) := by decide +kernel
theorem dX12_clauseHere_33 : decode cX12_clauseHere 33 = .ok (.invokevirtual 138, 3) := by decide +kernel
theorem dX12_clauseHere_36 : decode cX12_clauseHere 36 = .ok (.ifCond .ne 33, 3) := by decide +kernel
theorem dX12_clauseHere_39 : decode cX12_clauseHere 39 = .ok (.aload_n 0, 1) := by decide +kernel
theorem dX12_clauseHere_40 : decode cX12_clauseHere 40 = .ok (.ldc2_w 161, 3) := by decide +kernel
theorem dX12_clauseHere_43 : decode cX12_clauseHere 43 = .ok (.invokevirtual 138, 3) := by decide +kernel
theorem dX12_clauseHere_46 : decode cX12_clauseHere 46 = .ok (.ifCond .ne 23, 3) := by decide +kernel
theorem dX12_clauseHere_49 : decode cX12_clauseHere 49 = .ok (.aload_n 0, 1) := by decide +kernel
theorem dX12_clauseHere_50 : decode cX12_clauseHere 50 = .ok (.ldc2_w 165, 3) := by decide +kernel
theorem dX12_clauseHere_53 : decode cX12_clauseHere 53 = .ok (.invokevirtual 138, 3) := by decide +kernel
theorem dX12_clauseHere_56 : decode cX12_clauseHere 56 = .ok (.ifCond .ne 13, 3) := by decide +kernel
theorem dX12_clauseHere_59 : decode cX12_clauseHere 59 = .ok (.aload_n 0, 1) := by decide +kernel
theorem dX12_clauseHere_60 : decode cX12_clauseHere 60 = .ok (.ldc2_w 278, 3) := by decide +kernel
theorem dX12_clauseHere_63 : decode cX12_clauseHere 63 = .ok (.invokevirtual 138, 3) := by decide +kernel
theorem dX12_clauseHere_66 : decode cX12_clauseHere 66 = .ok (.ifCond .eq 7, 3) := by decide +kernel
theorem dX12_clauseHere_73 : decode cX12_clauseHere 73 = .ok (.iconst 0, 1) := by decide +kernel
theorem dX12_clauseHere_74 : decode cX12_clauseHere 74 = .ok (.goto 38, 3) := by decide +kernel
theorem dX12_clauseHere_77 : decode cX12_clauseHere 77 = .ok (.aload_n 0, 1) := by decide +kernel
theorem dX12_clauseHere_78 : decode cX12_clauseHere 78 = .ok (.ldc2_w 280, 3) := by decide +kernel
theorem dX12_clauseHere_81 : decode cX12_clauseHere 81 = .ok (.invokevirtual 138, 3) := by decide +kernel
theorem dX12_clauseHere_84 : decode cX12_clauseHere 84 = .ok (.ifCond .ne 23, 3) := by decide +kernel
theorem dX12_clauseHere_87 : decode cX12_clauseHere 87 = .ok (.aload_n 0, 1) := by decide +kernel
theorem dX12_clauseHere_88 : decode cX12_clauseHere 88 = .ok (.ldc2_w 282, 3) := by decide +kernel
theorem dX12_clauseHere_91 : decode cX12_clauseHere 91 = .ok (.invokevirtual 138, 3) := by decide +kernel
theorem dX12_clauseHere_94 : decode cX12_clauseHere 94 = .ok (.ifCond .ne 13, 3) := by decide +kernel
theorem dX12_clauseHere_97 : decode cX12_clauseHere 97 = .ok (.aload_n 0, 1) := by decide +kernel
theorem dX12_clauseHere_98 : decode cX12_clauseHere 98 = .ok (.ldc2_w 284, 3) := by decide +kernel
theorem dX12_clauseHere_101 : decode cX12_clauseHere 101 = .ok (.invokevirtual 138, 3) := by decide +kernel
theorem dX12_clauseHere_104 : decode cX12_clauseHere 104 = .ok (.ifCond .eq 7, 3) := by decide +kernel
theorem dX12_clauseHere_111 : decode cX12_clauseHere 111 = .ok (.iconst 0, 1) := by decide +kernel
theorem dX12_clauseHere_112 : decode cX12_clauseHere 112 = .ok (.istore_n 3, 1) := by decide +kernel
theorem dX12_clauseHere_113 : decode cX12_clauseHere 113 = .ok (.iload_n 3, 1) := by decide +kernel
theorem dX12_clauseHere_114 : decode cX12_clauseHere 114 = .ok (.ifCond .ne 10, 3) := by decide +kernel
theorem dX12_clauseHere_117 : decode cX12_clauseHere 117 = .ok (.aload_n 0, 1) := by decide +kernel
theorem dX12_clauseHere_118 : decode cX12_clauseHere 118 = .ok (.iconst 0, 1) := by decide +kernel
theorem dX12_clauseHere_119 : decode cX12_clauseHere 119 = .ok (.iload_n 1, 1) := by decide +kernel
theorem dX12_clauseHere_120 : decode cX12_clauseHere 120 = .ok (.invokevirtual 148, 3) := by decide +kernel
theorem dX12_clauseHere_123 : decode cX12_clauseHere 123 = .ok (.ireturn, 1) := by decide +kernel
theorem dX12_council_0 : decode cX12_council 0 = .ok (.aload_n 0, 1) := by decide +kernel
theorem dX12_council_1 : decode cX12_council 1 = .ok (.bipush 6, 2) := by decide +kernel
theorem dX12_council_3 : decode cX12_council 3 = .ok (.putfield 179, 3) := by decide +kernel
theorem dX12_council_6 : decode cX12_council 6 = .ok (.aload_n 0, 1) := by decide +kernel
theorem dX12_council_7 : decode cX12_council 7 = .ok (.iconst 0, 1) := by decide +kernel
theorem dX12_council_8 : decode cX12_council 8 = .ok (.putfield 251, 3) := by decide +kernel
theorem dX12_council_11 : decode cX12_council 11 = .ok (.aload_n 0, 1) := by decide +kernel
theorem dX12_council_12 : decode cX12_council 12 = .ok (.iconst 0, 1) := by decide +kernel
theorem dX12_council_13 : decode cX12_council 13 = .ok (.putfield 254, 3) := by decide +kernel
theorem dX12_council_16 : decode cX12_council 16 = .ok (.aload_n 0, 1) := by decide +kernel
theorem dX12_council_17 : decode cX12_council 17 = .ok (.iconst 0, 1) := by decide +kernel
theorem dX12_council_18 : decode cX12_council 18 = .ok (.putfield 260, 3) := by decide +kernel
theorem dX12_council_21 : decode cX12_council 21 = .ok (.iconst 0, 1) := by decide +kernel
theorem dX12_council_22 : decode cX12_council 22 = .ok (.istore_n 1, 1) := by decide +kernel
theorem dX12_council_23 : decode cX12_council 23 = .ok (.iload_n 1, 1) := by decide +kernel
theorem dX12_council_24 : decode cX12_council 24 = .ok (.bipush 10, 2) := by decide +kernel
theorem dX12_council_26 : decode cX12_council 26 = .ok (.if_icmp .ge 23, 3) := by decide +kernel
theorem dX12_council_29 : decode cX12_council 29 = .ok (.aload_n 0, 1) := by decide +kernel
theorem dX12_council_30 : decode cX12_council 30 = .ok (.getfield 29, 3) := by decide +kernel
theorem dX12_council_33 : decode cX12_council 33 = .ok (.iload_n 1, 1) := by decide +kernel
theorem dX12_council_34 : decode cX12_council 34 = .ok (.iconst 1, 1) := by decide +kernel
theorem dX12_council_35 : decode cX12_council 35 = .ok (.iastore, 1) := by decide +kernel
theorem dX12_council_36 : decode cX12_council 36 = .ok (.aload_n 0, 1) := by decide +kernel
theorem dX12_council_37 : decode cX12_council 37 = .ok (.getfield 32, 3) := by decide +kernel
theorem dX12_council_40 : decode cX12_council 40 = .ok (.iload_n 1, 1) := by decide +kernel
theorem dX12_council_41 : decode cX12_council 41 = .ok (.iconst (-1), 1) := by decide +kernel
theorem dX12_council_42 : decode cX12_council 42 = .ok (.iastore, 1) := by decide +kernel
theorem dX12_council_43 : decode cX12_council 43 = .ok (.iinc 1 1, 3) := by decide +kernel
theorem dX12_council_46 : decode cX12_council 46 = .ok (.goto (-23), 3) := by decide +kernel
theorem dX12_council_49 : decode cX12_council 49 = .ok (.aload_n 0, 1) := by decide +kernel
theorem dX12_council_50 : decode cX12_council 50 = .ok (.invokevirtual 301, 3) := by decide +kernel
theorem dX12_council_53 : decode cX12_council 53 = .ok (.ifCond .ne 11, 3) := by decide +kernel
theorem dX12_council_56 : decode cX12_council 56 = .ok (.bipush (-2), 2) := by decide +kernel
theorem dX12_council_58 : decode cX12_council 58 = .ok (.aload_n 0, 1) := by decide +kernel
theorem dX12_council_59 : decode cX12_council 59 = .ok (.getfield 124, 3) := by decide +kernel
theorem dX12_council_62 : decode cX12_council 62 = .ok (.isub, 1) := by decide +kernel
theorem dX12_council_63 : decode cX12_council 63 = .ok (.ireturn, 1) := by decide +kernel
theorem dX12_count_0 : decode cX12_count 0 = .ok (.iconst 0, 1) := by decide +kernel
theorem dX12_count_1 : decode cX12_count 1 = .ok (.istore_n 2, 1) := by decide +kernel
theorem dX12_count_2 : decode cX12_count 2 = .ok (.iload_n 1, 1) := by decide +kernel
theorem dX12_count_3 : decode cX12_count 3 = .ok (.tableswitch 175 0 11 #[61, 61, 68, 73, 83, 132, 139, 146, 153, 161, 166, 166], 61) := by decide +kernel
theorem dX12_count_64 : decode cX12_count 64 = .ok (.aload_n 0, 1) := by decide +kernel
theorem dX12_count_65 : decode cX12_count 65 = .ok (.getfield 45, 3) := by decide +kernel
theorem dX12_count_68 : decode cX12_count 68 = .ok (.iload_n 1, 1) := by decide +kernel
theorem dX12_count_69 : decode cX12_count 69 = .ok (.iaload, 1) := by decide +kernel
theorem dX12_count_70 : decode cX12_count 70 = .ok (.ireturn, 1) := by decide +kernel
theorem dX12_count_71 : decode cX12_count 71 = .ok (.aload_n 0, 1) := by decide +kernel
theorem dX12_count_72 : decode cX12_count 72 = .ok (.getfield 298, 3) := by decide +kernel
theorem dX12_count_75 : decode cX12_count 75 = .ok (.ireturn, 1) := by decide +kernel
theorem dX12_count_76 : decode cX12_count 76 = .ok (.aload_n 0, 1) := by decide +kernel
theorem dX12_count_77 : decode cX12_count 77 = .ok (.getfield 45, 3) := by decide +kernel
theorem dX12_count_80 : decode cX12_count 80 = .ok (.iconst 2, 1) := by decide +kernel
theorem dX12_count_81 : decode cX12_count 81 = .ok (.iaload, 1) := by decide +kernel
theorem dX12_count_82 : decode cX12_count 82 = .ok (.invokestatic 341, 3) := by decide +kernel
theorem dX12_count_85 : decode cX12_count 85 = .ok (.ireturn, 1) := by decide +kernel
theorem dX12_count_86 : decode cX12_count 86 = .ok (.iconst 0, 1) := by decide +kernel
theorem dX12_count_87 : decode cX12_count 87 = .ok (.istore_n 3, 1) := by decide +kernel
theorem dX12_count_88 : decode cX12_count 88 = .ok (.iload_n 3, 1) := by decide +kernel
theorem dX12_count_89 : decode cX12_count 89 = .ok (.aload_n 0, 1) := by decide +kernel
theorem dX12_count_90 : decode cX12_count 90 = .ok (.getfield 45, 3) := by decide +kernel
theorem dX12_count_93 : decode cX12_count 93 = .ok (.iconst 0, 1) := by decide +kernel
theorem dX12_count_94 : decode cX12_count 94 = .ok (.iaload, 1) := by decide +kernel
theorem dX12_count_95 : decode cX12_count 95 = .ok (.if_icmp .ge 38, 3) := by decide +kernel
theorem dX12_count_133 : decode cX12_count 133 = .ok (.iload_n 2, 1) := by decide +kernel
theorem dX12_count_134 : decode cX12_count 134 = .ok (.ireturn, 1) := by decide +kernel
theorem dX12_count_135 : decode cX12_count 135 = .ok (.aload_n 0, 1) := by decide +kernel
theorem dX12_count_136 : decode cX12_count 136 = .ok (.getfield 45, 3) := by decide +kernel
theorem dX12_count_139 : decode cX12_count 139 = .ok (.iconst 3, 1) := by decide +kernel
theorem dX12_count_140 : decode cX12_count 140 = .ok (.iaload, 1) := by decide +kernel
theorem dX12_count_141 : decode cX12_count 141 = .ok (.ireturn, 1) := by decide +kernel
theorem dX12_count_142 : decode cX12_count 142 = .ok (.aload_n 0, 1) := by decide +kernel
theorem dX12_count_143 : decode cX12_count 143 = .ok (.getfield 45, 3) := by decide +kernel
theorem dX12_count_146 : decode cX12_count 146 = .ok (.iconst 4, 1) := by decide +kernel
theorem dX12_count_147 : decode cX12_count 147 = .ok (.iaload, 1) := by decide +kernel
theorem dX12_count_148 : decode cX12_count 148 = .ok (.ireturn, 1) := by decide +kernel
theorem dX12_count_149 : decode cX12_count 149 = .ok (.aload_n 0, 1) := by decide +kernel
theorem dX12_count_150 : decode cX12_count 150 = .ok (.getfield 45, 3) := by decide +kernel
theorem dX12_count_153 : decode cX12_count 153 = .ok (.iconst 5, 1) := by decide +kernel
theorem dX12_count_154 : decode cX12_count 154 = .ok (.iaload, 1) := by decide +kernel
theorem dX12_count_155 : decode cX12_count 155 = .ok (.ireturn, 1) := by decide +kernel
theorem dX12_count_156 : decode cX12_count 156 = .ok (.aload_n 0, 1) := by decide +kernel
theorem dX12_count_157 : decode cX12_count 157 = .ok (.getfield 45, 3) := by decide +kernel
theorem dX12_count_160 : decode cX12_count 160 = .ok (.bipush 6, 2) := by decide +kernel
theorem dX12_count_162 : decode cX12_count 162 = .ok (.iaload, 1) := by decide +kernel
theorem dX12_count_163 : decode cX12_count 163 = .ok (.ireturn, 1) := by decide +kernel
theorem dX12_count_164 : decode cX12_count 164 = .ok (.aload_n 0, 1) := by decide +kernel
theorem dX12_count_165 : decode cX12_count 165 = .ok (.getfield 116, 3) := by decide +kernel
theorem dX12_count_168 : decode cX12_count 168 = .ok (.ireturn, 1) := by decide +kernel
theorem dX12_count_169 : decode cX12_count 169 = .ok (.aload_n 0, 1) := by decide +kernel
theorem dX12_count_170 : decode cX12_count 170 = .ok (.getfield 45, 3) := by decide +kernel
theorem dX12_count_173 : decode cX12_count 173 = .ok (.iload_n 1, 1) := by decide +kernel
theorem dX12_count_174 : decode cX12_count 174 = .ok (.iconst 3, 1) := by decide +kernel
theorem dX12_count_175 : decode cX12_count 175 = .ok (.isub, 1) := by decide +kernel
theorem dX12_count_176 : decode cX12_count 176 = .ok (.iaload, 1) := by decide +kernel
theorem dX12_count_177 : decode cX12_count 177 = .ok (.ireturn, 1) := by decide +kernel
theorem dX12_count_178 : decode cX12_count 178 = .ok (.iconst (-1), 1) := by decide +kernel
theorem dX12_count_179 : decode cX12_count 179 = .ok (.ireturn, 1) := by decide +kernel
theorem dX12_day_0 : decode cX12_day 0 = .ok (.aload_n 0, 1) := by decide +kernel
theorem dX12_day_1 : decode cX12_day 1 = .ok (.getfield 45, 3) := by decide +kernel
theorem dX12_day_4 : decode cX12_day 4 = .ok (.iconst 0, 1) := by decide +kernel
theorem dX12_day_5 : decode cX12_day 5 = .ok (.iaload, 1) := by decide +kernel
theorem dX12_day_6 : decode cX12_day 6 = .ok (.ifCond .ne 9, 3) := by decide +kernel
theorem dX12_day_9 : decode cX12_day 9 = .ok (.aload_n 0, 1) := by decide +kernel
theorem dX12_day_10 : decode cX12_day 10 = .ok (.iconst 0, 1) := by decide +kernel
theorem dX12_day_11 : decode cX12_day 11 = .ok (.invokevirtual 338, 3) := by decide +kernel
theorem dX12_day_14 : decode cX12_day 14 = .ok (.ireturn, 1) := by decide +kernel
theorem dX12_end_0 : decode cX12_end 0 = .ok (.iload_n 1, 1) := by decide +kernel
theorem dX12_end_1 : decode cX12_end 1 = .ok (.ifCond .lt 11, 3) := by decide +kernel
theorem dX12_end_4 : decode cX12_end 4 = .ok (.iload_n 1, 1) := by decide +kernel
theorem dX12_end_5 : decode cX12_end 5 = .ok (.aload_n 0, 1) := by decide +kernel
theorem dX12_end_6 : decode cX12_end 6 = .ok (.getfield 116, 3) := by decide +kernel
theorem dX12_end_9 : decode cX12_end 9 = .ok (.if_icmp .le 5, 3) := by decide +kernel
theorem dX12_end_12 : decode cX12_end 12 = .ok (.iconst (-1), 1) := by decide +kernel
theorem dX12_end_13 : decode cX12_end 13 = .ok (.ireturn, 1) := by decide +kernel
theorem dX12_end_14 : decode cX12_end 14 = .ok (.aload_n 0, 1) := by decide +kernel
theorem dX12_end_15 : decode cX12_end 15 = .ok (.iload_n 1, 1) := by decide +kernel
theorem dX12_end_16 : decode cX12_end 16 = .ok (.putfield 116, 3) := by decide +kernel
theorem dX12_end_19 : decode cX12_end 19 = .ok (.iload_n 1, 1) := by decide +kernel
theorem dX12_end_20 : decode cX12_end 20 = .ok (.ireturn, 1) := by decide +kernel
theorem dX12_entry_0 : decode cX12_entry 0 = .ok (.iload_n 1, 1) := by decide +kernel
theorem dX12_entry_1 : decode cX12_entry 1 = .ok (.iconst (-1), 1) := by decide +kernel
theorem dX12_entry_2 : decode cX12_entry 2 = .ok (.if_icmp .ne 12, 3) := by decide +kernel
theorem dX12_entry_5 : decode cX12_entry 5 = .ok (.aload_n 0, 1) := by decide +kernel
theorem dX12_entry_6 : decode cX12_entry 6 = .ok (.getfield 45, 3) := by decide +kernel
theorem dX12_entry_9 : decode cX12_entry 9 = .ok (.iconst 5, 1) := by decide +kernel
theorem dX12_entry_10 : decode cX12_entry 10 = .ok (.iconst 0, 1) := by decide +kernel
theorem dX12_entry_11 : decode cX12_entry 11 = .ok (.iastore, 1) := by decide +kernel
theorem dX12_entry_12 : decode cX12_entry 12 = .ok (.iconst 0, 1) := by decide +kernel
theorem dX12_entry_13 : decode cX12_entry 13 = .ok (.ireturn, 1) := by decide +kernel
theorem dX12_entry_14 : decode cX12_entry 14 = .ok (.aload_n 0, 1) := by decide +kernel
theorem dX12_entry_15 : decode cX12_entry 15 = .ok (.getfield 45, 3) := by decide +kernel
theorem dX12_entry_18 : decode cX12_entry 18 = .ok (.iconst 0, 1) := by decide +kernel
theorem dX12_entry_19 : decode cX12_entry 19 = .ok (.iaload, 1) := by decide +kernel
theorem dX12_entry_20 : decode cX12_entry 20 = .ok (.ifCond .eq 50, 3) := by decide +kernel
theorem dX12_entry_70 : decode cX12_entry 70 = .ok (.aload_n 0, 1) := by decide +kernel
theorem dX12_entry_71 : decode cX12_entry 71 = .ok (.iconst 0, 1) := by decide +kernel
theorem dX12_entry_72 : decode cX12_entry 72 = .ok (.invokevirtual 338, 3) := by decide +kernel
theorem dX12_entry_75 : decode cX12_entry 75 = .ok (.ireturn, 1) := by decide +kernel
theorem dX12_fails_0 : decode cX12_fails 0 = .ok (.aload_n 0, 1) := by decide +kernel
theorem dX12_fails_1 : decode cX12_fails 1 = .ok (.getfield 124, 3) := by decide +kernel
theorem dX12_fails_4 : decode cX12_fails 4 = .ok (.ifCond .ne 15, 3) := by decide +kernel
theorem dX12_fails_7 : decode cX12_fails 7 = .ok (.aload_n 0, 1) := by decide +kernel
theorem dX12_fails_8 : decode cX12_fails 8 = .ok (.iconst 1, 1) := by decide +kernel
theorem dX12_fails_9 : decode cX12_fails 9 = .ok (.bipush 8, 2) := by decide +kernel
theorem dX12_fails_11 : decode cX12_fails 11 = .ok (.iload_n 2, 1) := by decide +kernel
theorem dX12_fails_12 : decode cX12_fails 12 = .ok (.imul, 1) := by decide +kernel
theorem dX12_fails_13 : decode cX12_fails 13 = .ok (.iadd, 1) := by decide +kernel
theorem dX12_fails_14 : decode cX12_fails 14 = .ok (.iload_n 1, 1) := by decide +kernel
theorem dX12_fails_15 : decode cX12_fails 15 = .ok (.iadd, 1) := by decide +kernel
theorem dX12_fails_16 : decode cX12_fails 16 = .ok (.putfield 124, 3) := by decide +kernel
theorem dX12_fails_19 : decode cX12_fails 19 = .ok (.iconst 0, 1) := by decide +kernel
theorem dX12_fails_20 : decode cX12_fails 20 = .ok (.ireturn, 1) := by decide +kernel
theorem dX12_feed_0 : decode cX12_feed 0 = .ok (.aload_n 0, 1) := by decide +kernel
theorem dX12_feed_1 : decode cX12_feed 1 = .ok (.getfield 116, 3) := by decide +kernel
theorem dX12_feed_4 : decode cX12_feed 4 = .ok (.bipush 20, 2) := by decide +kernel
theorem dX12_feed_6 : decode cX12_feed 6 = .ok (.iadd, 1) := by decide +kernel
theorem dX12_feed_7 : decode cX12_feed 7 = .ok (.sipush 400, 3) := by decide +kernel
theorem dX12_feed_10 : decode cX12_feed 10 = .ok (.if_icmp .le 5, 3) := by decide +kernel
theorem dX12_feed_15 : decode cX12_feed 15 = .ok (.aload_n 0, 1) := by decide +kernel
theorem dX12_feed_16 : decode cX12_feed 16 = .ok (.iload_n 1, 1) := by decide +kernel
theorem dX12_feed_17 : decode cX12_feed 17 = .ok (.invokevirtual 120, 3) := by decide +kernel
theorem dX12_feed_20 : decode cX12_feed 20 = .ok (.aload_n 0, 1) := by decide +kernel
theorem dX12_feed_21 : decode cX12_feed 21 = .ok (.iload_n 2, 1) := by decide +kernel
theorem dX12_feed_22 : decode cX12_feed 22 = .ok (.invokevirtual 120, 3) := by decide +kernel
theorem dX12_feed_25 : decode cX12_feed 25 = .ok (.aload_n 0, 1) := by decide +kernel
theorem dX12_feed_26 : decode cX12_feed 26 = .ok (.iload_n 3, 1) := by decide +kernel
theorem dX12_feed_27 : decode cX12_feed 27 = .ok (.invokevirtual 120, 3) := by decide +kernel
theorem dX12_feed_30 : decode cX12_feed 30 = .ok (.aload_n 0, 1) := by decide +kernel
theorem dX12_feed_31 : decode cX12_feed 31 = .ok (.iload 4, 2) := by decide +kernel
theorem dX12_feed_33 : decode cX12_feed 33 = .ok (.invokevirtual 120, 3) := by decide +kernel
theorem dX12_feed_36 : decode cX12_feed 36 = .ok (.aload_n 0, 1) := by decide +kernel
theorem dX12_feed_37 : decode cX12_feed 37 = .ok (.iload 5, 2) := by decide +kernel
theorem dX12_feed_39 : decode cX12_feed 39 = .ok (.invokevirtual 120, 3) := by decide +kernel
theorem dX12_feed_42 : decode cX12_feed 42 = .ok (.aload_n 0, 1) := by decide +kernel
theorem dX12_feed_43 : decode cX12_feed 43 = .ok (.getfield 116, 3) := by decide +kernel
theorem dX12_feed_46 : decode cX12_feed 46 = .ok (.ireturn, 1) := by decide +kernel
theorem dX12_fits_0 : decode cX12_fits 0 = .ok (.aload_n 0, 1) := by decide +kernel
theorem dX12_fits_1 : decode cX12_fits 1 = .ok (.iload_n 1, 1) := by decide +kernel
theorem dX12_fits_2 : decode cX12_fits 2 = .ok (.invokevirtual 486, 3) := by decide +kernel
theorem dX12_fits_5 : decode cX12_fits 5 = .ok (.ifCond .eq 23, 3) := by decide +kernel
theorem dX12_fits_28 : decode cX12_fits 28 = .ok (.iconst (-1), 1) := by decide +kernel
theorem dX12_fits_29 : decode cX12_fits 29 = .ok (.ireturn, 1) := by decide +kernel
theorem dX12_four_0 : decode cX12_four 0 = .ok (.bipush 24, 2) := by decide +kernel
theorem dX12_four_2 : decode cX12_four 2 = .ok (.istore_n 2, 1) := by decide +kernel
theorem dX12_four_3 : decode cX12_four 3 = .ok (.iload_n 2, 1) := by decide +kernel
theorem dX12_four_4 : decode cX12_four 4 = .ok (.ifCond .lt 32, 3) := by decide +kernel
theorem dX12_four_7 : decode cX12_four 7 = .ok (.aload_n 0, 1) := by decide +kernel
theorem dX12_four_8 : decode cX12_four 8 = .ok (.getfield 7, 3) := by decide +kernel
theorem dX12_four_11 : decode cX12_four 11 = .ok (.aload_n 0, 1) := by decide +kernel
theorem dX12_four_12 : decode cX12_four 12 = .ok (.getfield 116, 3) := by decide +kernel
theorem dX12_four_15 : decode cX12_four 15 = .ok (.iload_n 1, 1) := by decide +kernel
theorem dX12_four_16 : decode cX12_four 16 = .ok (.iload_n 2, 1) := by decide +kernel
theorem dX12_four_17 : decode cX12_four 17 = .ok (.ishr, 1) := by decide +kernel
theorem dX12_four_18 : decode cX12_four 18 = .ok (.i2b, 1) := by decide +kernel
theorem dX12_four_19 : decode cX12_four 19 = .ok (.bastore, 1) := by decide +kernel
theorem dX12_four_20 : decode cX12_four 20 = .ok (.aload_n 0, 1) := by decide +kernel
theorem dX12_four_21 : decode cX12_four 21 = .ok (.dup, 1) := by decide +kernel
theorem dX12_four_22 : decode cX12_four 22 = .ok (.getfield 116, 3) := by decide +kernel
theorem dX12_four_25 : decode cX12_four 25 = .ok (.iconst 1, 1) := by decide +kernel
theorem dX12_four_26 : decode cX12_four 26 = .ok (.iadd, 1) := by decide +kernel
theorem dX12_four_27 : decode cX12_four 27 = .ok (.putfield 116, 3) := by decide +kernel
theorem dX12_four_30 : decode cX12_four 30 = .ok (.iinc 2 (-8), 3) := by decide +kernel
theorem dX12_four_33 : decode cX12_four 33 = .ok (.goto (-30), 3) := by decide +kernel
theorem dX12_four_36 : decode cX12_four 36 = .ok (.return_, 1) := by decide +kernel
theorem dX12_image_0 : decode cX12_image 0 = .ok (.iload_n 1, 1) := by decide +kernel
theorem dX12_image_1 : decode cX12_image 1 = .ok (.i2l, 1) := by decide +kernel
theorem dX12_image_2 : decode cX12_image 2 = .ok (.lconst 0, 1) := by decide +kernel
theorem dX12_image_3 : decode cX12_image 3 = .ok (.ldc2_w 426, 3) := by decide +kernel
theorem dX12_image_6 : decode cX12_image 6 = .ok (.invokestatic 155, 3) := by decide +kernel
theorem dX12_image_9 : decode cX12_image 9 = .ok (.ifCond .ne 9, 3) := by decide +kernel
theorem dX12_image_12 : decode cX12_image 12 = .ok (.aload_n 0, 1) := by decide +kernel
theorem dX12_image_13 : decode cX12_image 13 = .ok (.iconst 0, 1) := by decide +kernel
theorem dX12_image_14 : decode cX12_image 14 = .ok (.invokevirtual 338, 3) := by decide +kernel
theorem dX12_image_17 : decode cX12_image 17 = .ok (.ireturn, 1) := by decide +kernel
theorem dX12_image_18 : decode cX12_image 18 = .ok (.aload_n 0, 1) := by decide +kernel
theorem dX12_image_19 : decode cX12_image 19 = .ok (.getfield 112, 3) := by decide +kernel
theorem dX12_image_22 : decode cX12_image 22 = .ok (.iload_n 1, 1) := by decide +kernel
theorem dX12_image_23 : decode cX12_image 23 = .ok (.iconst 1, 1) := by decide +kernel
theorem dX12_image_24 : decode cX12_image 24 = .ok (.bastore, 1) := by decide +kernel
theorem dX12_image_25 : decode cX12_image 25 = .ok (.iconst 0, 1) := by decide +kernel
theorem dX12_image_26 : decode cX12_image 26 = .ok (.istore_n 2, 1) := by decide +kernel
theorem dX12_image_27 : decode cX12_image 27 = .ok (.iload_n 2, 1) := by decide +kernel
theorem dX12_image_28 : decode cX12_image 28 = .ok (.sipush 226, 3) := by decide +kernel
theorem dX12_image_31 : decode cX12_image 31 = .ok (.if_icmp .ge 27, 3) := by decide +kernel
theorem dX12_image_34 : decode cX12_image 34 = .ok (.aload_n 0, 1) := by decide +kernel
theorem dX12_image_35 : decode cX12_image 35 = .ok (.getfield 109, 3) := by decide +kernel
theorem dX12_image_38 : decode cX12_image 38 = .ok (.sipush 226, 3) := by decide +kernel
theorem dX12_image_41 : decode cX12_image 41 = .ok (.iload_n 1, 1) := by decide +kernel
theorem dX12_image_42 : decode cX12_image 42 = .ok (.imul, 1) := by decide +kernel
theorem dX12_image_43 : decode cX12_image 43 = .ok (.iload_n 2, 1) := by decide +kernel
theorem dX12_image_44 : decode cX12_image 44 = .ok (.iadd, 1) := by decide +kernel
theorem dX12_image_45 : decode cX12_image 45 = .ok (.aload_n 0, 1) := by decide +kernel
theorem dX12_image_46 : decode cX12_image 46 = .ok (.getfield 45, 3) := by decide +kernel
theorem dX12_image_49 : decode cX12_image 49 = .ok (.iload_n 2, 1) := by decide +kernel
theorem dX12_image_50 : decode cX12_image 50 = .ok (.iaload, 1) := by decide +kernel
theorem dX12_image_51 : decode cX12_image 51 = .ok (.iastore, 1) := by decide +kernel
theorem dX12_image_52 : decode cX12_image 52 = .ok (.iinc 2 1, 3) := by decide +kernel
theorem dX12_image_55 : decode cX12_image 55 = .ok (.goto (-28), 3) := by decide +kernel
theorem dX12_image_58 : decode cX12_image 58 = .ok (.aload_n 0, 1) := by decide +kernel
theorem dX12_image_59 : decode cX12_image 59 = .ok (.getfield 45, 3) := by decide +kernel
theorem dX12_image_62 : decode cX12_image 62 = .ok (.iconst 3, 1) := by decide +kernel
theorem dX12_image_63 : decode cX12_image 63 = .ok (.iaload, 1) := by decide +kernel
theorem dX12_image_64 : decode cX12_image 64 = .ok (.ireturn, 1) := by decide +kernel
theorem dX12_in_0 : decode cX12_in 0 = .ok (.lload_n 0, 1) := by decide +kernel
theorem dX12_in_1 : decode cX12_in 1 = .ok (.lload_n 2, 1) := by decide +kernel
theorem dX12_in_2 : decode cX12_in 2 = .ok (.lcmp, 1) := by decide +kernel
theorem dX12_in_3 : decode cX12_in 3 = .ok (.ifCond .lt 14, 3) := by decide +kernel
theorem dX12_in_6 : decode cX12_in 6 = .ok (.lload_n 0, 1) := by decide +kernel
theorem dX12_in_7 : decode cX12_in 7 = .ok (.lload 4, 2) := by decide +kernel
theorem dX12_in_9 : decode cX12_in 9 = .ok (.lcmp, 1) := by decide +kernel
theorem dX12_in_10 : decode cX12_in 10 = .ok (.ifCond .gt 7, 3) := by decide +kernel
theorem dX12_in_13 : decode cX12_in 13 = .ok (.iconst 1, 1) := by decide +kernel
theorem dX12_in_14 : decode cX12_in 14 = .ok (.goto 4, 3) := by decide +kernel
theorem dX12_in_17 : decode cX12_in 17 = .ok (.iconst 0, 1) := by decide +kernel
theorem dX12_in_18 : decode cX12_in 18 = .ok (.ireturn, 1) := by decide +kernel
theorem dX12_init_0 : decode cX12_init 0 = .ok (.aload_n 0, 1) := by decide +kernel
theorem dX12_init_1 : decode cX12_init 1 = .ok (.invokespecial 1, 3) := by decide +kernel
theorem dX12_init_4 : decode cX12_init 4 = .ok (.aload_n 0, 1) := by decide +kernel
theorem dX12_init_5 : decode cX12_init 5 = .ok (.sipush 400, 3) := by decide +kernel
theorem dX12_init_8 : decode cX12_init 8 = .ok (.newarray .byte, 2) := by decide +kernel
theorem dX12_init_10 : decode cX12_init 10 = .ok (.putfield 7, 3) := by decide +kernel
theorem dX12_init_13 : decode cX12_init 13 = .ok (.aload_n 0, 1) := by decide +kernel
theorem dX12_init_14 : decode cX12_init 14 = .ok (.sipush 2400, 3) := by decide +kernel
theorem dX12_init_17 : decode cX12_init 17 = .ok (.newarray .int, 2) := by decide +kernel
theorem dX12_init_19 : decode cX12_init 19 = .ok (.putfield 13, 3) := by decide +kernel
theorem dX12_init_22 : decode cX12_init 22 = .ok (.aload_n 0, 1) := by decide +kernel
theorem dX12_init_23 : decode cX12_init 23 = .ok (.bipush 7, 2) := by decide +kernel
theorem dX12_init_25 : decode cX12_init 25 = .ok (.newarray .int, 2) := by decide +kernel
theorem dX12_init_27 : decode cX12_init 27 = .ok (.putfield 17, 3) := by decide +kernel
theorem dX12_init_30 : decode cX12_init 30 = .ok (.aload_n 0, 1) := by decide +kernel
theorem dX12_init_31 : decode cX12_init 31 = .ok (.sipush 216, 3) := by decide +kernel
theorem dX12_init_34 : decode cX12_init 34 = .ok (.newarray .int, 2) := by decide +kernel
theorem dX12_init_36 : decode cX12_init 36 = .ok (.putfield 20, 3) := by decide +kernel
theorem dX12_init_39 : decode cX12_init 39 = .ok (.aload_n 0, 1) := by decide +kernel
theorem dX12_init_40 : decode cX12_init 40 = .ok (.bipush 6, 2) := by decide +kernel
theorem dX12_init_42 : decode cX12_init 42 = .ok (.newarray .int, 2) := by decide +kernel
theorem dX12_init_44 : decode cX12_init 44 = .ok (.putfield 23, 3) := by decide +kernel
theorem dX12_init_47 : decode cX12_init 47 = .ok (.aload_n 0, 1) := by decide +kernel
theorem dX12_init_48 : decode cX12_init 48 = .ok (.bipush 120, 2) := by decide +kernel
theorem dX12_init_50 : decode cX12_init 50 = .ok (.newarray .int, 2) := by decide +kernel
theorem dX12_init_52 : decode cX12_init 52 = .ok (.putfield 26, 3) := by decide +kernel
theorem dX12_init_55 : decode cX12_init 55 = .ok (.aload_n 0, 1) := by decide +kernel
theorem dX12_init_56 : decode cX12_init 56 = .ok (.bipush 10, 2) := by decide +kernel
theorem dX12_init_58 : decode cX12_init 58 = .ok (.newarray .int, 2) := by decide +kernel
theorem dX12_init_60 : decode cX12_init 60 = .ok (.putfield 29, 3) := by decide +kernel
theorem dX12_init_63 : decode cX12_init 63 = .ok (.aload_n 0, 1) := by decide +kernel
theorem dX12_init_64 : decode cX12_init 64 = .ok (.bipush 10, 2) := by decide +kernel
theorem dX12_init_66 : decode cX12_init 66 = .ok (.newarray .int, 2) := by decide +kernel
theorem dX12_init_68 : decode cX12_init 68 = .ok (.putfield 32, 3) := by decide +kernel
theorem dX12_init_71 : decode cX12_init 71 = .ok (.aload_n 0, 1) := by decide +kernel
theorem dX12_init_72 : decode cX12_init 72 = .ok (.sipush 400, 3) := by decide +kernel
theorem dX12_init_75 : decode cX12_init 75 = .ok (.newarray .int, 2) := by decide +kernel
theorem dX12_init_77 : decode cX12_init 77 = .ok (.putfield 35, 3) := by decide +kernel
theorem dX12_init_80 : decode cX12_init 80 = .ok (.aload_n 0, 1) := by decide +kernel
theorem dX12_init_81 : decode cX12_init 81 = .ok (.bipush 64, 2) := by decide +kernel
theorem dX12_init_83 : decode cX12_init 83 = .ok (.newarray .long, 2) := by decide +kernel
theorem dX12_init_85 : decode cX12_init 85 = .ok (.putfield 38, 3) := by decide +kernel
theorem dX12_init_88 : decode cX12_init 88 = .ok (.aload_n 0, 1) := by decide +kernel
theorem dX12_init_89 : decode cX12_init 89 = .ok (.bipush 10, 2) := by decide +kernel
theorem dX12_init_91 : decode cX12_init 91 = .ok (.newarray .long, 2) := by decide +kernel
theorem dX12_init_93 : decode cX12_init 93 = .ok (.putfield 42, 3) := by decide +kernel
theorem dX12_init_96 : decode cX12_init 96 = .ok (.aload_n 0, 1) := by decide +kernel
theorem dX12_init_97 : decode cX12_init 97 = .ok (.sipush 226, 3) := by decide +kernel
theorem dX12_init_100 : decode cX12_init 100 = .ok (.newarray .int, 2) := by decide +kernel
theorem dX12_init_102 : decode cX12_init 102 = .ok (.putfield 45, 3) := by decide +kernel
theorem dX12_init_105 : decode cX12_init 105 = .ok (.aload_n 0, 1) := by decide +kernel
theorem dX12_init_106 : decode cX12_init 106 = .ok (.iconst 2, 1) := by decide +kernel
theorem dX12_init_107 : decode cX12_init 107 = .ok (.newarray .int, 2) := by decide +kernel
theorem dX12_init_109 : decode cX12_init 109 = .ok (.putfield 48, 3) := by decide +kernel
theorem dX12_init_112 : decode cX12_init 112 = .ok (.aload_n 0, 1) := by decide +kernel
theorem dX12_init_113 : decode cX12_init 113 = .ok (.bipush 10, 2) := by decide +kernel
theorem dX12_init_115 : decode cX12_init 115 = .ok (.newarray .int, 2) := by decide +kernel
theorem dX12_init_117 : decode cX12_init 117 = .ok (.putfield 51, 3) := by decide +kernel
theorem dX12_init_120 : decode cX12_init 120 = .ok (.aload_n 0, 1) := by decide +kernel
theorem dX12_init_121 : decode cX12_init 121 = .ok (.bipush 8, 2) := by decide +kernel
theorem dX12_init_123 : decode cX12_init 123 = .ok (.newarray .int, 2) := by decide +kernel
theorem dX12_init_125 : decode cX12_init 125 = .ok (.putfield 54, 3) := by decide +kernel
theorem dX12_init_128 : decode cX12_init 128 = .ok (.aload_n 0, 1) := by decide +kernel
theorem dX12_init_129 : decode cX12_init 129 = .ok (.bipush 10, 2) := by decide +kernel
theorem dX12_init_131 : decode cX12_init 131 = .ok (.newarray .int, 2) := by decide +kernel
theorem dX12_init_133 : decode cX12_init 133 = .ok (.putfield 57, 3) := by decide +kernel
theorem dX12_init_136 : decode cX12_init 136 = .ok (.aload_n 0, 1) := by decide +kernel
theorem dX12_init_137 : decode cX12_init 137 = .ok (.bipush 10, 2) := by decide +kernel
theorem dX12_init_139 : decode cX12_init 139 = .ok (.newarray .int, 2) := by decide +kernel
theorem dX12_init_141 : decode cX12_init 141 = .ok (.putfield 60, 3) := by decide +kernel
theorem dX12_init_144 : decode cX12_init 144 = .ok (.aload_n 0, 1) := by decide +kernel
theorem dX12_init_145 : decode cX12_init 145 = .ok (.bipush 60, 2) := by decide +kernel
theorem dX12_init_147 : decode cX12_init 147 = .ok (.newarray .int, 2) := by decide +kernel
theorem dX12_init_149 : decode cX12_init 149 = .ok (.putfield 63, 3) := by decide +kernel
theorem dX12_init_152 : decode cX12_init 152 = .ok (.aload_n 0, 1) := by decide +kernel
theorem dX12_init_153 : decode cX12_init 153 = .ok (.iconst 5, 1) := by decide +kernel
theorem dX12_init_154 : decode cX12_init 154 = .ok (.newarray .int, 2) := by decide +kernel
theorem dX12_init_156 : decode cX12_init 156 = .ok (.putfield 66, 3) := by decide +kernel
theorem dX12_init_159 : decode cX12_init 159 = .ok (.aload_n 0, 1) := by decide +kernel
theorem dX12_init_160 : decode cX12_init 160 = .ok (.bipush 6, 2) := by decide +kernel
theorem dX12_init_162 : decode cX12_init 162 = .ok (.newarray .int, 2) := by decide +kernel
theorem dX12_init_164 : decode cX12_init 164 = .ok (.putfield 69, 3) := by decide +kernel
theorem dX12_init_167 : decode cX12_init 167 = .ok (.aload_n 0, 1) := by decide +kernel
theorem dX12_init_168 : decode cX12_init 168 = .ok (.iconst 5, 1) := by decide +kernel
theorem dX12_init_169 : decode cX12_init 169 = .ok (.newarray .int, 2) := by decide +kernel
theorem dX12_init_171 : decode cX12_init 171 = .ok (.putfield 72, 3) := by decide +kernel
theorem dX12_init_174 : decode cX12_init 174 = .ok (.aload_n 0, 1) := by decide +kernel
theorem dX12_init_175 : decode cX12_init 175 = .ok (.iconst 5, 1) := by decide +kernel
theorem dX12_init_176 : decode cX12_init 176 = .ok (.newarray .int, 2) := by decide +kernel
theorem dX12_init_178 : decode cX12_init 178 = .ok (.putfield 75, 3) := by decide +kernel
theorem dX12_init_181 : decode cX12_init 181 = .ok (.aload_n 0, 1) := by decide +kernel
theorem dX12_init_182 : decode cX12_init 182 = .ok (.iconst 5, 1) := by decide +kernel
theorem dX12_init_183 : decode cX12_init 183 = .ok (.newarray .int, 2) := by decide +kernel
theorem dX12_init_185 : decode cX12_init 185 = .ok (.putfield 78, 3) := by decide +kernel
theorem dX12_init_188 : decode cX12_init 188 = .ok (.aload_n 0, 1) := by decide +kernel
theorem dX12_init_189 : decode cX12_init 189 = .ok (.sipush 6561, 3) := by decide +kernel
theorem dX12_init_192 : decode cX12_init 192 = .ok (.newarray .int, 2) := by decide +kernel
theorem dX12_init_194 : decode cX12_init 194 = .ok (.putfield 81, 3) := by decide +kernel
theorem dX12_init_197 : decode cX12_init 197 = .ok (.aload_n 0, 1) := by decide +kernel
theorem dX12_init_198 : decode cX12_init 198 = .ok (.sipush 6561, 3) := by decide +kernel
theorem dX12_init_201 : decode cX12_init 201 = .ok (.newarray .int, 2) := by decide +kernel
theorem dX12_init_203 : decode cX12_init 203 = .ok (.putfield 84, 3) := by decide +kernel
theorem dX12_init_206 : decode cX12_init 206 = .ok (.aload_n 0, 1) := by decide +kernel
theorem dX12_init_207 : decode cX12_init 207 = .ok (.bipush 6, 2) := by decide +kernel
theorem dX12_init_209 : decode cX12_init 209 = .ok (.newarray .int, 2) := by decide +kernel
theorem dX12_init_211 : decode cX12_init 211 = .ok (.putfield 87, 3) := by decide +kernel
theorem dX12_init_214 : decode cX12_init 214 = .ok (.aload_n 0, 1) := by decide +kernel
theorem dX12_init_215 : decode cX12_init 215 = .ok (.bipush 6, 2) := by decide +kernel
theorem dX12_init_217 : decode cX12_init 217 = .ok (.newarray .int, 2) := by decide +kernel
theorem dX12_init_219 : decode cX12_init 219 = .ok (.putfield 90, 3) := by decide +kernel
theorem dX12_init_222 : decode cX12_init 222 = .ok (.aload_n 0, 1) := by decide +kernel
theorem dX12_init_223 : decode cX12_init 223 = .ok (.sipush 3010, 3) := by decide +kernel
theorem dX12_init_226 : decode cX12_init 226 = .ok (.newarray .int, 2) := by decide +kernel
theorem dX12_init_228 : decode cX12_init 228 = .ok (.putfield 93, 3) := by decide +kernel
theorem dX12_init_231 : decode cX12_init 231 = .ok (.aload_n 0, 1) := by decide +kernel
theorem dX12_init_232 : decode cX12_init 232 = .ok (.sipush 3010, 3) := by decide +kernel
theorem dX12_init_235 : decode cX12_init 235 = .ok (.newarray .int, 2) := by decide +kernel
theorem dX12_init_237 : decode cX12_init 237 = .ok (.putfield 96, 3) := by decide +kernel
theorem dX12_init_240 : decode cX12_init 240 = .ok (.aload_n 0, 1) := by decide +kernel
theorem dX12_init_241 : decode cX12_init 241 = .ok (.sipush 301, 3) := by decide +kernel
theorem dX12_init_244 : decode cX12_init 244 = .ok (.newarray .int, 2) := by decide +kernel
theorem dX12_init_246 : decode cX12_init 246 = .ok (.putfield 99, 3) := by decide +kernel
theorem dX12_init_249 : decode cX12_init 249 = .ok (.aload_n 0, 1) := by decide +kernel
theorem dX12_init_250 : decode cX12_init 250 = .ok (.bipush 10, 2) := by decide +kernel
theorem dX12_init_252 : decode cX12_init 252 = .ok (.newarray .int, 2) := by decide +kernel
theorem dX12_init_254 : decode cX12_init 254 = .ok (.putfield 102, 3) := by decide +kernel
theorem dX12_init_257 : decode cX12_init 257 = .ok (.aload_n 0, 1) := by decide +kernel
theorem dX12_init_258 : decode cX12_init 258 = .ok (.ldc 105, 2) := by decide +kernel
theorem dX12_init_260 : decode cX12_init 260 = .ok (.newarray .int, 2) := by decide +kernel
theorem dX12_init_262 : decode cX12_init 262 = .ok (.putfield 106, 3) := by decide +kernel
theorem dX12_init_265 : decode cX12_init 265 = .ok (.aload_n 0, 1) := by decide +kernel
theorem dX12_init_266 : decode cX12_init 266 = .ok (.sipush 904, 3) := by decide +kernel
theorem dX12_init_269 : decode cX12_init 269 = .ok (.newarray .int, 2) := by decide +kernel
theorem dX12_init_271 : decode cX12_init 271 = .ok (.putfield 109, 3) := by decide +kernel
theorem dX12_init_274 : decode cX12_init 274 = .ok (.aload_n 0, 1) := by decide +kernel
theorem dX12_init_275 : decode cX12_init 275 = .ok (.iconst 4, 1) := by decide +kernel
theorem dX12_init_276 : decode cX12_init 276 = .ok (.newarray .boolean, 2) := by decide +kernel
theorem dX12_init_278 : decode cX12_init 278 = .ok (.putfield 112, 3) := by decide +kernel
theorem dX12_init_281 : decode cX12_init 281 = .ok (.return_, 1) := by decide +kernel
theorem dX12_isLetter_0 : decode cX12_isLetter 0 = .ok (.iload_n 1, 1) := by decide +kernel
theorem dX12_isLetter_1 : decode cX12_isLetter 1 = .ok (.aload_n 0, 1) := by decide +kernel
theorem dX12_isLetter_2 : decode cX12_isLetter 2 = .ok (.getfield 116, 3) := by decide +kernel
theorem dX12_isLetter_5 : decode cX12_isLetter 5 = .ok (.if_icmp .ge 29, 3) := by decide +kernel
theorem dX12_isLetter_34 : decode cX12_isLetter 34 = .ok (.iconst 0, 1) := by decide +kernel
theorem dX12_isLetter_35 : decode cX12_isLetter 35 = .ok (.ireturn, 1) := by decide +kernel
theorem dX12_isMember_0 : decode cX12_isMember 0 = .ok (.iload_n 1, 1) := by decide +kernel
theorem dX12_isMember_1 : decode cX12_isMember 1 = .ok (.ifCond .lt 17, 3) := by decide +kernel
theorem dX12_isMember_4 : decode cX12_isMember 4 = .ok (.iload_n 1, 1) := by decide +kernel
theorem dX12_isMember_5 : decode cX12_isMember 5 = .ok (.aload_n 0, 1) := by decide +kernel
theorem dX12_isMember_6 : decode cX12_isMember 6 = .ok (.getfield 45, 3) := by decide +kernel
theorem dX12_isMember_9 : decode cX12_isMember 9 = .ok (.iconst 0, 1) := by decide +kernel
theorem dX12_isMember_10 : decode cX12_isMember 10 = .ok (.iaload, 1) := by decide +kernel
theorem dX12_isMember_11 : decode cX12_isMember 11 = .ok (.if_icmp .ge 7, 3) := by decide +kernel
theorem dX12_isMember_18 : decode cX12_isMember 18 = .ok (.iconst 0, 1) := by decide +kernel
theorem dX12_isMember_19 : decode cX12_isMember 19 = .ok (.ireturn, 1) := by decide +kernel
theorem dX12_isPoint_0 : decode cX12_isPoint 0 = .ok (.iload_n 1, 1) := by decide +kernel
theorem dX12_isPoint_1 : decode cX12_isPoint 1 = .ok (.ifCond .lt 17, 3) := by decide +kernel
theorem dX12_isPoint_4 : decode cX12_isPoint 4 = .ok (.iload_n 1, 1) := by decide +kernel
theorem dX12_isPoint_5 : decode cX12_isPoint 5 = .ok (.aload_n 0, 1) := by decide +kernel
theorem dX12_isPoint_6 : decode cX12_isPoint 6 = .ok (.getfield 45, 3) := by decide +kernel
theorem dX12_isPoint_9 : decode cX12_isPoint 9 = .ok (.iconst 1, 1) := by decide +kernel
theorem dX12_isPoint_10 : decode cX12_isPoint 10 = .ok (.iaload, 1) := by decide +kernel
theorem dX12_isPoint_11 : decode cX12_isPoint 11 = .ok (.if_icmp .ge 7, 3) := by decide +kernel
theorem dX12_isPoint_18 : decode cX12_isPoint 18 = .ok (.iconst 0, 1) := by decide +kernel
theorem dX12_isPoint_19 : decode cX12_isPoint 19 = .ok (.ireturn, 1) := by decide +kernel
theorem dX12_isPresent_0 : decode cX12_isPresent 0 = .ok (.aload_n 0, 1) := by decide +kernel
theorem dX12_isPresent_1 : decode cX12_isPresent 1 = .ok (.iload_n 1, 1) := by decide +kernel
theorem dX12_isPresent_2 : decode cX12_isPresent 2 = .ok (.invokevirtual 319, 3) := by decide +kernel
theorem dX12_isPresent_5 : decode cX12_isPresent 5 = .ok (.ifCond .eq 20, 3) := by decide +kernel
theorem dX12_isPresent_25 : decode cX12_isPresent 25 = .ok (.iconst 0, 1) := by decide +kernel
theorem dX12_isPresent_26 : decode cX12_isPresent 26 = .ok (.ireturn, 1) := by decide +kernel
theorem dX12_isSet_0 : decode cX12_isSet 0 = .ok (.iload_n 1, 1) := by decide +kernel
theorem dX12_isSet_1 : decode cX12_isSet 1 = .ok (.ifCond .lt 19, 3) := by decide +kernel
theorem dX12_isSet_4 : decode cX12_isSet 4 = .ok (.iload_n 1, 1) := by decide +kernel
theorem dX12_isSet_5 : decode cX12_isSet 5 = .ok (.iconst 1, 1) := by decide +kernel
theorem dX12_isSet_6 : decode cX12_isSet 6 = .ok (.aload_n 0, 1) := by decide +kernel
theorem dX12_isSet_7 : decode cX12_isSet 7 = .ok (.getfield 45, 3) := by decide +kernel
theorem dX12_isSet_10 : decode cX12_isSet 10 = .ok (.iconst 0, 1) := by decide +kernel
theorem dX12_isSet_11 : decode cX12_isSet 11 = .ok (.iaload, 1) := by decide +kernel
theorem dX12_isSet_12 : decode cX12_isSet 12 = .ok (.ishl, 1) := by decide +kernel
theorem dX12_isSet_13 : decode cX12_isSet 13 = .ok (.if_icmp .ge 7, 3) := by decide +kernel
theorem dX12_isSet_16 : decode cX12_isSet 16 = .ok (.iconst 1, 1) := by decide +kernel
theorem dX12_isSet_17 : decode cX12_isSet 17 = .ok (.goto 4, 3) := by decide +kernel
theorem dX12_isSet_20 : decode cX12_isSet 20 = .ok (.iconst 0, 1) := by decide +kernel
theorem dX12_isSet_21 : decode cX12_isSet 21 = .ok (.ireturn, 1) := by decide +kernel
theorem dX12_isWord_0 : decode cX12_isWord 0 = .ok (.aload_n 0, 1) := by decide +kernel
theorem dX12_isWord_1 : decode cX12_isWord 1 = .ok (.invokevirtual 130, 3) := by decide +kernel
theorem dX12_isWord_4 : decode cX12_isWord 4 = .ok (.pop, 1) := by decide +kernel
theorem dX12_isWord_5 : decode cX12_isWord 5 = .ok (.lconst 0, 1) := by decide +kernel
theorem dX12_isWord_6 : decode cX12_isWord 6 = .ok (.lstore_n 3, 1) := by decide +kernel
theorem dX12_isWord_7 : decode cX12_isWord 7 = .ok (.iconst 0, 1) := by decide +kernel
theorem dX12_isWord_8 : decode cX12_isWord 8 = .ok (.istore 5, 2) := by decide +kernel
theorem dX12_isWord_10 : decode cX12_isWord 10 = .ok (.aload_n 0, 1) := by decide +kernel
theorem dX12_isWord_11 : decode cX12_isWord 11 = .ok (.aload_n 0, 1) := by decide +kernel
theorem dX12_isWord_12 : decode cX12_isWord 12 = .ok (.getfield 127, 3) := by decide +kernel
theorem dX12_isWord_15 : decode cX12_isWord 15 = .ok (.iload 5, 2) := by decide +kernel
theorem dX12_isWord_17 : decode cX12_isWord 17 = .ok (.iadd, 1) := by decide +kernel
theorem dX12_isWord_18 : decode cX12_isWord 18 = .ok (.invokevirtual 134, 3) := by decide +kernel
theorem dX12_isWord_21 : decode cX12_isWord 21 = .ok (.ifCond .eq 35, 3) := by decide +kernel
theorem dX12_isWord_56 : decode cX12_isWord 56 = .ok (.iload 5, 2) := by decide +kernel
theorem dX12_isWord_58 : decode cX12_isWord 58 = .ok (.ifCond .le 20, 3) := by decide +kernel
theorem dX12_isWord_78 : decode cX12_isWord 78 = .ok (.iconst 0, 1) := by decide +kernel
theorem dX12_isWord_79 : decode cX12_isWord 79 = .ok (.ireturn, 1) := by decide +kernel
theorem dX12_lose_0 : decode cX12_lose 0 = .ok (.aload_n 0, 1) := by decide +kernel
theorem dX12_lose_1 : decode cX12_lose 1 = .ok (.iload_n 1, 1) := by decide +kernel
theorem dX12_lose_2 : decode cX12_lose 2 = .ok (.invokevirtual 446, 3) := by decide +kernel
theorem dX12_lose_5 : decode cX12_lose 5 = .ok (.ifCond .ne 5, 3) := by decide +kernel
theorem dX12_lose_8 : decode cX12_lose 8 = .ok (.iconst (-1), 1) := by decide +kernel
theorem dX12_lose_9 : decode cX12_lose 9 = .ok (.ireturn, 1) := by decide +kernel
theorem dX12_open_0 : decode cX12_open 0 = .ok (.iload_n 1, 1) := by decide +kernel
theorem dX12_open_1 : decode cX12_open 1 = .ok (.i2l, 1) := by decide +kernel
theorem dX12_open_2 : decode cX12_open 2 = .ok (.lconst 0, 1) := by decide +kernel
theorem dX12_open_3 : decode cX12_open 3 = .ok (.ldc2_w 420, 3) := by decide +kernel
theorem dX12_open_6 : decode cX12_open 6 = .ok (.invokestatic 155, 3) := by decide +kernel
theorem dX12_open_9 : decode cX12_open 9 = .ok (.ifCond .eq 23, 3) := by decide +kernel
theorem dX12_open_12 : decode cX12_open 12 = .ok (.aload_n 0, 1) := by decide +kernel
theorem dX12_open_13 : decode cX12_open 13 = .ok (.iload_n 2, 1) := by decide +kernel
theorem dX12_open_14 : decode cX12_open 14 = .ok (.invokevirtual 319, 3) := by decide +kernel
theorem dX12_open_17 : decode cX12_open 17 = .ok (.ifCond .eq 15, 3) := by decide +kernel
theorem dX12_open_32 : decode cX12_open 32 = .ok (.ldc_w 422, 3) := by decide +kernel
theorem dX12_open_35 : decode cX12_open 35 = .ok (.ireturn, 1) := by decide +kernel
theorem dX12_order_0 : decode cX12_order 0 = .ok (.iload_n 1, 1) := by decide +kernel
theorem dX12_order_1 : decode cX12_order 1 = .ok (.iconst (-1), 1) := by decide +kernel
theorem dX12_order_2 : decode cX12_order 2 = .ok (.if_icmp .ne 12, 3) := by decide +kernel
theorem dX12_order_5 : decode cX12_order 5 = .ok (.aload_n 0, 1) := by decide +kernel
theorem dX12_order_6 : decode cX12_order 6 = .ok (.getfield 45, 3) := by decide +kernel
theorem dX12_order_9 : decode cX12_order 9 = .ok (.iconst 4, 1) := by decide +kernel
theorem dX12_order_10 : decode cX12_order 10 = .ok (.iconst 0, 1) := by decide +kernel
theorem dX12_order_11 : decode cX12_order 11 = .ok (.iastore, 1) := by decide +kernel
theorem dX12_order_12 : decode cX12_order 12 = .ok (.iconst 0, 1) := by decide +kernel
theorem dX12_order_13 : decode cX12_order 13 = .ok (.ireturn, 1) := by decide +kernel
theorem dX12_order_14 : decode cX12_order 14 = .ok (.aload_n 0, 1) := by decide +kernel
theorem dX12_order_15 : decode cX12_order 15 = .ok (.iload_n 1, 1) := by decide +kernel
theorem dX12_order_16 : decode cX12_order 16 = .ok (.invokevirtual 327, 3) := by decide +kernel
theorem dX12_order_19 : decode cX12_order 19 = .ok (.ifCond .ne 9, 3) := by decide +kernel
theorem dX12_order_22 : decode cX12_order 22 = .ok (.aload_n 0, 1) := by decide +kernel
theorem dX12_order_23 : decode cX12_order 23 = .ok (.iconst 0, 1) := by decide +kernel
theorem dX12_order_24 : decode cX12_order 24 = .ok (.invokevirtual 338, 3) := by decide +kernel
theorem dX12_order_27 : decode cX12_order 27 = .ok (.ireturn, 1) := by decide +kernel
theorem dX12_ordered_0 : decode cX12_ordered 0 = .ok (.iload_n 1, 1) := by decide +kernel
theorem dX12_ordered_1 : decode cX12_ordered 1 = .ok (.ifCond .lt 26, 3) := by decide +kernel
theorem dX12_ordered_4 : decode cX12_ordered 4 = .ok (.iload_n 1, 1) := by decide +kernel
theorem dX12_ordered_5 : decode cX12_ordered 5 = .ok (.aload_n 0, 1) := by decide +kernel
theorem dX12_ordered_6 : decode cX12_ordered 6 = .ok (.getfield 45, 3) := by decide +kernel
theorem dX12_ordered_9 : decode cX12_ordered 9 = .ok (.iconst 4, 1) := by decide +kernel
theorem dX12_ordered_10 : decode cX12_ordered 10 = .ok (.iaload, 1) := by decide +kernel
theorem dX12_ordered_11 : decode cX12_ordered 11 = .ok (.if_icmp .ge 16, 3) := by decide +kernel
theorem dX12_ordered_27 : decode cX12_ordered 27 = .ok (.iconst (-1), 1) := by decide +kernel
theorem dX12_ordered_28 : decode cX12_ordered 28 = .ok (.ireturn, 1) := by decide +kernel
theorem dX12_plan_0 : decode cX12_plan 0 = .ok (.aload_n 0, 1) := by decide +kernel
theorem dX12_plan_1 : decode cX12_plan 1 = .ok (.iload_n 1, 1) := by decide +kernel
theorem dX12_plan_2 : decode cX12_plan 2 = .ok (.invokevirtual 446, 3) := by decide +kernel
theorem dX12_plan_5 : decode cX12_plan 5 = .ok (.ifCond .eq 37, 3) := by decide +kernel
theorem dX12_plan_42 : decode cX12_plan 42 = .ok (.iconst (-1), 1) := by decide +kernel
theorem dX12_plan_43 : decode cX12_plan 43 = .ok (.ireturn, 1) := by decide +kernel
theorem dX12_readsAll_0 : decode cX12_readsAll 0 = .ok (.aload_n 0, 1) := by decide +kernel
theorem dX12_readsAll_1 : decode cX12_readsAll 1 = .ok (.getfield 17, 3) := by decide +kernel
theorem dX12_readsAll_4 : decode cX12_readsAll 4 = .ok (.aload_n 0, 1) := by decide +kernel
theorem dX12_readsAll_5 : decode cX12_readsAll 5 = .ok (.getfield 179, 3) := by decide +kernel
theorem dX12_readsAll_8 : decode cX12_readsAll 8 = .ok (.iconst 0, 1) := by decide +kernel
theorem dX12_readsAll_9 : decode cX12_readsAll 9 = .ok (.iastore, 1) := by decide +kernel
theorem dX12_readsAll_10 : decode cX12_readsAll 10 = .ok (.aload_n 0, 1) := by decide +kernel
theorem dX12_readsAll_11 : decode cX12_readsAll 11 = .ok (.iconst 0, 1) := by decide +kernel
theorem dX12_readsAll_12 : decode cX12_readsAll 12 = .ok (.putfield 286, 3) := by decide +kernel
theorem dX12_readsAll_15 : decode cX12_readsAll 15 = .ok (.aload_n 0, 1) := by decide +kernel
theorem dX12_readsAll_16 : decode cX12_readsAll 16 = .ok (.iconst 0, 1) := by decide +kernel
theorem dX12_readsAll_17 : decode cX12_readsAll 17 = .ok (.putfield 127, 3) := by decide +kernel
theorem dX12_readsAll_20 : decode cX12_readsAll 20 = .ok (.aload_n 0, 1) := by decide +kernel
theorem dX12_readsAll_21 : decode cX12_readsAll 21 = .ok (.iconst 0, 1) := by decide +kernel
theorem dX12_readsAll_22 : decode cX12_readsAll 22 = .ok (.putfield 124, 3) := by decide +kernel
theorem dX12_readsAll_25 : decode cX12_readsAll 25 = .ok (.aload_n 0, 1) := by decide +kernel
theorem dX12_readsAll_26 : decode cX12_readsAll 26 = .ok (.iconst 0, 1) := by decide +kernel
theorem dX12_readsAll_27 : decode cX12_readsAll 27 = .ok (.putfield 182, 3) := by decide +kernel
theorem dX12_readsAll_30 : decode cX12_readsAll 30 = .ok (.aload_n 0, 1) := by decide +kernel
theorem dX12_readsAll_31 : decode cX12_readsAll 31 = .ok (.invokevirtual 295, 3) := by decide +kernel
theorem dX12_readsAll_34 : decode cX12_readsAll 34 = .ok (.istore_n 1, 1) := by decide +kernel
theorem dX12_readsAll_35 : decode cX12_readsAll 35 = .ok (.iload_n 1, 1) := by decide +kernel
theorem dX12_readsAll_36 : decode cX12_readsAll 36 = .ok (.ifCond .eq 30, 3) := by decide +kernel
theorem dX12_readsAll_66 : decode cX12_readsAll 66 = .ok (.iload_n 1, 1) := by decide +kernel
theorem dX12_readsAll_67 : decode cX12_readsAll 67 = .ok (.ifCond .eq 21, 3) := by decide +kernel
theorem dX12_readsAll_88 : decode cX12_readsAll 88 = .ok (.aload_n 0, 1) := by decide +kernel
theorem dX12_readsAll_89 : decode cX12_readsAll 89 = .ok (.iconst 0, 1) := by decide +kernel
theorem dX12_readsAll_90 : decode cX12_readsAll 90 = .ok (.putfield 116, 3) := by decide +kernel
theorem dX12_readsAll_93 : decode cX12_readsAll 93 = .ok (.aload_n 0, 1) := by decide +kernel
theorem dX12_readsAll_94 : decode cX12_readsAll 94 = .ok (.getfield 124, 3) := by decide +kernel
theorem dX12_readsAll_97 : decode cX12_readsAll 97 = .ok (.ifCond .ne 7, 3) := by decide +kernel
theorem dX12_readsAll_104 : decode cX12_readsAll 104 = .ok (.iconst 0, 1) := by decide +kernel
theorem dX12_readsAll_105 : decode cX12_readsAll 105 = .ok (.ireturn, 1) := by decide +kernel
theorem dX12_refuses_0 : decode cX12_refuses 0 = .ok (.aload_n 0, 1) := by decide +kernel
theorem dX12_refuses_1 : decode cX12_refuses 1 = .ok (.getfield 48, 3) := by decide +kernel
theorem dX12_refuses_4 : decode cX12_refuses 4 = .ok (.iload_n 1, 1) := by decide +kernel
theorem dX12_refuses_5 : decode cX12_refuses 5 = .ok (.dup2, 1) := by decide +kernel
theorem dX12_refuses_6 : decode cX12_refuses 6 = .ok (.iaload, 1) := by decide +kernel
theorem dX12_refuses_7 : decode cX12_refuses 7 = .ok (.iconst 1, 1) := by decide +kernel
theorem dX12_refuses_8 : decode cX12_refuses 8 = .ok (.iadd, 1) := by decide +kernel
theorem dX12_refuses_9 : decode cX12_refuses 9 = .ok (.iastore, 1) := by decide +kernel
theorem dX12_refuses_10 : decode cX12_refuses 10 = .ok (.bipush (-2), 2) := by decide +kernel
theorem dX12_refuses_12 : decode cX12_refuses 12 = .ok (.ireturn, 1) := by decide +kernel
theorem dX12_rounds_0 : decode cX12_rounds 0 = .ok (.aload_n 0, 1) := by decide +kernel
theorem dX12_rounds_1 : decode cX12_rounds 1 = .ok (.getfield 45, 3) := by decide +kernel
theorem dX12_rounds_4 : decode cX12_rounds 4 = .ok (.iconst 4, 1) := by decide +kernel
theorem dX12_rounds_5 : decode cX12_rounds 5 = .ok (.iaload, 1) := by decide +kernel
theorem dX12_rounds_6 : decode cX12_rounds 6 = .ok (.ifCond .eq 25, 3) := by decide +kernel
theorem dX12_rounds_31 : decode cX12_rounds 31 = .ok (.iconst (-1), 1) := by decide +kernel
theorem dX12_rounds_32 : decode cX12_rounds 32 = .ok (.ireturn, 1) := by decide +kernel
theorem dX12_rule_0 : decode cX12_rule 0 = .ok (.aload_n 0, 1) := by decide +kernel
theorem dX12_rule_1 : decode cX12_rule 1 = .ok (.getfield 298, 3) := by decide +kernel
theorem dX12_rule_4 : decode cX12_rule 4 = .ok (.bipush 6, 2) := by decide +kernel
theorem dX12_rule_6 : decode cX12_rule 6 = .ok (.if_icmp .ne 5, 3) := by decide +kernel
theorem dX12_rule_11 : decode cX12_rule 11 = .ok (.aload_n 0, 1) := by decide +kernel
theorem dX12_rule_12 : decode cX12_rule 12 = .ok (.aload_n 0, 1) := by decide +kernel
theorem dX12_rule_13 : decode cX12_rule 13 = .ok (.getfield 298, 3) := by decide +kernel
theorem dX12_rule_16 : decode cX12_rule 16 = .ok (.putfield 179, 3) := by decide +kernel
theorem dX12_rule_19 : decode cX12_rule 19 = .ok (.aload_n 0, 1) := by decide +kernel
theorem dX12_rule_20 : decode cX12_rule 20 = .ok (.getfield 23, 3) := by decide +kernel
theorem dX12_rule_23 : decode cX12_rule 23 = .ok (.aload_n 0, 1) := by decide +kernel
theorem dX12_rule_24 : decode cX12_rule 24 = .ok (.getfield 179, 3) := by decide +kernel
theorem dX12_rule_27 : decode cX12_rule 27 = .ok (.iconst 0, 1) := by decide +kernel
theorem dX12_rule_28 : decode cX12_rule 28 = .ok (.iastore, 1) := by decide +kernel
theorem dX12_rule_29 : decode cX12_rule 29 = .ok (.aload_n 0, 1) := by decide +kernel
theorem dX12_rule_30 : decode cX12_rule 30 = .ok (.invokevirtual 301, 3) := by decide +kernel
theorem dX12_rule_33 : decode cX12_rule 33 = .ok (.ifCond .ne 11, 3) := by decide +kernel
theorem dX12_rule_36 : decode cX12_rule 36 = .ok (.bipush (-2), 2) := by decide +kernel
theorem dX12_rule_38 : decode cX12_rule 38 = .ok (.aload_n 0, 1) := by decide +kernel
theorem dX12_rule_39 : decode cX12_rule 39 = .ok (.getfield 124, 3) := by decide +kernel
theorem dX12_rule_42 : decode cX12_rule 42 = .ok (.isub, 1) := by decide +kernel
theorem dX12_rule_43 : decode cX12_rule 43 = .ok (.ireturn, 1) := by decide +kernel
theorem dX12_says_0 : decode cX12_says 0 = .ok (.aload_n 0, 1) := by decide +kernel
theorem dX12_says_1 : decode cX12_says 1 = .ok (.iload_n 1, 1) := by decide +kernel
theorem dX12_says_2 : decode cX12_says 2 = .ok (.invokevirtual 390, 3) := by decide +kernel
theorem dX12_says_5 : decode cX12_says 5 = .ok (.ifCond .eq 11, 3) := by decide +kernel
theorem dX12_says_16 : decode cX12_says 16 = .ok (.iconst (-1), 1) := by decide +kernel
theorem dX12_says_17 : decode cX12_says 17 = .ok (.ireturn, 1) := by decide +kernel
theorem dX12_see_0 : decode cX12_see 0 = .ok (.aload_n 0, 1) := by decide +kernel
theorem dX12_see_1 : decode cX12_see 1 = .ok (.getfield 127, 3) := by decide +kernel
theorem dX12_see_4 : decode cX12_see 4 = .ok (.aload_n 0, 1) := by decide +kernel
theorem dX12_see_5 : decode cX12_see 5 = .ok (.getfield 116, 3) := by decide +kernel
theorem dX12_see_8 : decode cX12_see 8 = .ok (.if_icmp .ge 30, 3) := by decide +kernel
theorem dX12_see_38 : decode cX12_see 38 = .ok (.aload_n 0, 1) := by decide +kernel
theorem dX12_see_39 : decode cX12_see 39 = .ok (.getfield 127, 3) := by decide +kernel
theorem dX12_see_42 : decode cX12_see 42 = .ok (.aload_n 0, 1) := by decide +kernel
theorem dX12_see_43 : decode cX12_see 43 = .ok (.getfield 116, 3) := by decide +kernel
theorem dX12_see_46 : decode cX12_see 46 = .ok (.if_icmp .ge 19, 3) := by decide +kernel
theorem dX12_see_65 : decode cX12_see 65 = .ok (.iconst (-1), 1) := by decide +kernel
theorem dX12_see_66 : decode cX12_see 66 = .ok (.ireturn, 1) := by decide +kernel
theorem dX12_seed_0 : decode cX12_seed 0 = .ok (.iload_n 1, 1) := by decide +kernel
theorem dX12_seed_1 : decode cX12_seed 1 = .ok (.ifCond .ge 9, 3) := by decide +kernel
theorem dX12_seed_4 : decode cX12_seed 4 = .ok (.aload_n 0, 1) := by decide +kernel
theorem dX12_seed_5 : decode cX12_seed 5 = .ok (.iconst 0, 1) := by decide +kernel
theorem dX12_seed_6 : decode cX12_seed 6 = .ok (.invokevirtual 338, 3) := by decide +kernel
theorem dX12_seed_9 : decode cX12_seed 9 = .ok (.ireturn, 1) := by decide +kernel
theorem dX12_seed_10 : decode cX12_seed 10 = .ok (.aload_n 0, 1) := by decide +kernel
theorem dX12_seed_11 : decode cX12_seed 11 = .ok (.getfield 45, 3) := by decide +kernel
theorem dX12_seed_14 : decode cX12_seed 14 = .ok (.bipush 6, 2) := by decide +kernel
theorem dX12_seed_16 : decode cX12_seed 16 = .ok (.iaload, 1) := by decide +kernel
theorem dX12_seed_17 : decode cX12_seed 17 = .ok (.istore_n 2, 1) := by decide +kernel
theorem dX12_seed_18 : decode cX12_seed 18 = .ok (.aload_n 0, 1) := by decide +kernel
theorem dX12_seed_19 : decode cX12_seed 19 = .ok (.getfield 45, 3) := by decide +kernel
theorem dX12_seed_22 : decode cX12_seed 22 = .ok (.bipush 6, 2) := by decide +kernel
theorem dX12_seed_24 : decode cX12_seed 24 = .ok (.iload_n 1, 1) := by decide +kernel
theorem dX12_seed_25 : decode cX12_seed 25 = .ok (.iastore, 1) := by decide +kernel
theorem dX12_seed_26 : decode cX12_seed 26 = .ok (.iload_n 2, 1) := by decide +kernel
theorem dX12_seed_27 : decode cX12_seed 27 = .ok (.ireturn, 1) := by decide +kernel
theorem dX12_sides_0 : decode cX12_sides 0 = .ok (.aload_n 0, 1) := by decide +kernel
theorem dX12_sides_1 : decode cX12_sides 1 = .ok (.iload_n 1, 1) := by decide +kernel
theorem dX12_sides_2 : decode cX12_sides 2 = .ok (.invokevirtual 404, 3) := by decide +kernel
theorem dX12_sides_5 : decode cX12_sides 5 = .ok (.ifCond .eq 67, 3) := by decide +kernel
theorem dX12_sides_8 : decode cX12_sides 8 = .ok (.aload_n 0, 1) := by decide +kernel
theorem dX12_sides_9 : decode cX12_sides 9 = .ok (.iload_n 2, 1) := by decide +kernel
theorem dX12_sides_10 : decode cX12_sides 10 = .ok (.invokevirtual 404, 3) := by decide +kernel
theorem dX12_sides_13 : decode cX12_sides 13 = .ok (.ifCond .eq 59, 3) := by decide +kernel
theorem dX12_sides_16 : decode cX12_sides 16 = .ok (.iload_n 1, 1) := by decide +kernel
theorem dX12_sides_17 : decode cX12_sides 17 = .ok (.ifCond .eq 55, 3) := by decide +kernel
theorem dX12_sides_72 : decode cX12_sides 72 = .ok (.ldc_w 422, 3) := by decide +kernel
theorem dX12_sides_75 : decode cX12_sides 75 = .ok (.ireturn, 1) := by decide +kernel
theorem dX12_spoilers_0 : decode cX12_spoilers 0 = .ok (.aload_n 0, 1) := by decide +kernel
theorem dX12_spoilers_1 : decode cX12_spoilers 1 = .ok (.iload_n 1, 1) := by decide +kernel
theorem dX12_spoilers_2 : decode cX12_spoilers 2 = .ok (.invokevirtual 446, 3) := by decide +kernel
theorem dX12_spoilers_5 : decode cX12_spoilers 5 = .ok (.ifCond .ne 5, 3) := by decide +kernel
theorem dX12_spoilers_8 : decode cX12_spoilers 8 = .ok (.iconst (-1), 1) := by decide +kernel
theorem dX12_spoilers_9 : decode cX12_spoilers 9 = .ok (.ireturn, 1) := by decide +kernel
theorem dX12_status_0 : decode cX12_status 0 = .ok (.iload_n 1, 1) := by decide +kernel
theorem dX12_status_1 : decode cX12_status 1 = .ok (.i2l, 1) := by decide +kernel
theorem dX12_status_2 : decode cX12_status 2 = .ok (.lconst 0, 1) := by decide +kernel
theorem dX12_status_3 : decode cX12_status 3 = .ok (.lconst 1, 1) := by decide +kernel
theorem dX12_status_4 : decode cX12_status 4 = .ok (.invokestatic 155, 3) := by decide +kernel
theorem dX12_status_7 : decode cX12_status 7 = .ok (.ifCond .eq 12, 3) := by decide +kernel
theorem dX12_status_10 : decode cX12_status 10 = .ok (.aload_n 0, 1) := by decide +kernel
theorem dX12_status_11 : decode cX12_status 11 = .ok (.getfield 48, 3) := by decide +kernel
theorem dX12_status_14 : decode cX12_status 14 = .ok (.iload_n 1, 1) := by decide +kernel
theorem dX12_status_15 : decode cX12_status 15 = .ok (.iaload, 1) := by decide +kernel
theorem dX12_status_16 : decode cX12_status 16 = .ok (.goto 4, 3) := by decide +kernel
theorem dX12_status_19 : decode cX12_status 19 = .ok (.iconst (-1), 1) := by decide +kernel
theorem dX12_status_20 : decode cX12_status 20 = .ok (.ireturn, 1) := by decide +kernel
theorem dX12_tells_0 : decode cX12_tells 0 = .ok (.aload_n 0, 1) := by decide +kernel
theorem dX12_tells_1 : decode cX12_tells 1 = .ok (.iload_n 1, 1) := by decide +kernel
theorem dX12_tells_2 : decode cX12_tells 2 = .ok (.invokevirtual 486, 3) := by decide +kernel
theorem dX12_tells_5 : decode cX12_tells 5 = .ok (.ifCond .eq 13, 3) := by decide +kernel
theorem dX12_tells_18 : decode cX12_tells 18 = .ok (.iconst (-1), 1) := by decide +kernel
theorem dX12_tells_19 : decode cX12_tells 19 = .ok (.ireturn, 1) := by decide +kernel
theorem dX12_voice_0 : decode cX12_voice 0 = .ok (.aload_n 0, 1) := by decide +kernel
theorem dX12_voice_1 : decode cX12_voice 1 = .ok (.iload_n 1, 1) := by decide +kernel
theorem dX12_voice_2 : decode cX12_voice 2 = .ok (.invokevirtual 319, 3) := by decide +kernel
theorem dX12_voice_5 : decode cX12_voice 5 = .ok (.ifCond .eq 15, 3) := by decide +kernel
theorem dX12_voice_20 : decode cX12_voice 20 = .ok (.iconst (-1), 1) := by decide +kernel
theorem dX12_voice_21 : decode cX12_voice 21 = .ok (.ireturn, 1) := by decide +kernel
theorem dX12_vote_0 : decode cX12_vote 0 = .ok (.aload_n 0, 1) := by decide +kernel
theorem dX12_vote_1 : decode cX12_vote 1 = .ok (.iload_n 1, 1) := by decide +kernel
theorem dX12_vote_2 : decode cX12_vote 2 = .ok (.invokevirtual 327, 3) := by decide +kernel
theorem dX12_vote_5 : decode cX12_vote 5 = .ok (.ifCond .ne 9, 3) := by decide +kernel
theorem dX12_vote_8 : decode cX12_vote 8 = .ok (.aload_n 0, 1) := by decide +kernel
theorem dX12_vote_9 : decode cX12_vote 9 = .ok (.iconst 0, 1) := by decide +kernel
theorem dX12_vote_10 : decode cX12_vote 10 = .ok (.invokevirtual 338, 3) := by decide +kernel
theorem dX12_vote_13 : decode cX12_vote 13 = .ok (.ireturn, 1) := by decide +kernel
theorem dX12_worth_0 : decode cX12_worth 0 = .ok (.aload_n 0, 1) := by decide +kernel
theorem dX12_worth_1 : decode cX12_worth 1 = .ok (.iload_n 1, 1) := by decide +kernel
theorem dX12_worth_2 : decode cX12_worth 2 = .ok (.invokevirtual 319, 3) := by decide +kernel
theorem dX12_worth_5 : decode cX12_worth 5 = .ok (.ifCond .eq 20, 3) := by decide +kernel
theorem dX12_worth_25 : decode cX12_worth 25 = .ok (.sipush (-1000), 3) := by decide +kernel
theorem dX12_worth_28 : decode cX12_worth 28 = .ok (.ireturn, 1) := by decide +kernel
theorem dX12_year_0 : decode cX12_year 0 = .ok (.aload_n 0, 1) := by decide +kernel
theorem dX12_year_1 : decode cX12_year 1 = .ok (.getfield 45, 3) := by decide +kernel
theorem dX12_year_4 : decode cX12_year 4 = .ok (.iconst 1, 1) := by decide +kernel
theorem dX12_year_5 : decode cX12_year 5 = .ok (.iaload, 1) := by decide +kernel
theorem dX12_year_6 : decode cX12_year 6 = .ok (.ifCond .eq 35, 3) := by decide +kernel
theorem dX12_year_41 : decode cX12_year 41 = .ok (.ldc_w 422, 3) := by decide +kernel
theorem dX12_year_44 : decode cX12_year 44 = .ok (.ireturn, 1) := by decide +kernel
theorem dX1_init_0 : decode cX1_init 0 = .ok (.aload_n 0, 1) := by decide +kernel
theorem dX1_init_1 : decode cX1_init 1 = .ok (.invokespecial 3, 3) := by decide +kernel
theorem dX1_init_4 : decode cX1_init 4 = .ok (.aload_n 0, 1) := by decide +kernel
theorem dX1_init_5 : decode cX1_init 5 = .ok (.bipush 7, 2) := by decide +kernel
theorem dX1_init_7 : decode cX1_init 7 = .ok (.bipush 10, 2) := by decide +kernel
theorem dX1_init_9 : decode cX1_init 9 = .ok (.multianewarray 11 2, 4) := by decide +kernel
theorem dX1_init_13 : decode cX1_init 13 = .ok (.putfield 13, 3) := by decide +kernel
theorem dX1_init_16 : decode cX1_init 16 = .ok (.aload_n 0, 1) := by decide +kernel
theorem dX1_init_17 : decode cX1_init 17 = .ok (.bipush 6, 2) := by decide +kernel
theorem dX1_init_19 : decode cX1_init 19 = .ok (.newarray .int, 2) := by decide +kernel
theorem dX1_init_21 : decode cX1_init 21 = .ok (.putfield 16, 3) := by decide +kernel
theorem dX1_init_24 : decode cX1_init 24 = .ok (.aload_n 0, 1) := by decide +kernel
theorem dX1_init_25 : decode cX1_init 25 = .ok (.bipush 6, 2) := by decide +kernel
theorem dX1_init_27 : decode cX1_init 27 = .ok (.newarray .int, 2) := by decide +kernel
theorem dX1_init_29 : decode cX1_init 29 = .ok (.putfield 20, 3) := by decide +kernel
theorem dX1_init_32 : decode cX1_init 32 = .ok (.aload_n 0, 1) := by decide +kernel
theorem dX1_init_33 : decode cX1_init 33 = .ok (.aload_n 1, 1) := by decide +kernel
theorem dX1_init_34 : decode cX1_init 34 = .ok (.putfield 23, 3) := by decide +kernel
theorem dX1_init_37 : decode cX1_init 37 = .ok (.aload_n 0, 1) := by decide +kernel
theorem dX1_init_38 : decode cX1_init 38 = .ok (.aload_n 2, 1) := by decide +kernel
theorem dX1_init_39 : decode cX1_init 39 = .ok (.putfield 27, 3) := by decide +kernel
theorem dX1_init_42 : decode cX1_init 42 = .ok (.return_, 1) := by decide +kernel
theorem dX2_init_0 : decode cX2_init 0 = .ok (.aload_n 0, 1) := by decide +kernel
theorem dX2_init_1 : decode cX2_init 1 = .ok (.invokespecial 3, 3) := by decide +kernel
theorem dX2_init_4 : decode cX2_init 4 = .ok (.aload_n 0, 1) := by decide +kernel
theorem dX2_init_5 : decode cX2_init 5 = .ok (.new 9, 3) := by decide +kernel
theorem dX2_init_8 : decode cX2_init 8 = .ok (.dup, 1) := by decide +kernel
theorem dX2_init_9 : decode cX2_init 9 = .ok (.invokespecial 11, 3) := by decide +kernel
theorem dX2_init_12 : decode cX2_init 12 = .ok (.putfield 12, 3) := by decide +kernel
theorem dX2_init_15 : decode cX2_init 15 = .ok (.return_, 1) := by decide +kernel
theorem dX2_read_0 : decode cX2_read 0 = .ok (.aload_n 0, 1) := by decide +kernel
theorem dX2_read_1 : decode cX2_read 1 = .ok (.aload_n 1, 1) := by decide +kernel
theorem dX2_read_2 : decode cX2_read 2 = .ok (.iload_n 2, 1) := by decide +kernel
theorem dX2_read_3 : decode cX2_read 3 = .ok (.invokevirtual 18, 3) := by decide +kernel
theorem dX2_read_6 : decode cX2_read 6 = .ok (.aload_n 0, 1) := by decide +kernel
theorem dX2_read_7 : decode cX2_read 7 = .ok (.getfield 12, 3) := by decide +kernel
theorem dX2_read_10 : decode cX2_read 10 = .ok (.invokevirtual 22, 3) := by decide +kernel
theorem dX2_read_13 : decode cX2_read 13 = .ok (.aload_n 0, 1) := by decide +kernel
theorem dX2_read_14 : decode cX2_read 14 = .ok (.iconst 0, 1) := by decide +kernel
theorem dX2_read_15 : decode cX2_read 15 = .ok (.putfield 25, 3) := by decide +kernel
theorem dX2_read_18 : decode cX2_read 18 = .ok (.iconst 1, 1) := by decide +kernel
theorem dX2_read_19 : decode cX2_read 19 = .ok (.istore_n 3, 1) := by decide +kernel
theorem dX2_read_20 : decode cX2_read 20 = .ok (.iconst 0, 1) := by decide +kernel
theorem dX2_read_21 : decode cX2_read 21 = .ok (.istore 4, 2) := by decide +kernel
theorem dX2_read_23 : decode cX2_read 23 = .ok (.iload_n 3, 1) := by decide +kernel
theorem dX2_read_24 : decode cX2_read 24 = .ok (.ifCond .eq 27, 3) := by decide +kernel
theorem dX2_read_27 : decode cX2_read 27 = .ok (.iload 4, 2) := by decide +kernel
theorem dX2_read_29 : decode cX2_read 29 = .ok (.bipush 16, 2) := by decide +kernel
theorem dX2_read_31 : decode cX2_read 31 = .ok (.if_icmp .gt 20, 3) := by decide +kernel
theorem dX2_read_34 : decode cX2_read 34 = .ok (.aload_n 0, 1) := by decide +kernel
theorem dX2_read_35 : decode cX2_read 35 = .ok (.iload 4, 2) := by decide +kernel
theorem dX2_read_37 : decode cX2_read 37 = .ok (.invokevirtual 29, 3) := by decide +kernel
theorem dX2_read_40 : decode cX2_read 40 = .ok (.aload_n 0, 1) := by decide +kernel
theorem dX2_read_41 : decode cX2_read 41 = .ok (.invokevirtual 33, 3) := by decide +kernel
theorem dX2_read_44 : decode cX2_read 44 = .ok (.istore_n 3, 1) := by decide +kernel
theorem dX2_read_45 : decode cX2_read 45 = .ok (.iinc 4 1, 3) := by decide +kernel
theorem dX2_read_48 : decode cX2_read 48 = .ok (.goto (-25), 3) := by decide +kernel
theorem dX2_read_51 : decode cX2_read 51 = .ok (.aload_n 0, 1) := by decide +kernel
theorem dX2_read_52 : decode cX2_read 52 = .ok (.getfield 12, 3) := by decide +kernel
theorem dX2_read_55 : decode cX2_read 55 = .ok (.iconst 1, 1) := by decide +kernel
theorem dX2_read_56 : decode cX2_read 56 = .ok (.aload_n 0, 1) := by decide +kernel
theorem dX2_read_57 : decode cX2_read 57 = .ok (.getfield 12, 3) := by decide +kernel
theorem dX2_read_60 : decode cX2_read 60 = .ok (.getfield 37, 3) := by decide +kernel
theorem dX2_read_63 : decode cX2_read 63 = .ok (.ishl, 1) := by decide +kernel
theorem dX2_read_64 : decode cX2_read 64 = .ok (.iconst 1, 1) := by decide +kernel
theorem dX2_read_65 : decode cX2_read 65 = .ok (.isub, 1) := by decide +kernel
theorem dX2_read_66 : decode cX2_read 66 = .ok (.putfield 41, 3) := by decide +kernel
theorem dX2_read_69 : decode cX2_read 69 = .ok (.aload_n 0, 1) := by decide +kernel
theorem dX2_read_70 : decode cX2_read 70 = .ok (.getfield 44, 3) := by decide +kernel
theorem dX2_read_73 : decode cX2_read 73 = .ok (.ireturn, 1) := by decide +kernel
theorem dX2_readClause_0 : decode cX2_readClause 0 = .ok (.aload_n 0, 1) := by decide +kernel
theorem dX2_readClause_1 : decode cX2_readClause 1 = .ok (.invokevirtual 47, 3) := by decide +kernel
theorem dX2_readClause_4 : decode cX2_readClause 4 = .ok (.pop, 1) := by decide +kernel
theorem dX2_readClause_5 : decode cX2_readClause 5 = .ok (.aload_n 0, 1) := by decide +kernel
theorem dX2_readClause_6 : decode cX2_readClause 6 = .ok (.ldc 51, 2) := by decide +kernel
theorem dX2_readClause_8 : decode cX2_readClause 8 = .ok (.invokevirtual 53, 3) := by decide +kernel
theorem dX2_readClause_11 : decode cX2_readClause 11 = .ok (.istore_n 2, 1) := by decide +kernel
theorem dX2_readClause_12 : decode cX2_readClause 12 = .ok (.iload_n 2, 1) := by decide +kernel
theorem dX2_readClause_13 : decode cX2_readClause 13 = .ok (.iconst (-1), 1) := by decide +kernel
theorem dX2_readClause_14 : decode cX2_readClause 14 = .ok (.if_icmp .ne 15, 3) := by decide +kernel
theorem dX2_readClause_17 : decode cX2_readClause 17 = .ok (.aload_n 0, 1) := by decide +kernel
theorem dX2_readClause_18 : decode cX2_readClause 18 = .ok (.aload_n 0, 1) := by decide +kernel
theorem dX2_readClause_19 : decode cX2_readClause 19 = .ok (.getfield 57, 3) := by decide +kernel
theorem dX2_readClause_22 : decode cX2_readClause 22 = .ok (.iconst 0, 1) := by decide +kernel
theorem dX2_readClause_23 : decode cX2_readClause 23 = .ok (.invokevirtual 60, 3) := by decide +kernel
theorem dX2_readClause_26 : decode cX2_readClause 26 = .ok (.goto 47, 3) := by decide +kernel
theorem dX2_readClause_73 : decode cX2_readClause 73 = .ok (.return_, 1) := by decide +kernel
theorem dX3_init_0 : decode cX3_init 0 = .ok (.aload_n 0, 1) := by decide +kernel
theorem dX3_init_1 : decode cX3_init 1 = .ok (.invokespecial 3, 3) := by decide +kernel
theorem dX3_init_4 : decode cX3_init 4 = .ok (.aload_n 0, 1) := by decide +kernel
theorem dX3_init_5 : decode cX3_init 5 = .ok (.bipush 10, 2) := by decide +kernel
theorem dX3_init_7 : decode cX3_init 7 = .ok (.newarray .int, 2) := by decide +kernel
theorem dX3_init_9 : decode cX3_init 9 = .ok (.putfield 9, 3) := by decide +kernel
theorem dX3_init_12 : decode cX3_init 12 = .ok (.aload_n 0, 1) := by decide +kernel
theorem dX3_init_13 : decode cX3_init 13 = .ok (.sipush 3010, 3) := by decide +kernel
theorem dX3_init_16 : decode cX3_init 16 = .ok (.newarray .int, 2) := by decide +kernel
theorem dX3_init_18 : decode cX3_init 18 = .ok (.putfield 15, 3) := by decide +kernel
theorem dX3_init_21 : decode cX3_init 21 = .ok (.aload_n 0, 1) := by decide +kernel
theorem dX3_init_22 : decode cX3_init 22 = .ok (.bipush 10, 2) := by decide +kernel
theorem dX3_init_24 : decode cX3_init 24 = .ok (.newarray .int, 2) := by decide +kernel
theorem dX3_init_26 : decode cX3_init 26 = .ok (.putfield 18, 3) := by decide +kernel
theorem dX3_init_29 : decode cX3_init 29 = .ok (.aload_n 0, 1) := by decide +kernel
theorem dX3_init_30 : decode cX3_init 30 = .ok (.aload_n 1, 1) := by decide +kernel
theorem dX3_init_31 : decode cX3_init 31 = .ok (.putfield 21, 3) := by decide +kernel
theorem dX3_init_34 : decode cX3_init 34 = .ok (.aload_n 0, 1) := by decide +kernel
theorem dX3_init_35 : decode cX3_init 35 = .ok (.aload_n 2, 1) := by decide +kernel
theorem dX3_init_36 : decode cX3_init 36 = .ok (.putfield 25, 3) := by decide +kernel
theorem dX3_init_39 : decode cX3_init 39 = .ok (.return_, 1) := by decide +kernel
theorem dX4_init_0 : decode cX4_init 0 = .ok (.aload_n 0, 1) := by decide +kernel
theorem dX4_init_1 : decode cX4_init 1 = .ok (.invokespecial 3, 3) := by decide +kernel
theorem dX4_init_4 : decode cX4_init 4 = .ok (.aload_n 0, 1) := by decide +kernel
theorem dX4_init_5 : decode cX4_init 5 = .ok (.iconst 5, 1) := by decide +kernel
theorem dX4_init_6 : decode cX4_init 6 = .ok (.bipush 10, 2) := by decide +kernel
theorem dX4_init_8 : decode cX4_init 8 = .ok (.multianewarray 11 2, 4) := by decide +kernel
theorem dX4_init_12 : decode cX4_init 12 = .ok (.putfield 13, 3) := by decide +kernel
theorem dX4_init_15 : decode cX4_init 15 = .ok (.aload_n 0, 1) := by decide +kernel
theorem dX4_init_16 : decode cX4_init 16 = .ok (.iconst 4, 1) := by decide +kernel
theorem dX4_init_17 : decode cX4_init 17 = .ok (.newarray .int, 2) := by decide +kernel
theorem dX4_init_19 : decode cX4_init 19 = .ok (.putfield 16, 3) := by decide +kernel
theorem dX4_init_22 : decode cX4_init 22 = .ok (.aload_n 0, 1) := by decide +kernel
theorem dX4_init_23 : decode cX4_init 23 = .ok (.aload_n 1, 1) := by decide +kernel
theorem dX4_init_24 : decode cX4_init 24 = .ok (.putfield 20, 3) := by decide +kernel
theorem dX4_init_27 : decode cX4_init 27 = .ok (.aload_n 0, 1) := by decide +kernel
theorem dX4_init_28 : decode cX4_init 28 = .ok (.aload_n 2, 1) := by decide +kernel
theorem dX4_init_29 : decode cX4_init 29 = .ok (.putfield 24, 3) := by decide +kernel
theorem dX4_init_32 : decode cX4_init 32 = .ok (.return_, 1) := by decide +kernel
theorem dX5_init_0 : decode cX5_init 0 = .ok (.aload_n 0, 1) := by decide +kernel
theorem dX5_init_1 : decode cX5_init 1 = .ok (.invokespecial 3, 3) := by decide +kernel
theorem dX5_init_4 : decode cX5_init 4 = .ok (.aload_n 0, 1) := by decide +kernel
theorem dX5_init_5 : decode cX5_init 5 = .ok (.aload_n 1, 1) := by decide +kernel
theorem dX5_init_6 : decode cX5_init 6 = .ok (.putfield 9, 3) := by decide +kernel
theorem dX5_init_9 : decode cX5_init 9 = .ok (.aload_n 0, 1) := by decide +kernel
theorem dX5_init_10 : decode cX5_init 10 = .ok (.aload_n 2, 1) := by decide +kernel
theorem dX5_init_11 : decode cX5_init 11 = .ok (.putfield 15, 3) := by decide +kernel
theorem dX5_init_14 : decode cX5_init 14 = .ok (.aload_n 0, 1) := by decide +kernel
theorem dX5_init_15 : decode cX5_init 15 = .ok (.aload_n 1, 1) := by decide +kernel
theorem dX5_init_16 : decode cX5_init 16 = .ok (.getfield 19, 3) := by decide +kernel
theorem dX5_init_19 : decode cX5_init 19 = .ok (.putfield 25, 3) := by decide +kernel
theorem dX5_init_22 : decode cX5_init 22 = .ok (.aload_n 0, 1) := by decide +kernel
theorem dX5_init_23 : decode cX5_init 23 = .ok (.aload_n 1, 1) := by decide +kernel
theorem dX5_init_24 : decode cX5_init 24 = .ok (.getfield 26, 3) := by decide +kernel
theorem dX5_init_27 : decode cX5_init 27 = .ok (.putfield 29, 3) := by decide +kernel
theorem dX5_init_30 : decode cX5_init 30 = .ok (.return_, 1) := by decide +kernel
theorem dX6_init_0 : decode cX6_init 0 = .ok (.aload_n 0, 1) := by decide +kernel
theorem dX6_init_1 : decode cX6_init 1 = .ok (.invokespecial 3, 3) := by decide +kernel
theorem dX6_init_4 : decode cX6_init 4 = .ok (.aload_n 0, 1) := by decide +kernel
theorem dX6_init_5 : decode cX6_init 5 = .ok (.iconst 4, 1) := by decide +kernel
theorem dX6_init_6 : decode cX6_init 6 = .ok (.bipush 10, 2) := by decide +kernel
theorem dX6_init_8 : decode cX6_init 8 = .ok (.multianewarray 11 2, 4) := by decide +kernel
theorem dX6_init_12 : decode cX6_init 12 = .ok (.putfield 13, 3) := by decide +kernel
theorem dX6_init_15 : decode cX6_init 15 = .ok (.aload_n 0, 1) := by decide +kernel
theorem dX6_init_16 : decode cX6_init 16 = .ok (.bipush 27, 2) := by decide +kernel
theorem dX6_init_18 : decode cX6_init 18 = .ok (.newarray .int, 2) := by decide +kernel
theorem dX6_init_20 : decode cX6_init 20 = .ok (.putfield 16, 3) := by decide +kernel
theorem dX6_init_23 : decode cX6_init 23 = .ok (.aload_n 0, 1) := by decide +kernel
theorem dX6_init_24 : decode cX6_init 24 = .ok (.bipush 27, 2) := by decide +kernel
theorem dX6_init_26 : decode cX6_init 26 = .ok (.newarray .int, 2) := by decide +kernel
theorem dX6_init_28 : decode cX6_init 28 = .ok (.putfield 20, 3) := by decide +kernel
theorem dX6_init_31 : decode cX6_init 31 = .ok (.aload_n 0, 1) := by decide +kernel
theorem dX6_init_32 : decode cX6_init 32 = .ok (.bipush 108, 2) := by decide +kernel
theorem dX6_init_34 : decode cX6_init 34 = .ok (.newarray .int, 2) := by decide +kernel
theorem dX6_init_36 : decode cX6_init 36 = .ok (.putfield 23, 3) := by decide +kernel
theorem dX6_init_39 : decode cX6_init 39 = .ok (.aload_n 0, 1) := by decide +kernel
theorem dX6_init_40 : decode cX6_init 40 = .ok (.iconst 4, 1) := by decide +kernel
theorem dX6_init_41 : decode cX6_init 41 = .ok (.newarray .int, 2) := by decide +kernel
theorem dX6_init_43 : decode cX6_init 43 = .ok (.putfield 26, 3) := by decide +kernel
theorem dX6_init_46 : decode cX6_init 46 = .ok (.aload_n 0, 1) := by decide +kernel
theorem dX6_init_47 : decode cX6_init 47 = .ok (.iconst 4, 1) := by decide +kernel
theorem dX6_init_48 : decode cX6_init 48 = .ok (.newarray .int, 2) := by decide +kernel
theorem dX6_init_50 : decode cX6_init 50 = .ok (.putfield 29, 3) := by decide +kernel
theorem dX6_init_53 : decode cX6_init 53 = .ok (.aload_n 0, 1) := by decide +kernel
theorem dX6_init_54 : decode cX6_init 54 = .ok (.sipush 6144, 3) := by decide +kernel
theorem dX6_init_57 : decode cX6_init 57 = .ok (.newarray .long, 2) := by decide +kernel
theorem dX6_init_59 : decode cX6_init 59 = .ok (.putfield 32, 3) := by decide +kernel
theorem dX6_init_62 : decode cX6_init 62 = .ok (.aload_n 0, 1) := by decide +kernel
theorem dX6_init_63 : decode cX6_init 63 = .ok (.sipush 2048, 3) := by decide +kernel
theorem dX6_init_66 : decode cX6_init 66 = .ok (.newarray .int, 2) := by decide +kernel
theorem dX6_init_68 : decode cX6_init 68 = .ok (.putfield 36, 3) := by decide +kernel
theorem dX6_init_71 : decode cX6_init 71 = .ok (.aload_n 0, 1) := by decide +kernel
theorem dX6_init_72 : decode cX6_init 72 = .ok (.aload_n 1, 1) := by decide +kernel
theorem dX6_init_73 : decode cX6_init 73 = .ok (.putfield 39, 3) := by decide +kernel
theorem dX6_init_76 : decode cX6_init 76 = .ok (.aload_n 0, 1) := by decide +kernel
theorem dX6_init_77 : decode cX6_init 77 = .ok (.aload_n 2, 1) := by decide +kernel
theorem dX6_init_78 : decode cX6_init 78 = .ok (.putfield 43, 3) := by decide +kernel
theorem dX6_init_81 : decode cX6_init 81 = .ok (.return_, 1) := by decide +kernel
theorem dX8_init_0 : decode cX8_init 0 = .ok (.aload_n 0, 1) := by decide +kernel
theorem dX8_init_1 : decode cX8_init 1 = .ok (.invokespecial 3, 3) := by decide +kernel
theorem dX8_init_4 : decode cX8_init 4 = .ok (.aload_n 0, 1) := by decide +kernel
theorem dX8_init_5 : decode cX8_init 5 = .ok (.sipush 400, 3) := by decide +kernel
theorem dX8_init_8 : decode cX8_init 8 = .ok (.newarray .int, 2) := by decide +kernel
theorem dX8_init_10 : decode cX8_init 10 = .ok (.putfield 9, 3) := by decide +kernel
theorem dX8_init_13 : decode cX8_init 13 = .ok (.return_, 1) := by decide +kernel
theorem dX8_read_0 : decode cX8_read 0 = .ok (.aload_n 0, 1) := by decide +kernel
theorem dX8_read_1 : decode cX8_read 1 = .ok (.aload_n 1, 1) := by decide +kernel
theorem dX8_read_2 : decode cX8_read 2 = .ok (.iload_n 2, 1) := by decide +kernel
theorem dX8_read_3 : decode cX8_read 3 = .ok (.invokevirtual 15, 3) := by decide +kernel
theorem dX8_read_6 : decode cX8_read 6 = .ok (.aload_n 0, 1) := by decide +kernel
theorem dX8_read_7 : decode cX8_read 7 = .ok (.iconst 0, 1) := by decide +kernel
theorem dX8_read_8 : decode cX8_read 8 = .ok (.putfield 19, 3) := by decide +kernel
theorem dX8_read_11 : decode cX8_read 11 = .ok (.aload_n 0, 1) := by decide +kernel
theorem dX8_read_12 : decode cX8_read 12 = .ok (.iconst 0, 1) := by decide +kernel
theorem dX8_read_13 : decode cX8_read 13 = .ok (.putfield 23, 3) := by decide +kernel
theorem dX8_read_16 : decode cX8_read 16 = .ok (.iconst 1, 1) := by decide +kernel
theorem dX8_read_17 : decode cX8_read 17 = .ok (.istore_n 3, 1) := by decide +kernel
theorem dX8_read_18 : decode cX8_read 18 = .ok (.iconst 0, 1) := by decide +kernel
theorem dX8_read_19 : decode cX8_read 19 = .ok (.istore 4, 2) := by decide +kernel
theorem dX8_read_21 : decode cX8_read 21 = .ok (.iload_n 3, 1) := by decide +kernel
theorem dX8_read_22 : decode cX8_read 22 = .ok (.ifCond .eq 129, 3) := by decide +kernel
theorem dX8_read_25 : decode cX8_read 25 = .ok (.iload 4, 2) := by decide +kernel
theorem dX8_read_27 : decode cX8_read 27 = .ok (.bipush 12, 2) := by decide +kernel
theorem dX8_read_29 : decode cX8_read 29 = .ok (.if_icmp .gt 122, 3) := by decide +kernel
theorem dX8_read_32 : decode cX8_read 32 = .ok (.aload_n 0, 1) := by decide +kernel
theorem dX8_read_33 : decode cX8_read 33 = .ok (.invokevirtual 26, 3) := by decide +kernel
theorem dX8_read_36 : decode cX8_read 36 = .ok (.pop, 1) := by decide +kernel
theorem dX8_read_37 : decode cX8_read 37 = .ok (.aload_n 0, 1) := by decide +kernel
theorem dX8_read_38 : decode cX8_read 38 = .ok (.ldc 30, 2) := by decide +kernel
theorem dX8_read_40 : decode cX8_read 40 = .ok (.invokevirtual 32, 3) := by decide +kernel
theorem dX8_read_43 : decode cX8_read 43 = .ok (.istore 5, 2) := by decide +kernel
theorem dX8_read_45 : decode cX8_read 45 = .ok (.iload 5, 2) := by decide +kernel
theorem dX8_read_47 : decode cX8_read 47 = .ok (.iconst (-1), 1) := by decide +kernel
theorem dX8_read_48 : decode cX8_read 48 = .ok (.if_icmp .ne 15, 3) := by decide +kernel
theorem dX8_read_51 : decode cX8_read 51 = .ok (.aload_n 0, 1) := by decide +kernel
theorem dX8_read_52 : decode cX8_read 52 = .ok (.aload_n 0, 1) := by decide +kernel
theorem dX8_read_53 : decode cX8_read 53 = .ok (.getfield 36, 3) := by decide +kernel
theorem dX8_read_56 : decode cX8_read 56 = .ok (.iconst 0, 1) := by decide +kernel
theorem dX8_read_57 : decode cX8_read 57 = .ok (.invokevirtual 39, 3) := by decide +kernel
theorem dX8_read_60 : decode cX8_read 60 = .ok (.goto 80, 3) := by decide +kernel
theorem dX8_read_140 : decode cX8_read 140 = .ok (.aload_n 0, 1) := by decide +kernel
theorem dX8_read_141 : decode cX8_read 141 = .ok (.invokevirtual 61, 3) := by decide +kernel
theorem dX8_read_144 : decode cX8_read 144 = .ok (.istore_n 3, 1) := by decide +kernel
theorem dX8_read_145 : decode cX8_read 145 = .ok (.iinc 4 1, 3) := by decide +kernel
theorem dX8_read_148 : decode cX8_read 148 = .ok (.goto (-127), 3) := by decide +kernel
theorem dX8_read_151 : decode cX8_read 151 = .ok (.aload_n 0, 1) := by decide +kernel
theorem dX8_read_152 : decode cX8_read 152 = .ok (.getfield 65, 3) := by decide +kernel
theorem dX8_read_155 : decode cX8_read 155 = .ok (.ireturn, 1) := by decide +kernel
theorem dX9_hasCouncil_0 : decode cX9_hasCouncil 0 = .ok (.aload_n 0, 1) := by decide +kernel
theorem dX9_hasCouncil_1 : decode cX9_hasCouncil 1 = .ok (.getfield 33, 3) := by decide +kernel
theorem dX9_hasCouncil_4 : decode cX9_hasCouncil 4 = .ok (.ifCond .le 7, 3) := by decide +kernel
theorem dX9_hasCouncil_11 : decode cX9_hasCouncil 11 = .ok (.iconst 0, 1) := by decide +kernel
theorem dX9_hasCouncil_12 : decode cX9_hasCouncil 12 = .ok (.ireturn, 1) := by decide +kernel
theorem dX9_hasMember_0 : decode cX9_hasMember 0 = .ok (.iload_n 1, 1) := by decide +kernel
theorem dX9_hasMember_1 : decode cX9_hasMember 1 = .ok (.ifCond .lt 15, 3) := by decide +kernel
theorem dX9_hasMember_4 : decode cX9_hasMember 4 = .ok (.iload_n 1, 1) := by decide +kernel
theorem dX9_hasMember_5 : decode cX9_hasMember 5 = .ok (.aload_n 0, 1) := by decide +kernel
theorem dX9_hasMember_6 : decode cX9_hasMember 6 = .ok (.getfield 33, 3) := by decide +kernel
theorem dX9_hasMember_9 : decode cX9_hasMember 9 = .ok (.if_icmp .ge 7, 3) := by decide +kernel
theorem dX9_hasMember_16 : decode cX9_hasMember 16 = .ok (.iconst 0, 1) := by decide +kernel
theorem dX9_hasMember_17 : decode cX9_hasMember 17 = .ok (.ireturn, 1) := by decide +kernel
theorem dX9_hasPlace_0 : decode cX9_hasPlace 0 = .ok (.iload_n 1, 1) := by decide +kernel
theorem dX9_hasPlace_1 : decode cX9_hasPlace 1 = .ok (.ifCond .lt 15, 3) := by decide +kernel
theorem dX9_hasPlace_4 : decode cX9_hasPlace 4 = .ok (.iload_n 1, 1) := by decide +kernel
theorem dX9_hasPlace_5 : decode cX9_hasPlace 5 = .ok (.aload_n 0, 1) := by decide +kernel
theorem dX9_hasPlace_6 : decode cX9_hasPlace 6 = .ok (.getfield 52, 3) := by decide +kernel
theorem dX9_hasPlace_9 : decode cX9_hasPlace 9 = .ok (.if_icmp .ge 7, 3) := by decide +kernel
theorem dX9_hasPlace_16 : decode cX9_hasPlace 16 = .ok (.iconst 0, 1) := by decide +kernel
theorem dX9_hasPlace_17 : decode cX9_hasPlace 17 = .ok (.ireturn, 1) := by decide +kernel
theorem dX9_hasPoint_0 : decode cX9_hasPoint 0 = .ok (.iload_n 1, 1) := by decide +kernel
theorem dX9_hasPoint_1 : decode cX9_hasPoint 1 = .ok (.ifCond .lt 15, 3) := by decide +kernel
theorem dX9_hasPoint_4 : decode cX9_hasPoint 4 = .ok (.iload_n 1, 1) := by decide +kernel
theorem dX9_hasPoint_5 : decode cX9_hasPoint 5 = .ok (.aload_n 0, 1) := by decide +kernel
theorem dX9_hasPoint_6 : decode cX9_hasPoint 6 = .ok (.getfield 37, 3) := by decide +kernel
theorem dX9_hasPoint_9 : decode cX9_hasPoint 9 = .ok (.if_icmp .ge 7, 3) := by decide +kernel
theorem dX9_hasPoint_16 : decode cX9_hasPoint 16 = .ok (.iconst 0, 1) := by decide +kernel
theorem dX9_hasPoint_17 : decode cX9_hasPoint 17 = .ok (.ireturn, 1) := by decide +kernel
theorem dX9_hasSet_0 : decode cX9_hasSet 0 = .ok (.aload_n 0, 1) := by decide +kernel
theorem dX9_hasSet_1 : decode cX9_hasSet 1 = .ok (.getfield 33, 3) := by decide +kernel
theorem dX9_hasSet_4 : decode cX9_hasSet 4 = .ok (.ifCond .le 21, 3) := by decide +kernel
theorem dX9_hasSet_25 : decode cX9_hasSet 25 = .ok (.iconst 0, 1) := by decide +kernel
theorem dX9_hasSet_26 : decode cX9_hasSet 26 = .ok (.ireturn, 1) := by decide +kernel
theorem dX9_init_0 : decode cX9_init 0 = .ok (.aload_n 0, 1) := by decide +kernel
theorem dX9_init_1 : decode cX9_init 1 = .ok (.invokespecial 3, 3) := by decide +kernel
theorem dX9_init_4 : decode cX9_init 4 = .ok (.aload_n 0, 1) := by decide +kernel
theorem dX9_init_5 : decode cX9_init 5 = .ok (.bipush 120, 2) := by decide +kernel
theorem dX9_init_7 : decode cX9_init 7 = .ok (.newarray .int, 2) := by decide +kernel
theorem dX9_init_9 : decode cX9_init 9 = .ok (.putfield 9, 3) := by decide +kernel
theorem dX9_init_12 : decode cX9_init 12 = .ok (.aload_n 0, 1) := by decide +kernel
theorem dX9_init_13 : decode cX9_init 13 = .ok (.bipush 10, 2) := by decide +kernel
theorem dX9_init_15 : decode cX9_init 15 = .ok (.newarray .int, 2) := by decide +kernel
theorem dX9_init_17 : decode cX9_init 17 = .ok (.putfield 15, 3) := by decide +kernel
theorem dX9_init_20 : decode cX9_init 20 = .ok (.aload_n 0, 1) := by decide +kernel
theorem dX9_init_21 : decode cX9_init 21 = .ok (.bipush 10, 2) := by decide +kernel
theorem dX9_init_23 : decode cX9_init 23 = .ok (.newarray .int, 2) := by decide +kernel
theorem dX9_init_25 : decode cX9_init 25 = .ok (.putfield 18, 3) := by decide +kernel
theorem dX9_init_28 : decode cX9_init 28 = .ok (.aload_n 0, 1) := by decide +kernel
theorem dX9_init_29 : decode cX9_init 29 = .ok (.bipush 10, 2) := by decide +kernel
theorem dX9_init_31 : decode cX9_init 31 = .ok (.newarray .int, 2) := by decide +kernel
theorem dX9_init_33 : decode cX9_init 33 = .ok (.putfield 21, 3) := by decide +kernel
theorem dX9_init_36 : decode cX9_init 36 = .ok (.aload_n 0, 1) := by decide +kernel
theorem dX9_init_37 : decode cX9_init 37 = .ok (.bipush 10, 2) := by decide +kernel
theorem dX9_init_39 : decode cX9_init 39 = .ok (.newarray .int, 2) := by decide +kernel
theorem dX9_init_41 : decode cX9_init 41 = .ok (.putfield 24, 3) := by decide +kernel
theorem dX9_init_44 : decode cX9_init 44 = .ok (.aload_n 0, 1) := by decide +kernel
theorem dX9_init_45 : decode cX9_init 45 = .ok (.bipush 8, 2) := by decide +kernel
theorem dX9_init_47 : decode cX9_init 47 = .ok (.newarray .int, 2) := by decide +kernel
theorem dX9_init_49 : decode cX9_init 49 = .ok (.putfield 27, 3) := by decide +kernel
theorem dX9_init_52 : decode cX9_init 52 = .ok (.aload_n 0, 1) := by decide +kernel
theorem dX9_init_53 : decode cX9_init 53 = .ok (.bipush 48, 2) := by decide +kernel
theorem dX9_init_55 : decode cX9_init 55 = .ok (.newarray .int, 2) := by decide +kernel
theorem dX9_init_57 : decode cX9_init 57 = .ok (.putfield 30, 3) := by decide +kernel
theorem dX9_init_60 : decode cX9_init 60 = .ok (.return_, 1) := by decide +kernel
theorem dX9_isSide_0 : decode cX9_isSide 0 = .ok (.iload_n 1, 1) := by decide +kernel
theorem dX9_isSide_1 : decode cX9_isSide 1 = .ok (.ifCond .le 26, 3) := by decide +kernel
theorem dX9_isSide_4 : decode cX9_isSide 4 = .ok (.aload_n 0, 1) := by decide +kernel
theorem dX9_isSide_5 : decode cX9_isSide 5 = .ok (.iload_n 1, 1) := by decide +kernel
theorem dX9_isSide_6 : decode cX9_isSide 6 = .ok (.invokevirtual 67, 3) := by decide +kernel
theorem dX9_isSide_9 : decode cX9_isSide 9 = .ok (.ifCond .eq 18, 3) := by decide +kernel
theorem dX9_isSide_27 : decode cX9_isSide 27 = .ok (.iconst 0, 1) := by decide +kernel
theorem dX9_isSide_28 : decode cX9_isSide 28 = .ok (.ireturn, 1) := by decide +kernel
theorem dX9_makeFresh_0 : decode cX9_makeFresh 0 = .ok (.aload_n 0, 1) := by decide +kernel
theorem dX9_makeFresh_1 : decode cX9_makeFresh 1 = .ok (.iconst 0, 1) := by decide +kernel
theorem dX9_makeFresh_2 : decode cX9_makeFresh 2 = .ok (.putfield 33, 3) := by decide +kernel
theorem dX9_makeFresh_5 : decode cX9_makeFresh 5 = .ok (.aload_n 0, 1) := by decide +kernel
theorem dX9_makeFresh_6 : decode cX9_makeFresh 6 = .ok (.iconst 0, 1) := by decide +kernel
theorem dX9_makeFresh_7 : decode cX9_makeFresh 7 = .ok (.putfield 37, 3) := by decide +kernel
theorem dX9_makeFresh_10 : decode cX9_makeFresh 10 = .ok (.aload_n 0, 1) := by decide +kernel
theorem dX9_makeFresh_11 : decode cX9_makeFresh 11 = .ok (.iconst 0, 1) := by decide +kernel
theorem dX9_makeFresh_12 : decode cX9_makeFresh 12 = .ok (.putfield 40, 3) := by decide +kernel
theorem dX9_makeFresh_15 : decode cX9_makeFresh 15 = .ok (.aload_n 0, 1) := by decide +kernel
theorem dX9_makeFresh_16 : decode cX9_makeFresh 16 = .ok (.iconst 0, 1) := by decide +kernel
theorem dX9_makeFresh_17 : decode cX9_makeFresh 17 = .ok (.putfield 43, 3) := by decide +kernel
theorem dX9_makeFresh_20 : decode cX9_makeFresh 20 = .ok (.aload_n 0, 1) := by decide +kernel
theorem dX9_makeFresh_21 : decode cX9_makeFresh 21 = .ok (.iconst 0, 1) := by decide +kernel
theorem dX9_makeFresh_22 : decode cX9_makeFresh 22 = .ok (.putfield 46, 3) := by decide +kernel
theorem dX9_makeFresh_25 : decode cX9_makeFresh 25 = .ok (.aload_n 0, 1) := by decide +kernel
theorem dX9_makeFresh_26 : decode cX9_makeFresh 26 = .ok (.sipush 9999, 3) := by decide +kernel
theorem dX9_makeFresh_29 : decode cX9_makeFresh 29 = .ok (.putfield 49, 3) := by decide +kernel
theorem dX9_makeFresh_32 : decode cX9_makeFresh 32 = .ok (.aload_n 0, 1) := by decide +kernel
theorem dX9_makeFresh_33 : decode cX9_makeFresh 33 = .ok (.iconst 0, 1) := by decide +kernel
theorem dX9_makeFresh_34 : decode cX9_makeFresh 34 = .ok (.putfield 52, 3) := by decide +kernel
theorem dX9_makeFresh_37 : decode cX9_makeFresh 37 = .ok (.aload_n 0, 1) := by decide +kernel
theorem dX9_makeFresh_38 : decode cX9_makeFresh 38 = .ok (.iconst 0, 1) := by decide +kernel
theorem dX9_makeFresh_39 : decode cX9_makeFresh 39 = .ok (.putfield 55, 3) := by decide +kernel
theorem dX9_makeFresh_42 : decode cX9_makeFresh 42 = .ok (.iconst 0, 1) := by decide +kernel
theorem dX9_makeFresh_43 : decode cX9_makeFresh 43 = .ok (.istore_n 1, 1) := by decide +kernel
theorem dX9_makeFresh_44 : decode cX9_makeFresh 44 = .ok (.iload_n 1, 1) := by decide +kernel
theorem dX9_makeFresh_45 : decode cX9_makeFresh 45 = .ok (.bipush 10, 2) := by decide +kernel
theorem dX9_makeFresh_47 : decode cX9_makeFresh 47 = .ok (.if_icmp .ge 37, 3) := by decide +kernel
theorem dX9_makeFresh_50 : decode cX9_makeFresh 50 = .ok (.aload_n 0, 1) := by decide +kernel
theorem dX9_makeFresh_51 : decode cX9_makeFresh 51 = .ok (.getfield 15, 3) := by decide +kernel
theorem dX9_makeFresh_54 : decode cX9_makeFresh 54 = .ok (.iload_n 1, 1) := by decide +kernel
theorem dX9_makeFresh_55 : decode cX9_makeFresh 55 = .ok (.iconst 1, 1) := by decide +kernel
theorem dX9_makeFresh_56 : decode cX9_makeFresh 56 = .ok (.iastore, 1) := by decide +kernel
theorem dX9_makeFresh_57 : decode cX9_makeFresh 57 = .ok (.aload_n 0, 1) := by decide +kernel
theorem dX9_makeFresh_58 : decode cX9_makeFresh 58 = .ok (.getfield 18, 3) := by decide +kernel
theorem dX9_makeFresh_61 : decode cX9_makeFresh 61 = .ok (.iload_n 1, 1) := by decide +kernel
theorem dX9_makeFresh_62 : decode cX9_makeFresh 62 = .ok (.iconst (-1), 1) := by decide +kernel
theorem dX9_makeFresh_63 : decode cX9_makeFresh 63 = .ok (.iastore, 1) := by decide +kernel
theorem dX9_makeFresh_64 : decode cX9_makeFresh 64 = .ok (.aload_n 0, 1) := by decide +kernel
theorem dX9_makeFresh_65 : decode cX9_makeFresh 65 = .ok (.getfield 21, 3) := by decide +kernel
theorem dX9_makeFresh_68 : decode cX9_makeFresh 68 = .ok (.iload_n 1, 1) := by decide +kernel
theorem dX9_makeFresh_69 : decode cX9_makeFresh 69 = .ok (.iconst 0, 1) := by decide +kernel
theorem dX9_makeFresh_70 : decode cX9_makeFresh 70 = .ok (.iastore, 1) := by decide +kernel
theorem dX9_makeFresh_71 : decode cX9_makeFresh 71 = .ok (.aload_n 0, 1) := by decide +kernel
theorem dX9_makeFresh_72 : decode cX9_makeFresh 72 = .ok (.getfield 24, 3) := by decide +kernel
theorem dX9_makeFresh_75 : decode cX9_makeFresh 75 = .ok (.iload_n 1, 1) := by decide +kernel
theorem dX9_makeFresh_76 : decode cX9_makeFresh 76 = .ok (.iconst 0, 1) := by decide +kernel
theorem dX9_makeFresh_77 : decode cX9_makeFresh 77 = .ok (.iastore, 1) := by decide +kernel
theorem dX9_makeFresh_78 : decode cX9_makeFresh 78 = .ok (.iinc 1 1, 3) := by decide +kernel
theorem dX9_makeFresh_81 : decode cX9_makeFresh 81 = .ok (.goto (-37), 3) := by decide +kernel
theorem dX9_makeFresh_84 : decode cX9_makeFresh 84 = .ok (.return_, 1) := by decide +kernel
theorem dX9_sumOf_0 : decode cX9_sumOf 0 = .ok (.iconst 0, 1) := by decide +kernel
theorem dX9_sumOf_1 : decode cX9_sumOf 1 = .ok (.istore_n 3, 1) := by decide +kernel
theorem dX9_sumOf_2 : decode cX9_sumOf 2 = .ok (.iconst 0, 1) := by decide +kernel
theorem dX9_sumOf_3 : decode cX9_sumOf 3 = .ok (.istore 4, 2) := by decide +kernel
theorem dX9_sumOf_5 : decode cX9_sumOf 5 = .ok (.iload 4, 2) := by decide +kernel
theorem dX9_sumOf_7 : decode cX9_sumOf 7 = .ok (.aload_n 0, 1) := by decide +kernel
theorem dX9_sumOf_8 : decode cX9_sumOf 8 = .ok (.getfield 33, 3) := by decide +kernel
theorem dX9_sumOf_11 : decode cX9_sumOf 11 = .ok (.if_icmp .ge 26, 3) := by decide +kernel
theorem dX9_sumOf_37 : decode cX9_sumOf 37 = .ok (.iload_n 3, 1) := by decide +kernel
theorem dX9_sumOf_38 : decode cX9_sumOf 38 = .ok (.ireturn, 1) := by decide +kernel
theorem dX9_takeFrom_0 : decode cX9_takeFrom 0 = .ok (.aload_n 0, 1) := by decide +kernel
theorem dX9_takeFrom_1 : decode cX9_takeFrom 1 = .ok (.aload_n 1, 1) := by decide +kernel
theorem dX9_takeFrom_2 : decode cX9_takeFrom 2 = .ok (.getfield 33, 3) := by decide +kernel
theorem dX9_takeFrom_5 : decode cX9_takeFrom 5 = .ok (.putfield 33, 3) := by decide +kernel
theorem dX9_takeFrom_8 : decode cX9_takeFrom 8 = .ok (.aload_n 0, 1) := by decide +kernel
theorem dX9_takeFrom_9 : decode cX9_takeFrom 9 = .ok (.aload_n 1, 1) := by decide +kernel
theorem dX9_takeFrom_10 : decode cX9_takeFrom 10 = .ok (.getfield 37, 3) := by decide +kernel
theorem dX9_takeFrom_13 : decode cX9_takeFrom 13 = .ok (.putfield 37, 3) := by decide +kernel
theorem dX9_takeFrom_16 : decode cX9_takeFrom 16 = .ok (.aload_n 0, 1) := by decide +kernel
theorem dX9_takeFrom_17 : decode cX9_takeFrom 17 = .ok (.aload_n 1, 1) := by decide +kernel
theorem dX9_takeFrom_18 : decode cX9_takeFrom 18 = .ok (.getfield 40, 3) := by decide +kernel
theorem dX9_takeFrom_21 : decode cX9_takeFrom 21 = .ok (.putfield 40, 3) := by decide +kernel
theorem dX9_takeFrom_24 : decode cX9_takeFrom 24 = .ok (.aload_n 0, 1) := by decide +kernel
theorem dX9_takeFrom_25 : decode cX9_takeFrom 25 = .ok (.aload_n 1, 1) := by decide +kernel
theorem dX9_takeFrom_26 : decode cX9_takeFrom 26 = .ok (.getfield 43, 3) := by decide +kernel
theorem dX9_takeFrom_29 : decode cX9_takeFrom 29 = .ok (.putfield 43, 3) := by decide +kernel
theorem dX9_takeFrom_32 : decode cX9_takeFrom 32 = .ok (.aload_n 0, 1) := by decide +kernel
theorem dX9_takeFrom_33 : decode cX9_takeFrom 33 = .ok (.aload_n 1, 1) := by decide +kernel
theorem dX9_takeFrom_34 : decode cX9_takeFrom 34 = .ok (.getfield 46, 3) := by decide +kernel
theorem dX9_takeFrom_37 : decode cX9_takeFrom 37 = .ok (.putfield 46, 3) := by decide +kernel
theorem dX9_takeFrom_40 : decode cX9_takeFrom 40 = .ok (.aload_n 0, 1) := by decide +kernel
theorem dX9_takeFrom_41 : decode cX9_takeFrom 41 = .ok (.aload_n 1, 1) := by decide +kernel
theorem dX9_takeFrom_42 : decode cX9_takeFrom 42 = .ok (.getfield 49, 3) := by decide +kernel
theorem dX9_takeFrom_45 : decode cX9_takeFrom 45 = .ok (.putfield 49, 3) := by decide +kernel
theorem dX9_takeFrom_48 : decode cX9_takeFrom 48 = .ok (.aload_n 0, 1) := by decide +kernel
theorem dX9_takeFrom_49 : decode cX9_takeFrom 49 = .ok (.aload_n 1, 1) := by decide +kernel
theorem dX9_takeFrom_50 : decode cX9_takeFrom 50 = .ok (.getfield 58, 3) := by decide +kernel
theorem dX9_takeFrom_53 : decode cX9_takeFrom 53 = .ok (.putfield 58, 3) := by decide +kernel
theorem dX9_takeFrom_56 : decode cX9_takeFrom 56 = .ok (.aload_n 0, 1) := by decide +kernel
theorem dX9_takeFrom_57 : decode cX9_takeFrom 57 = .ok (.aload_n 1, 1) := by decide +kernel
theorem dX9_takeFrom_58 : decode cX9_takeFrom 58 = .ok (.getfield 52, 3) := by decide +kernel
theorem dX9_takeFrom_61 : decode cX9_takeFrom 61 = .ok (.putfield 52, 3) := by decide +kernel
theorem dX9_takeFrom_64 : decode cX9_takeFrom 64 = .ok (.aload_n 0, 1) := by decide +kernel
theorem dX9_takeFrom_65 : decode cX9_takeFrom 65 = .ok (.aload_n 1, 1) := by decide +kernel
theorem dX9_takeFrom_66 : decode cX9_takeFrom 66 = .ok (.getfield 55, 3) := by decide +kernel
theorem dX9_takeFrom_69 : decode cX9_takeFrom 69 = .ok (.putfield 55, 3) := by decide +kernel
theorem dX9_takeFrom_72 : decode cX9_takeFrom 72 = .ok (.aload_n 1, 1) := by decide +kernel
theorem dX9_takeFrom_73 : decode cX9_takeFrom 73 = .ok (.getfield 9, 3) := by decide +kernel
theorem dX9_takeFrom_76 : decode cX9_takeFrom 76 = .ok (.iconst 0, 1) := by decide +kernel
theorem dX9_takeFrom_77 : decode cX9_takeFrom 77 = .ok (.aload_n 0, 1) := by decide +kernel
theorem dX9_takeFrom_78 : decode cX9_takeFrom 78 = .ok (.getfield 9, 3) := by decide +kernel
theorem dX9_takeFrom_81 : decode cX9_takeFrom 81 = .ok (.iconst 0, 1) := by decide +kernel
theorem dX9_takeFrom_82 : decode cX9_takeFrom 82 = .ok (.aload_n 0, 1) := by decide +kernel
theorem dX9_takeFrom_83 : decode cX9_takeFrom 83 = .ok (.getfield 9, 3) := by decide +kernel
theorem dX9_takeFrom_86 : decode cX9_takeFrom 86 = .ok (.arraylength, 1) := by decide +kernel
theorem dX9_takeFrom_87 : decode cX9_takeFrom 87 = .ok (.invokestatic 61, 3) := by decide +kernel
theorem dX9_takeFrom_90 : decode cX9_takeFrom 90 = .ok (.aload_n 1, 1) := by decide +kernel
theorem dX9_takeFrom_91 : decode cX9_takeFrom 91 = .ok (.getfield 15, 3) := by decide +kernel
theorem dX9_takeFrom_94 : decode cX9_takeFrom 94 = .ok (.iconst 0, 1) := by decide +kernel
theorem dX9_takeFrom_95 : decode cX9_takeFrom 95 = .ok (.aload_n 0, 1) := by decide +kernel
theorem dX9_takeFrom_96 : decode cX9_takeFrom 96 = .ok (.getfield 15, 3) := by decide +kernel
theorem dX9_takeFrom_99 : decode cX9_takeFrom 99 = .ok (.iconst 0, 1) := by decide +kernel
theorem dX9_takeFrom_100 : decode cX9_takeFrom 100 = .ok (.bipush 10, 2) := by decide +kernel
theorem dX9_takeFrom_102 : decode cX9_takeFrom 102 = .ok (.invokestatic 61, 3) := by decide +kernel
theorem dX9_takeFrom_105 : decode cX9_takeFrom 105 = .ok (.aload_n 1, 1) := by decide +kernel
theorem dX9_takeFrom_106 : decode cX9_takeFrom 106 = .ok (.getfield 18, 3) := by decide +kernel
theorem dX9_takeFrom_109 : decode cX9_takeFrom 109 = .ok (.iconst 0, 1) := by decide +kernel
theorem dX9_takeFrom_110 : decode cX9_takeFrom 110 = .ok (.aload_n 0, 1) := by decide +kernel
theorem dX9_takeFrom_111 : decode cX9_takeFrom 111 = .ok (.getfield 18, 3) := by decide +kernel
theorem dX9_takeFrom_114 : decode cX9_takeFrom 114 = .ok (.iconst 0, 1) := by decide +kernel
theorem dX9_takeFrom_115 : decode cX9_takeFrom 115 = .ok (.bipush 10, 2) := by decide +kernel
theorem dX9_takeFrom_117 : decode cX9_takeFrom 117 = .ok (.invokestatic 61, 3) := by decide +kernel
theorem dX9_takeFrom_120 : decode cX9_takeFrom 120 = .ok (.aload_n 1, 1) := by decide +kernel
theorem dX9_takeFrom_121 : decode cX9_takeFrom 121 = .ok (.getfield 21, 3) := by decide +kernel
theorem dX9_takeFrom_124 : decode cX9_takeFrom 124 = .ok (.iconst 0, 1) := by decide +kernel
theorem dX9_takeFrom_125 : decode cX9_takeFrom 125 = .ok (.aload_n 0, 1) := by decide +kernel
theorem dX9_takeFrom_126 : decode cX9_takeFrom 126 = .ok (.getfield 21, 3) := by decide +kernel
theorem dX9_takeFrom_129 : decode cX9_takeFrom 129 = .ok (.iconst 0, 1) := by decide +kernel
theorem dX9_takeFrom_130 : decode cX9_takeFrom 130 = .ok (.bipush 10, 2) := by decide +kernel
theorem dX9_takeFrom_132 : decode cX9_takeFrom 132 = .ok (.invokestatic 61, 3) := by decide +kernel
theorem dX9_takeFrom_135 : decode cX9_takeFrom 135 = .ok (.aload_n 1, 1) := by decide +kernel
theorem dX9_takeFrom_136 : decode cX9_takeFrom 136 = .ok (.getfield 24, 3) := by decide +kernel
theorem dX9_takeFrom_139 : decode cX9_takeFrom 139 = .ok (.iconst 0, 1) := by decide +kernel
theorem dX9_takeFrom_140 : decode cX9_takeFrom 140 = .ok (.aload_n 0, 1) := by decide +kernel
theorem dX9_takeFrom_141 : decode cX9_takeFrom 141 = .ok (.getfield 24, 3) := by decide +kernel
theorem dX9_takeFrom_144 : decode cX9_takeFrom 144 = .ok (.iconst 0, 1) := by decide +kernel
theorem dX9_takeFrom_145 : decode cX9_takeFrom 145 = .ok (.bipush 10, 2) := by decide +kernel
theorem dX9_takeFrom_147 : decode cX9_takeFrom 147 = .ok (.invokestatic 61, 3) := by decide +kernel
theorem dX9_takeFrom_150 : decode cX9_takeFrom 150 = .ok (.aload_n 1, 1) := by decide +kernel
theorem dX9_takeFrom_151 : decode cX9_takeFrom 151 = .ok (.getfield 27, 3) := by decide +kernel
theorem dX9_takeFrom_154 : decode cX9_takeFrom 154 = .ok (.iconst 0, 1) := by decide +kernel
theorem dX9_takeFrom_155 : decode cX9_takeFrom 155 = .ok (.aload_n 0, 1) := by decide +kernel
theorem dX9_takeFrom_156 : decode cX9_takeFrom 156 = .ok (.getfield 27, 3) := by decide +kernel
theorem dX9_takeFrom_159 : decode cX9_takeFrom 159 = .ok (.iconst 0, 1) := by decide +kernel
theorem dX9_takeFrom_160 : decode cX9_takeFrom 160 = .ok (.bipush 8, 2) := by decide +kernel
theorem dX9_takeFrom_162 : decode cX9_takeFrom 162 = .ok (.invokestatic 61, 3) := by decide +kernel
theorem dX9_takeFrom_165 : decode cX9_takeFrom 165 = .ok (.aload_n 1, 1) := by decide +kernel
theorem dX9_takeFrom_166 : decode cX9_takeFrom 166 = .ok (.getfield 30, 3) := by decide +kernel
theorem dX9_takeFrom_169 : decode cX9_takeFrom 169 = .ok (.iconst 0, 1) := by decide +kernel
theorem dX9_takeFrom_170 : decode cX9_takeFrom 170 = .ok (.aload_n 0, 1) := by decide +kernel
theorem dX9_takeFrom_171 : decode cX9_takeFrom 171 = .ok (.getfield 30, 3) := by decide +kernel
theorem dX9_takeFrom_174 : decode cX9_takeFrom 174 = .ok (.iconst 0, 1) := by decide +kernel
theorem dX9_takeFrom_175 : decode cX9_takeFrom 175 = .ok (.aload_n 0, 1) := by decide +kernel
theorem dX9_takeFrom_176 : decode cX9_takeFrom 176 = .ok (.getfield 30, 3) := by decide +kernel
theorem dX9_takeFrom_179 : decode cX9_takeFrom 179 = .ok (.arraylength, 1) := by decide +kernel
theorem dX9_takeFrom_180 : decode cX9_takeFrom 180 = .ok (.invokestatic 61, 3) := by decide +kernel
theorem dX9_takeFrom_183 : decode cX9_takeFrom 183 = .ok (.return_, 1) := by decide +kernel
