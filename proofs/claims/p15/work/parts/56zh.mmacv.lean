theorem kt_1123 : Cond.fieldLink RX15 57 "PostGateModel" "local" "LPostGateModel$Text;" ∈ tb := tb_at (i := 1298) (by decide +kernel) (by decide +kernel)
theorem kt_1124 : Cond.fieldLink RX15 61 "PostGateModel" "domain" "LPostGateModel$Text;" ∈ tb := tb_at (i := 1299) (by decide +kernel) (by decide +kernel)
theorem dX15_macroValue_0 : decode cX15_macroValue 0 = .ok (.aload_n 1, 1) := by decide +kernel
theorem dX15_macroValue_1 : decode cX15_macroValue 1 = .ok (.iload_n 2, 1) := by decide +kernel
theorem dX15_macroValue_2 : decode cX15_macroValue 2 = .ok (.baload, 1) := by decide +kernel
theorem dX15_macroValue_3 : decode cX15_macroValue 3 = .ok (.istore 6, 2) := by decide +kernel
theorem dX15_macroValue_5 : decode cX15_macroValue 5 = .ok (.iconst 0, 1) := by decide +kernel
theorem dX15_macroValue_6 : decode cX15_macroValue 6 = .ok (.istore 7, 2) := by decide +kernel
theorem dX15_macroValue_8 : decode cX15_macroValue 8 = .ok (.iconst 0, 1) := by decide +kernel
theorem dX15_macroValue_9 : decode cX15_macroValue 9 = .ok (.istore 8, 2) := by decide +kernel
theorem dX15_macroValue_11 : decode cX15_macroValue 11 = .ok (.aload_n 1, 1) := by decide +kernel
theorem dX15_macroValue_12 : decode cX15_macroValue 12 = .ok (.iload_n 3, 1) := by decide +kernel
theorem dX15_macroValue_13 : decode cX15_macroValue 13 = .ok (.iconst 1, 1) := by decide +kernel
theorem dX15_macroValue_14 : decode cX15_macroValue 14 = .ok (.isub, 1) := by decide +kernel
theorem dX15_macroValue_15 : decode cX15_macroValue 15 = .ok (.baload, 1) := by decide +kernel
theorem dX15_macroValue_16 : decode cX15_macroValue 16 = .ok (.bipush 114, 2) := by decide +kernel
theorem dX15_macroValue_18 : decode cX15_macroValue 18 = .ok (.if_icmp .ne 14, 3) := by decide +kernel
theorem dX15_macroValue_21 : decode cX15_macroValue 21 = .ok (.iload_n 3, 1) := by decide +kernel
theorem dX15_macroValue_22 : decode cX15_macroValue 22 = .ok (.iconst 1, 1) := by decide +kernel
theorem dX15_macroValue_23 : decode cX15_macroValue 23 = .ok (.isub, 1) := by decide +kernel
theorem dX15_macroValue_24 : decode cX15_macroValue 24 = .ok (.iload_n 2, 1) := by decide +kernel
theorem dX15_macroValue_25 : decode cX15_macroValue 25 = .ok (.if_icmp .le 7, 3) := by decide +kernel
theorem dX15_macroValue_28 : decode cX15_macroValue 28 = .ok (.iconst 1, 1) := by decide +kernel
theorem dX15_macroValue_29 : decode cX15_macroValue 29 = .ok (.goto 4, 3) := by decide +kernel
theorem dX15_macroValue_32 : decode cX15_macroValue 32 = .ok (.iconst 0, 1) := by decide +kernel
theorem dX15_macroValue_33 : decode cX15_macroValue 33 = .ok (.istore 9, 2) := by decide +kernel
theorem dX15_macroValue_35 : decode cX15_macroValue 35 = .ok (.iload_n 2, 1) := by decide +kernel
theorem dX15_macroValue_36 : decode cX15_macroValue 36 = .ok (.iconst 1, 1) := by decide +kernel
theorem dX15_macroValue_37 : decode cX15_macroValue 37 = .ok (.iadd, 1) := by decide +kernel
theorem dX15_macroValue_38 : decode cX15_macroValue 38 = .ok (.istore 10, 2) := by decide +kernel
theorem dX15_macroValue_40 : decode cX15_macroValue 40 = .ok (.iload 10, 2) := by decide +kernel
theorem dX15_macroValue_42 : decode cX15_macroValue 42 = .ok (.iload_n 3, 1) := by decide +kernel
theorem dX15_macroValue_43 : decode cX15_macroValue 43 = .ok (.if_icmp .ge 28, 3) := by decide +kernel
theorem dX15_macroValue_46 : decode cX15_macroValue 46 = .ok (.aload_n 1, 1) := by decide +kernel
theorem dX15_macroValue_47 : decode cX15_macroValue 47 = .ok (.iload 10, 2) := by decide +kernel
theorem dX15_macroValue_49 : decode cX15_macroValue 49 = .ok (.baload, 1) := by decide +kernel
theorem dX15_macroValue_50 : decode cX15_macroValue 50 = .ok (.invokestatic 202, 3) := by decide +kernel
theorem dX15_macroValue_53 : decode cX15_macroValue 53 = .ok (.ifCond .eq 12, 3) := by decide +kernel
theorem dX15_macroValue_56 : decode cX15_macroValue 56 = .ok (.aload_n 1, 1) := by decide +kernel
theorem dX15_macroValue_57 : decode cX15_macroValue 57 = .ok (.iload 10, 2) := by decide +kernel
theorem dX15_macroValue_59 : decode cX15_macroValue 59 = .ok (.baload, 1) := by decide +kernel
theorem dX15_macroValue_60 : decode cX15_macroValue 60 = .ok (.bipush 48, 2) := by decide +kernel
theorem dX15_macroValue_62 : decode cX15_macroValue 62 = .ok (.isub, 1) := by decide +kernel
theorem dX15_macroValue_63 : decode cX15_macroValue 63 = .ok (.istore 8, 2) := by decide +kernel
theorem dX15_macroValue_65 : decode cX15_macroValue 65 = .ok (.iinc 10 1, 3) := by decide +kernel
theorem dX15_macroValue_68 : decode cX15_macroValue 68 = .ok (.goto (-28), 3) := by decide +kernel
theorem dX15_macroValue_71 : decode cX15_macroValue 71 = .ok (.aload_n 0, 1) := by decide +kernel
theorem dX15_macroValue_72 : decode cX15_macroValue 72 = .ok (.getfield 67, 3) := by decide +kernel
theorem dX15_macroValue_75 : decode cX15_macroValue 75 = .ok (.iconst 0, 1) := by decide +kernel
theorem dX15_macroValue_76 : decode cX15_macroValue 76 = .ok (.putfield 190, 3) := by decide +kernel
theorem dX15_macroValue_79 : decode cX15_macroValue 79 = .ok (.iload 6, 2) := by decide +kernel
theorem dX15_macroValue_81 : decode cX15_macroValue 81 = .ok (.bipush 115, 2) := by decide +kernel
theorem dX15_macroValue_83 : decode cX15_macroValue 83 = .ok (.if_icmp .eq 10, 3) := by decide +kernel
theorem dX15_macroValue_86 : decode cX15_macroValue 86 = .ok (.iload 6, 2) := by decide +kernel
theorem dX15_macroValue_88 : decode cX15_macroValue 88 = .ok (.bipush 108, 2) := by decide +kernel
theorem dX15_macroValue_90 : decode cX15_macroValue 90 = .ok (.if_icmp .ne 25, 3) := by decide +kernel
theorem dX15_macroValue_93 : decode cX15_macroValue 93 = .ok (.aload_n 0, 1) := by decide +kernel
theorem dX15_macroValue_94 : decode cX15_macroValue 94 = .ok (.getfield 67, 3) := by decide +kernel
theorem dX15_macroValue_97 : decode cX15_macroValue 97 = .ok (.aload_n 0, 1) := by decide +kernel
theorem dX15_macroValue_98 : decode cX15_macroValue 98 = .ok (.getfield 57, 3) := by decide +kernel
theorem dX15_macroValue_101 : decode cX15_macroValue 101 = .ok (.getfield 295, 3) := by decide +kernel
theorem dX15_macroValue_104 : decode cX15_macroValue 104 = .ok (.iconst 0, 1) := by decide +kernel
theorem dX15_macroValue_105 : decode cX15_macroValue 105 = .ok (.aload_n 0, 1) := by decide +kernel
theorem dX15_macroValue_106 : decode cX15_macroValue 106 = .ok (.getfield 57, 3) := by decide +kernel
theorem dX15_macroValue_109 : decode cX15_macroValue 109 = .ok (.getfield 190, 3) := by decide +kernel
theorem dX15_macroValue_112 : decode cX15_macroValue 112 = .ok (.invokevirtual 298, 3) := by decide +kernel
theorem dX15_macroValue_115 : decode cX15_macroValue 115 = .ok (.iload 6, 2) := by decide +kernel
theorem dX15_macroValue_117 : decode cX15_macroValue 117 = .ok (.bipush 115, 2) := by decide +kernel
theorem dX15_macroValue_119 : decode cX15_macroValue 119 = .ok (.if_icmp .ne 12, 3) := by decide +kernel
theorem dX15_macroValue_122 : decode cX15_macroValue 122 = .ok (.aload_n 0, 1) := by decide +kernel
theorem dX15_macroValue_123 : decode cX15_macroValue 123 = .ok (.getfield 67, 3) := by decide +kernel
theorem dX15_macroValue_126 : decode cX15_macroValue 126 = .ok (.bipush 64, 2) := by decide +kernel
theorem dX15_macroValue_128 : decode cX15_macroValue 128 = .ok (.invokevirtual 292, 3) := by decide +kernel
theorem dX15_macroValue_131 : decode cX15_macroValue 131 = .ok (.iload 6, 2) := by decide +kernel
theorem dX15_macroValue_133 : decode cX15_macroValue 133 = .ok (.bipush 115, 2) := by decide +kernel
theorem dX15_macroValue_135 : decode cX15_macroValue 135 = .ok (.if_icmp .eq 10, 3) := by decide +kernel
theorem dX15_macroValue_138 : decode cX15_macroValue 138 = .ok (.iload 6, 2) := by decide +kernel
theorem dX15_macroValue_140 : decode cX15_macroValue 140 = .ok (.bipush 111, 2) := by decide +kernel
theorem dX15_macroValue_142 : decode cX15_macroValue 142 = .ok (.if_icmp .ne 25, 3) := by decide +kernel
theorem dX15_macroValue_145 : decode cX15_macroValue 145 = .ok (.aload_n 0, 1) := by decide +kernel
theorem dX15_macroValue_146 : decode cX15_macroValue 146 = .ok (.getfield 67, 3) := by decide +kernel
theorem dX15_macroValue_149 : decode cX15_macroValue 149 = .ok (.aload_n 0, 1) := by decide +kernel
theorem dX15_macroValue_150 : decode cX15_macroValue 150 = .ok (.getfield 61, 3) := by decide +kernel
theorem dX15_macroValue_153 : decode cX15_macroValue 153 = .ok (.getfield 295, 3) := by decide +kernel
theorem dX15_macroValue_156 : decode cX15_macroValue 156 = .ok (.iconst 0, 1) := by decide +kernel
theorem dX15_macroValue_157 : decode cX15_macroValue 157 = .ok (.aload_n 0, 1) := by decide +kernel
theorem dX15_macroValue_158 : decode cX15_macroValue 158 = .ok (.getfield 61, 3) := by decide +kernel
theorem dX15_macroValue_161 : decode cX15_macroValue 161 = .ok (.getfield 190, 3) := by decide +kernel
theorem dX15_macroValue_164 : decode cX15_macroValue 164 = .ok (.invokevirtual 298, 3) := by decide +kernel
theorem dX15_macroValue_167 : decode cX15_macroValue 167 = .ok (.iload 6, 2) := by decide +kernel
theorem dX15_macroValue_169 : decode cX15_macroValue 169 = .ok (.bipush 100, 2) := by decide +kernel
theorem dX15_macroValue_171 : decode cX15_macroValue 171 = .ok (.if_icmp .ne 21, 3) := by decide +kernel
theorem dX15_macroValue_174 : decode cX15_macroValue 174 = .ok (.aload_n 0, 1) := by decide +kernel
theorem dX15_macroValue_175 : decode cX15_macroValue 175 = .ok (.getfield 67, 3) := by decide +kernel
theorem dX15_macroValue_178 : decode cX15_macroValue 178 = .ok (.aload 4, 2) := by decide +kernel
theorem dX15_macroValue_180 : decode cX15_macroValue 180 = .ok (.getfield 295, 3) := by decide +kernel
theorem dX15_macroValue_183 : decode cX15_macroValue 183 = .ok (.iconst 0, 1) := by decide +kernel
theorem dX15_macroValue_184 : decode cX15_macroValue 184 = .ok (.aload 4, 2) := by decide +kernel
theorem dX15_macroValue_186 : decode cX15_macroValue 186 = .ok (.getfield 190, 3) := by decide +kernel
theorem dX15_macroValue_189 : decode cX15_macroValue 189 = .ok (.invokevirtual 298, 3) := by decide +kernel
theorem dX15_macroValue_192 : decode cX15_macroValue 192 = .ok (.bipush 24, 2) := by decide +kernel
theorem dX15_macroValue_194 : decode cX15_macroValue 194 = .ok (.istore 10, 2) := by decide +kernel
theorem dX15_macroValue_196 : decode cX15_macroValue 196 = .ok (.iload 6, 2) := by decide +kernel
theorem dX15_macroValue_198 : decode cX15_macroValue 198 = .ok (.bipush 105, 2) := by decide +kernel
theorem dX15_macroValue_200 : decode cX15_macroValue 200 = .ok (.if_icmp .ne 103, 3) := by decide +kernel
theorem dX15_macroValue_203 : decode cX15_macroValue 203 = .ok (.iload 10, 2) := by decide +kernel
theorem dX15_macroValue_205 : decode cX15_macroValue 205 = .ok (.ifCond .lt 98, 3) := by decide +kernel
theorem dX15_macroValue_208 : decode cX15_macroValue 208 = .ok (.aload_n 0, 1) := by decide +kernel
theorem dX15_macroValue_209 : decode cX15_macroValue 209 = .ok (.getfield 205, 3) := by decide +kernel
theorem dX15_macroValue_212 : decode cX15_macroValue 212 = .ok (.iload 10, 2) := by decide +kernel
theorem dX15_macroValue_214 : decode cX15_macroValue 214 = .ok (.ishr, 1) := by decide +kernel
theorem dX15_macroValue_215 : decode cX15_macroValue 215 = .ok (.sipush 255, 3) := by decide +kernel
theorem dX15_macroValue_218 : decode cX15_macroValue 218 = .ok (.iand, 1) := by decide +kernel
theorem dX15_macroValue_219 : decode cX15_macroValue 219 = .ok (.istore 11, 2) := by decide +kernel
theorem dX15_macroValue_221 : decode cX15_macroValue 221 = .ok (.iload 11, 2) := by decide +kernel
theorem dX15_macroValue_223 : decode cX15_macroValue 223 = .ok (.bipush 99, 2) := by decide +kernel
theorem dX15_macroValue_225 : decode cX15_macroValue 225 = .ok (.if_icmp .le 18, 3) := by decide +kernel
theorem dX15_macroValue_228 : decode cX15_macroValue 228 = .ok (.aload_n 0, 1) := by decide +kernel
theorem dX15_macroValue_229 : decode cX15_macroValue 229 = .ok (.getfield 67, 3) := by decide +kernel
theorem dX15_macroValue_232 : decode cX15_macroValue 232 = .ok (.bipush 48, 2) := by decide +kernel
theorem dX15_macroValue_234 : decode cX15_macroValue 234 = .ok (.iload 11, 2) := by decide +kernel
theorem dX15_macroValue_236 : decode cX15_macroValue 236 = .ok (.bipush 100, 2) := by decide +kernel
theorem dX15_macroValue_238 : decode cX15_macroValue 238 = .ok (.idiv, 1) := by decide +kernel
theorem dX15_macroValue_239 : decode cX15_macroValue 239 = .ok (.iadd, 1) := by decide +kernel
theorem dX15_macroValue_240 : decode cX15_macroValue 240 = .ok (.invokevirtual 292, 3) := by decide +kernel
theorem dX15_macroValue_243 : decode cX15_macroValue 243 = .ok (.iload 11, 2) := by decide +kernel
theorem dX15_macroValue_245 : decode cX15_macroValue 245 = .ok (.bipush 9, 2) := by decide +kernel
theorem dX15_macroValue_247 : decode cX15_macroValue 247 = .ok (.if_icmp .le 21, 3) := by decide +kernel
theorem dX15_macroValue_250 : decode cX15_macroValue 250 = .ok (.aload_n 0, 1) := by decide +kernel
theorem dX15_macroValue_251 : decode cX15_macroValue 251 = .ok (.getfield 67, 3) := by decide +kernel
theorem dX15_macroValue_254 : decode cX15_macroValue 254 = .ok (.bipush 48, 2) := by decide +kernel
theorem dX15_macroValue_256 : decode cX15_macroValue 256 = .ok (.iload 11, 2) := by decide +kernel
theorem dX15_macroValue_258 : decode cX15_macroValue 258 = .ok (.bipush 10, 2) := by decide +kernel
theorem dX15_macroValue_260 : decode cX15_macroValue 260 = .ok (.idiv, 1) := by decide +kernel
theorem dX15_macroValue_261 : decode cX15_macroValue 261 = .ok (.bipush 10, 2) := by decide +kernel
theorem dX15_macroValue_263 : decode cX15_macroValue 263 = .ok (.irem, 1) := by decide +kernel
theorem dX15_macroValue_264 : decode cX15_macroValue 264 = .ok (.iadd, 1) := by decide +kernel
theorem dX15_macroValue_265 : decode cX15_macroValue 265 = .ok (.invokevirtual 292, 3) := by decide +kernel
theorem dX15_macroValue_268 : decode cX15_macroValue 268 = .ok (.aload_n 0, 1) := by decide +kernel
theorem dX15_macroValue_269 : decode cX15_macroValue 269 = .ok (.getfield 67, 3) := by decide +kernel
theorem dX15_macroValue_272 : decode cX15_macroValue 272 = .ok (.bipush 48, 2) := by decide +kernel
theorem dX15_macroValue_274 : decode cX15_macroValue 274 = .ok (.iload 11, 2) := by decide +kernel
theorem dX15_macroValue_276 : decode cX15_macroValue 276 = .ok (.bipush 10, 2) := by decide +kernel
theorem dX15_macroValue_278 : decode cX15_macroValue 278 = .ok (.irem, 1) := by decide +kernel
theorem dX15_macroValue_279 : decode cX15_macroValue 279 = .ok (.iadd, 1) := by decide +kernel
theorem dX15_macroValue_280 : decode cX15_macroValue 280 = .ok (.invokevirtual 292, 3) := by decide +kernel
theorem dX15_macroValue_283 : decode cX15_macroValue 283 = .ok (.iload 10, 2) := by decide +kernel
theorem dX15_macroValue_285 : decode cX15_macroValue 285 = .ok (.ifCond .le 12, 3) := by decide +kernel
theorem dX15_macroValue_288 : decode cX15_macroValue 288 = .ok (.aload_n 0, 1) := by decide +kernel
theorem dX15_macroValue_289 : decode cX15_macroValue 289 = .ok (.getfield 67, 3) := by decide +kernel
theorem dX15_macroValue_292 : decode cX15_macroValue 292 = .ok (.bipush 46, 2) := by decide +kernel
theorem dX15_macroValue_294 : decode cX15_macroValue 294 = .ok (.invokevirtual 292, 3) := by decide +kernel
theorem dX15_macroValue_297 : decode cX15_macroValue 297 = .ok (.iinc 10 (-8), 3) := by decide +kernel
theorem dX15_macroValue_300 : decode cX15_macroValue 300 = .ok (.goto (-104), 3) := by decide +kernel
theorem dX15_macroValue_303 : decode cX15_macroValue 303 = .ok (.iconst 1, 1) := by decide +kernel
theorem dX15_macroValue_304 : decode cX15_macroValue 304 = .ok (.istore 7, 2) := by decide +kernel
theorem dX15_macroValue_306 : decode cX15_macroValue 306 = .ok (.iconst 0, 1) := by decide +kernel
theorem dX15_macroValue_307 : decode cX15_macroValue 307 = .ok (.istore 10, 2) := by decide +kernel
theorem dX15_macroValue_309 : decode cX15_macroValue 309 = .ok (.iload 10, 2) := by decide +kernel
theorem dX15_macroValue_311 : decode cX15_macroValue 311 = .ok (.aload_n 0, 1) := by decide +kernel
theorem dX15_macroValue_312 : decode cX15_macroValue 312 = .ok (.getfield 67, 3) := by decide +kernel
theorem dX15_macroValue_315 : decode cX15_macroValue 315 = .ok (.getfield 190, 3) := by decide +kernel
theorem dX15_macroValue_318 : decode cX15_macroValue 318 = .ok (.if_icmp .ge 27, 3) := by decide +kernel
theorem dX15_macroValue_321 : decode cX15_macroValue 321 = .ok (.aload_n 0, 1) := by decide +kernel
theorem dX15_macroValue_322 : decode cX15_macroValue 322 = .ok (.getfield 67, 3) := by decide +kernel
theorem dX15_macroValue_325 : decode cX15_macroValue 325 = .ok (.getfield 295, 3) := by decide +kernel
theorem dX15_macroValue_328 : decode cX15_macroValue 328 = .ok (.iload 10, 2) := by decide +kernel
theorem dX15_macroValue_330 : decode cX15_macroValue 330 = .ok (.baload, 1) := by decide +kernel
theorem dX15_macroValue_331 : decode cX15_macroValue 331 = .ok (.bipush 46, 2) := by decide +kernel
theorem dX15_macroValue_333 : decode cX15_macroValue 333 = .ok (.if_icmp .ne 6, 3) := by decide +kernel
theorem dX15_macroValue_336 : decode cX15_macroValue 336 = .ok (.iinc 7 1, 3) := by decide +kernel
theorem dX15_macroValue_339 : decode cX15_macroValue 339 = .ok (.iinc 10 1, 3) := by decide +kernel
theorem dX15_macroValue_342 : decode cX15_macroValue 342 = .ok (.goto (-33), 3) := by decide +kernel
theorem dX15_macroValue_345 : decode cX15_macroValue 345 = .ok (.iload 8, 2) := by decide +kernel
theorem dX15_macroValue_347 : decode cX15_macroValue 347 = .ok (.ifCond .eq 10, 3) := by decide +kernel
theorem dX15_macroValue_350 : decode cX15_macroValue 350 = .ok (.iload 8, 2) := by decide +kernel
theorem dX15_macroValue_352 : decode cX15_macroValue 352 = .ok (.iload 7, 2) := by decide +kernel
theorem dX15_macroValue_354 : decode cX15_macroValue 354 = .ok (.if_icmp .lt 7, 3) := by decide +kernel
theorem dX15_macroValue_357 : decode cX15_macroValue 357 = .ok (.iconst 0, 1) := by decide +kernel
theorem dX15_macroValue_358 : decode cX15_macroValue 358 = .ok (.goto 8, 3) := by decide +kernel
theorem dX15_macroValue_361 : decode cX15_macroValue 361 = .ok (.iload 7, 2) := by decide +kernel
theorem dX15_macroValue_363 : decode cX15_macroValue 363 = .ok (.iload 8, 2) := by decide +kernel
theorem dX15_macroValue_365 : decode cX15_macroValue 365 = .ok (.isub, 1) := by decide +kernel
theorem dX15_macroValue_366 : decode cX15_macroValue 366 = .ok (.istore 10, 2) := by decide +kernel
theorem dX15_macroValue_368 : decode cX15_macroValue 368 = .ok (.iload 10, 2) := by decide +kernel
theorem dX15_macroValue_370 : decode cX15_macroValue 370 = .ok (.istore 11, 2) := by decide +kernel
theorem dX15_macroValue_372 : decode cX15_macroValue 372 = .ok (.iload 11, 2) := by decide +kernel
theorem dX15_macroValue_374 : decode cX15_macroValue 374 = .ok (.iload 7, 2) := by decide +kernel
theorem dX15_macroValue_376 : decode cX15_macroValue 376 = .ok (.if_icmp .ge 46, 3) := by decide +kernel
theorem dX15_macroValue_379 : decode cX15_macroValue 379 = .ok (.iload 11, 2) := by decide +kernel
theorem dX15_macroValue_381 : decode cX15_macroValue 381 = .ok (.iload 10, 2) := by decide +kernel
theorem dX15_macroValue_383 : decode cX15_macroValue 383 = .ok (.if_icmp .le 10, 3) := by decide +kernel
theorem dX15_macroValue_386 : decode cX15_macroValue 386 = .ok (.aload 5, 2) := by decide +kernel
theorem dX15_macroValue_388 : decode cX15_macroValue 388 = .ok (.bipush 46, 2) := by decide +kernel
theorem dX15_macroValue_390 : decode cX15_macroValue 390 = .ok (.invokestatic 284, 3) := by decide +kernel
theorem dX15_macroValue_393 : decode cX15_macroValue 393 = .ok (.aload_n 0, 1) := by decide +kernel
theorem dX15_macroValue_394 : decode cX15_macroValue 394 = .ok (.iload 9, 2) := by decide +kernel
theorem dX15_macroValue_396 : decode cX15_macroValue 396 = .ok (.ifCond .eq 13, 3) := by decide +kernel
theorem dX15_macroValue_399 : decode cX15_macroValue 399 = .ok (.iload 7, 2) := by decide +kernel
theorem dX15_macroValue_401 : decode cX15_macroValue 401 = .ok (.iconst 1, 1) := by decide +kernel
theorem dX15_macroValue_402 : decode cX15_macroValue 402 = .ok (.isub, 1) := by decide +kernel
theorem dX15_macroValue_403 : decode cX15_macroValue 403 = .ok (.iload 11, 2) := by decide +kernel
theorem dX15_macroValue_405 : decode cX15_macroValue 405 = .ok (.isub, 1) := by decide +kernel
theorem dX15_macroValue_406 : decode cX15_macroValue 406 = .ok (.goto 5, 3) := by decide +kernel
theorem dX15_macroValue_409 : decode cX15_macroValue 409 = .ok (.iload 11, 2) := by decide +kernel
theorem dX15_macroValue_411 : decode cX15_macroValue 411 = .ok (.aload 5, 2) := by decide +kernel
theorem dX15_macroValue_413 : decode cX15_macroValue 413 = .ok (.invokevirtual 300, 3) := by decide +kernel
theorem dX15_macroValue_416 : decode cX15_macroValue 416 = .ok (.iinc 11 1, 3) := by decide +kernel
theorem dX15_macroValue_419 : decode cX15_macroValue 419 = .ok (.goto (-47), 3) := by decide +kernel
theorem dX15_macroValue_422 : decode cX15_macroValue 422 = .ok (.return_, 1) := by decide +kernel
theorem kt_1148 : Cond.code yX15_part cX15_part 5 none ∈ tb := tb_at (i := 1623) (by decide +kernel) (by decide +kernel)
theorem kt_1149 : Cond.methodLink RX15 300 yX15_part ∈ tb := tb_at (i := 1620) (by decide +kernel) (by decide +kernel)
theorem kt_1150 : Cond.instanceMethod yX15_part ∈ tb := tb_at (i := 1622) (by decide +kernel) (by decide +kernel)
theorem kt_1151 : Cond.selects RX15 yX15_part yX15_part ∈ tb := tb_at (i := 54) (by decide +kernel) (by decide +kernel)
theorem src_app {W V : List Nat} {z y : Nat} {f fv f2 : Nat → Int32} (h : SRC W z f) (hv : SRC V y fv) (h1 : ∀ j, j < z → f2 j = f j) (h2 : ∀ j, j < y → f2 (z + j) = fv j) : SRC (W ++ V) (z + y) f2 := by
  obtain ⟨a1, a2, a3⟩ := h
  obtain ⟨b1, b2, b3⟩ := hv
  have hr : ∀ j, (W ++ V).getD (z + j) 0 = V.getD j 0 := fun j => by rw [← a1]; exact apl_r W j
  refine ⟨by rw [List.length_append, a1, b1], fun j hj => ?_, fun j hj => ?_⟩
  · rcases Nat.lt_or_ge j z with q | q
    · rw [h1 j q, a2 j q, apl_l W j (by omega)]
    · have h9 := hr (j - z)
      have h8 := h2 (j - z) (by omega)
      rw [show z + (j - z) = j by omega] at h9 h8
      rw [h9, h8, b2 _ (by omega)]
  · rcases Nat.lt_or_ge j z with q | q
    · rw [apl_l W j (by omega)]
      exact a3 j q
    · have h9 := hr (j - z)
      rw [show z + (j - z) = j by omega] at h9
      rw [h9]
      exact b3 _ (by omega)
theorem src_one {W : List Nat} {z c : Nat} {f : Nat → Int32} (h : SRC W z f) (hc : c < 128) : SRC (W ++ [c]) (z + 1) (upd f z (nI c)) := by
  refine src_app h (V := [c]) (y := 1) (fv := fun _ => nI c) ⟨rfl, fun j hj => ?_, fun j hj => ?_⟩ (fun j hj => updc_ne (by omega)) (fun j hj => ?_)
  · rw [show j = 0 by omega]
    rfl
  · rw [show j = 0 by omega]
    exact hc
  · rw [show z + j = z by omega, updc_at]
theorem src_nil {f : Nat → Int32} : SRC [] 0 f := ⟨rfl, fun j hj => absurd hj (Nat.not_lt_zero _), fun j hj => absurd hj (Nat.not_lt_zero _)⟩
def TXM (cs : Nat → ClassId) (F : Nat → va_E) (w n : Nat) (V : List Nat) : Prop := ∃ (r z : Nat) (f : Nat → Int32), F w = .inr (14, [.ref r, .int (nI z)]) ∧ F r = .inl (cs 17, n, .inl f) ∧ SRC V z f ∧ z ≤ n
theorem TXM.get {cs : Nat → ClassId} {ty : TyM} {gm : Nat → Nat → Nat} {L : List Nat} {F : Nat → va_E} {w δ r n : Nat} {V : List Nat} (h : TXM cs F w n V) (hO : OKm cs ty gm L F) (hL : w ∈ L) (hT : ty w = (14, δ, [r, n])) : ∃ (z : Nat) (f : Nat → Int32), F w = .inr (14, [.ref r, .int (nI z)]) ∧ F r = .inl (cs 17, n, .inl f) ∧ SRC V z f ∧ z ≤ n := by
  obtain ⟨r9, z, f, h1, h2, h3, h4⟩ := h
  obtain ⟨z1, u1, -⟩ := hO.txt hL hT
  have e8 := u1.symm.trans h1
  simp only [Sum.inr.injEq, Prod.mk.injEq, List.cons.injEq, Value.ref.injEq, true_and] at e8
  obtain ⟨rfl, -⟩ := e8
  exact ⟨z, f, h1, h2, h3, h4⟩
theorem TXM.fr {cs : Nat → ClassId} {ty : TyM} {gm : Nat → Nat → Nat} {L S : List Nat} {F G : Nat → va_E} {w δ r n : Nat} {V : List Nat} (h : TXM cs F w n V) (hO : OKm cs ty gm L F) (hW : WTm ty gm L) (hL : w ∈ L) (hT : ty w = (14, δ, [r, n])) (hR : FR ty S F G) (hS : δ ∉ S) : TXM cs G w n V := by
  obtain ⟨z, f, h1, h2, h3, h4⟩ := h.get hO hL hT
  obtain ⟨m1, m2, -⟩ := hW.txt hL hT
  exact ⟨r, z, f, (hR w (by rw [hT]; exact hS)).trans h1, (hR r (by rw [m2]; exact hS)).trans h2, h3, h4⟩
def sdM (LC DM : List Nat) (x : Int32) : SDR := (LC ++ [64] ++ DM, LC, DM, qdL x)
def pm1 (LC : List Nat) (c : Nat) : List Nat := if c = 115 ∨ c = 108 then LC else []
def pm2 (LC : List Nat) (c : Nat) : List Nat := if c = 115 then pm1 LC c ++ [64] else pm1 LC c
def pm3 (LC DM : List Nat) (c : Nat) : List Nat := if c = 115 ∨ c = 111 then pm2 LC c ++ DM else pm2 LC c
def pm4 (LC DM dn : List Nat) (c : Nat) : List Nat := if c = 100 then pm3 LC DM c ++ dn else pm3 LC DM c
theorem pm_i {LC DM dn : List Nat} {c : Nat} (h : c = 105) : pm4 LC DM dn c = [] := by
  subst h
  rfl
theorem pm_pc {LC DM dn : List Nat} {x : Int32} {c : Nat} (h : mcL c) (hi : ¬ c = 105) : pm4 LC DM dn c = pcW (sdM LC DM x) dn c := by
  rcases h with h | h | h | h | h
  · subst h
    rfl
  · subst h
    rfl
  · subst h
    rfl
  · subst h
    rfl
  · exact absurd h hi
theorem pc_i {LC DM dn : List Nat} {x : Int32} {c : Nat} (h : c = 105) : pcW (sdM LC DM x) dn c = qdL x := by
  subst h
  rfl
theorem sv_shv : ∀ m, m ≤ 4 → sv m = shv m := by decide +kernel
theorem oc_s (x s s2 : Int32) (k D : Nat) (hk : (s.toBitVec.smod 32).toNat = k) (hu : ((s2.toUInt32 &&& Int32.toUInt32 31).toBitVec % 32).toNat = k) (hD : 2 ^ k = D) (hN : ∀ t, t < 4294967296 → (4294967295 - (4294967295 - t) / D) % 256 = t / D % 256) : (x >>> s) &&& 255 = usn x s2 &&& 255 := by
  have a1 := pk_and (x >>> s) (m := 255) 8 (by decide)
  have a2 := pk_and (usn x s2) (m := 255) 8 (by decide)
  have a3 : (usn x s2).toBitVec.toNat = x.toBitVec.toNat / D := by
    rw [← hD]
    exact pk_ushr x s2 k hu
  have a4 : (x >>> s).toBitVec.toNat = (x.toBitVec.sshiftRight k).toNat := by
    rw [← hk]
    rfl
  have ht : x.toBitVec.toNat < 4294967296 := x.toBitVec.isLt
  rw [a1, a2, a3, a4, BitVec.toNat_sshiftRight]
  by_cases c : x.toBitVec.msb = true
  · rw [if_pos c, Nat.shiftRight_eq_div_pow, hD]
    exact congrArg nI (hN _ ht)
  · rw [if_neg c, Nat.shiftRight_eq_div_pow, hD]
theorem oc_r (x : Int32) : ∀ m, m < 4 → (x >>> (sv m &&& 31)) &&& 255 = usn x (shv m) &&& 255 := by
  intro m hm
  rcases (show m = 0 ∨ m = 1 ∨ m = 2 ∨ m = 3 by omega) with rfl | rfl | rfl | rfl
  · exact oc_s x _ _ 24 16777216 (by decide +kernel) (by decide +kernel) (by decide) (fun t h => by omega)
  · exact oc_s x _ _ 16 65536 (by decide +kernel) (by decide +kernel) (by decide) (fun t h => by omega)
  · exact oc_s x _ _ 8 256 (by decide +kernel) (by decide +kernel) (by decide) (fun t h => by omega)
  · exact oc_s x _ _ 0 1 (by decide +kernel) (by decide +kernel) (by decide) (fun t h => by omega)
theorem mg_to {T : Nat → Nat} {a tt : Nat} (h : tt = mcR T (mcD T (a + 1))) : a + 1 ≤ tt ∧ tt ≤ a + 3 := by
  have h1 := mcD_le T (a + 1)
  have h2 := mcR_le T (mcD T (a + 1))
  omega
/-- the digit of a MACRO, as it is found -/
theorem mg_d {T : Nat → Nat} {a tt : Nat} (h : tt = mcR T (mcD T (a + 1))) (hj : a + 1 < tt) (hd : 48 ≤ T (a + 1) ∧ T (a + 1) ≤ 57) : T (a + 1) - 48 = dgW (T (a + 1)) := by
  unfold dgW
  by_cases c : 49 ≤ T (a + 1) ∧ T (a + 1) ≤ 57
  · rw [if_pos c]
  · exfalso
    have e1 : mcD T (a + 1) = a + 1 := if_neg c
    have e2 : mcR T (a + 1) = a + 1 := if_neg (by omega)
    rw [e1, e2] at h
    omega
theorem mg_n {T : Nat → Nat} {a tt : Nat} (h : tt = mcR T (mcD T (a + 1))) (hd : ¬ (a + 1 < tt ∧ 48 ≤ T (a + 1) ∧ T (a + 1) ≤ 57)) : dgW (T (a + 1)) = 0 := by
  unfold dgW
  by_cases c : 49 ≤ T (a + 1) ∧ T (a + 1) ≤ 57
  · exfalso
    have e1 : mcD T (a + 1) = a + 1 + 1 := if_pos c
    have e2 := mcR_le T (a + 1 + 1)
    rw [e1] at h
    exact hd ⟨by omega, by omega, c.2⟩
  · rw [if_neg c]
theorem mg_2 {T : Nat → Nat} {a tt : Nat} (h : tt = mcR T (mcD T (a + 1))) (hj : a + 2 < tt) : ¬ (48 ≤ T (a + 2) ∧ T (a + 2) ≤ 57) := by
  intro hd
  by_cases c : 49 ≤ T (a + 1) ∧ T (a + 1) ≤ 57
  · have e1 : mcD T (a + 1) = a + 1 + 1 := if_pos c
    have e2 : mcR T (a + 1 + 1) = a + 1 + 1 := if_neg (show ¬ T (a + 2) = 114 by omega)
    rw [e1, e2] at h
    omega
  · have e1 : mcD T (a + 1) = a + 1 := if_neg c
    have e2 := mcR_le T (a + 1)
    rw [e1] at h
    omega
set_option maxHeartbeats 4000000 in
set_option maxRecDepth 100000 in
theorem s_X14_add__8 (l : Launch) (dC : Nat → ClassId) (dI : Nat → Nat → Nat) (cs : Nat → ClassId) (ty : TyM) (gm : Nat → Nat → Nat) (L : List Nat) (sz : Nat) (F : Nat → va_E) (h0 : Nat) (ρ : Nat) (r0 : Nat) (n : Nat) (g1 : Nat) (σ : Nat) (n1 : Nat) (z : Nat) (tt : Nat) (fq : Nat → Int32) (gv : Nat → Int32) (V : List Nat) (Wq : List Nat) (hW : WTm ty gm L) (hL_h0 : h0 ∈ L) (hT_h0 : ty h0 = (14, ρ, [r0, n])) (hL_g1 : g1 ∈ L) (hT_g1 : ty g1 = (17, σ, [n1])) (hF0 : F h0 = .inr (14, [.ref r0, .int (nI z)])) (hFr : F r0 = .inl (cs 17, n, .inl fq)) (hFg : F g1 = .inl (cs 17, n1, .inl gv)) (htn : tt ≤ n1) (hfit : z + tt ≤ n) (hn9 : n ≤ 10000) (hW0 : SRC Wq z fq) (hV : SRC V tt gv) : Met l yX14_add_ (.code yX14_add_ cX14_add_ 4 none :: tb) ({ frames := 1, cells := 0, slots := 0, locals := 48 }) (va_Pc [.ref h0, .ref g1, .int 0, .int (nI tt)] (PTm (dC, dI) cs ty gm L F sz)) (va_Qv (fun _ : Unit => True) (fun _ T9 => ∃ F2 : Nat → va_E, ∃ f2 : Nat → Int32, QTm (dC, dI) cs ty gm L [ρ] F F2 (va_A (va_pl L F) sz) T9 ∧ F2 h0 = .inr (14, [.ref r0, .int (nI (z + tt))]) ∧ F2 r0 = .inl (cs 17, n, .inl f2) ∧ SRC (Wq ++ V) (z + tt) f2) (va_A (va_pl L F) sz)) 0 0 (va_A (va_pl L F) sz) := by
  refine Met.ofW (cc := cX14_add_) (maxL := 4) (ret := none) (by decide) rfl ?_
  intro p e s m args below meth c s₁ B hml hv
  obtain ⟨rfl, hsz, hP, hK, hD0, hE, hO⟩ := hv
  have hx := B.exec
  have hb := B.bytes
  have hr := B.returns
  have hts : ∀ w ∈ tb, w.before _ s = true := fun w h => atoms_spec (ws := .code yX14_add_ cX14_add_ 4 none :: tb) B.pre w (List.mem_cons_of_mem _ h)
  have hown : s.vm.findClass RX14 = some m.cls := findClass_of_methodNamed B.named
  have hlocks := B.notSynchronized
  subst hsz
  have hD := hD0.self (sz := s.heap.size)
  generalize hAe : va_A (va_pl L F) s.heap.size = A at hD ⊢
  have hA : ∀ q : Nat, s.heap.size ≤ q → A q := fun q h => by rw [← hAe]; exact Or.inr h
  have hS : va_S A s.heap s.heap [] := va_S.rf
  have hR : FR ty [ρ] F F := FR.refl
  have hl := lv_entry ([.ref h0, .ref g1, .int 0, .int (nI tt)]) (n := 4) (Nat.le_of_ble_eq_true rfl)
  rw [lg_entry_eq]
  generalize (lg_sl ([.ref h0, .ref g1, .int 0, .int (nI tt)]) ++ List.replicate (4 - (lg_sl ([.ref h0, .ref g1, .int 0, .int (nI tt)])).length) Slot.unset).toArray = ls at hl ⊢
  have hl : lv_has ls 4 [(0, .ref h0), (1, .ref g1), (2, .int 0), (3, .int (nI tt))] := hl
  obtain ⟨hi_1, ht_2, hq_3⟩ := hW.txt hL_h0 hT_h0
  obtain ⟨hq_4, hq_5⟩ := hW.octs hL_g1 hT_g1
  have hBg := bfmo hFg (hO.octs hL_g1 hT_g1)
  have hBr := bfmo hFr (hO.octs hi_1 ht_2)
  refine lv_aload_n hx hb dX14_add__0 rfl (lv_at hl 1 rfl) ?_
  refine lv_iload_n hx hb dX14_add__1 rfl (lv_at hl 2 rfl) ?_
  refine lv_aload_n hx hb dX14_add__2 rfl (lv_at hl 0 rfl) ?_
  refine pg_get (ci := 14) (v := .ref r0) (C := RX14) (T := TX14) (N := 2) hx hb hts it_14 hown hK hP hL_h0 hF0 rfl 0 (by decide) (hts _ kt_672) (fun _ h9 => h9) rfl dX14_add__3 ?_
  refine lv_aload_n hx hb dX14_add__6 rfl (lv_at hl 0 rfl) ?_
  refine pg_get (ci := 14) (v := .int (nI z)) (C := RX14) (T := TX14) (N := 2) hx hb hts it_14 hown hK hP hL_h0 hF0 rfl 1 (by decide) (hts _ kt_673) (fun _ h9 => h9) rfl dX14_add__7 ?_
  refine lv_iload_n hx hb dX14_add__10 rfl (lv_at hl 3 rfl) ?_
  refine lv_iload_n hx hb dX14_add__11 rfl (lv_at hl 2 rfl) ?_
  refine lv_isub hx hb dX14_add__12 ?_
  refine lv_topi (fun x_6 ex_6 => ?_)
  obtain rfl : x_6 = (nI tt) := ex_6.trans (pk_sub (b := 0) (by omega))
  obtain ⟨hq_7, hq_8⟩ := hW.octs hi_1 ht_2
  refine pg_copyi hx hb (by rw [hml]; exact hl.1.symm) hown (hts _ kt_674) (hts _ kt_29) (hts _ kt_30) (hts _ kt_31) hK hP hD hS hL_g1 hi_1 1 1 hFg hFr rfl rfl rfl (by decide) (nI_pos (by omega)) (nI_pos (by omega)) (by rw [show (0 : Int32).toNatClampNeg = 0 by decide, nI_clamp (by omega)]; omega) (by rw [nI_clamp (by omega), nI_clamp (by omega)]; omega) (fun _ _ => hBg _) (Nat.le_of_ble_eq_true rfl) (by decide) dX14_add__13 (fun H locs hP hD hS => ?_)
  obtain ⟨F_9, he_10, hP, hD, hO, hR⟩ : ∃ G, G = va_up F r0 (.inl (cs 17, n, .inl (va_cpy gv fq (0 : Int32).toNatClampNeg ((nI z)).toNatClampNeg ((nI tt)).toNatClampNeg))) ∧ va_P (dC, dI) vwCl (va_pl L G) H ∧ va_D A (va_pl L G) ∧ OKm cs ty gm L G ∧ FR ty [ρ] F G := ⟨_, rfl, hP, hD, hO.up (shm.octs ht_2 ⟨_, rfl, bfm_cpy hBg hBr _ _ _⟩), hR.up ht_2 (by simp)⟩
  have hF_11 : F_9 r0 = .inl (cs 17, n, .inl (va_cpy gv fq (0 : Int32).toNatClampNeg ((nI z)).toNatClampNeg ((nI tt)).toNatClampNeg)) := by rw [he_10]; exact up_self
  have hF_12 : F_9 h0 = .inr (14, [.ref r0, .int (nI z)]) := by rw [he_10, up_ne (ne_ty hT_h0 ht_2 (by simp))]; exact hF0
  obtain ⟨f_13, hF_11, hq_14, hfe_15⟩ : ∃ f : Nat → Int32, F_9 r0 = .inl (cs 17, n, .inl f) ∧ BFm f ∧ f = va_cpy gv fq (0 : Int32).toNatClampNeg ((nI z)).toNatClampNeg ((nI tt)).toNatClampNeg := ⟨_, hF_11, bfm_cpy hBg hBr _ _ _, rfl⟩
  refine lv_aload_n hx hb dX14_add__16 rfl (lv_at hl 0 rfl) ?_
  refine lv_dup hx hb dX14_add__17 rfl ?_
  refine pg_get (ci := 14) (v := .int (nI z)) (C := RX14) (T := TX14) (N := 2) hx hb hts it_14 hown hK hP hL_h0 hF_12 rfl 1 (by decide) (hts _ kt_673) (fun _ h9 => h9) rfl dX14_add__18 ?_
  refine lv_iload_n hx hb dX14_add__21 rfl (lv_at hl 3 rfl) ?_
  refine lv_iload_n hx hb dX14_add__22 rfl (lv_at hl 2 rfl) ?_
  refine lv_isub hx hb dX14_add__23 ?_
  refine lv_topi (fun x_16 ex_16 => ?_)
  obtain rfl : x_16 = (nI tt) := ex_16.trans (pk_sub (b := 0) (by omega))
  refine lv_iadd hx hb dX14_add__24 ?_
  refine lv_topi (fun x_17 ex_17 => ?_)
  obtain rfl : x_17 = (nI (z + tt)) := ex_17.trans (nI_add z tt)
  refine pg_put (ci := 14) (v := .int (nI (z + tt))) (ty := .int) (C := RX14) (T := TX14) (N := 2) hx hb hts it_14 tyX14 tyX14_ok nmX14 hown hK hP hD hS hL_h0 hF_12 rfl 1 (by decide) (hts _ kt_673) (fun _ h9 => h9) rfl (by decide +kernel) (rfl) (rfl) (Nat.le_of_ble_eq_true rfl) dX14_add__25 (fun H locs hP hD hS => ?_)
  obtain ⟨F_18, he_19, hP, hD, hO, hR⟩ : ∃ G, G = va_up F_9 h0 (.inr (14, [.ref r0, .int (nI (z + tt))])) ∧ va_P (dC, dI) vwCl (va_pl L G) H ∧ va_D A (va_pl L G) ∧ OKm cs ty gm L G ∧ FR ty [ρ] F G := ⟨_, rfl, hP, hD, hO.up (shm.txt hT_h0 ⟨(z + tt), rfl, (by first | omega | assumption | exact Or.inl rfl | exact Or.inr rfl)⟩), hR.up hT_h0 (by simp)⟩
  have hF_20 : F_18 h0 = .inr (14, [.ref r0, .int (nI (z + tt))]) := by rw [he_19]; exact up_self
  have hF_21 : F_18 r0 = .inl (cs 17, n, .inl f_13) := by rw [he_19, up_ne (ne_ty ht_2 hT_h0 (by simp))]; exact hF_11
  refine W.widen (k := 0) (n := 0) (by omega) (by omega) ?_
  exact W.vret hx hb hr (fun t ht hWm => ⟨⟨(), rfl, trivial, ⟨F_18, f_13, QTm.mk ht hP hD hO hR, hF_20, hF_21, (src_app hW0 hV (fun j hj => by rw [hfe_15]; exact cpy_n (a := 0) (by omega) (by omega) (by omega) j hj) (fun j hj => by rw [hfe_15]; exact (cpy_y (a := 0) (by omega) (by omega) (by omega) (z + j) (by omega) (by omega)).trans (by rw [show 0 + (z + j - z) = j by omega])))⟩⟩, hS.F ht⟩) hS.2.2 dX14_add__28
theorem pc_len {LC DM dn : List Nat} {x : Int32} {c : Nat} (h1 : LC.length ≤ 30) (h2 : DM.length ≤ 60) (h3 : dn.length ≤ 61) (hi : ¬ c = 105) (hm : mcL c) : (pcW (sdM LC DM x) dn c).length ≤ 91 := by
  rcases hm with h | h | h | h | h
  · subst h
    show (LC ++ [64] ++ DM).length ≤ 91
    rw [List.length_append, List.length_append]
    show LC.length + 1 + DM.length ≤ 91
    omega
  · subst h
    show LC.length ≤ 91
    omega
  · subst h
    show DM.length ≤ 91
    omega
  · subst h
    show dn.length ≤ 91
    omega
  · exact absurd h hi
theorem fst_y {w p9 : Nat} (h : w = 0 ∨ p9 ≤ w) : 0 = p9 - cnW w p9 := by
  unfold cnW
  by_cases c : w = 0
  · rw [if_pos c]
    omega
  · rw [if_neg c]
    have h9 := h.resolve_left c
    omega
theorem fst_n {w p9 : Nat} (h : ¬ w = 0) (h1 : w < p9) : p9 - w = p9 - cnW w p9 := by
  unfold cnW
  rw [if_neg h]
  omega
theorem cn_pos {w p9 : Nat} (h : 0 < p9) : 0 < cnW w p9 := by
  unfold cnW
  by_cases c : w = 0
  · rw [if_pos c]
    exact h
  · rw [if_neg c]
    omega
set_option maxHeartbeats 4000000 in
set_option maxRecDepth 100000 in
theorem s_X15_macroValue_x (l : Launch) (dC : Nat → ClassId) (dI : Nat → Nat → Nat) (cs : Nat → ClassId) (ty : TyM) (gm : Nat → Nat → Nat) (L : List Nat) (sz : Nat) (F : Nat → va_E) (h0 : Nat) (ρ : Nat) (ta : Nat) (ou : Nat) (so : Nat) (ad : Nat) (na : Nat) (va : Nat) (lc : Nat) (dm : Nat) (tg : Nat) (pe : Nat) (ml : Nat) (bg : Nat) (co : Nat) (sp : Nat) (nb0 : Nat) (nb1 : Nat) (nb2 : Nat) (pl : Nat) (se : Nat) (ke : Nat) (wi : Nat) (hs : Nat) (mo : Nat) (po : Nat) (nu : Nat) (pr : Nat) (sq : Nat) (xa : Nat) (sa : Nat) (n64 : Nat) (m64 : Nat) (ex : Nat) (wh : Nat) (sd : Nat) (tk : Nat) (hd : Nat) (ak : Nat) (ho : Nat) (ot : Nat) (sx : Nat) (s0 : Nat) (s1 : Nat) (s2 : Nat) (nf : Nat) (bd : Nat) (mm : Nat) (zo : Nat) (fm : Nat) (sn : Nat) (hg : Nat) (gc : Nat) (gv : Nat) (ze : Nat) (zt : Nat) (rp : Nat) (g2 : Nat) (κ : Nat) (r2 : Nat) (g1 : Nat) (μ : Nat) (fv : Nat → Int32) (dd : Nat) (τ : Nat) (rd : Nat) (nd : Nat) (z : Nat) (a : Nat) (tt : Nat) (y : Nat) (fi : Nat → Int32) (LC : List Nat) (DM : List Nat) (dn : List Nat) (U : List Nat) (hW : WTm ty gm L) (hL_h0 : h0 ∈ L) (hT_h0 : ty h0 = (15, ρ, [ta, ou, so, ad, na, va, lc, dm, tg, pe, ml, bg, co, sp, nb0, nb1, nb2, pl, se, ke, wi, hs, mo, po, nu, pr, sq, xa, sa, n64, m64, ex, wh, sd, tk, hd, ak, ho, ot, sx, s0, s1, s2, nf, bd, mm, zo, fm, sn, hg, gc, gv, ze, zt])) (hL_pe : pe ∈ L) (hT_pe : ty pe = (14, ρ + 7, [rp, 100])) (hL_g2 : g2 ∈ L) (hT_g2 : ty g2 = (14, κ, [r2, 61])) (hL_g1 : g1 ∈ L) (hT_g1 : ty g1 = (17, μ, [700])) (hL_dd : dd ∈ L) (hT_dd : ty dd = (14, τ, [rd, nd])) (hFg : F g1 = .inl (cs 17, 700, .inl fv)) (hmu : ρ + 100 ≤ μ) (hmu2 : μ < ρ + 300) (hkr : ρ + 300 ≤ κ) (htk : τ ≠ κ) (htp : τ ≠ ρ + 7) (hFi : F g2 = .inr (14, [.ref r2, .int (nI y)])) (hFj : F r2 = .inl (cs 17, 61, .inl fi)) (hTU : TGM U y fi) (hzn : z ≤ 700) (htz : tt < z) (hnd : nd ≤ 61) (hmL : mcL ((TC fv z) a)) (hto : tt = mcR (TC fv z) (mcD (TC fv z) (a + 1))) (hLC : TXM cs F lc 30 LC) (hDM : TXM cs F dm 60 DM) (hDN : TXM cs F dd nd dn) : Met l yX15_macroValue (.code yX15_macroValue cX15_macroValue 12 none :: tb) ({ frames := 3, cells := 0, slots := 0, locals := 71 }) (va_Pc [.ref h0, .ref g1, .int (nI a), .int (nI tt), .ref dd, .ref g2] (PTm (dC, dI) cs ty gm L F sz)) (va_Qv (fun _ : Unit => True) (fun _ T9 => ∃ F2 : Nat → va_E, ∃ y2 : Nat, ∃ f2 : Nat → Int32, QTm (dC, dI) cs ty gm L [κ, ρ + 7] F F2 (va_A (va_pl L F) sz) T9 ∧ F2 g2 = .inr (14, [.ref r2, .int (nI y2)]) ∧ F2 r2 = .inl (cs 17, 61, .inl f2) ∧ TGM (U ++ (prL (pcW (sdM LC DM (nI fm)) dn ((TC fv z) a)) (dgW ((TC fv z) (a + 1))) (trW ((TC fv z) (tt - 1))))) y2 f2) (va_A (va_pl L F) sz)) 0 0 (va_A (va_pl L F) sz) := by
  refine Met.ofW (cc := cX15_macroValue) (maxL := 12) (ret := none) (by decide) rfl ?_
  intro p e s m args below meth c s₁ B hml hv
  obtain ⟨rfl, hsz, hP, hK, hD0, hE, hO⟩ := hv
  have hx := B.exec
  have hb := B.bytes
  have hr := B.returns
  have hts : ∀ w ∈ tb, w.before _ s = true := fun w h => atoms_spec (ws := .code yX15_macroValue cX15_macroValue 12 none :: tb) B.pre w (List.mem_cons_of_mem _ h)
  have hown : s.vm.findClass RX15 = some m.cls := findClass_of_methodNamed B.named
  have hlocks := B.notSynchronized
  subst hsz
  have hD := hD0.self (sz := s.heap.size)
  generalize hAe : va_A (va_pl L F) s.heap.size = A at hD ⊢
  have hA : ∀ q : Nat, s.heap.size ≤ q → A q := fun q h => by rw [← hAe]; exact Or.inr h
  have hS : va_S A s.heap s.heap [] := va_S.rf
  have hR : FR ty [κ, ρ + 7] F F := FR.refl
  have hl := lv_entry ([.ref h0, .ref g1, .int (nI a), .int (nI tt), .ref dd, .ref g2]) (n := 12) (Nat.le_of_ble_eq_true rfl)
  rw [lg_entry_eq]
  generalize (lg_sl ([.ref h0, .ref g1, .int (nI a), .int (nI tt), .ref dd, .ref g2]) ++ List.replicate (12 - (lg_sl ([.ref h0, .ref g1, .int (nI a), .int (nI tt), .ref dd, .ref g2])).length) Slot.unset).toArray = ls at hl ⊢
  have hl : lv_has ls 12 [(0, .ref h0), (1, .ref g1), (2, .int (nI a)), (3, .int (nI tt)), (4, .ref dd), (5, .ref g2)] := hl
  obtain ⟨hq_22, hq_23, hq_24, hq_25, hq_26, hgO, hgA, hgB, hq_27⟩ := hW.sc hL_h0 hT_h0
  obtain ⟨v14_28, v15_29, v17_30, v18_31, v19_32, v20_33, v21_34, v22_35, v33_36, v52_37, v53_38, v54_39, hF_40, hq_41, hq_42, hq_43, hq_44, hq_45⟩ := hO.mod hL_h0 hT_h0
  obtain ⟨hi_46, ht_47, hq_48⟩ := hW.txt hL_pe hT_pe
  obtain ⟨hi_49, ht_50, hq_51⟩ := hW.txt hL_g2 hT_g2
  obtain ⟨hq_52, hq_53⟩ := hW.octs hL_g1 hT_g1
  obtain ⟨hi_54, ht_55, hq_56⟩ := hW.txt hL_dd hT_dd
  have htg := mg_to hto
  have hl2 := mcL_lt hmL
  obtain ⟨hi_57, r_1, ht_58⟩ := hW.f_lc hL_h0 hT_h0
  obtain ⟨zl, fcl, hxl1, hxl2, hxl3, hxl4⟩ := hLC.get hO hi_57 ht_58
  obtain ⟨hi_59, ht_60, hq_61⟩ := hW.txt hi_57 ht_58
  have hll9 := hxl3.1
  obtain ⟨hi_62, r_2, ht_63⟩ := hW.f_dm hL_h0 hT_h0
  obtain ⟨zm, fcm, hxm1, hxm2, hxm3, hxm4⟩ := hDM.get hO hi_62 ht_63
  obtain ⟨hi_64, ht_65, hq_66⟩ := hW.txt hi_62 ht_63
  have hlm9 := hxm3.1
  obtain ⟨zd, fcd, hxd1, hxd2, hxd3, hxd4⟩ := hDN.get hO hL_dd hT_dd
  have hld9 := hxd3.1
  refine lv_aload_n hx hb dX15_macroValue_0 rfl (lv_at hl 1 rfl) ?_
  refine lv_iload_n hx hb dX15_macroValue_1 rfl (lv_at hl 2 rfl) ?_
  refine pg_bald hx hb hK hP hL_g1 1 hFg rfl (vp_in_nI (by omega) (by omega)) dX15_macroValue_2 ?_
  refine lv_topi (fun x_67 ex_67 => ?_)
  obtain rfl : x_67 = (nI ((TC fv z) a)) := ex_67.trans ((congrArg fv (nI_clamp (by omega))).trans (tc_in (by omega) hl2))
  refine lv_istore (lv' := [(6, .int (nI ((TC fv z) a))), (0, .ref h0), (1, .ref g1), (2, .int (nI a)), (3, .int (nI tt)), (4, .ref dd), (5, .ref g2)]) hx hb dX15_macroValue_3 hl (by decide) rfl (fun ls hl => ?_)
  refine lv_iconst (v := 0) hx hb dX15_macroValue_5 (by decide) ?_
  refine lv_istore (lv' := [(7, .int 0), (6, .int (nI ((TC fv z) a))), (0, .ref h0), (1, .ref g1), (2, .int (nI a)), (3, .int (nI tt)), (4, .ref dd), (5, .ref g2)]) hx hb dX15_macroValue_6 hl (by decide) rfl (fun ls hl => ?_)
  refine lv_iconst (v := 0) hx hb dX15_macroValue_8 (by decide) ?_
  refine lv_istore (lv' := [(8, .int 0), (7, .int 0), (6, .int (nI ((TC fv z) a))), (0, .ref h0), (1, .ref g1), (2, .int (nI a)), (3, .int (nI tt)), (4, .ref dd), (5, .ref g2)]) hx hb dX15_macroValue_9 hl (by decide) rfl (fun ls hl => ?_)
  have hF_70 : F g1 = .inl (cs 17, 700, .inl fv) := (hR g1 (by rw [hT_g1]; simp only [List.mem_cons, List.not_mem_nil, or_false]; omega)).symm.trans hFg
  have hF_71 : F h0 = .inr (15, (.ref ta) :: (.int (nI zt)) :: (.int (nI zo)) :: (.int (nI ze)) :: (.ref ou) :: (.ref so) :: (.ref ad) :: (.ref na) :: (.ref va) :: (.ref lc) :: (.ref dm) :: (.int (nI fm)) :: (.int (nI sn)) :: (.ref tg) :: (.int v14_28) :: (.int v15_29) :: (.ref pe) :: (.int v17_30) :: (.int v18_31) :: (.int v19_32) :: (.int v20_33) :: (.int v21_34) :: (.int v22_35) :: (.ref ml) :: (.ref bg) :: (.ref co) :: (.ref sp) :: (.ref nb0) :: (.ref nb1) :: (.ref nb2) :: (.int (nI nf)) :: (.int (nI bd)) :: (.int (nI mm)) :: (.int v33_36) :: (.ref pl) :: (.ref se) :: (.ref ke) :: (.ref wi) :: (.ref hs) :: (.ref mo) :: (.ref po) :: (.ref nu) :: (.ref pr) :: (.ref sq) :: (.ref xa) :: (.ref sa) :: (.ref n64) :: (.ref m64) :: (.ref ex) :: (.ref wh) :: (.ref sd) :: (.ref tk) :: (.int v52_37) :: (.int v53_38) :: (.int v54_39) :: (.ref hd) :: (.ref ak) :: (.ref ho) :: (.ref ot) :: []) := (hR h0 (by rw [hT_h0]; simp only [List.mem_cons, List.not_mem_nil, or_false]; omega)).symm.trans hF_40
  have hF_72 : F lc = .inr (14, [.ref r_1, .int (nI zl)]) := (hR lc (by rw [ht_58]; simp only [List.mem_cons, List.not_mem_nil, or_false]; omega)).symm.trans hxl1
  have hF_73 : F r_1 = .inl (cs 17, 30, .inl fcl) := (hR r_1 (by rw [ht_60]; simp only [List.mem_cons, List.not_mem_nil, or_false]; omega)).symm.trans hxl2
  have hF_74 : F dm = .inr (14, [.ref r_2, .int (nI zm)]) := (hR dm (by rw [ht_63]; simp only [List.mem_cons, List.not_mem_nil, or_false]; omega)).symm.trans hxm1
  have hF_75 : F r_2 = .inl (cs 17, 60, .inl fcm) := (hR r_2 (by rw [ht_65]; simp only [List.mem_cons, List.not_mem_nil, or_false]; omega)).symm.trans hxm2
  have hF_76 : F dd = .inr (14, [.ref rd, .int (nI zd)]) := (hR dd (by rw [hT_dd]; simp only [List.mem_cons, List.not_mem_nil, or_false]; omega)).symm.trans hxd1
  have hF_77 : F rd = .inl (cs 17, nd, .inl fcd) := (hR rd (by rw [ht_55]; simp only [List.mem_cons, List.not_mem_nil, or_false]; omega)).symm.trans hxd2
  refine W.widen (k := 0) (n := 0) (by omega) (by omega) ?_
  refine pl_cutm (σ := Int32) A (dC, dI) cs ty gm L [κ, ρ + 7] F 33 12 (fun s9 => [(8, .int 0), (7, .int 0), (6, .int (nI ((TC fv z) a))), (0, .ref h0), (1, .ref g1), (2, .int (nI a)), (3, .int (nI tt)), (4, .ref dd), (5, .ref g2)]) (fun s9 => [.int s9]) (fun s9 FF => s9 = (trW ((TC fv z) (tt - 1))) ∧ FF g2 = .inr (14, [.ref r2, .int (nI y)]) ∧ FF r2 = .inl (cs 17, 61, .inl fi)) ?_ (fun jn_68 => ?_)
  ·
    rintro s9 F_69 hv_78 hO hR H locs hP hD hS ls hl
    have hl : lv_has ls 12 [(8, .int 0), (7, .int 0), (6, .int (nI ((TC fv z) a))), (0, .ref h0), (1, .ref g1), (2, .int (nI a)), (3, .int (nI tt)), (4, .ref dd), (5, .ref g2)] := hl
    have hv_78 : s9 = (trW ((TC fv z) (tt - 1))) ∧ F_69 g2 = .inr (14, [.ref r2, .int (nI y)]) ∧ F_69 r2 = .inl (cs 17, 61, .inl fi) := hv_78
    refine W.eq (g2 := F0 m 33 ls [.int s9]) rfl ?_
    have hF_79 : F_69 g1 = .inl (cs 17, 700, .inl fv) := (hR g1 (by rw [hT_g1]; simp only [List.mem_cons, List.not_mem_nil, or_false]; omega)).trans hF_70
    have hF_80 : F_69 h0 = .inr (15, (.ref ta) :: (.int (nI zt)) :: (.int (nI zo)) :: (.int (nI ze)) :: (.ref ou) :: (.ref so) :: (.ref ad) :: (.ref na) :: (.ref va) :: (.ref lc) :: (.ref dm) :: (.int (nI fm)) :: (.int (nI sn)) :: (.ref tg) :: (.int v14_28) :: (.int v15_29) :: (.ref pe) :: (.int v17_30) :: (.int v18_31) :: (.int v19_32) :: (.int v20_33) :: (.int v21_34) :: (.int v22_35) :: (.ref ml) :: (.ref bg) :: (.ref co) :: (.ref sp) :: (.ref nb0) :: (.ref nb1) :: (.ref nb2) :: (.int (nI nf)) :: (.int (nI bd)) :: (.int (nI mm)) :: (.int v33_36) :: (.ref pl) :: (.ref se) :: (.ref ke) :: (.ref wi) :: (.ref hs) :: (.ref mo) :: (.ref po) :: (.ref nu) :: (.ref pr) :: (.ref sq) :: (.ref xa) :: (.ref sa) :: (.ref n64) :: (.ref m64) :: (.ref ex) :: (.ref wh) :: (.ref sd) :: (.ref tk) :: (.int v52_37) :: (.int v53_38) :: (.int v54_39) :: (.ref hd) :: (.ref ak) :: (.ref ho) :: (.ref ot) :: []) := (hR h0 (by rw [hT_h0]; simp only [List.mem_cons, List.not_mem_nil, or_false]; omega)).trans hF_71
    have hF_81 : F_69 lc = .inr (14, [.ref r_1, .int (nI zl)]) := (hR lc (by rw [ht_58]; simp only [List.mem_cons, List.not_mem_nil, or_false]; omega)).trans hF_72
    have hF_82 : F_69 r_1 = .inl (cs 17, 30, .inl fcl) := (hR r_1 (by rw [ht_60]; simp only [List.mem_cons, List.not_mem_nil, or_false]; omega)).trans hF_73
    have hF_83 : F_69 dm = .inr (14, [.ref r_2, .int (nI zm)]) := (hR dm (by rw [ht_63]; simp only [List.mem_cons, List.not_mem_nil, or_false]; omega)).trans hF_74
    have hF_84 : F_69 r_2 = .inl (cs 17, 60, .inl fcm) := (hR r_2 (by rw [ht_65]; simp only [List.mem_cons, List.not_mem_nil, or_false]; omega)).trans hF_75
    have hF_85 : F_69 dd = .inr (14, [.ref rd, .int (nI zd)]) := (hR dd (by rw [hT_dd]; simp only [List.mem_cons, List.not_mem_nil, or_false]; omega)).trans hF_76
    have hF_86 : F_69 rd = .inl (cs 17, nd, .inl fcd) := (hR rd (by rw [ht_55]; simp only [List.mem_cons, List.not_mem_nil, or_false]; omega)).trans hF_77
    obtain ⟨hr9, ha1, ha2⟩ := hv_78
    subst hr9
    refine W.eq (g2 := F0 m 33 ls [.int (trW ((TC fv z) (tt - 1)))]) rfl ?_
    refine lv_istore (lv' := [(9, .int (trW ((TC fv z) (tt - 1)))), (8, .int 0), (7, .int 0), (6, .int (nI ((TC fv z) a))), (0, .ref h0), (1, .ref g1), (2, .int (nI a)), (3, .int (nI tt)), (4, .ref dd), (5, .ref g2)]) hx hb dX15_macroValue_33 hl (by decide) rfl (fun ls hl => ?_)
    refine lv_iload_n hx hb dX15_macroValue_35 rfl (lv_at hl 6 rfl) ?_
    refine lv_iconst (v := 1) hx hb dX15_macroValue_36 (by decide) ?_
    refine lv_iadd hx hb dX15_macroValue_37 ?_
    refine lv_topi (fun x_87 ex_87 => ?_)
    obtain rfl : x_87 = (nI (a + 1)) := ex_87.trans (nI_add a 1)
    refine lv_istore (lv' := [(10, .int (nI (a + 1))), (9, .int (trW ((TC fv z) (tt - 1)))), (8, .int 0), (7, .int 0), (6, .int (nI ((TC fv z) a))), (0, .ref h0), (1, .ref g1), (2, .int (nI a)), (3, .int (nI tt)), (4, .ref dd), (5, .ref g2)]) hx hb dX15_macroValue_38 hl (by decide) rfl (fun ls hl => ?_)
    refine W.widen (k := 0) (n := 0) (by omega) (by omega) ?_
    have hF_89 : F g1 = .inl (cs 17, 700, .inl fv) := (hR g1 (by rw [hT_g1]; simp only [List.mem_cons, List.not_mem_nil, or_false]; omega)).symm.trans hF_79
    have hF_90 : F h0 = .inr (15, (.ref ta) :: (.int (nI zt)) :: (.int (nI zo)) :: (.int (nI ze)) :: (.ref ou) :: (.ref so) :: (.ref ad) :: (.ref na) :: (.ref va) :: (.ref lc) :: (.ref dm) :: (.int (nI fm)) :: (.int (nI sn)) :: (.ref tg) :: (.int v14_28) :: (.int v15_29) :: (.ref pe) :: (.int v17_30) :: (.int v18_31) :: (.int v19_32) :: (.int v20_33) :: (.int v21_34) :: (.int v22_35) :: (.ref ml) :: (.ref bg) :: (.ref co) :: (.ref sp) :: (.ref nb0) :: (.ref nb1) :: (.ref nb2) :: (.int (nI nf)) :: (.int (nI bd)) :: (.int (nI mm)) :: (.int v33_36) :: (.ref pl) :: (.ref se) :: (.ref ke) :: (.ref wi) :: (.ref hs) :: (.ref mo) :: (.ref po) :: (.ref nu) :: (.ref pr) :: (.ref sq) :: (.ref xa) :: (.ref sa) :: (.ref n64) :: (.ref m64) :: (.ref ex) :: (.ref wh) :: (.ref sd) :: (.ref tk) :: (.int v52_37) :: (.int v53_38) :: (.int v54_39) :: (.ref hd) :: (.ref ak) :: (.ref ho) :: (.ref ot) :: []) := (hR h0 (by rw [hT_h0]; simp only [List.mem_cons, List.not_mem_nil, or_false]; omega)).symm.trans hF_80
    have hF_91 : F lc = .inr (14, [.ref r_1, .int (nI zl)]) := (hR lc (by rw [ht_58]; simp only [List.mem_cons, List.not_mem_nil, or_false]; omega)).symm.trans hF_81
    have hF_92 : F r_1 = .inl (cs 17, 30, .inl fcl) := (hR r_1 (by rw [ht_60]; simp only [List.mem_cons, List.not_mem_nil, or_false]; omega)).symm.trans hF_82
    have hF_93 : F dm = .inr (14, [.ref r_2, .int (nI zm)]) := (hR dm (by rw [ht_63]; simp only [List.mem_cons, List.not_mem_nil, or_false]; omega)).symm.trans hF_83
    have hF_94 : F r_2 = .inl (cs 17, 60, .inl fcm) := (hR r_2 (by rw [ht_65]; simp only [List.mem_cons, List.not_mem_nil, or_false]; omega)).symm.trans hF_84
    have hF_95 : F dd = .inr (14, [.ref rd, .int (nI zd)]) := (hR dd (by rw [hT_dd]; simp only [List.mem_cons, List.not_mem_nil, or_false]; omega)).symm.trans hF_85
    have hF_96 : F rd = .inl (cs 17, nd, .inl fcd) := (hR rd (by rw [ht_55]; simp only [List.mem_cons, List.not_mem_nil, or_false]; omega)).symm.trans hF_86
    refine pl_loopm (σ := Nat × Nat) A (dC, dI) cs ty gm L [κ, ρ + 7] F 40 12 (fun (j, nn) => [(10, .int (nI j)), (9, .int (trW ((TC fv z) (tt - 1)))), (8, .int (nI nn)), (7, .int 0), (6, .int (nI ((TC fv z) a))), (0, .ref h0), (1, .ref g1), (2, .int (nI a)), (3, .int (nI tt)), (4, .ref dd), (5, .ref g2)]) (fun (j, nn) => []) (fun (j, nn) FF => a + 1 ≤ j ∧ j ≤ tt ∧ nn ≤ 9 ∧ IMPL (j = a + 1) (nn = 0) ∧ IMPL (a + 1 < j) (nn = (dgW ((TC fv z) (a + 1)))) ∧ FF g2 = .inr (14, [.ref r2, .int (nI y)]) ∧ FF r2 = .inl (cs 17, 61, .inl fi)) (fun (j, nn) => tt - j) ?_ ((a + 1), 0) F_69 (⟨Nat.le_refl _, by omega, by omega, fun _ => rfl, fun q => absurd q (by omega), ha1, ha2⟩) hO hR _ _ hP hD hS ls (lv_sub hl [0, 1, 2, 3, 4, 5, 6, 7, 8, 9, 10] rfl)
    rintro ⟨j, nn⟩ F_88 hv_97 hO hR ih_98 H locs hP hD hS ls hl
    have hl : lv_has ls 12 [(10, .int (nI j)), (9, .int (trW ((TC fv z) (tt - 1)))), (8, .int (nI nn)), (7, .int 0), (6, .int (nI ((TC fv z) a))), (0, .ref h0), (1, .ref g1), (2, .int (nI a)), (3, .int (nI tt)), (4, .ref dd), (5, .ref g2)] := hl
    have hv_97 : a + 1 ≤ j ∧ j ≤ tt ∧ nn ≤ 9 ∧ IMPL (j = a + 1) (nn = 0) ∧ IMPL (a + 1 < j) (nn = (dgW ((TC fv z) (a + 1)))) ∧ F_88 g2 = .inr (14, [.ref r2, .int (nI y)]) ∧ F_88 r2 = .inl (cs 17, 61, .inl fi) := hv_97
    refine W.eq (g2 := F0 m 40 ls []) rfl ?_
    have hF_99 : F_88 g1 = .inl (cs 17, 700, .inl fv) := (hR g1 (by rw [hT_g1]; simp only [List.mem_cons, List.not_mem_nil, or_false]; omega)).trans hF_89
    have hF_100 : F_88 h0 = .inr (15, (.ref ta) :: (.int (nI zt)) :: (.int (nI zo)) :: (.int (nI ze)) :: (.ref ou) :: (.ref so) :: (.ref ad) :: (.ref na) :: (.ref va) :: (.ref lc) :: (.ref dm) :: (.int (nI fm)) :: (.int (nI sn)) :: (.ref tg) :: (.int v14_28) :: (.int v15_29) :: (.ref pe) :: (.int v17_30) :: (.int v18_31) :: (.int v19_32) :: (.int v20_33) :: (.int v21_34) :: (.int v22_35) :: (.ref ml) :: (.ref bg) :: (.ref co) :: (.ref sp) :: (.ref nb0) :: (.ref nb1) :: (.ref nb2) :: (.int (nI nf)) :: (.int (nI bd)) :: (.int (nI mm)) :: (.int v33_36) :: (.ref pl) :: (.ref se) :: (.ref ke) :: (.ref wi) :: (.ref hs) :: (.ref mo) :: (.ref po) :: (.ref nu) :: (.ref pr) :: (.ref sq) :: (.ref xa) :: (.ref sa) :: (.ref n64) :: (.ref m64) :: (.ref ex) :: (.ref wh) :: (.ref sd) :: (.ref tk) :: (.int v52_37) :: (.int v53_38) :: (.int v54_39) :: (.ref hd) :: (.ref ak) :: (.ref ho) :: (.ref ot) :: []) := (hR h0 (by rw [hT_h0]; simp only [List.mem_cons, List.not_mem_nil, or_false]; omega)).trans hF_90
    have hF_101 : F_88 lc = .inr (14, [.ref r_1, .int (nI zl)]) := (hR lc (by rw [ht_58]; simp only [List.mem_cons, List.not_mem_nil, or_false]; omega)).trans hF_91
    have hF_102 : F_88 r_1 = .inl (cs 17, 30, .inl fcl) := (hR r_1 (by rw [ht_60]; simp only [List.mem_cons, List.not_mem_nil, or_false]; omega)).trans hF_92
    have hF_103 : F_88 dm = .inr (14, [.ref r_2, .int (nI zm)]) := (hR dm (by rw [ht_63]; simp only [List.mem_cons, List.not_mem_nil, or_false]; omega)).trans hF_93
    have hF_104 : F_88 r_2 = .inl (cs 17, 60, .inl fcm) := (hR r_2 (by rw [ht_65]; simp only [List.mem_cons, List.not_mem_nil, or_false]; omega)).trans hF_94
    have hF_105 : F_88 dd = .inr (14, [.ref rd, .int (nI zd)]) := (hR dd (by rw [hT_dd]; simp only [List.mem_cons, List.not_mem_nil, or_false]; omega)).trans hF_95
    have hF_106 : F_88 rd = .inl (cs 17, nd, .inl fcd) := (hR rd (by rw [ht_55]; simp only [List.mem_cons, List.not_mem_nil, or_false]; omega)).trans hF_96
    obtain ⟨hn1, hn8, hn9, hn5, hn2, hn3, hn4⟩ := hv_97
    refine lv_iload hx hb dX15_macroValue_40 (lv_at hl 0 rfl) ?_
    refine lv_iload_n hx hb dX15_macroValue_42 rfl (lv_at hl 8 rfl) ?_
    refine lv_icmp_ge (tgt := 71) hx hb dX15_macroValue_43 (by decide) (fun c_107 => ?_) (fun c_107 => ?_)
    ·
      have hi_108 : tt ≤ j := leN (N := tt) c_107
      have hnn : nn = (dgW ((TC fv z) (a + 1))) := by rcases Nat.lt_or_ge (a + 1) j with q | q; exact hn2 q; rw [hn5 (by omega)]; exact (mg_n hto (fun q2 => absurd q2.1 (by omega))).symm
      refine lv_aload_n hx hb dX15_macroValue_71 rfl (lv_at hl 5 rfl) ?_
      refine pg_get (ci := 15) (v := .ref pe) (C := RX15) (T := TX15) (N := 59) hx hb hts it_15 hown hK hP hL_h0 hF_100 rfl 16 (by decide) (hts _ kt_1126) (fun _ h9 => h9) rfl dX15_macroValue_72 ?_
      refine lv_iconst (v := 0) hx hb dX15_macroValue_75 (by decide) ?_
      obtain ⟨z_109, hF_110, hq_111⟩ := hO.txt hL_pe hT_pe
      refine pg_put (ci := 14) (v := .int 0) (ty := .int) (C := RX14) (T := TX14) (N := 2) hx hb hts it_14 tyX14 tyX14_ok nmX14 hown hK hP hD hS hL_pe hF_110 rfl 1 (by decide) (hts _ kt_709) (fun _ h9 => h9) rfl (by decide +kernel) (rfl) (rfl) (Nat.le_of_ble_eq_true rfl) dX15_macroValue_76 (fun H locs hP hD hS => ?_)
      obtain ⟨F_112, he_113, hP, hD, hO, hR⟩ : ∃ G, G = va_up F_88 pe (.inr (14, [.ref rp, .int 0])) ∧ va_P (dC, dI) vwCl (va_pl L G) H ∧ va_D A (va_pl L G) ∧ OKm cs ty gm L G ∧ FR ty [κ, ρ + 7] F G := ⟨_, rfl, hP, hD, hO.up (shm.txt hT_pe ⟨0, rfl, (by first | omega | assumption | exact Or.inl rfl | exact Or.inr rfl)⟩), hR.up hT_pe (by simp)⟩
      have hF_114 : F_112 pe = .inr (14, [.ref rp, .int 0]) := by rw [he_113]; exact up_self
      have hF_115 : F_112 g1 = .inl (cs 17, 700, .inl fv) := by rw [he_113, up_ne (ne_ty hT_g1 hT_pe (by simp))]; exact hF_99
      have hF_116 : F_112 h0 = .inr (15, (.ref ta) :: (.int (nI zt)) :: (.int (nI zo)) :: (.int (nI ze)) :: (.ref ou) :: (.ref so) :: (.ref ad) :: (.ref na) :: (.ref va) :: (.ref lc) :: (.ref dm) :: (.int (nI fm)) :: (.int (nI sn)) :: (.ref tg) :: (.int v14_28) :: (.int v15_29) :: (.ref pe) :: (.int v17_30) :: (.int v18_31) :: (.int v19_32) :: (.int v20_33) :: (.int v21_34) :: (.int v22_35) :: (.ref ml) :: (.ref bg) :: (.ref co) :: (.ref sp) :: (.ref nb0) :: (.ref nb1) :: (.ref nb2) :: (.int (nI nf)) :: (.int (nI bd)) :: (.int (nI mm)) :: (.int v33_36) :: (.ref pl) :: (.ref se) :: (.ref ke) :: (.ref wi) :: (.ref hs) :: (.ref mo) :: (.ref po) :: (.ref nu) :: (.ref pr) :: (.ref sq) :: (.ref xa) :: (.ref sa) :: (.ref n64) :: (.ref m64) :: (.ref ex) :: (.ref wh) :: (.ref sd) :: (.ref tk) :: (.int v52_37) :: (.int v53_38) :: (.int v54_39) :: (.ref hd) :: (.ref ak) :: (.ref ho) :: (.ref ot) :: []) := by rw [he_113, up_ne (ne_ty hT_h0 hT_pe (by simp))]; exact hF_100
      have hF_117 : F_112 lc = .inr (14, [.ref r_1, .int (nI zl)]) := by rw [he_113, up_ne (ne_ty2 ht_58 hT_pe (by simp))]; exact hF_101
      have hF_118 : F_112 r_1 = .inl (cs 17, 30, .inl fcl) := by rw [he_113, up_ne (ne_ty ht_60 hT_pe (by simp))]; exact hF_102
      have hF_119 : F_112 dm = .inr (14, [.ref r_2, .int (nI zm)]) := by rw [he_113, up_ne (ne_ty2 ht_63 hT_pe (by simp))]; exact hF_103
      have hF_120 : F_112 r_2 = .inl (cs 17, 60, .inl fcm) := by rw [he_113, up_ne (ne_ty ht_65 hT_pe (by simp))]; exact hF_104
      have hF_121 : F_112 dd = .inr (14, [.ref rd, .int (nI zd)]) := by rw [he_113, up_ne (ne_ty3 hT_dd hT_pe (by show τ ≠ ρ + 7; omega))]; exact hF_105
      have hF_122 : F_112 rd = .inl (cs 17, nd, .inl fcd) := by rw [he_113, up_ne (ne_ty ht_55 hT_pe (by simp))]; exact hF_106
      have hF_123 : F_112 g2 = .inr (14, [.ref r2, .int (nI y)]) := by rw [he_113, up_ne (ne_ty2 hT_g2 hT_pe (by simp))]; exact hn3
      have hF_124 : F_112 r2 = .inl (cs 17, 61, .inl fi) := by rw [he_113, up_ne (ne_ty ht_50 hT_pe (by simp))]; exact hn4
      have hF_127 : F g1 = .inl (cs 17, 700, .inl fv) := (hR g1 (by rw [hT_g1]; simp only [List.mem_cons, List.not_mem_nil, or_false]; omega)).symm.trans hF_115
      have hF_128 : F h0 = .inr (15, (.ref ta) :: (.int (nI zt)) :: (.int (nI zo)) :: (.int (nI ze)) :: (.ref ou) :: (.ref so) :: (.ref ad) :: (.ref na) :: (.ref va) :: (.ref lc) :: (.ref dm) :: (.int (nI fm)) :: (.int (nI sn)) :: (.ref tg) :: (.int v14_28) :: (.int v15_29) :: (.ref pe) :: (.int v17_30) :: (.int v18_31) :: (.int v19_32) :: (.int v20_33) :: (.int v21_34) :: (.int v22_35) :: (.ref ml) :: (.ref bg) :: (.ref co) :: (.ref sp) :: (.ref nb0) :: (.ref nb1) :: (.ref nb2) :: (.int (nI nf)) :: (.int (nI bd)) :: (.int (nI mm)) :: (.int v33_36) :: (.ref pl) :: (.ref se) :: (.ref ke) :: (.ref wi) :: (.ref hs) :: (.ref mo) :: (.ref po) :: (.ref nu) :: (.ref pr) :: (.ref sq) :: (.ref xa) :: (.ref sa) :: (.ref n64) :: (.ref m64) :: (.ref ex) :: (.ref wh) :: (.ref sd) :: (.ref tk) :: (.int v52_37) :: (.int v53_38) :: (.int v54_39) :: (.ref hd) :: (.ref ak) :: (.ref ho) :: (.ref ot) :: []) := (hR h0 (by rw [hT_h0]; simp only [List.mem_cons, List.not_mem_nil, or_false]; omega)).symm.trans hF_116
      have hF_129 : F lc = .inr (14, [.ref r_1, .int (nI zl)]) := (hR lc (by rw [ht_58]; simp only [List.mem_cons, List.not_mem_nil, or_false]; omega)).symm.trans hF_117
      have hF_130 : F r_1 = .inl (cs 17, 30, .inl fcl) := (hR r_1 (by rw [ht_60]; simp only [List.mem_cons, List.not_mem_nil, or_false]; omega)).symm.trans hF_118
      have hF_131 : F dm = .inr (14, [.ref r_2, .int (nI zm)]) := (hR dm (by rw [ht_63]; simp only [List.mem_cons, List.not_mem_nil, or_false]; omega)).symm.trans hF_119
      have hF_132 : F r_2 = .inl (cs 17, 60, .inl fcm) := (hR r_2 (by rw [ht_65]; simp only [List.mem_cons, List.not_mem_nil, or_false]; omega)).symm.trans hF_120
      have hF_133 : F dd = .inr (14, [.ref rd, .int (nI zd)]) := (hR dd (by rw [hT_dd]; simp only [List.mem_cons, List.not_mem_nil, or_false]; omega)).symm.trans hF_121
      have hF_134 : F rd = .inl (cs 17, nd, .inl fcd) := (hR rd (by rw [ht_55]; simp only [List.mem_cons, List.not_mem_nil, or_false]; omega)).symm.trans hF_122
      refine W.widen (k := 0) (n := 0) (by omega) (by omega) ?_
      refine pl_cutm (σ := Nat × (Nat → Int32) × (List Nat)) A (dC, dI) cs ty gm L [κ, ρ + 7] F 192 12 (fun (zz, fz, Wg) => [(9, .int (trW ((TC fv z) (tt - 1)))), (8, .int (nI nn)), (7, .int 0), (6, .int (nI ((TC fv z) a))), (0, .ref h0), (1, .ref g1), (2, .int (nI a)), (3, .int (nI tt)), (4, .ref dd), (5, .ref g2)]) (fun (zz, fz, Wg) => []) (fun (zz, fz, Wg) FF => (FF g2 = .inr (14, [.ref r2, .int (nI y)]) ∧ FF r2 = .inl (cs 17, 61, .inl fi) ∧ FF pe = .inr (14, [.ref rp, .int (nI zz)]) ∧ FF rp = .inl (cs 17, 100, .inl fz) ∧ SRC Wg zz fz) ∧ ((((TC fv z) a) = 105 ∧ Wg = []) ∨ (¬ ((TC fv z) a) = 105 ∧ Wg = (pcW (sdM LC DM (nI fm)) dn ((TC fv z) a))))) ?_ (fun jn_125 => ?_)
      ·
        rintro ⟨zz, fz, Wg⟩ F_126 hv_135 hO hR H locs hP hD hS ls hl
        have hl : lv_has ls 12 [(9, .int (trW ((TC fv z) (tt - 1)))), (8, .int (nI nn)), (7, .int 0), (6, .int (nI ((TC fv z) a))), (0, .ref h0), (1, .ref g1), (2, .int (nI a)), (3, .int (nI tt)), (4, .ref dd), (5, .ref g2)] := hl
        have hv_135 : (F_126 g2 = .inr (14, [.ref r2, .int (nI y)]) ∧ F_126 r2 = .inl (cs 17, 61, .inl fi) ∧ F_126 pe = .inr (14, [.ref rp, .int (nI zz)]) ∧ F_126 rp = .inl (cs 17, 100, .inl fz) ∧ SRC Wg zz fz) ∧ ((((TC fv z) a) = 105 ∧ Wg = []) ∨ (¬ ((TC fv z) a) = 105 ∧ Wg = (pcW (sdM LC DM (nI fm)) dn ((TC fv z) a)))) := hv_135
        refine W.eq (g2 := F0 m 192 ls []) rfl ?_
        have hF_136 : F_126 g1 = .inl (cs 17, 700, .inl fv) := (hR g1 (by rw [hT_g1]; simp only [List.mem_cons, List.not_mem_nil, or_false]; omega)).trans hF_127
        have hF_137 : F_126 h0 = .inr (15, (.ref ta) :: (.int (nI zt)) :: (.int (nI zo)) :: (.int (nI ze)) :: (.ref ou) :: (.ref so) :: (.ref ad) :: (.ref na) :: (.ref va) :: (.ref lc) :: (.ref dm) :: (.int (nI fm)) :: (.int (nI sn)) :: (.ref tg) :: (.int v14_28) :: (.int v15_29) :: (.ref pe) :: (.int v17_30) :: (.int v18_31) :: (.int v19_32) :: (.int v20_33) :: (.int v21_34) :: (.int v22_35) :: (.ref ml) :: (.ref bg) :: (.ref co) :: (.ref sp) :: (.ref nb0) :: (.ref nb1) :: (.ref nb2) :: (.int (nI nf)) :: (.int (nI bd)) :: (.int (nI mm)) :: (.int v33_36) :: (.ref pl) :: (.ref se) :: (.ref ke) :: (.ref wi) :: (.ref hs) :: (.ref mo) :: (.ref po) :: (.ref nu) :: (.ref pr) :: (.ref sq) :: (.ref xa) :: (.ref sa) :: (.ref n64) :: (.ref m64) :: (.ref ex) :: (.ref wh) :: (.ref sd) :: (.ref tk) :: (.int v52_37) :: (.int v53_38) :: (.int v54_39) :: (.ref hd) :: (.ref ak) :: (.ref ho) :: (.ref ot) :: []) := (hR h0 (by rw [hT_h0]; simp only [List.mem_cons, List.not_mem_nil, or_false]; omega)).trans hF_128
        have hF_138 : F_126 lc = .inr (14, [.ref r_1, .int (nI zl)]) := (hR lc (by rw [ht_58]; simp only [List.mem_cons, List.not_mem_nil, or_false]; omega)).trans hF_129
        have hF_139 : F_126 r_1 = .inl (cs 17, 30, .inl fcl) := (hR r_1 (by rw [ht_60]; simp only [List.mem_cons, List.not_mem_nil, or_false]; omega)).trans hF_130
        have hF_140 : F_126 dm = .inr (14, [.ref r_2, .int (nI zm)]) := (hR dm (by rw [ht_63]; simp only [List.mem_cons, List.not_mem_nil, or_false]; omega)).trans hF_131
        have hF_141 : F_126 r_2 = .inl (cs 17, 60, .inl fcm) := (hR r_2 (by rw [ht_65]; simp only [List.mem_cons, List.not_mem_nil, or_false]; omega)).trans hF_132
        have hF_142 : F_126 dd = .inr (14, [.ref rd, .int (nI zd)]) := (hR dd (by rw [hT_dd]; simp only [List.mem_cons, List.not_mem_nil, or_false]; omega)).trans hF_133
        have hF_143 : F_126 rd = .inl (cs 17, nd, .inl fcd) := (hR rd (by rw [ht_55]; simp only [List.mem_cons, List.not_mem_nil, or_false]; omega)).trans hF_134
        obtain ⟨⟨hc1, hc2, hc3, hc4, hc5⟩, hc6⟩ := hv_135
        have hF_146 : F g1 = .inl (cs 17, 700, .inl fv) := (hR g1 (by rw [hT_g1]; simp only [List.mem_cons, List.not_mem_nil, or_false]; omega)).symm.trans hF_136
        have hF_147 : F h0 = .inr (15, (.ref ta) :: (.int (nI zt)) :: (.int (nI zo)) :: (.int (nI ze)) :: (.ref ou) :: (.ref so) :: (.ref ad) :: (.ref na) :: (.ref va) :: (.ref lc) :: (.ref dm) :: (.int (nI fm)) :: (.int (nI sn)) :: (.ref tg) :: (.int v14_28) :: (.int v15_29) :: (.ref pe) :: (.int v17_30) :: (.int v18_31) :: (.int v19_32) :: (.int v20_33) :: (.int v21_34) :: (.int v22_35) :: (.ref ml) :: (.ref bg) :: (.ref co) :: (.ref sp) :: (.ref nb0) :: (.ref nb1) :: (.ref nb2) :: (.int (nI nf)) :: (.int (nI bd)) :: (.int (nI mm)) :: (.int v33_36) :: (.ref pl) :: (.ref se) :: (.ref ke) :: (.ref wi) :: (.ref hs) :: (.ref mo) :: (.ref po) :: (.ref nu) :: (.ref pr) :: (.ref sq) :: (.ref xa) :: (.ref sa) :: (.ref n64) :: (.ref m64) :: (.ref ex) :: (.ref wh) :: (.ref sd) :: (.ref tk) :: (.int v52_37) :: (.int v53_38) :: (.int v54_39) :: (.ref hd) :: (.ref ak) :: (.ref ho) :: (.ref ot) :: []) := (hR h0 (by rw [hT_h0]; simp only [List.mem_cons, List.not_mem_nil, or_false]; omega)).symm.trans hF_137
        have hF_148 : F lc = .inr (14, [.ref r_1, .int (nI zl)]) := (hR lc (by rw [ht_58]; simp only [List.mem_cons, List.not_mem_nil, or_false]; omega)).symm.trans hF_138
        have hF_149 : F r_1 = .inl (cs 17, 30, .inl fcl) := (hR r_1 (by rw [ht_60]; simp only [List.mem_cons, List.not_mem_nil, or_false]; omega)).symm.trans hF_139
        have hF_150 : F dm = .inr (14, [.ref r_2, .int (nI zm)]) := (hR dm (by rw [ht_63]; simp only [List.mem_cons, List.not_mem_nil, or_false]; omega)).symm.trans hF_140
        have hF_151 : F r_2 = .inl (cs 17, 60, .inl fcm) := (hR r_2 (by rw [ht_65]; simp only [List.mem_cons, List.not_mem_nil, or_false]; omega)).symm.trans hF_141
        have hF_152 : F dd = .inr (14, [.ref rd, .int (nI zd)]) := (hR dd (by rw [hT_dd]; simp only [List.mem_cons, List.not_mem_nil, or_false]; omega)).symm.trans hF_142
        have hF_153 : F rd = .inl (cs 17, nd, .inl fcd) := (hR rd (by rw [ht_55]; simp only [List.mem_cons, List.not_mem_nil, or_false]; omega)).symm.trans hF_143
        refine W.widen (k := 0) (n := 0) (by omega) (by omega) ?_
        refine pl_cutm (σ := Nat × (Nat → Int32)) A (dC, dI) cs ty gm L [κ, ρ + 7] F 303 12 (fun (ze9, f9) => [(9, .int (trW ((TC fv z) (tt - 1)))), (8, .int (nI nn)), (7, .int 0), (6, .int (nI ((TC fv z) a))), (0, .ref h0), (1, .ref g1), (2, .int (nI a)), (3, .int (nI tt)), (4, .ref dd), (5, .ref g2)]) (fun (ze9, f9) => []) (fun (ze9, f9) FF => (FF g2 = .inr (14, [.ref r2, .int (nI y)]) ∧ FF r2 = .inl (cs 17, 61, .inl fi) ∧ FF pe = .inr (14, [.ref rp, .int (nI ze9)]) ∧ FF rp = .inl (cs 17, 100, .inl f9) ∧ SRC (pcW (sdM LC DM (nI fm)) dn ((TC fv z) a)) ze9 f9) ∧ ze9 ≤ 91) ?_ (fun jn_144 => ?_)
        ·
          rintro ⟨ze9, f9⟩ F_145 hv_154 hO hR H locs hP hD hS ls hl
          have hl : lv_has ls 12 [(9, .int (trW ((TC fv z) (tt - 1)))), (8, .int (nI nn)), (7, .int 0), (6, .int (nI ((TC fv z) a))), (0, .ref h0), (1, .ref g1), (2, .int (nI a)), (3, .int (nI tt)), (4, .ref dd), (5, .ref g2)] := hl
          have hv_154 : (F_145 g2 = .inr (14, [.ref r2, .int (nI y)]) ∧ F_145 r2 = .inl (cs 17, 61, .inl fi) ∧ F_145 pe = .inr (14, [.ref rp, .int (nI ze9)]) ∧ F_145 rp = .inl (cs 17, 100, .inl f9) ∧ SRC (pcW (sdM LC DM (nI fm)) dn ((TC fv z) a)) ze9 f9) ∧ ze9 ≤ 91 := hv_154
          refine W.eq (g2 := F0 m 303 ls []) rfl ?_
          have hF_155 : F_145 g1 = .inl (cs 17, 700, .inl fv) := (hR g1 (by rw [hT_g1]; simp only [List.mem_cons, List.not_mem_nil, or_false]; omega)).trans hF_146
          have hF_156 : F_145 h0 = .inr (15, (.ref ta) :: (.int (nI zt)) :: (.int (nI zo)) :: (.int (nI ze)) :: (.ref ou) :: (.ref so) :: (.ref ad) :: (.ref na) :: (.ref va) :: (.ref lc) :: (.ref dm) :: (.int (nI fm)) :: (.int (nI sn)) :: (.ref tg) :: (.int v14_28) :: (.int v15_29) :: (.ref pe) :: (.int v17_30) :: (.int v18_31) :: (.int v19_32) :: (.int v20_33) :: (.int v21_34) :: (.int v22_35) :: (.ref ml) :: (.ref bg) :: (.ref co) :: (.ref sp) :: (.ref nb0) :: (.ref nb1) :: (.ref nb2) :: (.int (nI nf)) :: (.int (nI bd)) :: (.int (nI mm)) :: (.int v33_36) :: (.ref pl) :: (.ref se) :: (.ref ke) :: (.ref wi) :: (.ref hs) :: (.ref mo) :: (.ref po) :: (.ref nu) :: (.ref pr) :: (.ref sq) :: (.ref xa) :: (.ref sa) :: (.ref n64) :: (.ref m64) :: (.ref ex) :: (.ref wh) :: (.ref sd) :: (.ref tk) :: (.int v52_37) :: (.int v53_38) :: (.int v54_39) :: (.ref hd) :: (.ref ak) :: (.ref ho) :: (.ref ot) :: []) := (hR h0 (by rw [hT_h0]; simp only [List.mem_cons, List.not_mem_nil, or_false]; omega)).trans hF_147
          have hF_157 : F_145 lc = .inr (14, [.ref r_1, .int (nI zl)]) := (hR lc (by rw [ht_58]; simp only [List.mem_cons, List.not_mem_nil, or_false]; omega)).trans hF_148
          have hF_158 : F_145 r_1 = .inl (cs 17, 30, .inl fcl) := (hR r_1 (by rw [ht_60]; simp only [List.mem_cons, List.not_mem_nil, or_false]; omega)).trans hF_149
          have hF_159 : F_145 dm = .inr (14, [.ref r_2, .int (nI zm)]) := (hR dm (by rw [ht_63]; simp only [List.mem_cons, List.not_mem_nil, or_false]; omega)).trans hF_150
          have hF_160 : F_145 r_2 = .inl (cs 17, 60, .inl fcm) := (hR r_2 (by rw [ht_65]; simp only [List.mem_cons, List.not_mem_nil, or_false]; omega)).trans hF_151
          have hF_161 : F_145 dd = .inr (14, [.ref rd, .int (nI zd)]) := (hR dd (by rw [hT_dd]; simp only [List.mem_cons, List.not_mem_nil, or_false]; omega)).trans hF_152
          have hF_162 : F_145 rd = .inl (cs 17, nd, .inl fcd) := (hR rd (by rw [ht_55]; simp only [List.mem_cons, List.not_mem_nil, or_false]; omega)).trans hF_153
          obtain ⟨⟨hg1, hg2, hg3, hg4, hV⟩, hg6⟩ := hv_154
          have hdb2 := dtc_le (V := (pcW (sdM LC DM (nI fm)) dn ((TC fv z) a))) ze9
          refine lv_iconst (v := 1) hx hb dX15_macroValue_303 (by decide) ?_
          refine lv_istore (lv' := [(7, .int 1), (9, .int (trW ((TC fv z) (tt - 1)))), (8, .int (nI nn)), (6, .int (nI ((TC fv z) a))), (0, .ref h0), (1, .ref g1), (2, .int (nI a)), (3, .int (nI tt)), (4, .ref dd), (5, .ref g2)]) hx hb dX15_macroValue_304 hl (by decide) rfl (fun ls hl => ?_)
          refine lv_iconst (v := 0) hx hb dX15_macroValue_306 (by decide) ?_
          refine lv_istore (lv' := [(10, .int 0), (7, .int 1), (9, .int (trW ((TC fv z) (tt - 1)))), (8, .int (nI nn)), (6, .int (nI ((TC fv z) a))), (0, .ref h0), (1, .ref g1), (2, .int (nI a)), (3, .int (nI tt)), (4, .ref dd), (5, .ref g2)]) hx hb dX15_macroValue_307 hl (by decide) rfl (fun ls hl => ?_)
          refine W.widen (k := 0) (n := 0) (by omega) (by omega) ?_
          have hF_164 : F g1 = .inl (cs 17, 700, .inl fv) := (hR g1 (by rw [hT_g1]; simp only [List.mem_cons, List.not_mem_nil, or_false]; omega)).symm.trans hF_155
          have hF_165 : F h0 = .inr (15, (.ref ta) :: (.int (nI zt)) :: (.int (nI zo)) :: (.int (nI ze)) :: (.ref ou) :: (.ref so) :: (.ref ad) :: (.ref na) :: (.ref va) :: (.ref lc) :: (.ref dm) :: (.int (nI fm)) :: (.int (nI sn)) :: (.ref tg) :: (.int v14_28) :: (.int v15_29) :: (.ref pe) :: (.int v17_30) :: (.int v18_31) :: (.int v19_32) :: (.int v20_33) :: (.int v21_34) :: (.int v22_35) :: (.ref ml) :: (.ref bg) :: (.ref co) :: (.ref sp) :: (.ref nb0) :: (.ref nb1) :: (.ref nb2) :: (.int (nI nf)) :: (.int (nI bd)) :: (.int (nI mm)) :: (.int v33_36) :: (.ref pl) :: (.ref se) :: (.ref ke) :: (.ref wi) :: (.ref hs) :: (.ref mo) :: (.ref po) :: (.ref nu) :: (.ref pr) :: (.ref sq) :: (.ref xa) :: (.ref sa) :: (.ref n64) :: (.ref m64) :: (.ref ex) :: (.ref wh) :: (.ref sd) :: (.ref tk) :: (.int v52_37) :: (.int v53_38) :: (.int v54_39) :: (.ref hd) :: (.ref ak) :: (.ref ho) :: (.ref ot) :: []) := (hR h0 (by rw [hT_h0]; simp only [List.mem_cons, List.not_mem_nil, or_false]; omega)).symm.trans hF_156
          have hF_166 : F lc = .inr (14, [.ref r_1, .int (nI zl)]) := (hR lc (by rw [ht_58]; simp only [List.mem_cons, List.not_mem_nil, or_false]; omega)).symm.trans hF_157
          have hF_167 : F r_1 = .inl (cs 17, 30, .inl fcl) := (hR r_1 (by rw [ht_60]; simp only [List.mem_cons, List.not_mem_nil, or_false]; omega)).symm.trans hF_158
          have hF_168 : F dm = .inr (14, [.ref r_2, .int (nI zm)]) := (hR dm (by rw [ht_63]; simp only [List.mem_cons, List.not_mem_nil, or_false]; omega)).symm.trans hF_159
          have hF_169 : F r_2 = .inl (cs 17, 60, .inl fcm) := (hR r_2 (by rw [ht_65]; simp only [List.mem_cons, List.not_mem_nil, or_false]; omega)).symm.trans hF_160
          have hF_170 : F dd = .inr (14, [.ref rd, .int (nI zd)]) := (hR dd (by rw [hT_dd]; simp only [List.mem_cons, List.not_mem_nil, or_false]; omega)).symm.trans hF_161
          have hF_171 : F rd = .inl (cs 17, nd, .inl fcd) := (hR rd (by rw [ht_55]; simp only [List.mem_cons, List.not_mem_nil, or_false]; omega)).symm.trans hF_162
          refine pl_loopm (σ := Nat × Nat) A (dC, dI) cs ty gm L [κ, ρ + 7] F 309 12 (fun (j, w7) => [(10, .int (nI j)), (7, .int (nI w7)), (9, .int (trW ((TC fv z) (tt - 1)))), (8, .int (nI nn)), (6, .int (nI ((TC fv z) a))), (0, .ref h0), (1, .ref g1), (2, .int (nI a)), (3, .int (nI tt)), (4, .ref dd), (5, .ref g2)]) (fun (j, w7) => []) (fun (j, w7) FF => w7 = 1 + dtc (pcW (sdM LC DM (nI fm)) dn ((TC fv z) a)) j ∧ j ≤ ze9 ∧ FF g2 = .inr (14, [.ref r2, .int (nI y)]) ∧ FF r2 = .inl (cs 17, 61, .inl fi) ∧ FF pe = .inr (14, [.ref rp, .int (nI ze9)]) ∧ FF rp = .inl (cs 17, 100, .inl f9)) (fun (j, w7) => ze9 - j) ?_ (0, 1) F_145 (⟨rfl, Nat.zero_le _, hg1, hg2, hg3, hg4⟩) hO hR _ _ hP hD hS ls (lv_sub hl [0, 1, 2, 3, 4, 5, 6, 7, 8, 9, 10] rfl)
          rintro ⟨j, w7⟩ F_163 hv_172 hO hR ih_173 H locs hP hD hS ls hl
          have hl : lv_has ls 12 [(10, .int (nI j)), (7, .int (nI w7)), (9, .int (trW ((TC fv z) (tt - 1)))), (8, .int (nI nn)), (6, .int (nI ((TC fv z) a))), (0, .ref h0), (1, .ref g1), (2, .int (nI a)), (3, .int (nI tt)), (4, .ref dd), (5, .ref g2)] := hl
          have hv_172 : w7 = 1 + dtc (pcW (sdM LC DM (nI fm)) dn ((TC fv z) a)) j ∧ j ≤ ze9 ∧ F_163 g2 = .inr (14, [.ref r2, .int (nI y)]) ∧ F_163 r2 = .inl (cs 17, 61, .inl fi) ∧ F_163 pe = .inr (14, [.ref rp, .int (nI ze9)]) ∧ F_163 rp = .inl (cs 17, 100, .inl f9) := hv_172
          refine W.eq (g2 := F0 m 309 ls []) rfl ?_
          have hF_174 : F_163 g1 = .inl (cs 17, 700, .inl fv) := (hR g1 (by rw [hT_g1]; simp only [List.mem_cons, List.not_mem_nil, or_false]; omega)).trans hF_164
          have hF_175 : F_163 h0 = .inr (15, (.ref ta) :: (.int (nI zt)) :: (.int (nI zo)) :: (.int (nI ze)) :: (.ref ou) :: (.ref so) :: (.ref ad) :: (.ref na) :: (.ref va) :: (.ref lc) :: (.ref dm) :: (.int (nI fm)) :: (.int (nI sn)) :: (.ref tg) :: (.int v14_28) :: (.int v15_29) :: (.ref pe) :: (.int v17_30) :: (.int v18_31) :: (.int v19_32) :: (.int v20_33) :: (.int v21_34) :: (.int v22_35) :: (.ref ml) :: (.ref bg) :: (.ref co) :: (.ref sp) :: (.ref nb0) :: (.ref nb1) :: (.ref nb2) :: (.int (nI nf)) :: (.int (nI bd)) :: (.int (nI mm)) :: (.int v33_36) :: (.ref pl) :: (.ref se) :: (.ref ke) :: (.ref wi) :: (.ref hs) :: (.ref mo) :: (.ref po) :: (.ref nu) :: (.ref pr) :: (.ref sq) :: (.ref xa) :: (.ref sa) :: (.ref n64) :: (.ref m64) :: (.ref ex) :: (.ref wh) :: (.ref sd) :: (.ref tk) :: (.int v52_37) :: (.int v53_38) :: (.int v54_39) :: (.ref hd) :: (.ref ak) :: (.ref ho) :: (.ref ot) :: []) := (hR h0 (by rw [hT_h0]; simp only [List.mem_cons, List.not_mem_nil, or_false]; omega)).trans hF_165
          have hF_176 : F_163 lc = .inr (14, [.ref r_1, .int (nI zl)]) := (hR lc (by rw [ht_58]; simp only [List.mem_cons, List.not_mem_nil, or_false]; omega)).trans hF_166
          have hF_177 : F_163 r_1 = .inl (cs 17, 30, .inl fcl) := (hR r_1 (by rw [ht_60]; simp only [List.mem_cons, List.not_mem_nil, or_false]; omega)).trans hF_167
          have hF_178 : F_163 dm = .inr (14, [.ref r_2, .int (nI zm)]) := (hR dm (by rw [ht_63]; simp only [List.mem_cons, List.not_mem_nil, or_false]; omega)).trans hF_168
          have hF_179 : F_163 r_2 = .inl (cs 17, 60, .inl fcm) := (hR r_2 (by rw [ht_65]; simp only [List.mem_cons, List.not_mem_nil, or_false]; omega)).trans hF_169
          have hF_180 : F_163 dd = .inr (14, [.ref rd, .int (nI zd)]) := (hR dd (by rw [hT_dd]; simp only [List.mem_cons, List.not_mem_nil, or_false]; omega)).trans hF_170
          have hF_181 : F_163 rd = .inl (cs 17, nd, .inl fcd) := (hR rd (by rw [ht_55]; simp only [List.mem_cons, List.not_mem_nil, or_false]; omega)).trans hF_171
          obtain ⟨hc1, hc2, hc3, hc4, hc5, hc6⟩ := hv_172
          have hdb := dtc_le (V := (pcW (sdM LC DM (nI fm)) dn ((TC fv z) a))) j
          refine lv_iload hx hb dX15_macroValue_309 (lv_at hl 0 rfl) ?_
          refine lv_aload_n hx hb dX15_macroValue_311 rfl (lv_at hl 5 rfl) ?_
          refine pg_get (ci := 15) (v := .ref pe) (C := RX15) (T := TX15) (N := 59) hx hb hts it_15 hown hK hP hL_h0 hF_175 rfl 16 (by decide) (hts _ kt_1126) (fun _ h9 => h9) rfl dX15_macroValue_312 ?_
          refine pg_get (ci := 14) (v := .int (nI ze9)) (C := RX14) (T := TX14) (N := 2) hx hb hts it_14 hown hK hP hL_pe hc5 rfl 1 (by decide) (hts _ kt_709) (fun _ h9 => h9) rfl dX15_macroValue_315 ?_
          refine lv_icmp_ge (tgt := 345) hx hb dX15_macroValue_318 (by decide) (fun c_182 => ?_) (fun c_182 => ?_)
          ·
            have hi_183 : ze9 ≤ j := leN (N := ze9) c_182
            have hw7 : w7 = (1 + dtc (pcW (sdM LC DM (nI fm)) dn ((TC fv z) a)) (pcW (sdM LC DM (nI fm)) dn ((TC fv z) a)).length) := by rw [hc1, hV.1, show j = ze9 by omega]
            have hcl := cnW_le (w := (dgW ((TC fv z) (a + 1)))) (p9 := (1 + dtc (pcW (sdM LC DM (nI fm)) dn ((TC fv z) a)) (pcW (sdM LC DM (nI fm)) dn ((TC fv z) a)).length))
            have hcp := cn_pos (w := (dgW ((TC fv z) (a + 1)))) (p9 := (1 + dtc (pcW (sdM LC DM (nI fm)) dn ((TC fv z) a)) (pcW (sdM LC DM (nI fm)) dn ((TC fv z) a)).length)) (by omega)
            have hdb3 : dtc (pcW (sdM LC DM (nI fm)) dn ((TC fv z) a)) (pcW (sdM LC DM (nI fm)) dn ((TC fv z) a)).length ≤ 91 := by rw [hV.1]; omega
            have hF_186 : F g1 = .inl (cs 17, 700, .inl fv) := (hR g1 (by rw [hT_g1]; simp only [List.mem_cons, List.not_mem_nil, or_false]; omega)).symm.trans hF_174
            have hF_187 : F h0 = .inr (15, (.ref ta) :: (.int (nI zt)) :: (.int (nI zo)) :: (.int (nI ze)) :: (.ref ou) :: (.ref so) :: (.ref ad) :: (.ref na) :: (.ref va) :: (.ref lc) :: (.ref dm) :: (.int (nI fm)) :: (.int (nI sn)) :: (.ref tg) :: (.int v14_28) :: (.int v15_29) :: (.ref pe) :: (.int v17_30) :: (.int v18_31) :: (.int v19_32) :: (.int v20_33) :: (.int v21_34) :: (.int v22_35) :: (.ref ml) :: (.ref bg) :: (.ref co) :: (.ref sp) :: (.ref nb0) :: (.ref nb1) :: (.ref nb2) :: (.int (nI nf)) :: (.int (nI bd)) :: (.int (nI mm)) :: (.int v33_36) :: (.ref pl) :: (.ref se) :: (.ref ke) :: (.ref wi) :: (.ref hs) :: (.ref mo) :: (.ref po) :: (.ref nu) :: (.ref pr) :: (.ref sq) :: (.ref xa) :: (.ref sa) :: (.ref n64) :: (.ref m64) :: (.ref ex) :: (.ref wh) :: (.ref sd) :: (.ref tk) :: (.int v52_37) :: (.int v53_38) :: (.int v54_39) :: (.ref hd) :: (.ref ak) :: (.ref ho) :: (.ref ot) :: []) := (hR h0 (by rw [hT_h0]; simp only [List.mem_cons, List.not_mem_nil, or_false]; omega)).symm.trans hF_175
            have hF_188 : F lc = .inr (14, [.ref r_1, .int (nI zl)]) := (hR lc (by rw [ht_58]; simp only [List.mem_cons, List.not_mem_nil, or_false]; omega)).symm.trans hF_176
            have hF_189 : F r_1 = .inl (cs 17, 30, .inl fcl) := (hR r_1 (by rw [ht_60]; simp only [List.mem_cons, List.not_mem_nil, or_false]; omega)).symm.trans hF_177
            have hF_190 : F dm = .inr (14, [.ref r_2, .int (nI zm)]) := (hR dm (by rw [ht_63]; simp only [List.mem_cons, List.not_mem_nil, or_false]; omega)).symm.trans hF_178
            have hF_191 : F r_2 = .inl (cs 17, 60, .inl fcm) := (hR r_2 (by rw [ht_65]; simp only [List.mem_cons, List.not_mem_nil, or_false]; omega)).symm.trans hF_179
            have hF_192 : F dd = .inr (14, [.ref rd, .int (nI zd)]) := (hR dd (by rw [hT_dd]; simp only [List.mem_cons, List.not_mem_nil, or_false]; omega)).symm.trans hF_180
            have hF_193 : F rd = .inl (cs 17, nd, .inl fcd) := (hR rd (by rw [ht_55]; simp only [List.mem_cons, List.not_mem_nil, or_false]; omega)).symm.trans hF_181
            refine W.widen (k := 0) (n := 0) (by omega) (by omega) ?_
            refine pl_cutm (σ := Int32) A (dC, dI) cs ty gm L [κ, ρ + 7] F 366 12 (fun s10 => [(7, .int (nI w7)), (9, .int (trW ((TC fv z) (tt - 1)))), (8, .int (nI nn)), (6, .int (nI ((TC fv z) a))), (0, .ref h0), (1, .ref g1), (2, .int (nI a)), (3, .int (nI tt)), (4, .ref dd), (5, .ref g2)]) (fun s10 => [.int s10]) (fun s10 FF => s10 = nI ((1 + dtc (pcW (sdM LC DM (nI fm)) dn ((TC fv z) a)) (pcW (sdM LC DM (nI fm)) dn ((TC fv z) a)).length) - (cnW (dgW ((TC fv z) (a + 1))) (1 + dtc (pcW (sdM LC DM (nI fm)) dn ((TC fv z) a)) (pcW (sdM LC DM (nI fm)) dn ((TC fv z) a)).length))) ∧ FF g2 = .inr (14, [.ref r2, .int (nI y)]) ∧ FF r2 = .inl (cs 17, 61, .inl fi) ∧ FF pe = .inr (14, [.ref rp, .int (nI ze9)]) ∧ FF rp = .inl (cs 17, 100, .inl f9)) ?_ (fun jn_184 => ?_)
            ·
              rintro s10 F_185 hv_194 hO hR H locs hP hD hS ls hl
              have hl : lv_has ls 12 [(7, .int (nI w7)), (9, .int (trW ((TC fv z) (tt - 1)))), (8, .int (nI nn)), (6, .int (nI ((TC fv z) a))), (0, .ref h0), (1, .ref g1), (2, .int (nI a)), (3, .int (nI tt)), (4, .ref dd), (5, .ref g2)] := hl
              have hv_194 : s10 = nI ((1 + dtc (pcW (sdM LC DM (nI fm)) dn ((TC fv z) a)) (pcW (sdM LC DM (nI fm)) dn ((TC fv z) a)).length) - (cnW (dgW ((TC fv z) (a + 1))) (1 + dtc (pcW (sdM LC DM (nI fm)) dn ((TC fv z) a)) (pcW (sdM LC DM (nI fm)) dn ((TC fv z) a)).length))) ∧ F_185 g2 = .inr (14, [.ref r2, .int (nI y)]) ∧ F_185 r2 = .inl (cs 17, 61, .inl fi) ∧ F_185 pe = .inr (14, [.ref rp, .int (nI ze9)]) ∧ F_185 rp = .inl (cs 17, 100, .inl f9) := hv_194
              refine W.eq (g2 := F0 m 366 ls [.int s10]) rfl ?_
              have hF_195 : F_185 g1 = .inl (cs 17, 700, .inl fv) := (hR g1 (by rw [hT_g1]; simp only [List.mem_cons, List.not_mem_nil, or_false]; omega)).trans hF_186
              have hF_196 : F_185 h0 = .inr (15, (.ref ta) :: (.int (nI zt)) :: (.int (nI zo)) :: (.int (nI ze)) :: (.ref ou) :: (.ref so) :: (.ref ad) :: (.ref na) :: (.ref va) :: (.ref lc) :: (.ref dm) :: (.int (nI fm)) :: (.int (nI sn)) :: (.ref tg) :: (.int v14_28) :: (.int v15_29) :: (.ref pe) :: (.int v17_30) :: (.int v18_31) :: (.int v19_32) :: (.int v20_33) :: (.int v21_34) :: (.int v22_35) :: (.ref ml) :: (.ref bg) :: (.ref co) :: (.ref sp) :: (.ref nb0) :: (.ref nb1) :: (.ref nb2) :: (.int (nI nf)) :: (.int (nI bd)) :: (.int (nI mm)) :: (.int v33_36) :: (.ref pl) :: (.ref se) :: (.ref ke) :: (.ref wi) :: (.ref hs) :: (.ref mo) :: (.ref po) :: (.ref nu) :: (.ref pr) :: (.ref sq) :: (.ref xa) :: (.ref sa) :: (.ref n64) :: (.ref m64) :: (.ref ex) :: (.ref wh) :: (.ref sd) :: (.ref tk) :: (.int v52_37) :: (.int v53_38) :: (.int v54_39) :: (.ref hd) :: (.ref ak) :: (.ref ho) :: (.ref ot) :: []) := (hR h0 (by rw [hT_h0]; simp only [List.mem_cons, List.not_mem_nil, or_false]; omega)).trans hF_187
              have hF_197 : F_185 lc = .inr (14, [.ref r_1, .int (nI zl)]) := (hR lc (by rw [ht_58]; simp only [List.mem_cons, List.not_mem_nil, or_false]; omega)).trans hF_188
              have hF_198 : F_185 r_1 = .inl (cs 17, 30, .inl fcl) := (hR r_1 (by rw [ht_60]; simp only [List.mem_cons, List.not_mem_nil, or_false]; omega)).trans hF_189
              have hF_199 : F_185 dm = .inr (14, [.ref r_2, .int (nI zm)]) := (hR dm (by rw [ht_63]; simp only [List.mem_cons, List.not_mem_nil, or_false]; omega)).trans hF_190
              have hF_200 : F_185 r_2 = .inl (cs 17, 60, .inl fcm) := (hR r_2 (by rw [ht_65]; simp only [List.mem_cons, List.not_mem_nil, or_false]; omega)).trans hF_191
              have hF_201 : F_185 dd = .inr (14, [.ref rd, .int (nI zd)]) := (hR dd (by rw [hT_dd]; simp only [List.mem_cons, List.not_mem_nil, or_false]; omega)).trans hF_192
              have hF_202 : F_185 rd = .inl (cs 17, nd, .inl fcd) := (hR rd (by rw [ht_55]; simp only [List.mem_cons, List.not_mem_nil, or_false]; omega)).trans hF_193
              obtain ⟨hi1, hi2, hi3, hi4, hi5⟩ := hv_194
              subst hi1
              refine W.eq (g2 := F0 m 366 ls [.int (nI ((1 + dtc (pcW (sdM LC DM (nI fm)) dn ((TC fv z) a)) (pcW (sdM LC DM (nI fm)) dn ((TC fv z) a)).length) - (cnW (dgW ((TC fv z) (a + 1))) (1 + dtc (pcW (sdM LC DM (nI fm)) dn ((TC fv z) a)) (pcW (sdM LC DM (nI fm)) dn ((TC fv z) a)).length))))]) rfl ?_
              refine lv_istore (lv' := [(10, .int (nI ((1 + dtc (pcW (sdM LC DM (nI fm)) dn ((TC fv z) a)) (pcW (sdM LC DM (nI fm)) dn ((TC fv z) a)).length) - (cnW (dgW ((TC fv z) (a + 1))) (1 + dtc (pcW (sdM LC DM (nI fm)) dn ((TC fv z) a)) (pcW (sdM LC DM (nI fm)) dn ((TC fv z) a)).length))))), (7, .int (nI w7)), (9, .int (trW ((TC fv z) (tt - 1)))), (8, .int (nI nn)), (6, .int (nI ((TC fv z) a))), (0, .ref h0), (1, .ref g1), (2, .int (nI a)), (3, .int (nI tt)), (4, .ref dd), (5, .ref g2)]) hx hb dX15_macroValue_366 hl (by decide) rfl (fun ls hl => ?_)
              refine lv_iload hx hb dX15_macroValue_368 (lv_at hl 0 rfl) ?_
              refine lv_istore (lv' := [(11, .int (nI ((1 + dtc (pcW (sdM LC DM (nI fm)) dn ((TC fv z) a)) (pcW (sdM LC DM (nI fm)) dn ((TC fv z) a)).length) - (cnW (dgW ((TC fv z) (a + 1))) (1 + dtc (pcW (sdM LC DM (nI fm)) dn ((TC fv z) a)) (pcW (sdM LC DM (nI fm)) dn ((TC fv z) a)).length))))), (10, .int (nI ((1 + dtc (pcW (sdM LC DM (nI fm)) dn ((TC fv z) a)) (pcW (sdM LC DM (nI fm)) dn ((TC fv z) a)).length) - (cnW (dgW ((TC fv z) (a + 1))) (1 + dtc (pcW (sdM LC DM (nI fm)) dn ((TC fv z) a)) (pcW (sdM LC DM (nI fm)) dn ((TC fv z) a)).length))))), (7, .int (nI w7)), (9, .int (trW ((TC fv z) (tt - 1)))), (8, .int (nI nn)), (6, .int (nI ((TC fv z) a))), (0, .ref h0), (1, .ref g1), (2, .int (nI a)), (3, .int (nI tt)), (4, .ref dd), (5, .ref g2)]) hx hb dX15_macroValue_370 hl (by decide) rfl (fun ls hl => ?_)
              refine W.widen (k := 0) (n := 0) (by omega) (by omega) ?_
              have hF_204 : F g1 = .inl (cs 17, 700, .inl fv) := (hR g1 (by rw [hT_g1]; simp only [List.mem_cons, List.not_mem_nil, or_false]; omega)).symm.trans hF_195
              have hF_205 : F h0 = .inr (15, (.ref ta) :: (.int (nI zt)) :: (.int (nI zo)) :: (.int (nI ze)) :: (.ref ou) :: (.ref so) :: (.ref ad) :: (.ref na) :: (.ref va) :: (.ref lc) :: (.ref dm) :: (.int (nI fm)) :: (.int (nI sn)) :: (.ref tg) :: (.int v14_28) :: (.int v15_29) :: (.ref pe) :: (.int v17_30) :: (.int v18_31) :: (.int v19_32) :: (.int v20_33) :: (.int v21_34) :: (.int v22_35) :: (.ref ml) :: (.ref bg) :: (.ref co) :: (.ref sp) :: (.ref nb0) :: (.ref nb1) :: (.ref nb2) :: (.int (nI nf)) :: (.int (nI bd)) :: (.int (nI mm)) :: (.int v33_36) :: (.ref pl) :: (.ref se) :: (.ref ke) :: (.ref wi) :: (.ref hs) :: (.ref mo) :: (.ref po) :: (.ref nu) :: (.ref pr) :: (.ref sq) :: (.ref xa) :: (.ref sa) :: (.ref n64) :: (.ref m64) :: (.ref ex) :: (.ref wh) :: (.ref sd) :: (.ref tk) :: (.int v52_37) :: (.int v53_38) :: (.int v54_39) :: (.ref hd) :: (.ref ak) :: (.ref ho) :: (.ref ot) :: []) := (hR h0 (by rw [hT_h0]; simp only [List.mem_cons, List.not_mem_nil, or_false]; omega)).symm.trans hF_196
              have hF_206 : F lc = .inr (14, [.ref r_1, .int (nI zl)]) := (hR lc (by rw [ht_58]; simp only [List.mem_cons, List.not_mem_nil, or_false]; omega)).symm.trans hF_197
              have hF_207 : F r_1 = .inl (cs 17, 30, .inl fcl) := (hR r_1 (by rw [ht_60]; simp only [List.mem_cons, List.not_mem_nil, or_false]; omega)).symm.trans hF_198
              have hF_208 : F dm = .inr (14, [.ref r_2, .int (nI zm)]) := (hR dm (by rw [ht_63]; simp only [List.mem_cons, List.not_mem_nil, or_false]; omega)).symm.trans hF_199
              have hF_209 : F r_2 = .inl (cs 17, 60, .inl fcm) := (hR r_2 (by rw [ht_65]; simp only [List.mem_cons, List.not_mem_nil, or_false]; omega)).symm.trans hF_200
              have hF_210 : F dd = .inr (14, [.ref rd, .int (nI zd)]) := (hR dd (by rw [hT_dd]; simp only [List.mem_cons, List.not_mem_nil, or_false]; omega)).symm.trans hF_201
              have hF_211 : F rd = .inl (cs 17, nd, .inl fcd) := (hR rd (by rw [ht_55]; simp only [List.mem_cons, List.not_mem_nil, or_false]; omega)).symm.trans hF_202
              refine pl_loopm (σ := Nat × Nat × (Nat → Int32)) A (dC, dI) cs ty gm L [κ, ρ + 7] F 372 12 (fun (i, yy, fq) => [(11, .int (nI i)), (10, .int (nI ((1 + dtc (pcW (sdM LC DM (nI fm)) dn ((TC fv z) a)) (pcW (sdM LC DM (nI fm)) dn ((TC fv z) a)).length) - (cnW (dgW ((TC fv z) (a + 1))) (1 + dtc (pcW (sdM LC DM (nI fm)) dn ((TC fv z) a)) (pcW (sdM LC DM (nI fm)) dn ((TC fv z) a)).length))))), (7, .int (nI w7)), (9, .int (trW ((TC fv z) (tt - 1)))), (8, .int (nI nn)), (6, .int (nI ((TC fv z) a))), (0, .ref h0), (1, .ref g1), (2, .int (nI a)), (3, .int (nI tt)), (4, .ref dd), (5, .ref g2)]) (fun (i, yy, fq) => []) (fun (i, yy, fq) FF => ((1 + dtc (pcW (sdM LC DM (nI fm)) dn ((TC fv z) a)) (pcW (sdM LC DM (nI fm)) dn ((TC fv z) a)).length) - (cnW (dgW ((TC fv z) (a + 1))) (1 + dtc (pcW (sdM LC DM (nI fm)) dn ((TC fv z) a)) (pcW (sdM LC DM (nI fm)) dn ((TC fv z) a)).length))) ≤ i ∧ i ≤ w7 ∧ FF g2 = .inr (14, [.ref r2, .int (nI yy)]) ∧ FF r2 = .inl (cs 17, 61, .inl fq) ∧ FF pe = .inr (14, [.ref rp, .int (nI ze9)]) ∧ FF rp = .inl (cs 17, 100, .inl f9) ∧ TGM (U ++ prw (pcW (sdM LC DM (nI fm)) dn ((TC fv z) a)) (trW ((TC fv z) (tt - 1))) (cnW (dgW ((TC fv z) (a + 1))) (1 + dtc (pcW (sdM LC DM (nI fm)) dn ((TC fv z) a)) (pcW (sdM LC DM (nI fm)) dn ((TC fv z) a)).length)) (1 + dtc (pcW (sdM LC DM (nI fm)) dn ((TC fv z) a)) (pcW (sdM LC DM (nI fm)) dn ((TC fv z) a)).length) (i - ((1 + dtc (pcW (sdM LC DM (nI fm)) dn ((TC fv z) a)) (pcW (sdM LC DM (nI fm)) dn ((TC fv z) a)).length) - (cnW (dgW ((TC fv z) (a + 1))) (1 + dtc (pcW (sdM LC DM (nI fm)) dn ((TC fv z) a)) (pcW (sdM LC DM (nI fm)) dn ((TC fv z) a)).length))))) yy fq) (fun (i, yy, fq) => w7 - i) ?_ (((1 + dtc (pcW (sdM LC DM (nI fm)) dn ((TC fv z) a)) (pcW (sdM LC DM (nI fm)) dn ((TC fv z) a)).length) - (cnW (dgW ((TC fv z) (a + 1))) (1 + dtc (pcW (sdM LC DM (nI fm)) dn ((TC fv z) a)) (pcW (sdM LC DM (nI fm)) dn ((TC fv z) a)).length))), y, fi) F_185 (⟨Nat.le_refl _, by omega, hi2, hi3, hi4, hi5, by rw [show ((1 + dtc (pcW (sdM LC DM (nI fm)) dn ((TC fv z) a)) (pcW (sdM LC DM (nI fm)) dn ((TC fv z) a)).length) - (cnW (dgW ((TC fv z) (a + 1))) (1 + dtc (pcW (sdM LC DM (nI fm)) dn ((TC fv z) a)) (pcW (sdM LC DM (nI fm)) dn ((TC fv z) a)).length))) - ((1 + dtc (pcW (sdM LC DM (nI fm)) dn ((TC fv z) a)) (pcW (sdM LC DM (nI fm)) dn ((TC fv z) a)).length) - (cnW (dgW ((TC fv z) (a + 1))) (1 + dtc (pcW (sdM LC DM (nI fm)) dn ((TC fv z) a)) (pcW (sdM LC DM (nI fm)) dn ((TC fv z) a)).length))) = 0 by omega]; show TGM (U ++ []) y fi; rw [List.append_nil]; exact hTU⟩) hO hR _ _ hP hD hS ls (lv_sub hl [0, 1, 2, 3, 4, 5, 6, 7, 8, 9, 10, 11] rfl)
              rintro ⟨i, yy, fq⟩ F_203 hv_212 hO hR ih_213 H locs hP hD hS ls hl
              have hl : lv_has ls 12 [(11, .int (nI i)), (10, .int (nI ((1 + dtc (pcW (sdM LC DM (nI fm)) dn ((TC fv z) a)) (pcW (sdM LC DM (nI fm)) dn ((TC fv z) a)).length) - (cnW (dgW ((TC fv z) (a + 1))) (1 + dtc (pcW (sdM LC DM (nI fm)) dn ((TC fv z) a)) (pcW (sdM LC DM (nI fm)) dn ((TC fv z) a)).length))))), (7, .int (nI w7)), (9, .int (trW ((TC fv z) (tt - 1)))), (8, .int (nI nn)), (6, .int (nI ((TC fv z) a))), (0, .ref h0), (1, .ref g1), (2, .int (nI a)), (3, .int (nI tt)), (4, .ref dd), (5, .ref g2)] := hl
              have hv_212 : ((1 + dtc (pcW (sdM LC DM (nI fm)) dn ((TC fv z) a)) (pcW (sdM LC DM (nI fm)) dn ((TC fv z) a)).length) - (cnW (dgW ((TC fv z) (a + 1))) (1 + dtc (pcW (sdM LC DM (nI fm)) dn ((TC fv z) a)) (pcW (sdM LC DM (nI fm)) dn ((TC fv z) a)).length))) ≤ i ∧ i ≤ w7 ∧ F_203 g2 = .inr (14, [.ref r2, .int (nI yy)]) ∧ F_203 r2 = .inl (cs 17, 61, .inl fq) ∧ F_203 pe = .inr (14, [.ref rp, .int (nI ze9)]) ∧ F_203 rp = .inl (cs 17, 100, .inl f9) ∧ TGM (U ++ prw (pcW (sdM LC DM (nI fm)) dn ((TC fv z) a)) (trW ((TC fv z) (tt - 1))) (cnW (dgW ((TC fv z) (a + 1))) (1 + dtc (pcW (sdM LC DM (nI fm)) dn ((TC fv z) a)) (pcW (sdM LC DM (nI fm)) dn ((TC fv z) a)).length)) (1 + dtc (pcW (sdM LC DM (nI fm)) dn ((TC fv z) a)) (pcW (sdM LC DM (nI fm)) dn ((TC fv z) a)).length) (i - ((1 + dtc (pcW (sdM LC DM (nI fm)) dn ((TC fv z) a)) (pcW (sdM LC DM (nI fm)) dn ((TC fv z) a)).length) - (cnW (dgW ((TC fv z) (a + 1))) (1 + dtc (pcW (sdM LC DM (nI fm)) dn ((TC fv z) a)) (pcW (sdM LC DM (nI fm)) dn ((TC fv z) a)).length))))) yy fq := hv_212
              refine W.eq (g2 := F0 m 372 ls []) rfl ?_
              have hF_214 : F_203 g1 = .inl (cs 17, 700, .inl fv) := (hR g1 (by rw [hT_g1]; simp only [List.mem_cons, List.not_mem_nil, or_false]; omega)).trans hF_204
              have hF_215 : F_203 h0 = .inr (15, (.ref ta) :: (.int (nI zt)) :: (.int (nI zo)) :: (.int (nI ze)) :: (.ref ou) :: (.ref so) :: (.ref ad) :: (.ref na) :: (.ref va) :: (.ref lc) :: (.ref dm) :: (.int (nI fm)) :: (.int (nI sn)) :: (.ref tg) :: (.int v14_28) :: (.int v15_29) :: (.ref pe) :: (.int v17_30) :: (.int v18_31) :: (.int v19_32) :: (.int v20_33) :: (.int v21_34) :: (.int v22_35) :: (.ref ml) :: (.ref bg) :: (.ref co) :: (.ref sp) :: (.ref nb0) :: (.ref nb1) :: (.ref nb2) :: (.int (nI nf)) :: (.int (nI bd)) :: (.int (nI mm)) :: (.int v33_36) :: (.ref pl) :: (.ref se) :: (.ref ke) :: (.ref wi) :: (.ref hs) :: (.ref mo) :: (.ref po) :: (.ref nu) :: (.ref pr) :: (.ref sq) :: (.ref xa) :: (.ref sa) :: (.ref n64) :: (.ref m64) :: (.ref ex) :: (.ref wh) :: (.ref sd) :: (.ref tk) :: (.int v52_37) :: (.int v53_38) :: (.int v54_39) :: (.ref hd) :: (.ref ak) :: (.ref ho) :: (.ref ot) :: []) := (hR h0 (by rw [hT_h0]; simp only [List.mem_cons, List.not_mem_nil, or_false]; omega)).trans hF_205
              have hF_216 : F_203 lc = .inr (14, [.ref r_1, .int (nI zl)]) := (hR lc (by rw [ht_58]; simp only [List.mem_cons, List.not_mem_nil, or_false]; omega)).trans hF_206
              have hF_217 : F_203 r_1 = .inl (cs 17, 30, .inl fcl) := (hR r_1 (by rw [ht_60]; simp only [List.mem_cons, List.not_mem_nil, or_false]; omega)).trans hF_207
              have hF_218 : F_203 dm = .inr (14, [.ref r_2, .int (nI zm)]) := (hR dm (by rw [ht_63]; simp only [List.mem_cons, List.not_mem_nil, or_false]; omega)).trans hF_208
              have hF_219 : F_203 r_2 = .inl (cs 17, 60, .inl fcm) := (hR r_2 (by rw [ht_65]; simp only [List.mem_cons, List.not_mem_nil, or_false]; omega)).trans hF_209
              have hF_220 : F_203 dd = .inr (14, [.ref rd, .int (nI zd)]) := (hR dd (by rw [hT_dd]; simp only [List.mem_cons, List.not_mem_nil, or_false]; omega)).trans hF_210
              have hF_221 : F_203 rd = .inl (cs 17, nd, .inl fcd) := (hR rd (by rw [ht_55]; simp only [List.mem_cons, List.not_mem_nil, or_false]; omega)).trans hF_211
              obtain ⟨hj1, hj2, hj3, hj4, hj5, hj6, hj7⟩ := hv_212
              refine lv_iload hx hb dX15_macroValue_372 (lv_at hl 0 rfl) ?_
              refine lv_iload hx hb dX15_macroValue_374 (lv_at hl 2 rfl) ?_
              refine lv_icmp_ge (tgt := 422) hx hb dX15_macroValue_376 (by decide) (fun c_222 => ?_) (fun c_222 => ?_)
              ·
                have hi_223 : w7 ≤ i := leN (N := w7) c_222
                refine W.widen (k := 0) (n := 0) (by omega) (by omega) ?_
                exact W.vret hx hb hr (fun t ht hWm => ⟨⟨(), rfl, trivial, ⟨F_203, yy, fq, QTm.mk ht hP hD hO hR, hj3, hj4, (by have h9 := hj7; rw [show i - ((1 + dtc (pcW (sdM LC DM (nI fm)) dn ((TC fv z) a)) (pcW (sdM LC DM (nI fm)) dn ((TC fv z) a)).length) - (cnW (dgW ((TC fv z) (a + 1))) (1 + dtc (pcW (sdM LC DM (nI fm)) dn ((TC fv z) a)) (pcW (sdM LC DM (nI fm)) dn ((TC fv z) a)).length))) = (cnW (dgW ((TC fv z) (a + 1))) (1 + dtc (pcW (sdM LC DM (nI fm)) dn ((TC fv z) a)) (pcW (sdM LC DM (nI fm)) dn ((TC fv z) a)).length)) by omega] at h9; exact h9)⟩⟩, hS.F ht⟩) hS.2.2 dX15_macroValue_422
              ·
                have hi_224 : i < w7 := ltN (N := w7) c_222
                refine lv_iload hx hb dX15_macroValue_379 (lv_at hl 0 rfl) ?_
                refine lv_iload hx hb dX15_macroValue_381 (lv_at hl 1 rfl) ?_
                refine lv_icmp_le (tgt := 393) hx hb dX15_macroValue_383 (by decide) (fun c_225 => ?_) (fun c_225 => ?_)
                ·
                  have hi_226 : i ≤ ((1 + dtc (pcW (sdM LC DM (nI fm)) dn ((TC fv z) a)) (pcW (sdM LC DM (nI fm)) dn ((TC fv z) a)).length) - (cnW (dgW ((TC fv z) (a + 1))) (1 + dtc (pcW (sdM LC DM (nI fm)) dn ((TC fv z) a)) (pcW (sdM LC DM (nI fm)) dn ((TC fv z) a)).length))) := (nI_leI (a := i) (b := ((1 + dtc (pcW (sdM LC DM (nI fm)) dn ((TC fv z) a)) (pcW (sdM LC DM (nI fm)) dn ((TC fv z) a)).length) - (cnW (dgW ((TC fv z) (a + 1))) (1 + dtc (pcW (sdM LC DM (nI fm)) dn ((TC fv z) a)) (pcW (sdM LC DM (nI fm)) dn ((TC fv z) a)).length)))) (by omega) (by omega)).mp c_225
                  refine lv_aload_n hx hb dX15_macroValue_393 rfl (lv_at hl 6 rfl) ?_
                  refine lv_iload hx hb dX15_macroValue_394 (lv_at hl 3 rfl) ?_
                  refine lv_if_eq (tgt := 409) hx hb dX15_macroValue_396 (by decide) (fun c_227 => ?_) (fun c_227 => ?_)
                  ·
                    refine lv_iload hx hb dX15_macroValue_409 (lv_at hl 0 rfl) ?_
                    refine lv_aload hx hb dX15_macroValue_411 (lv_at hl 11 rfl) ?_
                    refine W.eq (g2 := F0 m 413 ls [.ref g2, .int (nI ((1 + dtc (pcW (sdM LC DM (nI fm)) dn ((TC fv z) a)) (pcW (sdM LC DM (nI fm)) dn ((TC fv z) a)).length) - (cnW (dgW ((TC fv z) (a + 1))) (1 + dtc (pcW (sdM LC DM (nI fm)) dn ((TC fv z) a)) (pcW (sdM LC DM (nI fm)) dn ((TC fv z) a)).length)) + (i - ((1 + dtc (pcW (sdM LC DM (nI fm)) dn ((TC fv z) a)) (pcW (sdM LC DM (nI fm)) dn ((TC fv z) a)).length) - (cnW (dgW ((TC fv z) (a + 1))) (1 + dtc (pcW (sdM LC DM (nI fm)) dn ((TC fv z) a)) (pcW (sdM LC DM (nI fm)) dn ((TC fv z) a)).length)))))), .ref h0]) (by rw [show (1 + dtc (pcW (sdM LC DM (nI fm)) dn ((TC fv z) a)) (pcW (sdM LC DM (nI fm)) dn ((TC fv z) a)).length) - (cnW (dgW ((TC fv z) (a + 1))) (1 + dtc (pcW (sdM LC DM (nI fm)) dn ((TC fv z) a)) (pcW (sdM LC DM (nI fm)) dn ((TC fv z) a)).length)) + (i - ((1 + dtc (pcW (sdM LC DM (nI fm)) dn ((TC fv z) a)) (pcW (sdM LC DM (nI fm)) dn ((TC fv z) a)).length) - (cnW (dgW ((TC fv z) (a + 1))) (1 + dtc (pcW (sdM LC DM (nI fm)) dn ((TC fv z) a)) (pcW (sdM LC DM (nI fm)) dn ((TC fv z) a)).length)))) = i by omega]) ?_
                    obtain ⟨hq_228, hq_229⟩ := hW.octs hi_46 ht_47
                    obtain ⟨hq_230, hq_231⟩ := hW.octs hi_49 ht_50
                    have hFc := pg_free hD hS hA
                    refine va_callv (va_runV (As := [.int (nI ((1 + dtc (pcW (sdM LC DM (nI fm)) dn ((TC fv z) a)) (pcW (sdM LC DM (nI fm)) dn ((TC fv z) a)).length) - (cnW (dgW ((TC fv z) (a + 1))) (1 + dtc (pcW (sdM LC DM (nI fm)) dn ((TC fv z) a)) (pcW (sdM LC DM (nI fm)) dn ((TC fv z) a)).length)) + (i - ((1 + dtc (pcW (sdM LC DM (nI fm)) dn ((TC fv z) a)) (pcW (sdM LC DM (nI fm)) dn ((TC fv z) a)).length) - (cnW (dgW ((TC fv z) (a + 1))) (1 + dtc (pcW (sdM LC DM (nI fm)) dn ((TC fv z) a)) (pcW (sdM LC DM (nI fm)) dn ((TC fv z) a)).length)))))), .ref g2]) (rest := []) ⟨hx, hb, hml, hown, hts⟩ (s_X15_part_x l dC dI cs ty gm L H.size F_203 h0 ρ ta ou so ad na va lc dm tg pe ml bg co sp nb0 nb1 nb2 pl se ke wi hs mo po nu pr sq xa sa n64 m64 ex wh sd tk hd ak ho ot sx s0 s1 s2 nf bd mm zo fm sn hg gc gv ze zt rp g2 κ r2 ((1 + dtc (pcW (sdM LC DM (nI fm)) dn ((TC fv z) a)) (pcW (sdM LC DM (nI fm)) dn ((TC fv z) a)).length) - (cnW (dgW ((TC fv z) (a + 1))) (1 + dtc (pcW (sdM LC DM (nI fm)) dn ((TC fv z) a)) (pcW (sdM LC DM (nI fm)) dn ((TC fv z) a)).length)) + (i - ((1 + dtc (pcW (sdM LC DM (nI fm)) dn ((TC fv z) a)) (pcW (sdM LC DM (nI fm)) dn ((TC fv z) a)).length) - (cnW (dgW ((TC fv z) (a + 1))) (1 + dtc (pcW (sdM LC DM (nI fm)) dn ((TC fv z) a)) (pcW (sdM LC DM (nI fm)) dn ((TC fv z) a)).length))))) ze9 yy f9 fq (pcW (sdM LC DM (nI fm)) dn ((TC fv z) a)) (U ++ prw (pcW (sdM LC DM (nI fm)) dn ((TC fv z) a)) (trW ((TC fv z) (tt - 1))) (cnW (dgW ((TC fv z) (a + 1))) (1 + dtc (pcW (sdM LC DM (nI fm)) dn ((TC fv z) a)) (pcW (sdM LC DM (nI fm)) dn ((TC fv z) a)).length)) (1 + dtc (pcW (sdM LC DM (nI fm)) dn ((TC fv z) a)) (pcW (sdM LC DM (nI fm)) dn ((TC fv z) a)).length) (i - ((1 + dtc (pcW (sdM LC DM (nI fm)) dn ((TC fv z) a)) (pcW (sdM LC DM (nI fm)) dn ((TC fv z) a)).length) - (cnW (dgW ((TC fv z) (a + 1))) (1 + dtc (pcW (sdM LC DM (nI fm)) dn ((TC fv z) a)) (pcW (sdM LC DM (nI fm)) dn ((TC fv z) a)).length))))) hW hL_h0 hT_h0 hL_pe hT_pe hL_g2 hT_g2 hj5 hj6 hj3 hj4 (hj7) (by first | omega | assumption | exact Or.inl rfl) (by omega) (hV) (by rw [← hV.1]; omega)) ⟨callB_of 2 hts (gi kt_1148) rfl rfl rfl (hts _ kt_669) (hts _ kt_1149) (by decide +kernel) ⟨Nat.le_of_ble_eq_true rfl, Nat.le_of_ble_eq_true rfl⟩, (hts _ kt_1150), (hts _ kt_1151)⟩ ⟨fun a U g mk q => ⟨q.1, PTm.calling q.2⟩, pg_recv hK hP hL_h0 hF_215 (q := (RX15, TX15, 59)) rfl, fun U hU hWm => ⟨rfl, PTm.mk hU hWm hP hK hD hE hO⟩⟩ rfl rfl hl.1 rfl (lv_room (Nat.le_of_ble_eq_true rfl)) dX15_macroValue_413 ⟨by show _ + 0 ≤ 0; omega, by show _ + 0 ≤ 0; omega⟩) hS (fun q _ h => hFc q h) hFc (fun u t H1 locs ht hvm hw hB hz1 hk1 hS => ?_)
                    obtain ⟨F_233, y2_234, f2_235, hB1, hq_236, hq_237, hq_238⟩ := hB
                    obtain ⟨hP, hD, hO, hR⟩ := QTm.back hB1 ht hFc hR (fun q h => by simp only [List.mem_cons, List.not_mem_nil, or_false] at h ⊢; omega)
                    have hF_239 : F_233 g1 = .inl (cs 17, 700, .inl fv) := (hB1.2.2.2 g1 (by rw [hT_g1]; simp only [List.mem_cons, List.not_mem_nil, or_false]; omega)).trans hF_214
                    have hF_240 : F_233 h0 = .inr (15, (.ref ta) :: (.int (nI zt)) :: (.int (nI zo)) :: (.int (nI ze)) :: (.ref ou) :: (.ref so) :: (.ref ad) :: (.ref na) :: (.ref va) :: (.ref lc) :: (.ref dm) :: (.int (nI fm)) :: (.int (nI sn)) :: (.ref tg) :: (.int v14_28) :: (.int v15_29) :: (.ref pe) :: (.int v17_30) :: (.int v18_31) :: (.int v19_32) :: (.int v20_33) :: (.int v21_34) :: (.int v22_35) :: (.ref ml) :: (.ref bg) :: (.ref co) :: (.ref sp) :: (.ref nb0) :: (.ref nb1) :: (.ref nb2) :: (.int (nI nf)) :: (.int (nI bd)) :: (.int (nI mm)) :: (.int v33_36) :: (.ref pl) :: (.ref se) :: (.ref ke) :: (.ref wi) :: (.ref hs) :: (.ref mo) :: (.ref po) :: (.ref nu) :: (.ref pr) :: (.ref sq) :: (.ref xa) :: (.ref sa) :: (.ref n64) :: (.ref m64) :: (.ref ex) :: (.ref wh) :: (.ref sd) :: (.ref tk) :: (.int v52_37) :: (.int v53_38) :: (.int v54_39) :: (.ref hd) :: (.ref ak) :: (.ref ho) :: (.ref ot) :: []) := (hB1.2.2.2 h0 (by rw [hT_h0]; simp only [List.mem_cons, List.not_mem_nil, or_false]; omega)).trans hF_215
                    have hF_241 : F_233 lc = .inr (14, [.ref r_1, .int (nI zl)]) := (hB1.2.2.2 lc (by rw [ht_58]; simp only [List.mem_cons, List.not_mem_nil, or_false]; omega)).trans hF_216
                    have hF_242 : F_233 r_1 = .inl (cs 17, 30, .inl fcl) := (hB1.2.2.2 r_1 (by rw [ht_60]; simp only [List.mem_cons, List.not_mem_nil, or_false]; omega)).trans hF_217
                    have hF_243 : F_233 dm = .inr (14, [.ref r_2, .int (nI zm)]) := (hB1.2.2.2 dm (by rw [ht_63]; simp only [List.mem_cons, List.not_mem_nil, or_false]; omega)).trans hF_218
                    have hF_244 : F_233 r_2 = .inl (cs 17, 60, .inl fcm) := (hB1.2.2.2 r_2 (by rw [ht_65]; simp only [List.mem_cons, List.not_mem_nil, or_false]; omega)).trans hF_219
                    have hF_245 : F_233 dd = .inr (14, [.ref rd, .int (nI zd)]) := (hB1.2.2.2 dd (by rw [hT_dd]; simp only [List.mem_cons, List.not_mem_nil, or_false]; omega)).trans hF_220
                    have hF_246 : F_233 rd = .inl (cs 17, nd, .inl fcd) := (hB1.2.2.2 rd (by rw [ht_55]; simp only [List.mem_cons, List.not_mem_nil, or_false]; omega)).trans hF_221
                    have hF_247 : F_233 pe = .inr (14, [.ref rp, .int (nI ze9)]) := (hB1.2.2.2 pe (by rw [hT_pe]; simp only [List.mem_cons, List.not_mem_nil, or_false]; omega)).trans hj5
                    have hF_248 : F_233 rp = .inl (cs 17, 100, .inl f9) := (hB1.2.2.2 rp (by rw [ht_47]; simp only [List.mem_cons, List.not_mem_nil, or_false]; omega)).trans hj6
                    generalize H1 = H at hP hS ⊢
                    refine lv_iinc (v := (nI (i + 1))) (lv' := [(11, .int (nI (i + 1))), (10, .int (nI ((1 + dtc (pcW (sdM LC DM (nI fm)) dn ((TC fv z) a)) (pcW (sdM LC DM (nI fm)) dn ((TC fv z) a)).length) - (cnW (dgW ((TC fv z) (a + 1))) (1 + dtc (pcW (sdM LC DM (nI fm)) dn ((TC fv z) a)) (pcW (sdM LC DM (nI fm)) dn ((TC fv z) a)).length))))), (7, .int (nI w7)), (9, .int (trW ((TC fv z) (tt - 1)))), (8, .int (nI nn)), (6, .int (nI ((TC fv z) a))), (0, .ref h0), (1, .ref g1), (2, .int (nI a)), (3, .int (nI tt)), (4, .ref dd), (5, .ref g2)]) hx hb dX15_macroValue_416 hl (k := 0) rfl (nI_1 _) (by decide) rfl (fun ls hl => ?_)
                    refine lv_goto (tgt := 372) hx hb dX15_macroValue_419 (by decide) ?_
                    refine W.widen (k := 0) (n := 0) (by omega) (by omega) ?_
                    exact ih_213 ((i + 1), y2_234, f2_235) F_233 (⟨by omega, by omega, hq_236, hq_237, hF_247, hF_248, by have h9 := hq_238; rw [show i + 1 - ((1 + dtc (pcW (sdM LC DM (nI fm)) dn ((TC fv z) a)) (pcW (sdM LC DM (nI fm)) dn ((TC fv z) a)).length) - (cnW (dgW ((TC fv z) (a + 1))) (1 + dtc (pcW (sdM LC DM (nI fm)) dn ((TC fv z) a)) (pcW (sdM LC DM (nI fm)) dn ((TC fv z) a)).length))) = i - ((1 + dtc (pcW (sdM LC DM (nI fm)) dn ((TC fv z) a)) (pcW (sdM LC DM (nI fm)) dn ((TC fv z) a)).length) - (cnW (dgW ((TC fv z) (a + 1))) (1 + dtc (pcW (sdM LC DM (nI fm)) dn ((TC fv z) a)) (pcW (sdM LC DM (nI fm)) dn ((TC fv z) a)).length))) + 1 by omega]; show TGM (U ++ (prw (pcW (sdM LC DM (nI fm)) dn ((TC fv z) a)) (trW ((TC fv z) (tt - 1))) (cnW (dgW ((TC fv z) (a + 1))) (1 + dtc (pcW (sdM LC DM (nI fm)) dn ((TC fv z) a)) (pcW (sdM LC DM (nI fm)) dn ((TC fv z) a)).length)) (1 + dtc (pcW (sdM LC DM (nI fm)) dn ((TC fv z) a)) (pcW (sdM LC DM (nI fm)) dn ((TC fv z) a)).length) (i - ((1 + dtc (pcW (sdM LC DM (nI fm)) dn ((TC fv z) a)) (pcW (sdM LC DM (nI fm)) dn ((TC fv z) a)).length) - (cnW (dgW ((TC fv z) (a + 1))) (1 + dtc (pcW (sdM LC DM (nI fm)) dn ((TC fv z) a)) (pcW (sdM LC DM (nI fm)) dn ((TC fv z) a)).length)))) ++ (if 0 < i - ((1 + dtc (pcW (sdM LC DM (nI fm)) dn ((TC fv z) a)) (pcW (sdM LC DM (nI fm)) dn ((TC fv z) a)).length) - (cnW (dgW ((TC fv z) (a + 1))) (1 + dtc (pcW (sdM LC DM (nI fm)) dn ((TC fv z) a)) (pcW (sdM LC DM (nI fm)) dn ((TC fv z) a)).length))) then [46] else []) ++ ptL (pcW (sdM LC DM (nI fm)) dn ((TC fv z) a)) (pix (trW ((TC fv z) (tt - 1))) (cnW (dgW ((TC fv z) (a + 1))) (1 + dtc (pcW (sdM LC DM (nI fm)) dn ((TC fv z) a)) (pcW (sdM LC DM (nI fm)) dn ((TC fv z) a)).length)) (1 + dtc (pcW (sdM LC DM (nI fm)) dn ((TC fv z) a)) (pcW (sdM LC DM (nI fm)) dn ((TC fv z) a)).length) (i - ((1 + dtc (pcW (sdM LC DM (nI fm)) dn ((TC fv z) a)) (pcW (sdM LC DM (nI fm)) dn ((TC fv z) a)).length) - (cnW (dgW ((TC fv z) (a + 1))) (1 + dtc (pcW (sdM LC DM (nI fm)) dn ((TC fv z) a)) (pcW (sdM LC DM (nI fm)) dn ((TC fv z) a)).length))))))) _ _; rw [if_neg (by omega), show pix (trW ((TC fv z) (tt - 1))) (cnW (dgW ((TC fv z) (a + 1))) (1 + dtc (pcW (sdM LC DM (nI fm)) dn ((TC fv z) a)) (pcW (sdM LC DM (nI fm)) dn ((TC fv z) a)).length)) (1 + dtc (pcW (sdM LC DM (nI fm)) dn ((TC fv z) a)) (pcW (sdM LC DM (nI fm)) dn ((TC fv z) a)).length) (i - ((1 + dtc (pcW (sdM LC DM (nI fm)) dn ((TC fv z) a)) (pcW (sdM LC DM (nI fm)) dn ((TC fv z) a)).length) - (cnW (dgW ((TC fv z) (a + 1))) (1 + dtc (pcW (sdM LC DM (nI fm)) dn ((TC fv z) a)) (pcW (sdM LC DM (nI fm)) dn ((TC fv z) a)).length)))) = _ from if_pos c_227, ← List.append_assoc, ← List.append_assoc]; rw [List.append_nil]; exact h9⟩) (by show w7 - (i + 1) < w7 - i; omega) hO hR _ _ hP hD hS ls (lv_sub hl [0, 1, 2, 3, 4, 5, 6, 7, 8, 9, 10, 11] rfl)
                  ·
                    refine lv_iload hx hb dX15_macroValue_399 (lv_at hl 2 rfl) ?_
                    refine lv_iconst (v := 1) hx hb dX15_macroValue_401 (by decide) ?_
                    refine lv_isub hx hb dX15_macroValue_402 ?_
                    refine lv_topi (fun x_249 ex_249 => ?_)
                    obtain rfl : x_249 = (nI (w7 - 1)) := ex_249.trans (pk_sub (a := w7) (b := 1) (by omega))
                    refine lv_iload hx hb dX15_macroValue_403 (lv_at hl 0 rfl) ?_
                    refine lv_isub hx hb dX15_macroValue_405 ?_
                    refine lv_topi (fun x_250 ex_250 => ?_)
                    obtain rfl : x_250 = (nI ((cnW (dgW ((TC fv z) (a + 1))) (1 + dtc (pcW (sdM LC DM (nI fm)) dn ((TC fv z) a)) (pcW (sdM LC DM (nI fm)) dn ((TC fv z) a)).length)) - 1 - (i - ((1 + dtc (pcW (sdM LC DM (nI fm)) dn ((TC fv z) a)) (pcW (sdM LC DM (nI fm)) dn ((TC fv z) a)).length) - (cnW (dgW ((TC fv z) (a + 1))) (1 + dtc (pcW (sdM LC DM (nI fm)) dn ((TC fv z) a)) (pcW (sdM LC DM (nI fm)) dn ((TC fv z) a)).length)))))) := ex_250.trans ((pk_sub (a := w7 - 1) (b := i) (by omega)).trans (congrArg nI (by omega)))
                    refine lv_goto (tgt := 411) hx hb dX15_macroValue_406 (by decide) ?_
                    refine lv_aload hx hb dX15_macroValue_411 (lv_at hl 11 rfl) ?_
                    obtain ⟨hq_251, hq_252⟩ := hW.octs hi_46 ht_47
                    obtain ⟨hq_253, hq_254⟩ := hW.octs hi_49 ht_50
                    have hFc := pg_free hD hS hA
                    refine va_callv (va_runV (As := [.int (nI ((cnW (dgW ((TC fv z) (a + 1))) (1 + dtc (pcW (sdM LC DM (nI fm)) dn ((TC fv z) a)) (pcW (sdM LC DM (nI fm)) dn ((TC fv z) a)).length)) - 1 - (i - ((1 + dtc (pcW (sdM LC DM (nI fm)) dn ((TC fv z) a)) (pcW (sdM LC DM (nI fm)) dn ((TC fv z) a)).length) - (cnW (dgW ((TC fv z) (a + 1))) (1 + dtc (pcW (sdM LC DM (nI fm)) dn ((TC fv z) a)) (pcW (sdM LC DM (nI fm)) dn ((TC fv z) a)).length)))))), .ref g2]) (rest := []) ⟨hx, hb, hml, hown, hts⟩ (s_X15_part_x l dC dI cs ty gm L H.size F_203 h0 ρ ta ou so ad na va lc dm tg pe ml bg co sp nb0 nb1 nb2 pl se ke wi hs mo po nu pr sq xa sa n64 m64 ex wh sd tk hd ak ho ot sx s0 s1 s2 nf bd mm zo fm sn hg gc gv ze zt rp g2 κ r2 ((cnW (dgW ((TC fv z) (a + 1))) (1 + dtc (pcW (sdM LC DM (nI fm)) dn ((TC fv z) a)) (pcW (sdM LC DM (nI fm)) dn ((TC fv z) a)).length)) - 1 - (i - ((1 + dtc (pcW (sdM LC DM (nI fm)) dn ((TC fv z) a)) (pcW (sdM LC DM (nI fm)) dn ((TC fv z) a)).length) - (cnW (dgW ((TC fv z) (a + 1))) (1 + dtc (pcW (sdM LC DM (nI fm)) dn ((TC fv z) a)) (pcW (sdM LC DM (nI fm)) dn ((TC fv z) a)).length))))) ze9 yy f9 fq (pcW (sdM LC DM (nI fm)) dn ((TC fv z) a)) (U ++ prw (pcW (sdM LC DM (nI fm)) dn ((TC fv z) a)) (trW ((TC fv z) (tt - 1))) (cnW (dgW ((TC fv z) (a + 1))) (1 + dtc (pcW (sdM LC DM (nI fm)) dn ((TC fv z) a)) (pcW (sdM LC DM (nI fm)) dn ((TC fv z) a)).length)) (1 + dtc (pcW (sdM LC DM (nI fm)) dn ((TC fv z) a)) (pcW (sdM LC DM (nI fm)) dn ((TC fv z) a)).length) (i - ((1 + dtc (pcW (sdM LC DM (nI fm)) dn ((TC fv z) a)) (pcW (sdM LC DM (nI fm)) dn ((TC fv z) a)).length) - (cnW (dgW ((TC fv z) (a + 1))) (1 + dtc (pcW (sdM LC DM (nI fm)) dn ((TC fv z) a)) (pcW (sdM LC DM (nI fm)) dn ((TC fv z) a)).length))))) hW hL_h0 hT_h0 hL_pe hT_pe hL_g2 hT_g2 hj5 hj6 hj3 hj4 (hj7) (by first | omega | assumption | exact Or.inl rfl) (by omega) (hV) (by rw [← hV.1]; omega)) ⟨callB_of 2 hts (gi kt_1148) rfl rfl rfl (hts _ kt_669) (hts _ kt_1149) (by decide +kernel) ⟨Nat.le_of_ble_eq_true rfl, Nat.le_of_ble_eq_true rfl⟩, (hts _ kt_1150), (hts _ kt_1151)⟩ ⟨fun a U g mk q => ⟨q.1, PTm.calling q.2⟩, pg_recv hK hP hL_h0 hF_215 (q := (RX15, TX15, 59)) rfl, fun U hU hWm => ⟨rfl, PTm.mk hU hWm hP hK hD hE hO⟩⟩ rfl rfl hl.1 rfl (lv_room (Nat.le_of_ble_eq_true rfl)) dX15_macroValue_413 ⟨by show _ + 0 ≤ 0; omega, by show _ + 0 ≤ 0; omega⟩) hS (fun q _ h => hFc q h) hFc (fun u t H1 locs ht hvm hw hB hz1 hk1 hS => ?_)
                    obtain ⟨F_256, y2_257, f2_258, hB1, hq_259, hq_260, hq_261⟩ := hB
                    obtain ⟨hP, hD, hO, hR⟩ := QTm.back hB1 ht hFc hR (fun q h => by simp only [List.mem_cons, List.not_mem_nil, or_false] at h ⊢; omega)
                    have hF_262 : F_256 g1 = .inl (cs 17, 700, .inl fv) := (hB1.2.2.2 g1 (by rw [hT_g1]; simp only [List.mem_cons, List.not_mem_nil, or_false]; omega)).trans hF_214
                    have hF_263 : F_256 h0 = .inr (15, (.ref ta) :: (.int (nI zt)) :: (.int (nI zo)) :: (.int (nI ze)) :: (.ref ou) :: (.ref so) :: (.ref ad) :: (.ref na) :: (.ref va) :: (.ref lc) :: (.ref dm) :: (.int (nI fm)) :: (.int (nI sn)) :: (.ref tg) :: (.int v14_28) :: (.int v15_29) :: (.ref pe) :: (.int v17_30) :: (.int v18_31) :: (.int v19_32) :: (.int v20_33) :: (.int v21_34) :: (.int v22_35) :: (.ref ml) :: (.ref bg) :: (.ref co) :: (.ref sp) :: (.ref nb0) :: (.ref nb1) :: (.ref nb2) :: (.int (nI nf)) :: (.int (nI bd)) :: (.int (nI mm)) :: (.int v33_36) :: (.ref pl) :: (.ref se) :: (.ref ke) :: (.ref wi) :: (.ref hs) :: (.ref mo) :: (.ref po) :: (.ref nu) :: (.ref pr) :: (.ref sq) :: (.ref xa) :: (.ref sa) :: (.ref n64) :: (.ref m64) :: (.ref ex) :: (.ref wh) :: (.ref sd) :: (.ref tk) :: (.int v52_37) :: (.int v53_38) :: (.int v54_39) :: (.ref hd) :: (.ref ak) :: (.ref ho) :: (.ref ot) :: []) := (hB1.2.2.2 h0 (by rw [hT_h0]; simp only [List.mem_cons, List.not_mem_nil, or_false]; omega)).trans hF_215
                    have hF_264 : F_256 lc = .inr (14, [.ref r_1, .int (nI zl)]) := (hB1.2.2.2 lc (by rw [ht_58]; simp only [List.mem_cons, List.not_mem_nil, or_false]; omega)).trans hF_216
                    have hF_265 : F_256 r_1 = .inl (cs 17, 30, .inl fcl) := (hB1.2.2.2 r_1 (by rw [ht_60]; simp only [List.mem_cons, List.not_mem_nil, or_false]; omega)).trans hF_217
                    have hF_266 : F_256 dm = .inr (14, [.ref r_2, .int (nI zm)]) := (hB1.2.2.2 dm (by rw [ht_63]; simp only [List.mem_cons, List.not_mem_nil, or_false]; omega)).trans hF_218
                    have hF_267 : F_256 r_2 = .inl (cs 17, 60, .inl fcm) := (hB1.2.2.2 r_2 (by rw [ht_65]; simp only [List.mem_cons, List.not_mem_nil, or_false]; omega)).trans hF_219
                    have hF_268 : F_256 dd = .inr (14, [.ref rd, .int (nI zd)]) := (hB1.2.2.2 dd (by rw [hT_dd]; simp only [List.mem_cons, List.not_mem_nil, or_false]; omega)).trans hF_220
                    have hF_269 : F_256 rd = .inl (cs 17, nd, .inl fcd) := (hB1.2.2.2 rd (by rw [ht_55]; simp only [List.mem_cons, List.not_mem_nil, or_false]; omega)).trans hF_221
                    have hF_270 : F_256 pe = .inr (14, [.ref rp, .int (nI ze9)]) := (hB1.2.2.2 pe (by rw [hT_pe]; simp only [List.mem_cons, List.not_mem_nil, or_false]; omega)).trans hj5
                    have hF_271 : F_256 rp = .inl (cs 17, 100, .inl f9) := (hB1.2.2.2 rp (by rw [ht_47]; simp only [List.mem_cons, List.not_mem_nil, or_false]; omega)).trans hj6
                    generalize H1 = H at hP hS ⊢
                    refine lv_iinc (v := (nI (i + 1))) (lv' := [(11, .int (nI (i + 1))), (10, .int (nI ((1 + dtc (pcW (sdM LC DM (nI fm)) dn ((TC fv z) a)) (pcW (sdM LC DM (nI fm)) dn ((TC fv z) a)).length) - (cnW (dgW ((TC fv z) (a + 1))) (1 + dtc (pcW (sdM LC DM (nI fm)) dn ((TC fv z) a)) (pcW (sdM LC DM (nI fm)) dn ((TC fv z) a)).length))))), (7, .int (nI w7)), (9, .int (trW ((TC fv z) (tt - 1)))), (8, .int (nI nn)), (6, .int (nI ((TC fv z) a))), (0, .ref h0), (1, .ref g1), (2, .int (nI a)), (3, .int (nI tt)), (4, .ref dd), (5, .ref g2)]) hx hb dX15_macroValue_416 hl (k := 0) rfl (nI_1 _) (by decide) rfl (fun ls hl => ?_)
                    refine lv_goto (tgt := 372) hx hb dX15_macroValue_419 (by decide) ?_
                    refine W.widen (k := 0) (n := 0) (by omega) (by omega) ?_
                    exact ih_213 ((i + 1), y2_257, f2_258) F_256 (⟨by omega, by omega, hq_259, hq_260, hF_270, hF_271, by have h9 := hq_261; rw [show i + 1 - ((1 + dtc (pcW (sdM LC DM (nI fm)) dn ((TC fv z) a)) (pcW (sdM LC DM (nI fm)) dn ((TC fv z) a)).length) - (cnW (dgW ((TC fv z) (a + 1))) (1 + dtc (pcW (sdM LC DM (nI fm)) dn ((TC fv z) a)) (pcW (sdM LC DM (nI fm)) dn ((TC fv z) a)).length))) = i - ((1 + dtc (pcW (sdM LC DM (nI fm)) dn ((TC fv z) a)) (pcW (sdM LC DM (nI fm)) dn ((TC fv z) a)).length) - (cnW (dgW ((TC fv z) (a + 1))) (1 + dtc (pcW (sdM LC DM (nI fm)) dn ((TC fv z) a)) (pcW (sdM LC DM (nI fm)) dn ((TC fv z) a)).length))) + 1 by omega]; show TGM (U ++ (prw (pcW (sdM LC DM (nI fm)) dn ((TC fv z) a)) (trW ((TC fv z) (tt - 1))) (cnW (dgW ((TC fv z) (a + 1))) (1 + dtc (pcW (sdM LC DM (nI fm)) dn ((TC fv z) a)) (pcW (sdM LC DM (nI fm)) dn ((TC fv z) a)).length)) (1 + dtc (pcW (sdM LC DM (nI fm)) dn ((TC fv z) a)) (pcW (sdM LC DM (nI fm)) dn ((TC fv z) a)).length) (i - ((1 + dtc (pcW (sdM LC DM (nI fm)) dn ((TC fv z) a)) (pcW (sdM LC DM (nI fm)) dn ((TC fv z) a)).length) - (cnW (dgW ((TC fv z) (a + 1))) (1 + dtc (pcW (sdM LC DM (nI fm)) dn ((TC fv z) a)) (pcW (sdM LC DM (nI fm)) dn ((TC fv z) a)).length)))) ++ (if 0 < i - ((1 + dtc (pcW (sdM LC DM (nI fm)) dn ((TC fv z) a)) (pcW (sdM LC DM (nI fm)) dn ((TC fv z) a)).length) - (cnW (dgW ((TC fv z) (a + 1))) (1 + dtc (pcW (sdM LC DM (nI fm)) dn ((TC fv z) a)) (pcW (sdM LC DM (nI fm)) dn ((TC fv z) a)).length))) then [46] else []) ++ ptL (pcW (sdM LC DM (nI fm)) dn ((TC fv z) a)) (pix (trW ((TC fv z) (tt - 1))) (cnW (dgW ((TC fv z) (a + 1))) (1 + dtc (pcW (sdM LC DM (nI fm)) dn ((TC fv z) a)) (pcW (sdM LC DM (nI fm)) dn ((TC fv z) a)).length)) (1 + dtc (pcW (sdM LC DM (nI fm)) dn ((TC fv z) a)) (pcW (sdM LC DM (nI fm)) dn ((TC fv z) a)).length) (i - ((1 + dtc (pcW (sdM LC DM (nI fm)) dn ((TC fv z) a)) (pcW (sdM LC DM (nI fm)) dn ((TC fv z) a)).length) - (cnW (dgW ((TC fv z) (a + 1))) (1 + dtc (pcW (sdM LC DM (nI fm)) dn ((TC fv z) a)) (pcW (sdM LC DM (nI fm)) dn ((TC fv z) a)).length))))))) _ _; rw [if_neg (by omega), show pix (trW ((TC fv z) (tt - 1))) (cnW (dgW ((TC fv z) (a + 1))) (1 + dtc (pcW (sdM LC DM (nI fm)) dn ((TC fv z) a)) (pcW (sdM LC DM (nI fm)) dn ((TC fv z) a)).length)) (1 + dtc (pcW (sdM LC DM (nI fm)) dn ((TC fv z) a)) (pcW (sdM LC DM (nI fm)) dn ((TC fv z) a)).length) (i - ((1 + dtc (pcW (sdM LC DM (nI fm)) dn ((TC fv z) a)) (pcW (sdM LC DM (nI fm)) dn ((TC fv z) a)).length) - (cnW (dgW ((TC fv z) (a + 1))) (1 + dtc (pcW (sdM LC DM (nI fm)) dn ((TC fv z) a)) (pcW (sdM LC DM (nI fm)) dn ((TC fv z) a)).length)))) = _ from if_neg c_227, ← List.append_assoc, ← List.append_assoc]; rw [List.append_nil]; exact h9⟩) (by show w7 - (i + 1) < w7 - i; omega) hO hR _ _ hP hD hS ls (lv_sub hl [0, 1, 2, 3, 4, 5, 6, 7, 8, 9, 10, 11] rfl)
                ·
                  have hi_272 : ((1 + dtc (pcW (sdM LC DM (nI fm)) dn ((TC fv z) a)) (pcW (sdM LC DM (nI fm)) dn ((TC fv z) a)).length) - (cnW (dgW ((TC fv z) (a + 1))) (1 + dtc (pcW (sdM LC DM (nI fm)) dn ((TC fv z) a)) (pcW (sdM LC DM (nI fm)) dn ((TC fv z) a)).length))) < i := Nat.not_le.mp (fun q => c_225 ((nI_leI (a := i) (b := ((1 + dtc (pcW (sdM LC DM (nI fm)) dn ((TC fv z) a)) (pcW (sdM LC DM (nI fm)) dn ((TC fv z) a)).length) - (cnW (dgW ((TC fv z) (a + 1))) (1 + dtc (pcW (sdM LC DM (nI fm)) dn ((TC fv z) a)) (pcW (sdM LC DM (nI fm)) dn ((TC fv z) a)).length)))) (by omega) (by omega)).mpr q))
                  refine lv_aload hx hb dX15_macroValue_386 (lv_at hl 11 rfl) ?_
                  refine lv_bipush (v := 46) hx hb dX15_macroValue_388 (by decide) ?_
                  refine W.eq (g2 := F0 m 390 ls [.int (nI 46), .ref g2]) rfl ?_
                  obtain ⟨hq_273, hq_274⟩ := hW.octs hi_49 ht_50
                  have hFc := pg_free hD hS hA
                  refine va_callv (va_runS (As := [.ref g2, .int (nI 46)]) (rest := []) ⟨hx, hb, hml, hown, hts⟩ (s_X15_put_x l dC dI cs ty gm L H.size F_203 g2 κ r2 61 yy 46 fq (U ++ prw (pcW (sdM LC DM (nI fm)) dn ((TC fv z) a)) (trW ((TC fv z) (tt - 1))) (cnW (dgW ((TC fv z) (a + 1))) (1 + dtc (pcW (sdM LC DM (nI fm)) dn ((TC fv z) a)) (pcW (sdM LC DM (nI fm)) dn ((TC fv z) a)).length)) (1 + dtc (pcW (sdM LC DM (nI fm)) dn ((TC fv z) a)) (pcW (sdM LC DM (nI fm)) dn ((TC fv z) a)).length) (i - ((1 + dtc (pcW (sdM LC DM (nI fm)) dn ((TC fv z) a)) (pcW (sdM LC DM (nI fm)) dn ((TC fv z) a)).length) - (cnW (dgW ((TC fv z) (a + 1))) (1 + dtc (pcW (sdM LC DM (nI fm)) dn ((TC fv z) a)) (pcW (sdM LC DM (nI fm)) dn ((TC fv z) a)).length))))) hW hL_g2 hT_g2 hj3 hj4 (hj7) (by omega) (by omega)) ⟨callB_of 2 hts (gi kt_1145) rfl rfl rfl (hts _ kt_669) (hts _ kt_1146) (by decide +kernel) ⟨Nat.le_of_ble_eq_true rfl, Nat.le_of_ble_eq_true rfl⟩, (hts _ kt_1147)⟩ ⟨fun a U g mk q => ⟨q.1, PTm.calling q.2⟩, fun U hU hWm => ⟨rfl, PTm.mk hU hWm hP hK hD hE hO⟩⟩ rfl rfl hl.1 rfl (lv_room (Nat.le_of_ble_eq_true rfl)) dX15_macroValue_390 ⟨by show _ + 0 ≤ 0; omega, by show _ + 0 ≤ 0; omega⟩) hS (fun q _ h => hFc q h) hFc (fun u t H1 locs ht hvm hw hB hz1 hk1 hS => ?_)
                  obtain ⟨F_276, y2_277, f2_278, hB1, hq_279, hq_280, hq_281⟩ := hB
                  obtain ⟨hP, hD, hO, hR⟩ := QTm.back hB1 ht hFc hR (fun q h => by simp only [List.mem_cons, List.not_mem_nil, or_false] at h ⊢; omega)
                  have hF_282 : F_276 g1 = .inl (cs 17, 700, .inl fv) := (hB1.2.2.2 g1 (by rw [hT_g1]; simp only [List.mem_cons, List.not_mem_nil, or_false]; omega)).trans hF_214
                  have hF_283 : F_276 h0 = .inr (15, (.ref ta) :: (.int (nI zt)) :: (.int (nI zo)) :: (.int (nI ze)) :: (.ref ou) :: (.ref so) :: (.ref ad) :: (.ref na) :: (.ref va) :: (.ref lc) :: (.ref dm) :: (.int (nI fm)) :: (.int (nI sn)) :: (.ref tg) :: (.int v14_28) :: (.int v15_29) :: (.ref pe) :: (.int v17_30) :: (.int v18_31) :: (.int v19_32) :: (.int v20_33) :: (.int v21_34) :: (.int v22_35) :: (.ref ml) :: (.ref bg) :: (.ref co) :: (.ref sp) :: (.ref nb0) :: (.ref nb1) :: (.ref nb2) :: (.int (nI nf)) :: (.int (nI bd)) :: (.int (nI mm)) :: (.int v33_36) :: (.ref pl) :: (.ref se) :: (.ref ke) :: (.ref wi) :: (.ref hs) :: (.ref mo) :: (.ref po) :: (.ref nu) :: (.ref pr) :: (.ref sq) :: (.ref xa) :: (.ref sa) :: (.ref n64) :: (.ref m64) :: (.ref ex) :: (.ref wh) :: (.ref sd) :: (.ref tk) :: (.int v52_37) :: (.int v53_38) :: (.int v54_39) :: (.ref hd) :: (.ref ak) :: (.ref ho) :: (.ref ot) :: []) := (hB1.2.2.2 h0 (by rw [hT_h0]; simp only [List.mem_cons, List.not_mem_nil, or_false]; omega)).trans hF_215
                  have hF_284 : F_276 lc = .inr (14, [.ref r_1, .int (nI zl)]) := (hB1.2.2.2 lc (by rw [ht_58]; simp only [List.mem_cons, List.not_mem_nil, or_false]; omega)).trans hF_216
                  have hF_285 : F_276 r_1 = .inl (cs 17, 30, .inl fcl) := (hB1.2.2.2 r_1 (by rw [ht_60]; simp only [List.mem_cons, List.not_mem_nil, or_false]; omega)).trans hF_217
                  have hF_286 : F_276 dm = .inr (14, [.ref r_2, .int (nI zm)]) := (hB1.2.2.2 dm (by rw [ht_63]; simp only [List.mem_cons, List.not_mem_nil, or_false]; omega)).trans hF_218
                  have hF_287 : F_276 r_2 = .inl (cs 17, 60, .inl fcm) := (hB1.2.2.2 r_2 (by rw [ht_65]; simp only [List.mem_cons, List.not_mem_nil, or_false]; omega)).trans hF_219
                  have hF_288 : F_276 dd = .inr (14, [.ref rd, .int (nI zd)]) := (hB1.2.2.2 dd (by rw [hT_dd]; simp only [List.mem_cons, List.not_mem_nil, or_false]; omega)).trans hF_220
                  have hF_289 : F_276 rd = .inl (cs 17, nd, .inl fcd) := (hB1.2.2.2 rd (by rw [ht_55]; simp only [List.mem_cons, List.not_mem_nil, or_false]; omega)).trans hF_221
                  have hF_290 : F_276 pe = .inr (14, [.ref rp, .int (nI ze9)]) := (hB1.2.2.2 pe (by rw [hT_pe]; simp only [List.mem_cons, List.not_mem_nil, or_false]; omega)).trans hj5
                  have hF_291 : F_276 rp = .inl (cs 17, 100, .inl f9) := (hB1.2.2.2 rp (by rw [ht_47]; simp only [List.mem_cons, List.not_mem_nil, or_false]; omega)).trans hj6
                  generalize H1 = H at hP hS ⊢
                  refine lv_aload_n hx hb dX15_macroValue_393 rfl (lv_at hl 6 rfl) ?_
                  refine lv_iload hx hb dX15_macroValue_394 (lv_at hl 3 rfl) ?_
                  refine lv_if_eq (tgt := 409) hx hb dX15_macroValue_396 (by decide) (fun c_292 => ?_) (fun c_292 => ?_)
                  ·
                    refine lv_iload hx hb dX15_macroValue_409 (lv_at hl 0 rfl) ?_
                    refine lv_aload hx hb dX15_macroValue_411 (lv_at hl 11 rfl) ?_
                    refine W.eq (g2 := F0 m 413 ls [.ref g2, .int (nI ((1 + dtc (pcW (sdM LC DM (nI fm)) dn ((TC fv z) a)) (pcW (sdM LC DM (nI fm)) dn ((TC fv z) a)).length) - (cnW (dgW ((TC fv z) (a + 1))) (1 + dtc (pcW (sdM LC DM (nI fm)) dn ((TC fv z) a)) (pcW (sdM LC DM (nI fm)) dn ((TC fv z) a)).length)) + (i - ((1 + dtc (pcW (sdM LC DM (nI fm)) dn ((TC fv z) a)) (pcW (sdM LC DM (nI fm)) dn ((TC fv z) a)).length) - (cnW (dgW ((TC fv z) (a + 1))) (1 + dtc (pcW (sdM LC DM (nI fm)) dn ((TC fv z) a)) (pcW (sdM LC DM (nI fm)) dn ((TC fv z) a)).length)))))), .ref h0]) (by rw [show (1 + dtc (pcW (sdM LC DM (nI fm)) dn ((TC fv z) a)) (pcW (sdM LC DM (nI fm)) dn ((TC fv z) a)).length) - (cnW (dgW ((TC fv z) (a + 1))) (1 + dtc (pcW (sdM LC DM (nI fm)) dn ((TC fv z) a)) (pcW (sdM LC DM (nI fm)) dn ((TC fv z) a)).length)) + (i - ((1 + dtc (pcW (sdM LC DM (nI fm)) dn ((TC fv z) a)) (pcW (sdM LC DM (nI fm)) dn ((TC fv z) a)).length) - (cnW (dgW ((TC fv z) (a + 1))) (1 + dtc (pcW (sdM LC DM (nI fm)) dn ((TC fv z) a)) (pcW (sdM LC DM (nI fm)) dn ((TC fv z) a)).length)))) = i by omega]) ?_
                    obtain ⟨hq_293, hq_294⟩ := hW.octs hi_46 ht_47
                    have hFc := pg_free hD hS hA
                    refine va_callv (va_runV (As := [.int (nI ((1 + dtc (pcW (sdM LC DM (nI fm)) dn ((TC fv z) a)) (pcW (sdM LC DM (nI fm)) dn ((TC fv z) a)).length) - (cnW (dgW ((TC fv z) (a + 1))) (1 + dtc (pcW (sdM LC DM (nI fm)) dn ((TC fv z) a)) (pcW (sdM LC DM (nI fm)) dn ((TC fv z) a)).length)) + (i - ((1 + dtc (pcW (sdM LC DM (nI fm)) dn ((TC fv z) a)) (pcW (sdM LC DM (nI fm)) dn ((TC fv z) a)).length) - (cnW (dgW ((TC fv z) (a + 1))) (1 + dtc (pcW (sdM LC DM (nI fm)) dn ((TC fv z) a)) (pcW (sdM LC DM (nI fm)) dn ((TC fv z) a)).length)))))), .ref g2]) (rest := []) ⟨hx, hb, hml, hown, hts⟩ (s_X15_part_x l dC dI cs ty gm L H.size F_276 h0 ρ ta ou so ad na va lc dm tg pe ml bg co sp nb0 nb1 nb2 pl se ke wi hs mo po nu pr sq xa sa n64 m64 ex wh sd tk hd ak ho ot sx s0 s1 s2 nf bd mm zo fm sn hg gc gv ze zt rp g2 κ r2 ((1 + dtc (pcW (sdM LC DM (nI fm)) dn ((TC fv z) a)) (pcW (sdM LC DM (nI fm)) dn ((TC fv z) a)).length) - (cnW (dgW ((TC fv z) (a + 1))) (1 + dtc (pcW (sdM LC DM (nI fm)) dn ((TC fv z) a)) (pcW (sdM LC DM (nI fm)) dn ((TC fv z) a)).length)) + (i - ((1 + dtc (pcW (sdM LC DM (nI fm)) dn ((TC fv z) a)) (pcW (sdM LC DM (nI fm)) dn ((TC fv z) a)).length) - (cnW (dgW ((TC fv z) (a + 1))) (1 + dtc (pcW (sdM LC DM (nI fm)) dn ((TC fv z) a)) (pcW (sdM LC DM (nI fm)) dn ((TC fv z) a)).length))))) ze9 y2_277 f9 f2_278 (pcW (sdM LC DM (nI fm)) dn ((TC fv z) a)) ((U ++ prw (pcW (sdM LC DM (nI fm)) dn ((TC fv z) a)) (trW ((TC fv z) (tt - 1))) (cnW (dgW ((TC fv z) (a + 1))) (1 + dtc (pcW (sdM LC DM (nI fm)) dn ((TC fv z) a)) (pcW (sdM LC DM (nI fm)) dn ((TC fv z) a)).length)) (1 + dtc (pcW (sdM LC DM (nI fm)) dn ((TC fv z) a)) (pcW (sdM LC DM (nI fm)) dn ((TC fv z) a)).length) (i - ((1 + dtc (pcW (sdM LC DM (nI fm)) dn ((TC fv z) a)) (pcW (sdM LC DM (nI fm)) dn ((TC fv z) a)).length) - (cnW (dgW ((TC fv z) (a + 1))) (1 + dtc (pcW (sdM LC DM (nI fm)) dn ((TC fv z) a)) (pcW (sdM LC DM (nI fm)) dn ((TC fv z) a)).length))))) ++ [46]) hW hL_h0 hT_h0 hL_pe hT_pe hL_g2 hT_g2 hF_290 hF_291 hq_279 hq_280 (hq_281) (by first | omega | assumption | exact Or.inl rfl) (by omega) (hV) (by rw [← hV.1]; omega)) ⟨callB_of 2 hts (gi kt_1148) rfl rfl rfl (hts _ kt_669) (hts _ kt_1149) (by decide +kernel) ⟨Nat.le_of_ble_eq_true rfl, Nat.le_of_ble_eq_true rfl⟩, (hts _ kt_1150), (hts _ kt_1151)⟩ ⟨fun a U g mk q => ⟨q.1, PTm.calling q.2⟩, pg_recv hK hP hL_h0 hF_283 (q := (RX15, TX15, 59)) rfl, fun U hU hWm => ⟨rfl, PTm.mk hU hWm hP hK hD hE hO⟩⟩ rfl rfl hl.1 rfl (lv_room (Nat.le_of_ble_eq_true rfl)) dX15_macroValue_413 ⟨by show _ + 0 ≤ 0; omega, by show _ + 0 ≤ 0; omega⟩) hS (fun q _ h => hFc q h) hFc (fun u t H1 locs ht hvm hw hB hz1 hk1 hS => ?_)
                    obtain ⟨F_296, y2_297, f2_298, hB1, hq_299, hq_300, hq_301⟩ := hB
                    obtain ⟨hP, hD, hO, hR⟩ := QTm.back hB1 ht hFc hR (fun q h => by simp only [List.mem_cons, List.not_mem_nil, or_false] at h ⊢; omega)
                    have hF_302 : F_296 g1 = .inl (cs 17, 700, .inl fv) := (hB1.2.2.2 g1 (by rw [hT_g1]; simp only [List.mem_cons, List.not_mem_nil, or_false]; omega)).trans hF_282
                    have hF_303 : F_296 h0 = .inr (15, (.ref ta) :: (.int (nI zt)) :: (.int (nI zo)) :: (.int (nI ze)) :: (.ref ou) :: (.ref so) :: (.ref ad) :: (.ref na) :: (.ref va) :: (.ref lc) :: (.ref dm) :: (.int (nI fm)) :: (.int (nI sn)) :: (.ref tg) :: (.int v14_28) :: (.int v15_29) :: (.ref pe) :: (.int v17_30) :: (.int v18_31) :: (.int v19_32) :: (.int v20_33) :: (.int v21_34) :: (.int v22_35) :: (.ref ml) :: (.ref bg) :: (.ref co) :: (.ref sp) :: (.ref nb0) :: (.ref nb1) :: (.ref nb2) :: (.int (nI nf)) :: (.int (nI bd)) :: (.int (nI mm)) :: (.int v33_36) :: (.ref pl) :: (.ref se) :: (.ref ke) :: (.ref wi) :: (.ref hs) :: (.ref mo) :: (.ref po) :: (.ref nu) :: (.ref pr) :: (.ref sq) :: (.ref xa) :: (.ref sa) :: (.ref n64) :: (.ref m64) :: (.ref ex) :: (.ref wh) :: (.ref sd) :: (.ref tk) :: (.int v52_37) :: (.int v53_38) :: (.int v54_39) :: (.ref hd) :: (.ref ak) :: (.ref ho) :: (.ref ot) :: []) := (hB1.2.2.2 h0 (by rw [hT_h0]; simp only [List.mem_cons, List.not_mem_nil, or_false]; omega)).trans hF_283
                    have hF_304 : F_296 lc = .inr (14, [.ref r_1, .int (nI zl)]) := (hB1.2.2.2 lc (by rw [ht_58]; simp only [List.mem_cons, List.not_mem_nil, or_false]; omega)).trans hF_284
                    have hF_305 : F_296 r_1 = .inl (cs 17, 30, .inl fcl) := (hB1.2.2.2 r_1 (by rw [ht_60]; simp only [List.mem_cons, List.not_mem_nil, or_false]; omega)).trans hF_285
                    have hF_306 : F_296 dm = .inr (14, [.ref r_2, .int (nI zm)]) := (hB1.2.2.2 dm (by rw [ht_63]; simp only [List.mem_cons, List.not_mem_nil, or_false]; omega)).trans hF_286
                    have hF_307 : F_296 r_2 = .inl (cs 17, 60, .inl fcm) := (hB1.2.2.2 r_2 (by rw [ht_65]; simp only [List.mem_cons, List.not_mem_nil, or_false]; omega)).trans hF_287
                    have hF_308 : F_296 dd = .inr (14, [.ref rd, .int (nI zd)]) := (hB1.2.2.2 dd (by rw [hT_dd]; simp only [List.mem_cons, List.not_mem_nil, or_false]; omega)).trans hF_288
                    have hF_309 : F_296 rd = .inl (cs 17, nd, .inl fcd) := (hB1.2.2.2 rd (by rw [ht_55]; simp only [List.mem_cons, List.not_mem_nil, or_false]; omega)).trans hF_289
                    have hF_310 : F_296 pe = .inr (14, [.ref rp, .int (nI ze9)]) := (hB1.2.2.2 pe (by rw [hT_pe]; simp only [List.mem_cons, List.not_mem_nil, or_false]; omega)).trans hF_290
                    have hF_311 : F_296 rp = .inl (cs 17, 100, .inl f9) := (hB1.2.2.2 rp (by rw [ht_47]; simp only [List.mem_cons, List.not_mem_nil, or_false]; omega)).trans hF_291
                    generalize H1 = H at hP hS ⊢
                    refine lv_iinc (v := (nI (i + 1))) (lv' := [(11, .int (nI (i + 1))), (10, .int (nI ((1 + dtc (pcW (sdM LC DM (nI fm)) dn ((TC fv z) a)) (pcW (sdM LC DM (nI fm)) dn ((TC fv z) a)).length) - (cnW (dgW ((TC fv z) (a + 1))) (1 + dtc (pcW (sdM LC DM (nI fm)) dn ((TC fv z) a)) (pcW (sdM LC DM (nI fm)) dn ((TC fv z) a)).length))))), (7, .int (nI w7)), (9, .int (trW ((TC fv z) (tt - 1)))), (8, .int (nI nn)), (6, .int (nI ((TC fv z) a))), (0, .ref h0), (1, .ref g1), (2, .int (nI a)), (3, .int (nI tt)), (4, .ref dd), (5, .ref g2)]) hx hb dX15_macroValue_416 hl (k := 0) rfl (nI_1 _) (by decide) rfl (fun ls hl => ?_)
                    refine lv_goto (tgt := 372) hx hb dX15_macroValue_419 (by decide) ?_
                    refine W.widen (k := 0) (n := 0) (by omega) (by omega) ?_
                    exact ih_213 ((i + 1), y2_297, f2_298) F_296 (⟨by omega, by omega, hq_299, hq_300, hF_310, hF_311, by have h9 := hq_301; rw [show i + 1 - ((1 + dtc (pcW (sdM LC DM (nI fm)) dn ((TC fv z) a)) (pcW (sdM LC DM (nI fm)) dn ((TC fv z) a)).length) - (cnW (dgW ((TC fv z) (a + 1))) (1 + dtc (pcW (sdM LC DM (nI fm)) dn ((TC fv z) a)) (pcW (sdM LC DM (nI fm)) dn ((TC fv z) a)).length))) = i - ((1 + dtc (pcW (sdM LC DM (nI fm)) dn ((TC fv z) a)) (pcW (sdM LC DM (nI fm)) dn ((TC fv z) a)).length) - (cnW (dgW ((TC fv z) (a + 1))) (1 + dtc (pcW (sdM LC DM (nI fm)) dn ((TC fv z) a)) (pcW (sdM LC DM (nI fm)) dn ((TC fv z) a)).length))) + 1 by omega]; show TGM (U ++ (prw (pcW (sdM LC DM (nI fm)) dn ((TC fv z) a)) (trW ((TC fv z) (tt - 1))) (cnW (dgW ((TC fv z) (a + 1))) (1 + dtc (pcW (sdM LC DM (nI fm)) dn ((TC fv z) a)) (pcW (sdM LC DM (nI fm)) dn ((TC fv z) a)).length)) (1 + dtc (pcW (sdM LC DM (nI fm)) dn ((TC fv z) a)) (pcW (sdM LC DM (nI fm)) dn ((TC fv z) a)).length) (i - ((1 + dtc (pcW (sdM LC DM (nI fm)) dn ((TC fv z) a)) (pcW (sdM LC DM (nI fm)) dn ((TC fv z) a)).length) - (cnW (dgW ((TC fv z) (a + 1))) (1 + dtc (pcW (sdM LC DM (nI fm)) dn ((TC fv z) a)) (pcW (sdM LC DM (nI fm)) dn ((TC fv z) a)).length)))) ++ (if 0 < i - ((1 + dtc (pcW (sdM LC DM (nI fm)) dn ((TC fv z) a)) (pcW (sdM LC DM (nI fm)) dn ((TC fv z) a)).length) - (cnW (dgW ((TC fv z) (a + 1))) (1 + dtc (pcW (sdM LC DM (nI fm)) dn ((TC fv z) a)) (pcW (sdM LC DM (nI fm)) dn ((TC fv z) a)).length))) then [46] else []) ++ ptL (pcW (sdM LC DM (nI fm)) dn ((TC fv z) a)) (pix (trW ((TC fv z) (tt - 1))) (cnW (dgW ((TC fv z) (a + 1))) (1 + dtc (pcW (sdM LC DM (nI fm)) dn ((TC fv z) a)) (pcW (sdM LC DM (nI fm)) dn ((TC fv z) a)).length)) (1 + dtc (pcW (sdM LC DM (nI fm)) dn ((TC fv z) a)) (pcW (sdM LC DM (nI fm)) dn ((TC fv z) a)).length) (i - ((1 + dtc (pcW (sdM LC DM (nI fm)) dn ((TC fv z) a)) (pcW (sdM LC DM (nI fm)) dn ((TC fv z) a)).length) - (cnW (dgW ((TC fv z) (a + 1))) (1 + dtc (pcW (sdM LC DM (nI fm)) dn ((TC fv z) a)) (pcW (sdM LC DM (nI fm)) dn ((TC fv z) a)).length))))))) _ _; rw [if_pos (by omega), show pix (trW ((TC fv z) (tt - 1))) (cnW (dgW ((TC fv z) (a + 1))) (1 + dtc (pcW (sdM LC DM (nI fm)) dn ((TC fv z) a)) (pcW (sdM LC DM (nI fm)) dn ((TC fv z) a)).length)) (1 + dtc (pcW (sdM LC DM (nI fm)) dn ((TC fv z) a)) (pcW (sdM LC DM (nI fm)) dn ((TC fv z) a)).length) (i - ((1 + dtc (pcW (sdM LC DM (nI fm)) dn ((TC fv z) a)) (pcW (sdM LC DM (nI fm)) dn ((TC fv z) a)).length) - (cnW (dgW ((TC fv z) (a + 1))) (1 + dtc (pcW (sdM LC DM (nI fm)) dn ((TC fv z) a)) (pcW (sdM LC DM (nI fm)) dn ((TC fv z) a)).length)))) = _ from if_pos c_292, ← List.append_assoc, ← List.append_assoc]; exact h9⟩) (by show w7 - (i + 1) < w7 - i; omega) hO hR _ _ hP hD hS ls (lv_sub hl [0, 1, 2, 3, 4, 5, 6, 7, 8, 9, 10, 11] rfl)
                  ·
                    refine lv_iload hx hb dX15_macroValue_399 (lv_at hl 2 rfl) ?_
                    refine lv_iconst (v := 1) hx hb dX15_macroValue_401 (by decide) ?_
                    refine lv_isub hx hb dX15_macroValue_402 ?_
                    refine lv_topi (fun x_312 ex_312 => ?_)
                    obtain rfl : x_312 = (nI (w7 - 1)) := ex_312.trans (pk_sub (a := w7) (b := 1) (by omega))
                    refine lv_iload hx hb dX15_macroValue_403 (lv_at hl 0 rfl) ?_
                    refine lv_isub hx hb dX15_macroValue_405 ?_
                    refine lv_topi (fun x_313 ex_313 => ?_)
                    obtain rfl : x_313 = (nI ((cnW (dgW ((TC fv z) (a + 1))) (1 + dtc (pcW (sdM LC DM (nI fm)) dn ((TC fv z) a)) (pcW (sdM LC DM (nI fm)) dn ((TC fv z) a)).length)) - 1 - (i - ((1 + dtc (pcW (sdM LC DM (nI fm)) dn ((TC fv z) a)) (pcW (sdM LC DM (nI fm)) dn ((TC fv z) a)).length) - (cnW (dgW ((TC fv z) (a + 1))) (1 + dtc (pcW (sdM LC DM (nI fm)) dn ((TC fv z) a)) (pcW (sdM LC DM (nI fm)) dn ((TC fv z) a)).length)))))) := ex_313.trans ((pk_sub (a := w7 - 1) (b := i) (by omega)).trans (congrArg nI (by omega)))
                    refine lv_goto (tgt := 411) hx hb dX15_macroValue_406 (by decide) ?_
                    refine lv_aload hx hb dX15_macroValue_411 (lv_at hl 11 rfl) ?_
                    obtain ⟨hq_314, hq_315⟩ := hW.octs hi_46 ht_47
                    have hFc := pg_free hD hS hA
                    refine va_callv (va_runV (As := [.int (nI ((cnW (dgW ((TC fv z) (a + 1))) (1 + dtc (pcW (sdM LC DM (nI fm)) dn ((TC fv z) a)) (pcW (sdM LC DM (nI fm)) dn ((TC fv z) a)).length)) - 1 - (i - ((1 + dtc (pcW (sdM LC DM (nI fm)) dn ((TC fv z) a)) (pcW (sdM LC DM (nI fm)) dn ((TC fv z) a)).length) - (cnW (dgW ((TC fv z) (a + 1))) (1 + dtc (pcW (sdM LC DM (nI fm)) dn ((TC fv z) a)) (pcW (sdM LC DM (nI fm)) dn ((TC fv z) a)).length)))))), .ref g2]) (rest := []) ⟨hx, hb, hml, hown, hts⟩ (s_X15_part_x l dC dI cs ty gm L H.size F_276 h0 ρ ta ou so ad na va lc dm tg pe ml bg co sp nb0 nb1 nb2 pl se ke wi hs mo po nu pr sq xa sa n64 m64 ex wh sd tk hd ak ho ot sx s0 s1 s2 nf bd mm zo fm sn hg gc gv ze zt rp g2 κ r2 ((cnW (dgW ((TC fv z) (a + 1))) (1 + dtc (pcW (sdM LC DM (nI fm)) dn ((TC fv z) a)) (pcW (sdM LC DM (nI fm)) dn ((TC fv z) a)).length)) - 1 - (i - ((1 + dtc (pcW (sdM LC DM (nI fm)) dn ((TC fv z) a)) (pcW (sdM LC DM (nI fm)) dn ((TC fv z) a)).length) - (cnW (dgW ((TC fv z) (a + 1))) (1 + dtc (pcW (sdM LC DM (nI fm)) dn ((TC fv z) a)) (pcW (sdM LC DM (nI fm)) dn ((TC fv z) a)).length))))) ze9 y2_277 f9 f2_278 (pcW (sdM LC DM (nI fm)) dn ((TC fv z) a)) ((U ++ prw (pcW (sdM LC DM (nI fm)) dn ((TC fv z) a)) (trW ((TC fv z) (tt - 1))) (cnW (dgW ((TC fv z) (a + 1))) (1 + dtc (pcW (sdM LC DM (nI fm)) dn ((TC fv z) a)) (pcW (sdM LC DM (nI fm)) dn ((TC fv z) a)).length)) (1 + dtc (pcW (sdM LC DM (nI fm)) dn ((TC fv z) a)) (pcW (sdM LC DM (nI fm)) dn ((TC fv z) a)).length) (i - ((1 + dtc (pcW (sdM LC DM (nI fm)) dn ((TC fv z) a)) (pcW (sdM LC DM (nI fm)) dn ((TC fv z) a)).length) - (cnW (dgW ((TC fv z) (a + 1))) (1 + dtc (pcW (sdM LC DM (nI fm)) dn ((TC fv z) a)) (pcW (sdM LC DM (nI fm)) dn ((TC fv z) a)).length))))) ++ [46]) hW hL_h0 hT_h0 hL_pe hT_pe hL_g2 hT_g2 hF_290 hF_291 hq_279 hq_280 (hq_281) (by first | omega | assumption | exact Or.inl rfl) (by omega) (hV) (by rw [← hV.1]; omega)) ⟨callB_of 2 hts (gi kt_1148) rfl rfl rfl (hts _ kt_669) (hts _ kt_1149) (by decide +kernel) ⟨Nat.le_of_ble_eq_true rfl, Nat.le_of_ble_eq_true rfl⟩, (hts _ kt_1150), (hts _ kt_1151)⟩ ⟨fun a U g mk q => ⟨q.1, PTm.calling q.2⟩, pg_recv hK hP hL_h0 hF_283 (q := (RX15, TX15, 59)) rfl, fun U hU hWm => ⟨rfl, PTm.mk hU hWm hP hK hD hE hO⟩⟩ rfl rfl hl.1 rfl (lv_room (Nat.le_of_ble_eq_true rfl)) dX15_macroValue_413 ⟨by show _ + 0 ≤ 0; omega, by show _ + 0 ≤ 0; omega⟩) hS (fun q _ h => hFc q h) hFc (fun u t H1 locs ht hvm hw hB hz1 hk1 hS => ?_)
                    obtain ⟨F_317, y2_318, f2_319, hB1, hq_320, hq_321, hq_322⟩ := hB
                    obtain ⟨hP, hD, hO, hR⟩ := QTm.back hB1 ht hFc hR (fun q h => by simp only [List.mem_cons, List.not_mem_nil, or_false] at h ⊢; omega)
                    have hF_323 : F_317 g1 = .inl (cs 17, 700, .inl fv) := (hB1.2.2.2 g1 (by rw [hT_g1]; simp only [List.mem_cons, List.not_mem_nil, or_false]; omega)).trans hF_282
                    have hF_324 : F_317 h0 = .inr (15, (.ref ta) :: (.int (nI zt)) :: (.int (nI zo)) :: (.int (nI ze)) :: (.ref ou) :: (.ref so) :: (.ref ad) :: (.ref na) :: (.ref va) :: (.ref lc) :: (.ref dm) :: (.int (nI fm)) :: (.int (nI sn)) :: (.ref tg) :: (.int v14_28) :: (.int v15_29) :: (.ref pe) :: (.int v17_30) :: (.int v18_31) :: (.int v19_32) :: (.int v20_33) :: (.int v21_34) :: (.int v22_35) :: (.ref ml) :: (.ref bg) :: (.ref co) :: (.ref sp) :: (.ref nb0) :: (.ref nb1) :: (.ref nb2) :: (.int (nI nf)) :: (.int (nI bd)) :: (.int (nI mm)) :: (.int v33_36) :: (.ref pl) :: (.ref se) :: (.ref ke) :: (.ref wi) :: (.ref hs) :: (.ref mo) :: (.ref po) :: (.ref nu) :: (.ref pr) :: (.ref sq) :: (.ref xa) :: (.ref sa) :: (.ref n64) :: (.ref m64) :: (.ref ex) :: (.ref wh) :: (.ref sd) :: (.ref tk) :: (.int v52_37) :: (.int v53_38) :: (.int v54_39) :: (.ref hd) :: (.ref ak) :: (.ref ho) :: (.ref ot) :: []) := (hB1.2.2.2 h0 (by rw [hT_h0]; simp only [List.mem_cons, List.not_mem_nil, or_false]; omega)).trans hF_283
                    have hF_325 : F_317 lc = .inr (14, [.ref r_1, .int (nI zl)]) := (hB1.2.2.2 lc (by rw [ht_58]; simp only [List.mem_cons, List.not_mem_nil, or_false]; omega)).trans hF_284
                    have hF_326 : F_317 r_1 = .inl (cs 17, 30, .inl fcl) := (hB1.2.2.2 r_1 (by rw [ht_60]; simp only [List.mem_cons, List.not_mem_nil, or_false]; omega)).trans hF_285
                    have hF_327 : F_317 dm = .inr (14, [.ref r_2, .int (nI zm)]) := (hB1.2.2.2 dm (by rw [ht_63]; simp only [List.mem_cons, List.not_mem_nil, or_false]; omega)).trans hF_286
                    have hF_328 : F_317 r_2 = .inl (cs 17, 60, .inl fcm) := (hB1.2.2.2 r_2 (by rw [ht_65]; simp only [List.mem_cons, List.not_mem_nil, or_false]; omega)).trans hF_287
                    have hF_329 : F_317 dd = .inr (14, [.ref rd, .int (nI zd)]) := (hB1.2.2.2 dd (by rw [hT_dd]; simp only [List.mem_cons, List.not_mem_nil, or_false]; omega)).trans hF_288
                    have hF_330 : F_317 rd = .inl (cs 17, nd, .inl fcd) := (hB1.2.2.2 rd (by rw [ht_55]; simp only [List.mem_cons, List.not_mem_nil, or_false]; omega)).trans hF_289
                    have hF_331 : F_317 pe = .inr (14, [.ref rp, .int (nI ze9)]) := (hB1.2.2.2 pe (by rw [hT_pe]; simp only [List.mem_cons, List.not_mem_nil, or_false]; omega)).trans hF_290
                    have hF_332 : F_317 rp = .inl (cs 17, 100, .inl f9) := (hB1.2.2.2 rp (by rw [ht_47]; simp only [List.mem_cons, List.not_mem_nil, or_false]; omega)).trans hF_291
                    generalize H1 = H at hP hS ⊢
                    refine lv_iinc (v := (nI (i + 1))) (lv' := [(11, .int (nI (i + 1))), (10, .int (nI ((1 + dtc (pcW (sdM LC DM (nI fm)) dn ((TC fv z) a)) (pcW (sdM LC DM (nI fm)) dn ((TC fv z) a)).length) - (cnW (dgW ((TC fv z) (a + 1))) (1 + dtc (pcW (sdM LC DM (nI fm)) dn ((TC fv z) a)) (pcW (sdM LC DM (nI fm)) dn ((TC fv z) a)).length))))), (7, .int (nI w7)), (9, .int (trW ((TC fv z) (tt - 1)))), (8, .int (nI nn)), (6, .int (nI ((TC fv z) a))), (0, .ref h0), (1, .ref g1), (2, .int (nI a)), (3, .int (nI tt)), (4, .ref dd), (5, .ref g2)]) hx hb dX15_macroValue_416 hl (k := 0) rfl (nI_1 _) (by decide) rfl (fun ls hl => ?_)
                    refine lv_goto (tgt := 372) hx hb dX15_macroValue_419 (by decide) ?_
                    refine W.widen (k := 0) (n := 0) (by omega) (by omega) ?_
                    exact ih_213 ((i + 1), y2_318, f2_319) F_317 (⟨by omega, by omega, hq_320, hq_321, hF_331, hF_332, by have h9 := hq_322; rw [show i + 1 - ((1 + dtc (pcW (sdM LC DM (nI fm)) dn ((TC fv z) a)) (pcW (sdM LC DM (nI fm)) dn ((TC fv z) a)).length) - (cnW (dgW ((TC fv z) (a + 1))) (1 + dtc (pcW (sdM LC DM (nI fm)) dn ((TC fv z) a)) (pcW (sdM LC DM (nI fm)) dn ((TC fv z) a)).length))) = i - ((1 + dtc (pcW (sdM LC DM (nI fm)) dn ((TC fv z) a)) (pcW (sdM LC DM (nI fm)) dn ((TC fv z) a)).length) - (cnW (dgW ((TC fv z) (a + 1))) (1 + dtc (pcW (sdM LC DM (nI fm)) dn ((TC fv z) a)) (pcW (sdM LC DM (nI fm)) dn ((TC fv z) a)).length))) + 1 by omega]; show TGM (U ++ (prw (pcW (sdM LC DM (nI fm)) dn ((TC fv z) a)) (trW ((TC fv z) (tt - 1))) (cnW (dgW ((TC fv z) (a + 1))) (1 + dtc (pcW (sdM LC DM (nI fm)) dn ((TC fv z) a)) (pcW (sdM LC DM (nI fm)) dn ((TC fv z) a)).length)) (1 + dtc (pcW (sdM LC DM (nI fm)) dn ((TC fv z) a)) (pcW (sdM LC DM (nI fm)) dn ((TC fv z) a)).length) (i - ((1 + dtc (pcW (sdM LC DM (nI fm)) dn ((TC fv z) a)) (pcW (sdM LC DM (nI fm)) dn ((TC fv z) a)).length) - (cnW (dgW ((TC fv z) (a + 1))) (1 + dtc (pcW (sdM LC DM (nI fm)) dn ((TC fv z) a)) (pcW (sdM LC DM (nI fm)) dn ((TC fv z) a)).length)))) ++ (if 0 < i - ((1 + dtc (pcW (sdM LC DM (nI fm)) dn ((TC fv z) a)) (pcW (sdM LC DM (nI fm)) dn ((TC fv z) a)).length) - (cnW (dgW ((TC fv z) (a + 1))) (1 + dtc (pcW (sdM LC DM (nI fm)) dn ((TC fv z) a)) (pcW (sdM LC DM (nI fm)) dn ((TC fv z) a)).length))) then [46] else []) ++ ptL (pcW (sdM LC DM (nI fm)) dn ((TC fv z) a)) (pix (trW ((TC fv z) (tt - 1))) (cnW (dgW ((TC fv z) (a + 1))) (1 + dtc (pcW (sdM LC DM (nI fm)) dn ((TC fv z) a)) (pcW (sdM LC DM (nI fm)) dn ((TC fv z) a)).length)) (1 + dtc (pcW (sdM LC DM (nI fm)) dn ((TC fv z) a)) (pcW (sdM LC DM (nI fm)) dn ((TC fv z) a)).length) (i - ((1 + dtc (pcW (sdM LC DM (nI fm)) dn ((TC fv z) a)) (pcW (sdM LC DM (nI fm)) dn ((TC fv z) a)).length) - (cnW (dgW ((TC fv z) (a + 1))) (1 + dtc (pcW (sdM LC DM (nI fm)) dn ((TC fv z) a)) (pcW (sdM LC DM (nI fm)) dn ((TC fv z) a)).length))))))) _ _; rw [if_pos (by omega), show pix (trW ((TC fv z) (tt - 1))) (cnW (dgW ((TC fv z) (a + 1))) (1 + dtc (pcW (sdM LC DM (nI fm)) dn ((TC fv z) a)) (pcW (sdM LC DM (nI fm)) dn ((TC fv z) a)).length)) (1 + dtc (pcW (sdM LC DM (nI fm)) dn ((TC fv z) a)) (pcW (sdM LC DM (nI fm)) dn ((TC fv z) a)).length) (i - ((1 + dtc (pcW (sdM LC DM (nI fm)) dn ((TC fv z) a)) (pcW (sdM LC DM (nI fm)) dn ((TC fv z) a)).length) - (cnW (dgW ((TC fv z) (a + 1))) (1 + dtc (pcW (sdM LC DM (nI fm)) dn ((TC fv z) a)) (pcW (sdM LC DM (nI fm)) dn ((TC fv z) a)).length)))) = _ from if_neg c_292, ← List.append_assoc, ← List.append_assoc]; exact h9⟩) (by show w7 - (i + 1) < w7 - i; omega) hO hR _ _ hP hD hS ls (lv_sub hl [0, 1, 2, 3, 4, 5, 6, 7, 8, 9, 10, 11] rfl)
            ·
              refine lv_iload hx hb dX15_macroValue_345 (lv_at hl 3 rfl) ?_
              refine lv_if_eq (tgt := 357) hx hb dX15_macroValue_347 (by decide) (fun c_333 => ?_) (fun c_333 => ?_)
              ·
                have hi_334 : nn = 0 := (nI_eq (a := nn) (b := 0) (by omega) (by omega)).mp c_333
                refine lv_iconst (v := 0) hx hb dX15_macroValue_357 (by decide) ?_
                refine lv_goto (tgt := 366) hx hb dX15_macroValue_358 (by decide) ?_
                refine W.widen (k := 0) (n := 0) (by omega) (by omega) ?_
                exact jn_184 0 F_163 (⟨congrArg nI (fst_y (Or.inl (by rw [← hnn]; exact (nI_eq (b := 0) (by omega) (by omega)).mp c_333))), hc3, hc4, hc5, hc6⟩) hO hR _ _ hP hD hS ls (lv_sub hl [1, 2, 3, 4, 5, 6, 7, 8, 9, 10] rfl)
              ·
                have hi_335 : nn ≠ 0 := fun q => c_333 (by rw [q]; rfl)
                refine lv_iload hx hb dX15_macroValue_350 (lv_at hl 3 rfl) ?_
                refine lv_iload hx hb dX15_macroValue_352 (lv_at hl 1 rfl) ?_
                refine lv_icmp_lt (tgt := 361) hx hb dX15_macroValue_354 (by decide) (fun c_336 => ?_) (fun c_336 => ?_)
                ·
                  have hi_337 : nn < w7 := ltN (N := w7) (Int32.not_le.mpr c_336)
                  refine lv_iload hx hb dX15_macroValue_361 (lv_at hl 1 rfl) ?_
                  refine lv_iload hx hb dX15_macroValue_363 (lv_at hl 3 rfl) ?_
                  refine lv_isub hx hb dX15_macroValue_365 ?_
                  refine lv_topi (fun x_338 ex_338 => ?_)
                  obtain rfl : x_338 = (nI (w7 - nn)) := ex_338.trans (pk_sub (a := w7) (b := nn) (by omega))
                  refine W.widen (k := 0) (n := 0) (by omega) (by omega) ?_
                  exact jn_184 (nI (w7 - nn)) F_163 (⟨(show nI (w7 - nn) = nI ((1 + dtc (pcW (sdM LC DM (nI fm)) dn ((TC fv z) a)) (pcW (sdM LC DM (nI fm)) dn ((TC fv z) a)).length) - (cnW (dgW ((TC fv z) (a + 1))) (1 + dtc (pcW (sdM LC DM (nI fm)) dn ((TC fv z) a)) (pcW (sdM LC DM (nI fm)) dn ((TC fv z) a)).length))) from congrArg nI (by rw [hw7, hnn]; exact fst_n (by rw [← hnn]; exact fun q => c_333 (by rw [q]; rfl)) (by rw [← hnn, ← hw7]; omega))), hc3, hc4, hc5, hc6⟩) hO hR _ _ hP hD hS ls (lv_sub hl [1, 2, 3, 4, 5, 6, 7, 8, 9, 10] rfl)
                ·
                  have hi_339 : w7 ≤ nn := leN (N := w7) (Int32.not_lt.mp c_336)
                  refine lv_iconst (v := 0) hx hb dX15_macroValue_357 (by decide) ?_
                  refine lv_goto (tgt := 366) hx hb dX15_macroValue_358 (by decide) ?_
                  refine W.widen (k := 0) (n := 0) (by omega) (by omega) ?_
                  exact jn_184 0 F_163 (⟨congrArg nI (fst_y (Or.inr (by rw [← hnn, ← hw7]; omega))), hc3, hc4, hc5, hc6⟩) hO hR _ _ hP hD hS ls (lv_sub hl [1, 2, 3, 4, 5, 6, 7, 8, 9, 10] rfl)
          ·
            have hi_340 : j < ze9 := ltN (N := ze9) c_182
            refine lv_aload_n hx hb dX15_macroValue_321 rfl (lv_at hl 5 rfl) ?_
            refine pg_get (ci := 15) (v := .ref pe) (C := RX15) (T := TX15) (N := 59) hx hb hts it_15 hown hK hP hL_h0 hF_175 rfl 16 (by decide) (hts _ kt_1126) (fun _ h9 => h9) rfl dX15_macroValue_322 ?_
            refine pg_get (ci := 14) (v := .ref rp) (C := RX14) (T := TX14) (N := 2) hx hb hts it_14 hown hK hP hL_pe hc5 rfl 0 (by decide) (hts _ kt_710) (fun _ h9 => h9) rfl dX15_macroValue_325 ?_
            refine lv_iload hx hb dX15_macroValue_328 (lv_at hl 0 rfl) ?_
            obtain ⟨hq_341, hq_342⟩ := hW.octs hi_46 ht_47
            refine pg_bald hx hb hK hP hi_46 1 hc6 rfl (vp_in_nI (by omega) (by omega)) dX15_macroValue_330 ?_
            refine lv_topi (fun x_343 ex_343 => ?_)
            obtain rfl : x_343 = (nI ((pcW (sdM LC DM (nI fm)) dn ((TC fv z) a)).getD j 0)) := ex_343.trans ((congrArg f9 (nI_clamp (by omega))).trans (hV.2.1 j (by omega)))
            have hcd := hV.2.2 j (by omega)
            refine lv_bipush (v := 46) hx hb dX15_macroValue_331 (by decide) ?_
            refine lv_icmp_ne (tgt := 339) hx hb dX15_macroValue_333 (by decide) (fun c_344 => ?_) (fun c_344 => ?_)
            ·
              have hi_345 : ((pcW (sdM LC DM (nI fm)) dn ((TC fv z) a)).getD j 0) ≠ 46 := fun q => c_344 (by rw [q]; rfl)
              have hdt : ¬ (pcW (sdM LC DM (nI fm)) dn ((TC fv z) a)).getD j 0 = 46 := fun q => c_344 (by rw [q]; rfl)
              refine lv_iinc (v := (nI (j + 1))) (lv' := [(10, .int (nI (j + 1))), (7, .int (nI w7)), (9, .int (trW ((TC fv z) (tt - 1)))), (8, .int (nI nn)), (6, .int (nI ((TC fv z) a))), (0, .ref h0), (1, .ref g1), (2, .int (nI a)), (3, .int (nI tt)), (4, .ref dd), (5, .ref g2)]) hx hb dX15_macroValue_339 hl (k := 0) rfl (nI_1 _) (by decide) rfl (fun ls hl => ?_)
              refine lv_goto (tgt := 309) hx hb dX15_macroValue_342 (by decide) ?_
              refine W.widen (k := 0) (n := 0) (by omega) (by omega) ?_
              exact ih_173 ((j + 1), w7) F_163 (⟨by show _ = 1 + (dtc (pcW (sdM LC DM (nI fm)) dn ((TC fv z) a)) j + (if (pcW (sdM LC DM (nI fm)) dn ((TC fv z) a)).getD j 0 = 46 then 1 else 0)); rw [if_neg hdt]; omega, by omega, hc3, hc4, hc5, hc6⟩) (by show ze9 - (j + 1) < ze9 - j; omega) hO hR _ _ hP hD hS ls (lv_sub hl [0, 1, 2, 3, 4, 5, 6, 7, 8, 9, 10] rfl)
            ·
              have hi_346 : ((pcW (sdM LC DM (nI fm)) dn ((TC fv z) a)).getD j 0) = 46 := (nI_eq (a := ((pcW (sdM LC DM (nI fm)) dn ((TC fv z) a)).getD j 0)) (b := 46) (by omega) (by omega)).mp c_344
              have hdt : (pcW (sdM LC DM (nI fm)) dn ((TC fv z) a)).getD j 0 = 46 := (nI_eq (b := 46) (by omega) (by omega)).mp c_344
              refine lv_iinc (v := (nI (w7 + 1))) (lv' := [(7, .int (nI (w7 + 1))), (10, .int (nI j)), (9, .int (trW ((TC fv z) (tt - 1)))), (8, .int (nI nn)), (6, .int (nI ((TC fv z) a))), (0, .ref h0), (1, .ref g1), (2, .int (nI a)), (3, .int (nI tt)), (4, .ref dd), (5, .ref g2)]) hx hb dX15_macroValue_336 hl (k := 1) rfl (nI_1 _) (by decide) rfl (fun ls hl => ?_)
              refine lv_iinc (v := (nI (j + 1))) (lv' := [(10, .int (nI (j + 1))), (7, .int (nI (w7 + 1))), (9, .int (trW ((TC fv z) (tt - 1)))), (8, .int (nI nn)), (6, .int (nI ((TC fv z) a))), (0, .ref h0), (1, .ref g1), (2, .int (nI a)), (3, .int (nI tt)), (4, .ref dd), (5, .ref g2)]) hx hb dX15_macroValue_339 hl (k := 1) rfl (nI_1 _) (by decide) rfl (fun ls hl => ?_)
              refine lv_goto (tgt := 309) hx hb dX15_macroValue_342 (by decide) ?_
              refine W.widen (k := 0) (n := 0) (by omega) (by omega) ?_
              exact ih_173 ((j + 1), (w7 + 1)) F_163 (⟨by show _ = 1 + (dtc (pcW (sdM LC DM (nI fm)) dn ((TC fv z) a)) j + (if (pcW (sdM LC DM (nI fm)) dn ((TC fv z) a)).getD j 0 = 46 then 1 else 0)); rw [if_pos hdt]; omega, by omega, hc3, hc4, hc5, hc6⟩) (by show ze9 - (j + 1) < ze9 - j; omega) hO hR _ _ hP hD hS ls (lv_sub hl [0, 1, 2, 3, 4, 5, 6, 7, 8, 9, 10] rfl)
        ·
          refine lv_bipush (v := 24) hx hb dX15_macroValue_192 (by decide) ?_
          refine W.eq (g2 := F0 m 194 ls [.int (sv 0)]) rfl ?_
          refine lv_istore (lv' := [(10, .int (sv 0)), (9, .int (trW ((TC fv z) (tt - 1)))), (8, .int (nI nn)), (7, .int 0), (6, .int (nI ((TC fv z) a))), (0, .ref h0), (1, .ref g1), (2, .int (nI a)), (3, .int (nI tt)), (4, .ref dd), (5, .ref g2)]) hx hb dX15_macroValue_194 hl (by decide) rfl (fun ls hl => ?_)
          obtain ⟨hq_347, hq_348⟩ := hW.octs hi_46 ht_47
          refine W.widen (k := 0) (n := 0) (by omega) (by omega) ?_
          have hF_350 : F g1 = .inl (cs 17, 700, .inl fv) := (hR g1 (by rw [hT_g1]; simp only [List.mem_cons, List.not_mem_nil, or_false]; omega)).symm.trans hF_136
          have hF_351 : F h0 = .inr (15, (.ref ta) :: (.int (nI zt)) :: (.int (nI zo)) :: (.int (nI ze)) :: (.ref ou) :: (.ref so) :: (.ref ad) :: (.ref na) :: (.ref va) :: (.ref lc) :: (.ref dm) :: (.int (nI fm)) :: (.int (nI sn)) :: (.ref tg) :: (.int v14_28) :: (.int v15_29) :: (.ref pe) :: (.int v17_30) :: (.int v18_31) :: (.int v19_32) :: (.int v20_33) :: (.int v21_34) :: (.int v22_35) :: (.ref ml) :: (.ref bg) :: (.ref co) :: (.ref sp) :: (.ref nb0) :: (.ref nb1) :: (.ref nb2) :: (.int (nI nf)) :: (.int (nI bd)) :: (.int (nI mm)) :: (.int v33_36) :: (.ref pl) :: (.ref se) :: (.ref ke) :: (.ref wi) :: (.ref hs) :: (.ref mo) :: (.ref po) :: (.ref nu) :: (.ref pr) :: (.ref sq) :: (.ref xa) :: (.ref sa) :: (.ref n64) :: (.ref m64) :: (.ref ex) :: (.ref wh) :: (.ref sd) :: (.ref tk) :: (.int v52_37) :: (.int v53_38) :: (.int v54_39) :: (.ref hd) :: (.ref ak) :: (.ref ho) :: (.ref ot) :: []) := (hR h0 (by rw [hT_h0]; simp only [List.mem_cons, List.not_mem_nil, or_false]; omega)).symm.trans hF_137
          have hF_352 : F lc = .inr (14, [.ref r_1, .int (nI zl)]) := (hR lc (by rw [ht_58]; simp only [List.mem_cons, List.not_mem_nil, or_false]; omega)).symm.trans hF_138
          have hF_353 : F r_1 = .inl (cs 17, 30, .inl fcl) := (hR r_1 (by rw [ht_60]; simp only [List.mem_cons, List.not_mem_nil, or_false]; omega)).symm.trans hF_139
          have hF_354 : F dm = .inr (14, [.ref r_2, .int (nI zm)]) := (hR dm (by rw [ht_63]; simp only [List.mem_cons, List.not_mem_nil, or_false]; omega)).symm.trans hF_140
          have hF_355 : F r_2 = .inl (cs 17, 60, .inl fcm) := (hR r_2 (by rw [ht_65]; simp only [List.mem_cons, List.not_mem_nil, or_false]; omega)).symm.trans hF_141
          have hF_356 : F dd = .inr (14, [.ref rd, .int (nI zd)]) := (hR dd (by rw [hT_dd]; simp only [List.mem_cons, List.not_mem_nil, or_false]; omega)).symm.trans hF_142
          have hF_357 : F rd = .inl (cs 17, nd, .inl fcd) := (hR rd (by rw [ht_55]; simp only [List.mem_cons, List.not_mem_nil, or_false]; omega)).symm.trans hF_143
          refine pl_loopm (σ := Nat × Nat × (Nat → Int32) × (List Nat)) A (dC, dI) cs ty gm L [κ, ρ + 7] F 196 12 (fun (mq, zz2, fz2, W2) => [(10, .int (sv mq)), (9, .int (trW ((TC fv z) (tt - 1)))), (8, .int (nI nn)), (7, .int 0), (6, .int (nI ((TC fv z) a))), (0, .ref h0), (1, .ref g1), (2, .int (nI a)), (3, .int (nI tt)), (4, .ref dd), (5, .ref g2)]) (fun (mq, zz2, fz2, W2) => []) (fun (mq, zz2, fz2, W2) FF => mq ≤ 4 ∧ (FF g2 = .inr (14, [.ref r2, .int (nI y)]) ∧ FF r2 = .inl (cs 17, 61, .inl fi) ∧ FF pe = .inr (14, [.ref rp, .int (nI zz2)]) ∧ FF rp = .inl (cs 17, 100, .inl fz2) ∧ SRC W2 zz2 fz2) ∧ ((((TC fv z) a) = 105 ∧ W2 = qdP (nI fm) mq) ∨ (¬ ((TC fv z) a) = 105 ∧ W2 = (pcW (sdM LC DM (nI fm)) dn ((TC fv z) a))))) (fun (mq, zz2, fz2, W2) => 4 - mq) ?_ (0, zz, fz, Wg) F_126 (⟨by omega, ⟨hc1, hc2, hc3, hc4, hc5⟩, hc6⟩) hO hR _ _ hP hD hS ls (lv_sub hl [0, 1, 2, 3, 4, 5, 6, 7, 8, 9, 10] rfl)
          rintro ⟨mq, zz2, fz2, W2⟩ F_349 hv_358 hO hR ih_359 H locs hP hD hS ls hl
          have hl : lv_has ls 12 [(10, .int (sv mq)), (9, .int (trW ((TC fv z) (tt - 1)))), (8, .int (nI nn)), (7, .int 0), (6, .int (nI ((TC fv z) a))), (0, .ref h0), (1, .ref g1), (2, .int (nI a)), (3, .int (nI tt)), (4, .ref dd), (5, .ref g2)] := hl
          have hv_358 : mq ≤ 4 ∧ (F_349 g2 = .inr (14, [.ref r2, .int (nI y)]) ∧ F_349 r2 = .inl (cs 17, 61, .inl fi) ∧ F_349 pe = .inr (14, [.ref rp, .int (nI zz2)]) ∧ F_349 rp = .inl (cs 17, 100, .inl fz2) ∧ SRC W2 zz2 fz2) ∧ ((((TC fv z) a) = 105 ∧ W2 = qdP (nI fm) mq) ∨ (¬ ((TC fv z) a) = 105 ∧ W2 = (pcW (sdM LC DM (nI fm)) dn ((TC fv z) a)))) := hv_358
          refine W.eq (g2 := F0 m 196 ls []) rfl ?_
          have hF_360 : F_349 g1 = .inl (cs 17, 700, .inl fv) := (hR g1 (by rw [hT_g1]; simp only [List.mem_cons, List.not_mem_nil, or_false]; omega)).trans hF_350
          have hF_361 : F_349 h0 = .inr (15, (.ref ta) :: (.int (nI zt)) :: (.int (nI zo)) :: (.int (nI ze)) :: (.ref ou) :: (.ref so) :: (.ref ad) :: (.ref na) :: (.ref va) :: (.ref lc) :: (.ref dm) :: (.int (nI fm)) :: (.int (nI sn)) :: (.ref tg) :: (.int v14_28) :: (.int v15_29) :: (.ref pe) :: (.int v17_30) :: (.int v18_31) :: (.int v19_32) :: (.int v20_33) :: (.int v21_34) :: (.int v22_35) :: (.ref ml) :: (.ref bg) :: (.ref co) :: (.ref sp) :: (.ref nb0) :: (.ref nb1) :: (.ref nb2) :: (.int (nI nf)) :: (.int (nI bd)) :: (.int (nI mm)) :: (.int v33_36) :: (.ref pl) :: (.ref se) :: (.ref ke) :: (.ref wi) :: (.ref hs) :: (.ref mo) :: (.ref po) :: (.ref nu) :: (.ref pr) :: (.ref sq) :: (.ref xa) :: (.ref sa) :: (.ref n64) :: (.ref m64) :: (.ref ex) :: (.ref wh) :: (.ref sd) :: (.ref tk) :: (.int v52_37) :: (.int v53_38) :: (.int v54_39) :: (.ref hd) :: (.ref ak) :: (.ref ho) :: (.ref ot) :: []) := (hR h0 (by rw [hT_h0]; simp only [List.mem_cons, List.not_mem_nil, or_false]; omega)).trans hF_351
          have hF_362 : F_349 lc = .inr (14, [.ref r_1, .int (nI zl)]) := (hR lc (by rw [ht_58]; simp only [List.mem_cons, List.not_mem_nil, or_false]; omega)).trans hF_352
          have hF_363 : F_349 r_1 = .inl (cs 17, 30, .inl fcl) := (hR r_1 (by rw [ht_60]; simp only [List.mem_cons, List.not_mem_nil, or_false]; omega)).trans hF_353
          have hF_364 : F_349 dm = .inr (14, [.ref r_2, .int (nI zm)]) := (hR dm (by rw [ht_63]; simp only [List.mem_cons, List.not_mem_nil, or_false]; omega)).trans hF_354
          have hF_365 : F_349 r_2 = .inl (cs 17, 60, .inl fcm) := (hR r_2 (by rw [ht_65]; simp only [List.mem_cons, List.not_mem_nil, or_false]; omega)).trans hF_355
          have hF_366 : F_349 dd = .inr (14, [.ref rd, .int (nI zd)]) := (hR dd (by rw [hT_dd]; simp only [List.mem_cons, List.not_mem_nil, or_false]; omega)).trans hF_356
          have hF_367 : F_349 rd = .inl (cs 17, nd, .inl fcd) := (hR rd (by rw [ht_55]; simp only [List.mem_cons, List.not_mem_nil, or_false]; omega)).trans hF_357
          obtain ⟨hd1, ⟨he1, he2, he3, he4, he5⟩, hd2⟩ := hv_358
          have hvv := (ocN_e (nI fm) (shv mq)).2
          refine lv_iload hx hb dX15_macroValue_196 (lv_at hl 4 rfl) ?_
          refine lv_bipush (v := 105) hx hb dX15_macroValue_198 (by decide) ?_
          refine lv_icmp_ne (tgt := 303) hx hb dX15_macroValue_200 (by decide) (fun c_368 => ?_) (fun c_368 => ?_)
          ·
            have hi_369 : ((TC fv z) a) ≠ 105 := fun q => c_368 (by rw [q]; rfl)
            obtain ⟨hq_370, hq_371⟩ := hW.octs hi_46 ht_47
            refine W.widen (k := 0) (n := 0) (by omega) (by omega) ?_
            exact jn_144 (zz2, fz2) F_349 (⟨⟨he1, he2, he3, he4, by have h9 := he5; rw [(hd2.resolve_left (fun q => c_368 (by rw [q.1]; rfl))).2] at h9; exact h9⟩, by have h8 := he5.1; have h7 := (hd2.resolve_left (fun q => c_368 (by rw [q.1]; rfl))); rw [h7.2] at h8; have h6 := pc_len (x := (nI fm)) (LC := LC) (DM := DM) (dn := dn) (by omega) (by omega) (by omega) h7.1 hmL; omega⟩) hO hR _ _ hP hD hS ls (lv_sub hl [1, 2, 3, 4, 5, 6, 7, 8, 9, 10] rfl)
          ·
            have hi_372 : ((TC fv z) a) = 105 := (nI_eq (a := ((TC fv z) a)) (b := 105) (by omega) (by omega)).mp c_368
            have hl5 : ((TC fv z) a) = 105 := (nI_eq (b := 105) (by omega) (by omega)).mp c_368
            have hw2 : W2 = qdP (nI fm) mq := (hd2.resolve_right (fun q => q.1 hl5)).2
            refine lv_iload hx hb dX15_macroValue_203 (lv_at hl 0 rfl) ?_
            refine lv_if_lt (tgt := 303) hx hb dX15_macroValue_205 (by decide) (fun c_373 => ?_) (fun c_373 => ?_)
            ·
              have hm4 : mq = 4 := by rcases Nat.lt_or_ge mq 4 with q | q; exact absurd c_373 (sv_p mq q); omega
              obtain ⟨hq_374, hq_375⟩ := hW.octs hi_46 ht_47
              refine W.widen (k := 0) (n := 0) (by omega) (by omega) ?_
              exact jn_144 (zz2, fz2) F_349 (⟨⟨he1, he2, he3, he4, by have h9 := he5; rw [hw2, show mq = 4 by omega, show qdP (nI fm) 4 = (pcW (sdM LC DM (nI fm)) dn ((TC fv z) a)) from (pc_i hl5).symm] at h9; exact h9⟩, by have h8 := he5.1; rw [hw2, show mq = 4 by omega] at h8; have h7 := (qdL_ok (x := (nI fm))).1; have h6 : (qdP (nI fm) 4).length = (qdL (nI fm)).length := rfl; omega⟩) hO hR _ _ hP hD hS ls (lv_sub hl [1, 2, 3, 4, 5, 6, 7, 8, 9, 10] rfl)
            ·
              have hm4 := sv_lt hd1 c_373
              have hzq : zz2 ≤ 12 := by have h8 := he5.1; rw [hw2] at h8; have h7 := (qdP_ok (x := (nI fm)) mq (by omega)).1; omega
              refine lv_aload_n hx hb dX15_macroValue_208 rfl (lv_at hl 5 rfl) ?_
              refine pg_get (ci := 15) (v := .int (nI fm)) (C := RX15) (T := TX15) (N := 59) hx hb hts it_15 hown hK hP hL_h0 hF_361 rfl 11 (by decide) (hts _ kt_729) (fun _ h9 => h9) rfl dX15_macroValue_209 ?_
              refine lv_iload hx hb dX15_macroValue_212 (lv_at hl 0 rfl) ?_
              refine lv_ishr hx hb dX15_macroValue_214 ?_
              refine lv_topi (fun x_376 ex_376 => ?_)
              obtain rfl : x_376 = ((nI fm) >>> (sv mq &&& 31)) := ex_376.trans (rfl)
              refine lv_sipush (v := 255) hx hb dX15_macroValue_215 (by decide) ?_
              refine lv_iand hx hb dX15_macroValue_218 ?_
              refine lv_topi (fun x_377 ex_377 => ?_)
              obtain rfl : x_377 = (nI (ocN (nI fm) (shv mq))) := ex_377.trans ((oc_r (nI fm) mq hm4).trans (ocN_e (nI fm) (shv mq)).1)
              refine lv_istore (lv' := [(11, .int (nI (ocN (nI fm) (shv mq)))), (10, .int (sv mq)), (9, .int (trW ((TC fv z) (tt - 1)))), (8, .int (nI nn)), (7, .int 0), (6, .int (nI ((TC fv z) a))), (0, .ref h0), (1, .ref g1), (2, .int (nI a)), (3, .int (nI tt)), (4, .ref dd), (5, .ref g2)]) hx hb dX15_macroValue_219 hl (by decide) rfl (fun ls hl => ?_)
              refine lv_iload hx hb dX15_macroValue_221 (lv_at hl 0 rfl) ?_
              refine lv_bipush (v := 99) hx hb dX15_macroValue_223 (by decide) ?_
              refine lv_icmp_le (tgt := 243) hx hb dX15_macroValue_225 (by decide) (fun c_378 => ?_) (fun c_378 => ?_)
              ·
                have hi_379 : (ocN (nI fm) (shv mq)) ≤ 99 := (nI_leI (a := (ocN (nI fm) (shv mq))) (b := 99) (by omega) (by omega)).mp c_378
                have hl100 : (ocN (nI fm) (shv mq)) < 100 := by omega
                refine lv_iload hx hb dX15_macroValue_243 (lv_at hl 0 rfl) ?_
                refine lv_bipush (v := 9) hx hb dX15_macroValue_245 (by decide) ?_
                refine lv_icmp_le (tgt := 268) hx hb dX15_macroValue_247 (by decide) (fun c_380 => ?_) (fun c_380 => ?_)
                ·
                  have hi_381 : (ocN (nI fm) (shv mq)) ≤ 9 := (nI_leI (a := (ocN (nI fm) (shv mq))) (b := 9) (by omega) (by omega)).mp c_380
                  have hl10 : (ocN (nI fm) (shv mq)) < 10 := by omega
                  refine lv_aload_n hx hb dX15_macroValue_268 rfl (lv_at hl 6 rfl) ?_
                  refine pg_get (ci := 15) (v := .ref pe) (C := RX15) (T := TX15) (N := 59) hx hb hts it_15 hown hK hP hL_h0 hF_361 rfl 16 (by decide) (hts _ kt_1126) (fun _ h9 => h9) rfl dX15_macroValue_269 ?_
                  refine lv_bipush (v := 48) hx hb dX15_macroValue_272 (by decide) ?_
                  refine lv_iload hx hb dX15_macroValue_274 (lv_at hl 0 rfl) ?_
                  refine lv_bipush (v := 10) hx hb dX15_macroValue_276 (by decide) ?_
                  refine lv_irem hx hb dX15_macroValue_278 (by decide) ?_
                  refine lv_topi (fun x_382 ex_382 => ?_)
                  obtain rfl : x_382 = (nI ((ocN (nI fm) (shv mq)) % 10)) := ex_382.trans (pk_rem (a := (ocN (nI fm) (shv mq))) (d := 10) (by omega) (by omega) (by omega))
                  refine lv_iadd hx hb dX15_macroValue_279 ?_
                  refine lv_topi (fun x_383 ex_383 => ?_)
                  obtain rfl : x_383 = (nI (48 + (ocN (nI fm) (shv mq)) % 10)) := ex_383.trans (nI_add 48 ((ocN (nI fm) (shv mq)) % 10))
                  obtain ⟨hq_384, hq_385⟩ := hW.octs hi_46 ht_47
                  have hFc := pg_free hD hS hA
                  refine va_callv (va_runV (As := [.int (nI (48 + (ocN (nI fm) (shv mq)) % 10))]) (rest := []) ⟨hx, hb, hml, hown, hts⟩ (s_X14_add_8 l dC dI cs ty gm L H.size F_349 pe (ρ + 7) rp 100 zz2 (48 + (ocN (nI fm) (shv mq)) % 10) fz2 hW hL_pe hT_pe he3 he4 (by omega) (by omega)) ⟨callB_of 1 hts (gi kt_711) rfl rfl rfl (hts _ kt_676) (hts _ kt_712) (by decide +kernel) ⟨Nat.le_of_ble_eq_true rfl, Nat.le_of_ble_eq_true rfl⟩, (hts _ kt_713), (hts _ kt_714)⟩ ⟨fun a U g mk q => ⟨q.1, PTm.calling q.2⟩, pg_recv hK hP hL_pe he3 (q := (RX14, TX14, 2)) rfl, fun U hU hWm => ⟨rfl, PTm.mk hU hWm hP hK hD hE hO⟩⟩ rfl rfl hl.1 rfl (lv_room (Nat.le_of_ble_eq_true rfl)) dX15_macroValue_280 ⟨by show _ + 0 ≤ 0; omega, by show _ + 0 ≤ 0; omega⟩) hS (fun q _ h => hFc q h) hFc (fun u t H1 locs ht hvm hw hB hz1 hk1 hS => ?_)
                  obtain ⟨F_387, hB1, hq_388, hq_389⟩ := hB
                  obtain ⟨hP, hD, hO, hR⟩ := QTm.back hB1 ht hFc hR (fun q h => by simp only [List.mem_cons, List.not_mem_nil, or_false] at h ⊢; omega)
                  have hF_390 : F_387 g1 = .inl (cs 17, 700, .inl fv) := (hB1.2.2.2 g1 (by rw [hT_g1]; simp only [List.mem_cons, List.not_mem_nil, or_false]; omega)).trans hF_360
                  have hF_391 : F_387 h0 = .inr (15, (.ref ta) :: (.int (nI zt)) :: (.int (nI zo)) :: (.int (nI ze)) :: (.ref ou) :: (.ref so) :: (.ref ad) :: (.ref na) :: (.ref va) :: (.ref lc) :: (.ref dm) :: (.int (nI fm)) :: (.int (nI sn)) :: (.ref tg) :: (.int v14_28) :: (.int v15_29) :: (.ref pe) :: (.int v17_30) :: (.int v18_31) :: (.int v19_32) :: (.int v20_33) :: (.int v21_34) :: (.int v22_35) :: (.ref ml) :: (.ref bg) :: (.ref co) :: (.ref sp) :: (.ref nb0) :: (.ref nb1) :: (.ref nb2) :: (.int (nI nf)) :: (.int (nI bd)) :: (.int (nI mm)) :: (.int v33_36) :: (.ref pl) :: (.ref se) :: (.ref ke) :: (.ref wi) :: (.ref hs) :: (.ref mo) :: (.ref po) :: (.ref nu) :: (.ref pr) :: (.ref sq) :: (.ref xa) :: (.ref sa) :: (.ref n64) :: (.ref m64) :: (.ref ex) :: (.ref wh) :: (.ref sd) :: (.ref tk) :: (.int v52_37) :: (.int v53_38) :: (.int v54_39) :: (.ref hd) :: (.ref ak) :: (.ref ho) :: (.ref ot) :: []) := (hB1.2.2.2 h0 (by rw [hT_h0]; simp)).trans hF_361
                  have hF_392 : F_387 lc = .inr (14, [.ref r_1, .int (nI zl)]) := (hB1.2.2.2 lc (by rw [ht_58]; simp)).trans hF_362
                  have hF_393 : F_387 r_1 = .inl (cs 17, 30, .inl fcl) := (hB1.2.2.2 r_1 (by rw [ht_60]; simp)).trans hF_363
                  have hF_394 : F_387 dm = .inr (14, [.ref r_2, .int (nI zm)]) := (hB1.2.2.2 dm (by rw [ht_63]; simp)).trans hF_364
                  have hF_395 : F_387 r_2 = .inl (cs 17, 60, .inl fcm) := (hB1.2.2.2 r_2 (by rw [ht_65]; simp)).trans hF_365
                  have hF_396 : F_387 dd = .inr (14, [.ref rd, .int (nI zd)]) := (hB1.2.2.2 dd (by rw [hT_dd]; simp only [List.mem_cons, List.not_mem_nil, or_false]; omega)).trans hF_366
                  have hF_397 : F_387 rd = .inl (cs 17, nd, .inl fcd) := (hB1.2.2.2 rd (by rw [ht_55]; simp only [List.mem_cons, List.not_mem_nil, or_false]; omega)).trans hF_367
                  have hF_398 : F_387 g2 = .inr (14, [.ref r2, .int (nI y)]) := (hB1.2.2.2 g2 (by rw [hT_g2]; simp only [List.mem_cons, List.not_mem_nil, or_false]; omega)).trans he1
                  have hF_399 : F_387 r2 = .inl (cs 17, 61, .inl fi) := (hB1.2.2.2 r2 (by rw [ht_50]; simp only [List.mem_cons, List.not_mem_nil, or_false]; omega)).trans he2
                  generalize H1 = H at hP hS ⊢
                  have hW_400 := src_one he5 (show 48 + (ocN (nI fm) (shv mq)) % 10 < 128 by omega)
                  refine lv_iload hx hb dX15_macroValue_283 (lv_at hl 1 rfl) ?_
                  refine lv_if_le (tgt := 297) hx hb dX15_macroValue_285 (by decide) (fun c_401 => ?_) (fun c_401 => ?_)
                  ·
                    have hk33 : ¬ mq < 3 := by have h9 := c_401; rw [sv_shv mq (by omega)] at h9; exact (shv_le (by omega)).mp h9
                    refine lv_iinc (v := (sv (mq + 1))) (lv' := [(10, .int (sv (mq + 1))), (11, .int (nI (ocN (nI fm) (shv mq)))), (9, .int (trW ((TC fv z) (tt - 1)))), (8, .int (nI nn)), (7, .int 0), (6, .int (nI ((TC fv z) a))), (0, .ref h0), (1, .ref g1), (2, .int (nI a)), (3, .int (nI tt)), (4, .ref dd), (5, .ref g2)]) hx hb dX15_macroValue_297 hl (k := 1) rfl (sv_n mq hm4) (by decide) rfl (fun ls hl => ?_)
                    refine lv_goto (tgt := 196) hx hb dX15_macroValue_300 (by decide) ?_
                    refine W.widen (k := 0) (n := 0) (by omega) (by omega) ?_
                    exact ih_359 ((mq + 1), (zz2 + 1), (upd fz2 zz2 (nI (48 + (ocN (nI fm) (shv mq)) % 10))), (W2 ++ [48 + (ocN (nI fm) (shv mq)) % 10])) F_387 (⟨by omega, ⟨hF_398, hF_399, hq_388, hq_389, hW_400⟩, Or.inl ⟨hl5, by rw [hw2]; show _ = qdP (nI fm) mq ++ (dgL (ocN (nI fm) (shv mq)) ++ (if mq < 3 then [46] else [])); unfold dgL; rw [if_pos hl100, if_pos hl10, if_neg hk33]; simp only [List.append_assoc, List.nil_append, List.append_nil]⟩⟩) (by show 4 - (mq + 1) < 4 - mq; omega) hO hR _ _ hP hD hS ls (lv_sub hl [0, 2, 3, 4, 5, 6, 7, 8, 9, 10, 11] rfl)
                  ·
                    have hk33 : mq < 3 := Classical.byContradiction (fun q => c_401 (by rw [sv_shv mq (by omega)]; exact (shv_le (by omega)).mpr q))
                    refine lv_aload_n hx hb dX15_macroValue_288 rfl (lv_at hl 6 rfl) ?_
                    refine pg_get (ci := 15) (v := .ref pe) (C := RX15) (T := TX15) (N := 59) hx hb hts it_15 hown hK hP hL_h0 hF_391 rfl 16 (by decide) (hts _ kt_1126) (fun _ h9 => h9) rfl dX15_macroValue_289 ?_
                    refine lv_bipush (v := 46) hx hb dX15_macroValue_292 (by decide) ?_
                    refine W.eq (g2 := F0 m 294 ls [.int (nI 46), .ref pe]) rfl ?_
                    have hFc := pg_free hD hS hA
                    refine va_callv (va_runV (As := [.int (nI 46)]) (rest := []) ⟨hx, hb, hml, hown, hts⟩ (s_X14_add_8 l dC dI cs ty gm L H.size F_387 pe (ρ + 7) rp 100 (zz2 + 1) 46 (upd fz2 zz2 (nI (48 + (ocN (nI fm) (shv mq)) % 10))) hW hL_pe hT_pe hq_388 hq_389 (by omega) (by omega)) ⟨callB_of 1 hts (gi kt_711) rfl rfl rfl (hts _ kt_676) (hts _ kt_712) (by decide +kernel) ⟨Nat.le_of_ble_eq_true rfl, Nat.le_of_ble_eq_true rfl⟩, (hts _ kt_713), (hts _ kt_714)⟩ ⟨fun a U g mk q => ⟨q.1, PTm.calling q.2⟩, pg_recv hK hP hL_pe hq_388 (q := (RX14, TX14, 2)) rfl, fun U hU hWm => ⟨rfl, PTm.mk hU hWm hP hK hD hE hO⟩⟩ rfl rfl hl.1 rfl (lv_room (Nat.le_of_ble_eq_true rfl)) dX15_macroValue_294 ⟨by show _ + 0 ≤ 0; omega, by show _ + 0 ≤ 0; omega⟩) hS (fun q _ h => hFc q h) hFc (fun u t H1 locs ht hvm hw hB hz1 hk1 hS => ?_)
                    obtain ⟨F_403, hB1, hq_404, hq_405⟩ := hB
                    obtain ⟨hP, hD, hO, hR⟩ := QTm.back hB1 ht hFc hR (fun q h => by simp only [List.mem_cons, List.not_mem_nil, or_false] at h ⊢; omega)
                    have hF_406 : F_403 g1 = .inl (cs 17, 700, .inl fv) := (hB1.2.2.2 g1 (by rw [hT_g1]; simp only [List.mem_cons, List.not_mem_nil, or_false]; omega)).trans hF_390
                    have hF_407 : F_403 h0 = .inr (15, (.ref ta) :: (.int (nI zt)) :: (.int (nI zo)) :: (.int (nI ze)) :: (.ref ou) :: (.ref so) :: (.ref ad) :: (.ref na) :: (.ref va) :: (.ref lc) :: (.ref dm) :: (.int (nI fm)) :: (.int (nI sn)) :: (.ref tg) :: (.int v14_28) :: (.int v15_29) :: (.ref pe) :: (.int v17_30) :: (.int v18_31) :: (.int v19_32) :: (.int v20_33) :: (.int v21_34) :: (.int v22_35) :: (.ref ml) :: (.ref bg) :: (.ref co) :: (.ref sp) :: (.ref nb0) :: (.ref nb1) :: (.ref nb2) :: (.int (nI nf)) :: (.int (nI bd)) :: (.int (nI mm)) :: (.int v33_36) :: (.ref pl) :: (.ref se) :: (.ref ke) :: (.ref wi) :: (.ref hs) :: (.ref mo) :: (.ref po) :: (.ref nu) :: (.ref pr) :: (.ref sq) :: (.ref xa) :: (.ref sa) :: (.ref n64) :: (.ref m64) :: (.ref ex) :: (.ref wh) :: (.ref sd) :: (.ref tk) :: (.int v52_37) :: (.int v53_38) :: (.int v54_39) :: (.ref hd) :: (.ref ak) :: (.ref ho) :: (.ref ot) :: []) := (hB1.2.2.2 h0 (by rw [hT_h0]; simp)).trans hF_391
                    have hF_408 : F_403 lc = .inr (14, [.ref r_1, .int (nI zl)]) := (hB1.2.2.2 lc (by rw [ht_58]; simp)).trans hF_392
                    have hF_409 : F_403 r_1 = .inl (cs 17, 30, .inl fcl) := (hB1.2.2.2 r_1 (by rw [ht_60]; simp)).trans hF_393
                    have hF_410 : F_403 dm = .inr (14, [.ref r_2, .int (nI zm)]) := (hB1.2.2.2 dm (by rw [ht_63]; simp)).trans hF_394
                    have hF_411 : F_403 r_2 = .inl (cs 17, 60, .inl fcm) := (hB1.2.2.2 r_2 (by rw [ht_65]; simp)).trans hF_395
                    have hF_412 : F_403 dd = .inr (14, [.ref rd, .int (nI zd)]) := (hB1.2.2.2 dd (by rw [hT_dd]; simp only [List.mem_cons, List.not_mem_nil, or_false]; omega)).trans hF_396
                    have hF_413 : F_403 rd = .inl (cs 17, nd, .inl fcd) := (hB1.2.2.2 rd (by rw [ht_55]; simp only [List.mem_cons, List.not_mem_nil, or_false]; omega)).trans hF_397
                    have hF_414 : F_403 g2 = .inr (14, [.ref r2, .int (nI y)]) := (hB1.2.2.2 g2 (by rw [hT_g2]; simp only [List.mem_cons, List.not_mem_nil, or_false]; omega)).trans hF_398
                    have hF_415 : F_403 r2 = .inl (cs 17, 61, .inl fi) := (hB1.2.2.2 r2 (by rw [ht_50]; simp only [List.mem_cons, List.not_mem_nil, or_false]; omega)).trans hF_399
                    generalize H1 = H at hP hS ⊢
                    have hW_416 := src_one hW_400 (show 46 < 128 by omega)
                    refine lv_iinc (v := (sv (mq + 1))) (lv' := [(10, .int (sv (mq + 1))), (11, .int (nI (ocN (nI fm) (shv mq)))), (9, .int (trW ((TC fv z) (tt - 1)))), (8, .int (nI nn)), (7, .int 0), (6, .int (nI ((TC fv z) a))), (0, .ref h0), (1, .ref g1), (2, .int (nI a)), (3, .int (nI tt)), (4, .ref dd), (5, .ref g2)]) hx hb dX15_macroValue_297 hl (k := 1) rfl (sv_n mq hm4) (by decide) rfl (fun ls hl => ?_)
                    refine lv_goto (tgt := 196) hx hb dX15_macroValue_300 (by decide) ?_
                    refine W.widen (k := 0) (n := 0) (by omega) (by omega) ?_
                    exact ih_359 ((mq + 1), (zz2 + 2), (upd (upd fz2 zz2 (nI (48 + (ocN (nI fm) (shv mq)) % 10))) (zz2 + 1) (nI 46)), ((W2 ++ [48 + (ocN (nI fm) (shv mq)) % 10]) ++ [46])) F_403 (⟨by omega, ⟨hF_414, hF_415, hq_404, hq_405, hW_416⟩, Or.inl ⟨hl5, by rw [hw2]; show _ = qdP (nI fm) mq ++ (dgL (ocN (nI fm) (shv mq)) ++ (if mq < 3 then [46] else [])); unfold dgL; rw [if_pos hl100, if_pos hl10, if_pos hk33]; simp only [List.append_assoc, List.nil_append, List.append_nil]⟩⟩) (by show 4 - (mq + 1) < 4 - mq; omega) hO hR _ _ hP hD hS ls (lv_sub hl [0, 2, 3, 4, 5, 6, 7, 8, 9, 10, 11] rfl)
                ·
                  have hi_417 : 9 < (ocN (nI fm) (shv mq)) := Nat.not_le.mp (fun q => c_380 ((nI_leI (a := (ocN (nI fm) (shv mq))) (b := 9) (by omega) (by omega)).mpr q))
                  have hl10 : ¬ (ocN (nI fm) (shv mq)) < 10 := by omega
                  refine lv_aload_n hx hb dX15_macroValue_250 rfl (lv_at hl 6 rfl) ?_
                  refine pg_get (ci := 15) (v := .ref pe) (C := RX15) (T := TX15) (N := 59) hx hb hts it_15 hown hK hP hL_h0 hF_361 rfl 16 (by decide) (hts _ kt_1126) (fun _ h9 => h9) rfl dX15_macroValue_251 ?_
                  refine lv_bipush (v := 48) hx hb dX15_macroValue_254 (by decide) ?_
                  refine lv_iload hx hb dX15_macroValue_256 (lv_at hl 0 rfl) ?_
                  refine lv_bipush (v := 10) hx hb dX15_macroValue_258 (by decide) ?_
                  refine lv_idiv hx hb dX15_macroValue_260 (by decide) ?_
                  refine lv_topi (fun x_418 ex_418 => ?_)
                  obtain rfl : x_418 = (nI ((ocN (nI fm) (shv mq)) / 10)) := ex_418.trans (pk_div (d := 10) (by omega) (by omega) (by omega))
                  refine lv_bipush (v := 10) hx hb dX15_macroValue_261 (by decide) ?_
                  refine lv_irem hx hb dX15_macroValue_263 (by decide) ?_
                  refine lv_topi (fun x_419 ex_419 => ?_)
                  obtain rfl : x_419 = (nI ((ocN (nI fm) (shv mq)) / 10 % 10)) := ex_419.trans (pk_rem (a := (ocN (nI fm) (shv mq)) / 10) (d := 10) (by omega) (by omega) (by omega))
                  refine lv_iadd hx hb dX15_macroValue_264 ?_
                  refine lv_topi (fun x_420 ex_420 => ?_)
                  obtain rfl : x_420 = (nI (48 + (ocN (nI fm) (shv mq)) / 10 % 10)) := ex_420.trans (nI_add 48 ((ocN (nI fm) (shv mq)) / 10 % 10))
                  obtain ⟨hq_421, hq_422⟩ := hW.octs hi_46 ht_47
                  have hFc := pg_free hD hS hA
                  refine va_callv (va_runV (As := [.int (nI (48 + (ocN (nI fm) (shv mq)) / 10 % 10))]) (rest := []) ⟨hx, hb, hml, hown, hts⟩ (s_X14_add_8 l dC dI cs ty gm L H.size F_349 pe (ρ + 7) rp 100 zz2 (48 + (ocN (nI fm) (shv mq)) / 10 % 10) fz2 hW hL_pe hT_pe he3 he4 (by omega) (by omega)) ⟨callB_of 1 hts (gi kt_711) rfl rfl rfl (hts _ kt_676) (hts _ kt_712) (by decide +kernel) ⟨Nat.le_of_ble_eq_true rfl, Nat.le_of_ble_eq_true rfl⟩, (hts _ kt_713), (hts _ kt_714)⟩ ⟨fun a U g mk q => ⟨q.1, PTm.calling q.2⟩, pg_recv hK hP hL_pe he3 (q := (RX14, TX14, 2)) rfl, fun U hU hWm => ⟨rfl, PTm.mk hU hWm hP hK hD hE hO⟩⟩ rfl rfl hl.1 rfl (lv_room (Nat.le_of_ble_eq_true rfl)) dX15_macroValue_265 ⟨by show _ + 0 ≤ 0; omega, by show _ + 0 ≤ 0; omega⟩) hS (fun q _ h => hFc q h) hFc (fun u t H1 locs ht hvm hw hB hz1 hk1 hS => ?_)
                  obtain ⟨F_424, hB1, hq_425, hq_426⟩ := hB
                  obtain ⟨hP, hD, hO, hR⟩ := QTm.back hB1 ht hFc hR (fun q h => by simp only [List.mem_cons, List.not_mem_nil, or_false] at h ⊢; omega)
                  have hF_427 : F_424 g1 = .inl (cs 17, 700, .inl fv) := (hB1.2.2.2 g1 (by rw [hT_g1]; simp only [List.mem_cons, List.not_mem_nil, or_false]; omega)).trans hF_360
                  have hF_428 : F_424 h0 = .inr (15, (.ref ta) :: (.int (nI zt)) :: (.int (nI zo)) :: (.int (nI ze)) :: (.ref ou) :: (.ref so) :: (.ref ad) :: (.ref na) :: (.ref va) :: (.ref lc) :: (.ref dm) :: (.int (nI fm)) :: (.int (nI sn)) :: (.ref tg) :: (.int v14_28) :: (.int v15_29) :: (.ref pe) :: (.int v17_30) :: (.int v18_31) :: (.int v19_32) :: (.int v20_33) :: (.int v21_34) :: (.int v22_35) :: (.ref ml) :: (.ref bg) :: (.ref co) :: (.ref sp) :: (.ref nb0) :: (.ref nb1) :: (.ref nb2) :: (.int (nI nf)) :: (.int (nI bd)) :: (.int (nI mm)) :: (.int v33_36) :: (.ref pl) :: (.ref se) :: (.ref ke) :: (.ref wi) :: (.ref hs) :: (.ref mo) :: (.ref po) :: (.ref nu) :: (.ref pr) :: (.ref sq) :: (.ref xa) :: (.ref sa) :: (.ref n64) :: (.ref m64) :: (.ref ex) :: (.ref wh) :: (.ref sd) :: (.ref tk) :: (.int v52_37) :: (.int v53_38) :: (.int v54_39) :: (.ref hd) :: (.ref ak) :: (.ref ho) :: (.ref ot) :: []) := (hB1.2.2.2 h0 (by rw [hT_h0]; simp)).trans hF_361
                  have hF_429 : F_424 lc = .inr (14, [.ref r_1, .int (nI zl)]) := (hB1.2.2.2 lc (by rw [ht_58]; simp)).trans hF_362
                  have hF_430 : F_424 r_1 = .inl (cs 17, 30, .inl fcl) := (hB1.2.2.2 r_1 (by rw [ht_60]; simp)).trans hF_363
                  have hF_431 : F_424 dm = .inr (14, [.ref r_2, .int (nI zm)]) := (hB1.2.2.2 dm (by rw [ht_63]; simp)).trans hF_364
                  have hF_432 : F_424 r_2 = .inl (cs 17, 60, .inl fcm) := (hB1.2.2.2 r_2 (by rw [ht_65]; simp)).trans hF_365
                  have hF_433 : F_424 dd = .inr (14, [.ref rd, .int (nI zd)]) := (hB1.2.2.2 dd (by rw [hT_dd]; simp only [List.mem_cons, List.not_mem_nil, or_false]; omega)).trans hF_366
                  have hF_434 : F_424 rd = .inl (cs 17, nd, .inl fcd) := (hB1.2.2.2 rd (by rw [ht_55]; simp only [List.mem_cons, List.not_mem_nil, or_false]; omega)).trans hF_367
                  have hF_435 : F_424 g2 = .inr (14, [.ref r2, .int (nI y)]) := (hB1.2.2.2 g2 (by rw [hT_g2]; simp only [List.mem_cons, List.not_mem_nil, or_false]; omega)).trans he1
                  have hF_436 : F_424 r2 = .inl (cs 17, 61, .inl fi) := (hB1.2.2.2 r2 (by rw [ht_50]; simp only [List.mem_cons, List.not_mem_nil, or_false]; omega)).trans he2
                  generalize H1 = H at hP hS ⊢
                  have hW_437 := src_one he5 (show 48 + (ocN (nI fm) (shv mq)) / 10 % 10 < 128 by omega)
                  refine lv_aload_n hx hb dX15_macroValue_268 rfl (lv_at hl 6 rfl) ?_
                  refine pg_get (ci := 15) (v := .ref pe) (C := RX15) (T := TX15) (N := 59) hx hb hts it_15 hown hK hP hL_h0 hF_428 rfl 16 (by decide) (hts _ kt_1126) (fun _ h9 => h9) rfl dX15_macroValue_269 ?_
                  refine lv_bipush (v := 48) hx hb dX15_macroValue_272 (by decide) ?_
                  refine lv_iload hx hb dX15_macroValue_274 (lv_at hl 0 rfl) ?_
                  refine lv_bipush (v := 10) hx hb dX15_macroValue_276 (by decide) ?_
                  refine lv_irem hx hb dX15_macroValue_278 (by decide) ?_
                  refine lv_topi (fun x_438 ex_438 => ?_)
                  obtain rfl : x_438 = (nI ((ocN (nI fm) (shv mq)) % 10)) := ex_438.trans (pk_rem (a := (ocN (nI fm) (shv mq))) (d := 10) (by omega) (by omega) (by omega))
                  refine lv_iadd hx hb dX15_macroValue_279 ?_
                  refine lv_topi (fun x_439 ex_439 => ?_)
                  obtain rfl : x_439 = (nI (48 + (ocN (nI fm) (shv mq)) % 10)) := ex_439.trans (nI_add 48 ((ocN (nI fm) (shv mq)) % 10))
                  have hFc := pg_free hD hS hA
                  refine va_callv (va_runV (As := [.int (nI (48 + (ocN (nI fm) (shv mq)) % 10))]) (rest := []) ⟨hx, hb, hml, hown, hts⟩ (s_X14_add_8 l dC dI cs ty gm L H.size F_424 pe (ρ + 7) rp 100 (zz2 + 1) (48 + (ocN (nI fm) (shv mq)) % 10) (upd fz2 zz2 (nI (48 + (ocN (nI fm) (shv mq)) / 10 % 10))) hW hL_pe hT_pe hq_425 hq_426 (by omega) (by omega)) ⟨callB_of 1 hts (gi kt_711) rfl rfl rfl (hts _ kt_676) (hts _ kt_712) (by decide +kernel) ⟨Nat.le_of_ble_eq_true rfl, Nat.le_of_ble_eq_true rfl⟩, (hts _ kt_713), (hts _ kt_714)⟩ ⟨fun a U g mk q => ⟨q.1, PTm.calling q.2⟩, pg_recv hK hP hL_pe hq_425 (q := (RX14, TX14, 2)) rfl, fun U hU hWm => ⟨rfl, PTm.mk hU hWm hP hK hD hE hO⟩⟩ rfl rfl hl.1 rfl (lv_room (Nat.le_of_ble_eq_true rfl)) dX15_macroValue_280 ⟨by show _ + 0 ≤ 0; omega, by show _ + 0 ≤ 0; omega⟩) hS (fun q _ h => hFc q h) hFc (fun u t H1 locs ht hvm hw hB hz1 hk1 hS => ?_)
                  obtain ⟨F_441, hB1, hq_442, hq_443⟩ := hB
                  obtain ⟨hP, hD, hO, hR⟩ := QTm.back hB1 ht hFc hR (fun q h => by simp only [List.mem_cons, List.not_mem_nil, or_false] at h ⊢; omega)
                  have hF_444 : F_441 g1 = .inl (cs 17, 700, .inl fv) := (hB1.2.2.2 g1 (by rw [hT_g1]; simp only [List.mem_cons, List.not_mem_nil, or_false]; omega)).trans hF_427
                  have hF_445 : F_441 h0 = .inr (15, (.ref ta) :: (.int (nI zt)) :: (.int (nI zo)) :: (.int (nI ze)) :: (.ref ou) :: (.ref so) :: (.ref ad) :: (.ref na) :: (.ref va) :: (.ref lc) :: (.ref dm) :: (.int (nI fm)) :: (.int (nI sn)) :: (.ref tg) :: (.int v14_28) :: (.int v15_29) :: (.ref pe) :: (.int v17_30) :: (.int v18_31) :: (.int v19_32) :: (.int v20_33) :: (.int v21_34) :: (.int v22_35) :: (.ref ml) :: (.ref bg) :: (.ref co) :: (.ref sp) :: (.ref nb0) :: (.ref nb1) :: (.ref nb2) :: (.int (nI nf)) :: (.int (nI bd)) :: (.int (nI mm)) :: (.int v33_36) :: (.ref pl) :: (.ref se) :: (.ref ke) :: (.ref wi) :: (.ref hs) :: (.ref mo) :: (.ref po) :: (.ref nu) :: (.ref pr) :: (.ref sq) :: (.ref xa) :: (.ref sa) :: (.ref n64) :: (.ref m64) :: (.ref ex) :: (.ref wh) :: (.ref sd) :: (.ref tk) :: (.int v52_37) :: (.int v53_38) :: (.int v54_39) :: (.ref hd) :: (.ref ak) :: (.ref ho) :: (.ref ot) :: []) := (hB1.2.2.2 h0 (by rw [hT_h0]; simp)).trans hF_428
                  have hF_446 : F_441 lc = .inr (14, [.ref r_1, .int (nI zl)]) := (hB1.2.2.2 lc (by rw [ht_58]; simp)).trans hF_429
                  have hF_447 : F_441 r_1 = .inl (cs 17, 30, .inl fcl) := (hB1.2.2.2 r_1 (by rw [ht_60]; simp)).trans hF_430
                  have hF_448 : F_441 dm = .inr (14, [.ref r_2, .int (nI zm)]) := (hB1.2.2.2 dm (by rw [ht_63]; simp)).trans hF_431
                  have hF_449 : F_441 r_2 = .inl (cs 17, 60, .inl fcm) := (hB1.2.2.2 r_2 (by rw [ht_65]; simp)).trans hF_432
                  have hF_450 : F_441 dd = .inr (14, [.ref rd, .int (nI zd)]) := (hB1.2.2.2 dd (by rw [hT_dd]; simp only [List.mem_cons, List.not_mem_nil, or_false]; omega)).trans hF_433
                  have hF_451 : F_441 rd = .inl (cs 17, nd, .inl fcd) := (hB1.2.2.2 rd (by rw [ht_55]; simp only [List.mem_cons, List.not_mem_nil, or_false]; omega)).trans hF_434
                  have hF_452 : F_441 g2 = .inr (14, [.ref r2, .int (nI y)]) := (hB1.2.2.2 g2 (by rw [hT_g2]; simp only [List.mem_cons, List.not_mem_nil, or_false]; omega)).trans hF_435
                  have hF_453 : F_441 r2 = .inl (cs 17, 61, .inl fi) := (hB1.2.2.2 r2 (by rw [ht_50]; simp only [List.mem_cons, List.not_mem_nil, or_false]; omega)).trans hF_436
                  generalize H1 = H at hP hS ⊢
                  have hW_454 := src_one hW_437 (show 48 + (ocN (nI fm) (shv mq)) % 10 < 128 by omega)
                  refine lv_iload hx hb dX15_macroValue_283 (lv_at hl 1 rfl) ?_
                  refine lv_if_le (tgt := 297) hx hb dX15_macroValue_285 (by decide) (fun c_455 => ?_) (fun c_455 => ?_)
                  ·
                    have hk33 : ¬ mq < 3 := by have h9 := c_455; rw [sv_shv mq (by omega)] at h9; exact (shv_le (by omega)).mp h9
                    refine lv_iinc (v := (sv (mq + 1))) (lv' := [(10, .int (sv (mq + 1))), (11, .int (nI (ocN (nI fm) (shv mq)))), (9, .int (trW ((TC fv z) (tt - 1)))), (8, .int (nI nn)), (7, .int 0), (6, .int (nI ((TC fv z) a))), (0, .ref h0), (1, .ref g1), (2, .int (nI a)), (3, .int (nI tt)), (4, .ref dd), (5, .ref g2)]) hx hb dX15_macroValue_297 hl (k := 1) rfl (sv_n mq hm4) (by decide) rfl (fun ls hl => ?_)
                    refine lv_goto (tgt := 196) hx hb dX15_macroValue_300 (by decide) ?_
                    refine W.widen (k := 0) (n := 0) (by omega) (by omega) ?_
                    exact ih_359 ((mq + 1), (zz2 + 2), (upd (upd fz2 zz2 (nI (48 + (ocN (nI fm) (shv mq)) / 10 % 10))) (zz2 + 1) (nI (48 + (ocN (nI fm) (shv mq)) % 10))), ((W2 ++ [48 + (ocN (nI fm) (shv mq)) / 10 % 10]) ++ [48 + (ocN (nI fm) (shv mq)) % 10])) F_441 (⟨by omega, ⟨hF_452, hF_453, hq_442, hq_443, hW_454⟩, Or.inl ⟨hl5, by rw [hw2]; show _ = qdP (nI fm) mq ++ (dgL (ocN (nI fm) (shv mq)) ++ (if mq < 3 then [46] else [])); unfold dgL; rw [if_pos hl100, if_neg hl10, if_neg hk33]; simp only [List.append_assoc, List.nil_append, List.append_nil]⟩⟩) (by show 4 - (mq + 1) < 4 - mq; omega) hO hR _ _ hP hD hS ls (lv_sub hl [0, 2, 3, 4, 5, 6, 7, 8, 9, 10, 11] rfl)
                  ·
                    have hk33 : mq < 3 := Classical.byContradiction (fun q => c_455 (by rw [sv_shv mq (by omega)]; exact (shv_le (by omega)).mpr q))
                    refine lv_aload_n hx hb dX15_macroValue_288 rfl (lv_at hl 6 rfl) ?_
                    refine pg_get (ci := 15) (v := .ref pe) (C := RX15) (T := TX15) (N := 59) hx hb hts it_15 hown hK hP hL_h0 hF_445 rfl 16 (by decide) (hts _ kt_1126) (fun _ h9 => h9) rfl dX15_macroValue_289 ?_
                    refine lv_bipush (v := 46) hx hb dX15_macroValue_292 (by decide) ?_
                    refine W.eq (g2 := F0 m 294 ls [.int (nI 46), .ref pe]) rfl ?_
                    have hFc := pg_free hD hS hA
                    refine va_callv (va_runV (As := [.int (nI 46)]) (rest := []) ⟨hx, hb, hml, hown, hts⟩ (s_X14_add_8 l dC dI cs ty gm L H.size F_441 pe (ρ + 7) rp 100 (zz2 + 2) 46 (upd (upd fz2 zz2 (nI (48 + (ocN (nI fm) (shv mq)) / 10 % 10))) (zz2 + 1) (nI (48 + (ocN (nI fm) (shv mq)) % 10))) hW hL_pe hT_pe hq_442 hq_443 (by omega) (by omega)) ⟨callB_of 1 hts (gi kt_711) rfl rfl rfl (hts _ kt_676) (hts _ kt_712) (by decide +kernel) ⟨Nat.le_of_ble_eq_true rfl, Nat.le_of_ble_eq_true rfl⟩, (hts _ kt_713), (hts _ kt_714)⟩ ⟨fun a U g mk q => ⟨q.1, PTm.calling q.2⟩, pg_recv hK hP hL_pe hq_442 (q := (RX14, TX14, 2)) rfl, fun U hU hWm => ⟨rfl, PTm.mk hU hWm hP hK hD hE hO⟩⟩ rfl rfl hl.1 rfl (lv_room (Nat.le_of_ble_eq_true rfl)) dX15_macroValue_294 ⟨by show _ + 0 ≤ 0; omega, by show _ + 0 ≤ 0; omega⟩) hS (fun q _ h => hFc q h) hFc (fun u t H1 locs ht hvm hw hB hz1 hk1 hS => ?_)
                    obtain ⟨F_457, hB1, hq_458, hq_459⟩ := hB
                    obtain ⟨hP, hD, hO, hR⟩ := QTm.back hB1 ht hFc hR (fun q h => by simp only [List.mem_cons, List.not_mem_nil, or_false] at h ⊢; omega)
                    have hF_460 : F_457 g1 = .inl (cs 17, 700, .inl fv) := (hB1.2.2.2 g1 (by rw [hT_g1]; simp only [List.mem_cons, List.not_mem_nil, or_false]; omega)).trans hF_444
                    have hF_461 : F_457 h0 = .inr (15, (.ref ta) :: (.int (nI zt)) :: (.int (nI zo)) :: (.int (nI ze)) :: (.ref ou) :: (.ref so) :: (.ref ad) :: (.ref na) :: (.ref va) :: (.ref lc) :: (.ref dm) :: (.int (nI fm)) :: (.int (nI sn)) :: (.ref tg) :: (.int v14_28) :: (.int v15_29) :: (.ref pe) :: (.int v17_30) :: (.int v18_31) :: (.int v19_32) :: (.int v20_33) :: (.int v21_34) :: (.int v22_35) :: (.ref ml) :: (.ref bg) :: (.ref co) :: (.ref sp) :: (.ref nb0) :: (.ref nb1) :: (.ref nb2) :: (.int (nI nf)) :: (.int (nI bd)) :: (.int (nI mm)) :: (.int v33_36) :: (.ref pl) :: (.ref se) :: (.ref ke) :: (.ref wi) :: (.ref hs) :: (.ref mo) :: (.ref po) :: (.ref nu) :: (.ref pr) :: (.ref sq) :: (.ref xa) :: (.ref sa) :: (.ref n64) :: (.ref m64) :: (.ref ex) :: (.ref wh) :: (.ref sd) :: (.ref tk) :: (.int v52_37) :: (.int v53_38) :: (.int v54_39) :: (.ref hd) :: (.ref ak) :: (.ref ho) :: (.ref ot) :: []) := (hB1.2.2.2 h0 (by rw [hT_h0]; simp)).trans hF_445
                    have hF_462 : F_457 lc = .inr (14, [.ref r_1, .int (nI zl)]) := (hB1.2.2.2 lc (by rw [ht_58]; simp)).trans hF_446
                    have hF_463 : F_457 r_1 = .inl (cs 17, 30, .inl fcl) := (hB1.2.2.2 r_1 (by rw [ht_60]; simp)).trans hF_447
                    have hF_464 : F_457 dm = .inr (14, [.ref r_2, .int (nI zm)]) := (hB1.2.2.2 dm (by rw [ht_63]; simp)).trans hF_448
                    have hF_465 : F_457 r_2 = .inl (cs 17, 60, .inl fcm) := (hB1.2.2.2 r_2 (by rw [ht_65]; simp)).trans hF_449
                    have hF_466 : F_457 dd = .inr (14, [.ref rd, .int (nI zd)]) := (hB1.2.2.2 dd (by rw [hT_dd]; simp only [List.mem_cons, List.not_mem_nil, or_false]; omega)).trans hF_450
                    have hF_467 : F_457 rd = .inl (cs 17, nd, .inl fcd) := (hB1.2.2.2 rd (by rw [ht_55]; simp only [List.mem_cons, List.not_mem_nil, or_false]; omega)).trans hF_451
                    have hF_468 : F_457 g2 = .inr (14, [.ref r2, .int (nI y)]) := (hB1.2.2.2 g2 (by rw [hT_g2]; simp only [List.mem_cons, List.not_mem_nil, or_false]; omega)).trans hF_452
                    have hF_469 : F_457 r2 = .inl (cs 17, 61, .inl fi) := (hB1.2.2.2 r2 (by rw [ht_50]; simp only [List.mem_cons, List.not_mem_nil, or_false]; omega)).trans hF_453
                    generalize H1 = H at hP hS ⊢
                    have hW_470 := src_one hW_454 (show 46 < 128 by omega)
                    refine lv_iinc (v := (sv (mq + 1))) (lv' := [(10, .int (sv (mq + 1))), (11, .int (nI (ocN (nI fm) (shv mq)))), (9, .int (trW ((TC fv z) (tt - 1)))), (8, .int (nI nn)), (7, .int 0), (6, .int (nI ((TC fv z) a))), (0, .ref h0), (1, .ref g1), (2, .int (nI a)), (3, .int (nI tt)), (4, .ref dd), (5, .ref g2)]) hx hb dX15_macroValue_297 hl (k := 1) rfl (sv_n mq hm4) (by decide) rfl (fun ls hl => ?_)
                    refine lv_goto (tgt := 196) hx hb dX15_macroValue_300 (by decide) ?_
                    refine W.widen (k := 0) (n := 0) (by omega) (by omega) ?_
                    exact ih_359 ((mq + 1), (zz2 + 3), (upd (upd (upd fz2 zz2 (nI (48 + (ocN (nI fm) (shv mq)) / 10 % 10))) (zz2 + 1) (nI (48 + (ocN (nI fm) (shv mq)) % 10))) (zz2 + 2) (nI 46)), (((W2 ++ [48 + (ocN (nI fm) (shv mq)) / 10 % 10]) ++ [48 + (ocN (nI fm) (shv mq)) % 10]) ++ [46])) F_457 (⟨by omega, ⟨hF_468, hF_469, hq_458, hq_459, hW_470⟩, Or.inl ⟨hl5, by rw [hw2]; show _ = qdP (nI fm) mq ++ (dgL (ocN (nI fm) (shv mq)) ++ (if mq < 3 then [46] else [])); unfold dgL; rw [if_pos hl100, if_neg hl10, if_pos hk33]; simp only [List.append_assoc, List.nil_append, List.append_nil]⟩⟩) (by show 4 - (mq + 1) < 4 - mq; omega) hO hR _ _ hP hD hS ls (lv_sub hl [0, 2, 3, 4, 5, 6, 7, 8, 9, 10, 11] rfl)
              ·
                have hi_471 : 99 < (ocN (nI fm) (shv mq)) := Nat.not_le.mp (fun q => c_378 ((nI_leI (a := (ocN (nI fm) (shv mq))) (b := 99) (by omega) (by omega)).mpr q))
                have hl100 : ¬ (ocN (nI fm) (shv mq)) < 100 := by omega
                refine lv_aload_n hx hb dX15_macroValue_228 rfl (lv_at hl 6 rfl) ?_
                refine pg_get (ci := 15) (v := .ref pe) (C := RX15) (T := TX15) (N := 59) hx hb hts it_15 hown hK hP hL_h0 hF_361 rfl 16 (by decide) (hts _ kt_1126) (fun _ h9 => h9) rfl dX15_macroValue_229 ?_
                refine lv_bipush (v := 48) hx hb dX15_macroValue_232 (by decide) ?_
                refine lv_iload hx hb dX15_macroValue_234 (lv_at hl 0 rfl) ?_
                refine lv_bipush (v := 100) hx hb dX15_macroValue_236 (by decide) ?_
                refine lv_idiv hx hb dX15_macroValue_238 (by decide) ?_
                refine lv_topi (fun x_472 ex_472 => ?_)
                obtain rfl : x_472 = (nI ((ocN (nI fm) (shv mq)) / 100)) := ex_472.trans (pk_div (d := 100) (by omega) (by omega) (by omega))
                refine lv_iadd hx hb dX15_macroValue_239 ?_
                refine lv_topi (fun x_473 ex_473 => ?_)
                obtain rfl : x_473 = (nI (48 + (ocN (nI fm) (shv mq)) / 100)) := ex_473.trans (nI_add 48 ((ocN (nI fm) (shv mq)) / 100))
                obtain ⟨hq_474, hq_475⟩ := hW.octs hi_46 ht_47
                have hFc := pg_free hD hS hA
                refine va_callv (va_runV (As := [.int (nI (48 + (ocN (nI fm) (shv mq)) / 100))]) (rest := []) ⟨hx, hb, hml, hown, hts⟩ (s_X14_add_8 l dC dI cs ty gm L H.size F_349 pe (ρ + 7) rp 100 zz2 (48 + (ocN (nI fm) (shv mq)) / 100) fz2 hW hL_pe hT_pe he3 he4 (by omega) (by omega)) ⟨callB_of 1 hts (gi kt_711) rfl rfl rfl (hts _ kt_676) (hts _ kt_712) (by decide +kernel) ⟨Nat.le_of_ble_eq_true rfl, Nat.le_of_ble_eq_true rfl⟩, (hts _ kt_713), (hts _ kt_714)⟩ ⟨fun a U g mk q => ⟨q.1, PTm.calling q.2⟩, pg_recv hK hP hL_pe he3 (q := (RX14, TX14, 2)) rfl, fun U hU hWm => ⟨rfl, PTm.mk hU hWm hP hK hD hE hO⟩⟩ rfl rfl hl.1 rfl (lv_room (Nat.le_of_ble_eq_true rfl)) dX15_macroValue_240 ⟨by show _ + 0 ≤ 0; omega, by show _ + 0 ≤ 0; omega⟩) hS (fun q _ h => hFc q h) hFc (fun u t H1 locs ht hvm hw hB hz1 hk1 hS => ?_)
                obtain ⟨F_477, hB1, hq_478, hq_479⟩ := hB
                obtain ⟨hP, hD, hO, hR⟩ := QTm.back hB1 ht hFc hR (fun q h => by simp only [List.mem_cons, List.not_mem_nil, or_false] at h ⊢; omega)
                have hF_480 : F_477 g1 = .inl (cs 17, 700, .inl fv) := (hB1.2.2.2 g1 (by rw [hT_g1]; simp only [List.mem_cons, List.not_mem_nil, or_false]; omega)).trans hF_360
                have hF_481 : F_477 h0 = .inr (15, (.ref ta) :: (.int (nI zt)) :: (.int (nI zo)) :: (.int (nI ze)) :: (.ref ou) :: (.ref so) :: (.ref ad) :: (.ref na) :: (.ref va) :: (.ref lc) :: (.ref dm) :: (.int (nI fm)) :: (.int (nI sn)) :: (.ref tg) :: (.int v14_28) :: (.int v15_29) :: (.ref pe) :: (.int v17_30) :: (.int v18_31) :: (.int v19_32) :: (.int v20_33) :: (.int v21_34) :: (.int v22_35) :: (.ref ml) :: (.ref bg) :: (.ref co) :: (.ref sp) :: (.ref nb0) :: (.ref nb1) :: (.ref nb2) :: (.int (nI nf)) :: (.int (nI bd)) :: (.int (nI mm)) :: (.int v33_36) :: (.ref pl) :: (.ref se) :: (.ref ke) :: (.ref wi) :: (.ref hs) :: (.ref mo) :: (.ref po) :: (.ref nu) :: (.ref pr) :: (.ref sq) :: (.ref xa) :: (.ref sa) :: (.ref n64) :: (.ref m64) :: (.ref ex) :: (.ref wh) :: (.ref sd) :: (.ref tk) :: (.int v52_37) :: (.int v53_38) :: (.int v54_39) :: (.ref hd) :: (.ref ak) :: (.ref ho) :: (.ref ot) :: []) := (hB1.2.2.2 h0 (by rw [hT_h0]; simp)).trans hF_361
                have hF_482 : F_477 lc = .inr (14, [.ref r_1, .int (nI zl)]) := (hB1.2.2.2 lc (by rw [ht_58]; simp)).trans hF_362
                have hF_483 : F_477 r_1 = .inl (cs 17, 30, .inl fcl) := (hB1.2.2.2 r_1 (by rw [ht_60]; simp)).trans hF_363
                have hF_484 : F_477 dm = .inr (14, [.ref r_2, .int (nI zm)]) := (hB1.2.2.2 dm (by rw [ht_63]; simp)).trans hF_364
                have hF_485 : F_477 r_2 = .inl (cs 17, 60, .inl fcm) := (hB1.2.2.2 r_2 (by rw [ht_65]; simp)).trans hF_365
                have hF_486 : F_477 dd = .inr (14, [.ref rd, .int (nI zd)]) := (hB1.2.2.2 dd (by rw [hT_dd]; simp only [List.mem_cons, List.not_mem_nil, or_false]; omega)).trans hF_366
                have hF_487 : F_477 rd = .inl (cs 17, nd, .inl fcd) := (hB1.2.2.2 rd (by rw [ht_55]; simp only [List.mem_cons, List.not_mem_nil, or_false]; omega)).trans hF_367
                have hF_488 : F_477 g2 = .inr (14, [.ref r2, .int (nI y)]) := (hB1.2.2.2 g2 (by rw [hT_g2]; simp only [List.mem_cons, List.not_mem_nil, or_false]; omega)).trans he1
                have hF_489 : F_477 r2 = .inl (cs 17, 61, .inl fi) := (hB1.2.2.2 r2 (by rw [ht_50]; simp only [List.mem_cons, List.not_mem_nil, or_false]; omega)).trans he2
                generalize H1 = H at hP hS ⊢
                have hW_490 := src_one he5 (show 48 + (ocN (nI fm) (shv mq)) / 100 < 128 by omega)
                refine lv_iload hx hb dX15_macroValue_243 (lv_at hl 0 rfl) ?_
                refine lv_bipush (v := 9) hx hb dX15_macroValue_245 (by decide) ?_
                refine lv_icmp_le (tgt := 268) hx hb dX15_macroValue_247 (by decide) (fun c_491 => ?_) (fun c_491 => ?_)
                ·
                  have hi_492 : (ocN (nI fm) (shv mq)) ≤ 9 := (nI_leI (a := (ocN (nI fm) (shv mq))) (b := 9) (by omega) (by omega)).mp c_491
                  have hl10 : (ocN (nI fm) (shv mq)) < 10 := by omega
                  refine lv_aload_n hx hb dX15_macroValue_268 rfl (lv_at hl 6 rfl) ?_
                  refine pg_get (ci := 15) (v := .ref pe) (C := RX15) (T := TX15) (N := 59) hx hb hts it_15 hown hK hP hL_h0 hF_481 rfl 16 (by decide) (hts _ kt_1126) (fun _ h9 => h9) rfl dX15_macroValue_269 ?_
                  refine lv_bipush (v := 48) hx hb dX15_macroValue_272 (by decide) ?_
                  refine lv_iload hx hb dX15_macroValue_274 (lv_at hl 0 rfl) ?_
                  refine lv_bipush (v := 10) hx hb dX15_macroValue_276 (by decide) ?_
                  refine lv_irem hx hb dX15_macroValue_278 (by decide) ?_
                  refine lv_topi (fun x_493 ex_493 => ?_)
                  obtain rfl : x_493 = (nI ((ocN (nI fm) (shv mq)) % 10)) := ex_493.trans (pk_rem (a := (ocN (nI fm) (shv mq))) (d := 10) (by omega) (by omega) (by omega))
                  refine lv_iadd hx hb dX15_macroValue_279 ?_
                  refine lv_topi (fun x_494 ex_494 => ?_)
                  obtain rfl : x_494 = (nI (48 + (ocN (nI fm) (shv mq)) % 10)) := ex_494.trans (nI_add 48 ((ocN (nI fm) (shv mq)) % 10))
                  have hFc := pg_free hD hS hA
                  refine va_callv (va_runV (As := [.int (nI (48 + (ocN (nI fm) (shv mq)) % 10))]) (rest := []) ⟨hx, hb, hml, hown, hts⟩ (s_X14_add_8 l dC dI cs ty gm L H.size F_477 pe (ρ + 7) rp 100 (zz2 + 1) (48 + (ocN (nI fm) (shv mq)) % 10) (upd fz2 zz2 (nI (48 + (ocN (nI fm) (shv mq)) / 100))) hW hL_pe hT_pe hq_478 hq_479 (by omega) (by omega)) ⟨callB_of 1 hts (gi kt_711) rfl rfl rfl (hts _ kt_676) (hts _ kt_712) (by decide +kernel) ⟨Nat.le_of_ble_eq_true rfl, Nat.le_of_ble_eq_true rfl⟩, (hts _ kt_713), (hts _ kt_714)⟩ ⟨fun a U g mk q => ⟨q.1, PTm.calling q.2⟩, pg_recv hK hP hL_pe hq_478 (q := (RX14, TX14, 2)) rfl, fun U hU hWm => ⟨rfl, PTm.mk hU hWm hP hK hD hE hO⟩⟩ rfl rfl hl.1 rfl (lv_room (Nat.le_of_ble_eq_true rfl)) dX15_macroValue_280 ⟨by show _ + 0 ≤ 0; omega, by show _ + 0 ≤ 0; omega⟩) hS (fun q _ h => hFc q h) hFc (fun u t H1 locs ht hvm hw hB hz1 hk1 hS => ?_)
                  obtain ⟨F_496, hB1, hq_497, hq_498⟩ := hB
                  obtain ⟨hP, hD, hO, hR⟩ := QTm.back hB1 ht hFc hR (fun q h => by simp only [List.mem_cons, List.not_mem_nil, or_false] at h ⊢; omega)
                  have hF_499 : F_496 g1 = .inl (cs 17, 700, .inl fv) := (hB1.2.2.2 g1 (by rw [hT_g1]; simp only [List.mem_cons, List.not_mem_nil, or_false]; omega)).trans hF_480
                  have hF_500 : F_496 h0 = .inr (15, (.ref ta) :: (.int (nI zt)) :: (.int (nI zo)) :: (.int (nI ze)) :: (.ref ou) :: (.ref so) :: (.ref ad) :: (.ref na) :: (.ref va) :: (.ref lc) :: (.ref dm) :: (.int (nI fm)) :: (.int (nI sn)) :: (.ref tg) :: (.int v14_28) :: (.int v15_29) :: (.ref pe) :: (.int v17_30) :: (.int v18_31) :: (.int v19_32) :: (.int v20_33) :: (.int v21_34) :: (.int v22_35) :: (.ref ml) :: (.ref bg) :: (.ref co) :: (.ref sp) :: (.ref nb0) :: (.ref nb1) :: (.ref nb2) :: (.int (nI nf)) :: (.int (nI bd)) :: (.int (nI mm)) :: (.int v33_36) :: (.ref pl) :: (.ref se) :: (.ref ke) :: (.ref wi) :: (.ref hs) :: (.ref mo) :: (.ref po) :: (.ref nu) :: (.ref pr) :: (.ref sq) :: (.ref xa) :: (.ref sa) :: (.ref n64) :: (.ref m64) :: (.ref ex) :: (.ref wh) :: (.ref sd) :: (.ref tk) :: (.int v52_37) :: (.int v53_38) :: (.int v54_39) :: (.ref hd) :: (.ref ak) :: (.ref ho) :: (.ref ot) :: []) := (hB1.2.2.2 h0 (by rw [hT_h0]; simp)).trans hF_481
                  have hF_501 : F_496 lc = .inr (14, [.ref r_1, .int (nI zl)]) := (hB1.2.2.2 lc (by rw [ht_58]; simp)).trans hF_482
                  have hF_502 : F_496 r_1 = .inl (cs 17, 30, .inl fcl) := (hB1.2.2.2 r_1 (by rw [ht_60]; simp)).trans hF_483
                  have hF_503 : F_496 dm = .inr (14, [.ref r_2, .int (nI zm)]) := (hB1.2.2.2 dm (by rw [ht_63]; simp)).trans hF_484
                  have hF_504 : F_496 r_2 = .inl (cs 17, 60, .inl fcm) := (hB1.2.2.2 r_2 (by rw [ht_65]; simp)).trans hF_485
                  have hF_505 : F_496 dd = .inr (14, [.ref rd, .int (nI zd)]) := (hB1.2.2.2 dd (by rw [hT_dd]; simp only [List.mem_cons, List.not_mem_nil, or_false]; omega)).trans hF_486
                  have hF_506 : F_496 rd = .inl (cs 17, nd, .inl fcd) := (hB1.2.2.2 rd (by rw [ht_55]; simp only [List.mem_cons, List.not_mem_nil, or_false]; omega)).trans hF_487
                  have hF_507 : F_496 g2 = .inr (14, [.ref r2, .int (nI y)]) := (hB1.2.2.2 g2 (by rw [hT_g2]; simp only [List.mem_cons, List.not_mem_nil, or_false]; omega)).trans hF_488
                  have hF_508 : F_496 r2 = .inl (cs 17, 61, .inl fi) := (hB1.2.2.2 r2 (by rw [ht_50]; simp only [List.mem_cons, List.not_mem_nil, or_false]; omega)).trans hF_489
                  generalize H1 = H at hP hS ⊢
                  have hW_509 := src_one hW_490 (show 48 + (ocN (nI fm) (shv mq)) % 10 < 128 by omega)
                  refine lv_iload hx hb dX15_macroValue_283 (lv_at hl 1 rfl) ?_
                  refine lv_if_le (tgt := 297) hx hb dX15_macroValue_285 (by decide) (fun c_510 => ?_) (fun c_510 => ?_)
                  ·
                    have hk33 : ¬ mq < 3 := by have h9 := c_510; rw [sv_shv mq (by omega)] at h9; exact (shv_le (by omega)).mp h9
                    refine lv_iinc (v := (sv (mq + 1))) (lv' := [(10, .int (sv (mq + 1))), (11, .int (nI (ocN (nI fm) (shv mq)))), (9, .int (trW ((TC fv z) (tt - 1)))), (8, .int (nI nn)), (7, .int 0), (6, .int (nI ((TC fv z) a))), (0, .ref h0), (1, .ref g1), (2, .int (nI a)), (3, .int (nI tt)), (4, .ref dd), (5, .ref g2)]) hx hb dX15_macroValue_297 hl (k := 1) rfl (sv_n mq hm4) (by decide) rfl (fun ls hl => ?_)
                    refine lv_goto (tgt := 196) hx hb dX15_macroValue_300 (by decide) ?_
                    refine W.widen (k := 0) (n := 0) (by omega) (by omega) ?_
                    exact ih_359 ((mq + 1), (zz2 + 2), (upd (upd fz2 zz2 (nI (48 + (ocN (nI fm) (shv mq)) / 100))) (zz2 + 1) (nI (48 + (ocN (nI fm) (shv mq)) % 10))), ((W2 ++ [48 + (ocN (nI fm) (shv mq)) / 100]) ++ [48 + (ocN (nI fm) (shv mq)) % 10])) F_496 (⟨by omega, ⟨hF_507, hF_508, hq_497, hq_498, hW_509⟩, Or.inl ⟨hl5, by rw [hw2]; show _ = qdP (nI fm) mq ++ (dgL (ocN (nI fm) (shv mq)) ++ (if mq < 3 then [46] else [])); unfold dgL; rw [if_neg hl100, if_pos hl10, if_neg hk33]; simp only [List.append_assoc, List.nil_append, List.append_nil]⟩⟩) (by show 4 - (mq + 1) < 4 - mq; omega) hO hR _ _ hP hD hS ls (lv_sub hl [0, 2, 3, 4, 5, 6, 7, 8, 9, 10, 11] rfl)
                  ·
                    have hk33 : mq < 3 := Classical.byContradiction (fun q => c_510 (by rw [sv_shv mq (by omega)]; exact (shv_le (by omega)).mpr q))
                    refine lv_aload_n hx hb dX15_macroValue_288 rfl (lv_at hl 6 rfl) ?_
                    refine pg_get (ci := 15) (v := .ref pe) (C := RX15) (T := TX15) (N := 59) hx hb hts it_15 hown hK hP hL_h0 hF_500 rfl 16 (by decide) (hts _ kt_1126) (fun _ h9 => h9) rfl dX15_macroValue_289 ?_
                    refine lv_bipush (v := 46) hx hb dX15_macroValue_292 (by decide) ?_
                    refine W.eq (g2 := F0 m 294 ls [.int (nI 46), .ref pe]) rfl ?_
                    have hFc := pg_free hD hS hA
                    refine va_callv (va_runV (As := [.int (nI 46)]) (rest := []) ⟨hx, hb, hml, hown, hts⟩ (s_X14_add_8 l dC dI cs ty gm L H.size F_496 pe (ρ + 7) rp 100 (zz2 + 2) 46 (upd (upd fz2 zz2 (nI (48 + (ocN (nI fm) (shv mq)) / 100))) (zz2 + 1) (nI (48 + (ocN (nI fm) (shv mq)) % 10))) hW hL_pe hT_pe hq_497 hq_498 (by omega) (by omega)) ⟨callB_of 1 hts (gi kt_711) rfl rfl rfl (hts _ kt_676) (hts _ kt_712) (by decide +kernel) ⟨Nat.le_of_ble_eq_true rfl, Nat.le_of_ble_eq_true rfl⟩, (hts _ kt_713), (hts _ kt_714)⟩ ⟨fun a U g mk q => ⟨q.1, PTm.calling q.2⟩, pg_recv hK hP hL_pe hq_497 (q := (RX14, TX14, 2)) rfl, fun U hU hWm => ⟨rfl, PTm.mk hU hWm hP hK hD hE hO⟩⟩ rfl rfl hl.1 rfl (lv_room (Nat.le_of_ble_eq_true rfl)) dX15_macroValue_294 ⟨by show _ + 0 ≤ 0; omega, by show _ + 0 ≤ 0; omega⟩) hS (fun q _ h => hFc q h) hFc (fun u t H1 locs ht hvm hw hB hz1 hk1 hS => ?_)
                    obtain ⟨F_512, hB1, hq_513, hq_514⟩ := hB
                    obtain ⟨hP, hD, hO, hR⟩ := QTm.back hB1 ht hFc hR (fun q h => by simp only [List.mem_cons, List.not_mem_nil, or_false] at h ⊢; omega)
                    have hF_515 : F_512 g1 = .inl (cs 17, 700, .inl fv) := (hB1.2.2.2 g1 (by rw [hT_g1]; simp only [List.mem_cons, List.not_mem_nil, or_false]; omega)).trans hF_499
                    have hF_516 : F_512 h0 = .inr (15, (.ref ta) :: (.int (nI zt)) :: (.int (nI zo)) :: (.int (nI ze)) :: (.ref ou) :: (.ref so) :: (.ref ad) :: (.ref na) :: (.ref va) :: (.ref lc) :: (.ref dm) :: (.int (nI fm)) :: (.int (nI sn)) :: (.ref tg) :: (.int v14_28) :: (.int v15_29) :: (.ref pe) :: (.int v17_30) :: (.int v18_31) :: (.int v19_32) :: (.int v20_33) :: (.int v21_34) :: (.int v22_35) :: (.ref ml) :: (.ref bg) :: (.ref co) :: (.ref sp) :: (.ref nb0) :: (.ref nb1) :: (.ref nb2) :: (.int (nI nf)) :: (.int (nI bd)) :: (.int (nI mm)) :: (.int v33_36) :: (.ref pl) :: (.ref se) :: (.ref ke) :: (.ref wi) :: (.ref hs) :: (.ref mo) :: (.ref po) :: (.ref nu) :: (.ref pr) :: (.ref sq) :: (.ref xa) :: (.ref sa) :: (.ref n64) :: (.ref m64) :: (.ref ex) :: (.ref wh) :: (.ref sd) :: (.ref tk) :: (.int v52_37) :: (.int v53_38) :: (.int v54_39) :: (.ref hd) :: (.ref ak) :: (.ref ho) :: (.ref ot) :: []) := (hB1.2.2.2 h0 (by rw [hT_h0]; simp)).trans hF_500
                    have hF_517 : F_512 lc = .inr (14, [.ref r_1, .int (nI zl)]) := (hB1.2.2.2 lc (by rw [ht_58]; simp)).trans hF_501
                    have hF_518 : F_512 r_1 = .inl (cs 17, 30, .inl fcl) := (hB1.2.2.2 r_1 (by rw [ht_60]; simp)).trans hF_502
                    have hF_519 : F_512 dm = .inr (14, [.ref r_2, .int (nI zm)]) := (hB1.2.2.2 dm (by rw [ht_63]; simp)).trans hF_503
                    have hF_520 : F_512 r_2 = .inl (cs 17, 60, .inl fcm) := (hB1.2.2.2 r_2 (by rw [ht_65]; simp)).trans hF_504
                    have hF_521 : F_512 dd = .inr (14, [.ref rd, .int (nI zd)]) := (hB1.2.2.2 dd (by rw [hT_dd]; simp only [List.mem_cons, List.not_mem_nil, or_false]; omega)).trans hF_505
                    have hF_522 : F_512 rd = .inl (cs 17, nd, .inl fcd) := (hB1.2.2.2 rd (by rw [ht_55]; simp only [List.mem_cons, List.not_mem_nil, or_false]; omega)).trans hF_506
                    have hF_523 : F_512 g2 = .inr (14, [.ref r2, .int (nI y)]) := (hB1.2.2.2 g2 (by rw [hT_g2]; simp only [List.mem_cons, List.not_mem_nil, or_false]; omega)).trans hF_507
                    have hF_524 : F_512 r2 = .inl (cs 17, 61, .inl fi) := (hB1.2.2.2 r2 (by rw [ht_50]; simp only [List.mem_cons, List.not_mem_nil, or_false]; omega)).trans hF_508
                    generalize H1 = H at hP hS ⊢
                    have hW_525 := src_one hW_509 (show 46 < 128 by omega)
                    refine lv_iinc (v := (sv (mq + 1))) (lv' := [(10, .int (sv (mq + 1))), (11, .int (nI (ocN (nI fm) (shv mq)))), (9, .int (trW ((TC fv z) (tt - 1)))), (8, .int (nI nn)), (7, .int 0), (6, .int (nI ((TC fv z) a))), (0, .ref h0), (1, .ref g1), (2, .int (nI a)), (3, .int (nI tt)), (4, .ref dd), (5, .ref g2)]) hx hb dX15_macroValue_297 hl (k := 1) rfl (sv_n mq hm4) (by decide) rfl (fun ls hl => ?_)
                    refine lv_goto (tgt := 196) hx hb dX15_macroValue_300 (by decide) ?_
                    refine W.widen (k := 0) (n := 0) (by omega) (by omega) ?_
                    exact ih_359 ((mq + 1), (zz2 + 3), (upd (upd (upd fz2 zz2 (nI (48 + (ocN (nI fm) (shv mq)) / 100))) (zz2 + 1) (nI (48 + (ocN (nI fm) (shv mq)) % 10))) (zz2 + 2) (nI 46)), (((W2 ++ [48 + (ocN (nI fm) (shv mq)) / 100]) ++ [48 + (ocN (nI fm) (shv mq)) % 10]) ++ [46])) F_512 (⟨by omega, ⟨hF_523, hF_524, hq_513, hq_514, hW_525⟩, Or.inl ⟨hl5, by rw [hw2]; show _ = qdP (nI fm) mq ++ (dgL (ocN (nI fm) (shv mq)) ++ (if mq < 3 then [46] else [])); unfold dgL; rw [if_neg hl100, if_pos hl10, if_pos hk33]; simp only [List.append_assoc, List.nil_append, List.append_nil]⟩⟩) (by show 4 - (mq + 1) < 4 - mq; omega) hO hR _ _ hP hD hS ls (lv_sub hl [0, 2, 3, 4, 5, 6, 7, 8, 9, 10, 11] rfl)
                ·
                  have hi_526 : 9 < (ocN (nI fm) (shv mq)) := Nat.not_le.mp (fun q => c_491 ((nI_leI (a := (ocN (nI fm) (shv mq))) (b := 9) (by omega) (by omega)).mpr q))
                  have hl10 : ¬ (ocN (nI fm) (shv mq)) < 10 := by omega
                  refine lv_aload_n hx hb dX15_macroValue_250 rfl (lv_at hl 6 rfl) ?_
                  refine pg_get (ci := 15) (v := .ref pe) (C := RX15) (T := TX15) (N := 59) hx hb hts it_15 hown hK hP hL_h0 hF_481 rfl 16 (by decide) (hts _ kt_1126) (fun _ h9 => h9) rfl dX15_macroValue_251 ?_
                  refine lv_bipush (v := 48) hx hb dX15_macroValue_254 (by decide) ?_
                  refine lv_iload hx hb dX15_macroValue_256 (lv_at hl 0 rfl) ?_
                  refine lv_bipush (v := 10) hx hb dX15_macroValue_258 (by decide) ?_
                  refine lv_idiv hx hb dX15_macroValue_260 (by decide) ?_
                  refine lv_topi (fun x_527 ex_527 => ?_)
                  obtain rfl : x_527 = (nI ((ocN (nI fm) (shv mq)) / 10)) := ex_527.trans (pk_div (d := 10) (by omega) (by omega) (by omega))
                  refine lv_bipush (v := 10) hx hb dX15_macroValue_261 (by decide) ?_
                  refine lv_irem hx hb dX15_macroValue_263 (by decide) ?_
                  refine lv_topi (fun x_528 ex_528 => ?_)
                  obtain rfl : x_528 = (nI ((ocN (nI fm) (shv mq)) / 10 % 10)) := ex_528.trans (pk_rem (a := (ocN (nI fm) (shv mq)) / 10) (d := 10) (by omega) (by omega) (by omega))
                  refine lv_iadd hx hb dX15_macroValue_264 ?_
                  refine lv_topi (fun x_529 ex_529 => ?_)
                  obtain rfl : x_529 = (nI (48 + (ocN (nI fm) (shv mq)) / 10 % 10)) := ex_529.trans (nI_add 48 ((ocN (nI fm) (shv mq)) / 10 % 10))
                  have hFc := pg_free hD hS hA
                  refine va_callv (va_runV (As := [.int (nI (48 + (ocN (nI fm) (shv mq)) / 10 % 10))]) (rest := []) ⟨hx, hb, hml, hown, hts⟩ (s_X14_add_8 l dC dI cs ty gm L H.size F_477 pe (ρ + 7) rp 100 (zz2 + 1) (48 + (ocN (nI fm) (shv mq)) / 10 % 10) (upd fz2 zz2 (nI (48 + (ocN (nI fm) (shv mq)) / 100))) hW hL_pe hT_pe hq_478 hq_479 (by omega) (by omega)) ⟨callB_of 1 hts (gi kt_711) rfl rfl rfl (hts _ kt_676) (hts _ kt_712) (by decide +kernel) ⟨Nat.le_of_ble_eq_true rfl, Nat.le_of_ble_eq_true rfl⟩, (hts _ kt_713), (hts _ kt_714)⟩ ⟨fun a U g mk q => ⟨q.1, PTm.calling q.2⟩, pg_recv hK hP hL_pe hq_478 (q := (RX14, TX14, 2)) rfl, fun U hU hWm => ⟨rfl, PTm.mk hU hWm hP hK hD hE hO⟩⟩ rfl rfl hl.1 rfl (lv_room (Nat.le_of_ble_eq_true rfl)) dX15_macroValue_265 ⟨by show _ + 0 ≤ 0; omega, by show _ + 0 ≤ 0; omega⟩) hS (fun q _ h => hFc q h) hFc (fun u t H1 locs ht hvm hw hB hz1 hk1 hS => ?_)
                  obtain ⟨F_531, hB1, hq_532, hq_533⟩ := hB
                  obtain ⟨hP, hD, hO, hR⟩ := QTm.back hB1 ht hFc hR (fun q h => by simp only [List.mem_cons, List.not_mem_nil, or_false] at h ⊢; omega)
                  have hF_534 : F_531 g1 = .inl (cs 17, 700, .inl fv) := (hB1.2.2.2 g1 (by rw [hT_g1]; simp only [List.mem_cons, List.not_mem_nil, or_false]; omega)).trans hF_480
                  have hF_535 : F_531 h0 = .inr (15, (.ref ta) :: (.int (nI zt)) :: (.int (nI zo)) :: (.int (nI ze)) :: (.ref ou) :: (.ref so) :: (.ref ad) :: (.ref na) :: (.ref va) :: (.ref lc) :: (.ref dm) :: (.int (nI fm)) :: (.int (nI sn)) :: (.ref tg) :: (.int v14_28) :: (.int v15_29) :: (.ref pe) :: (.int v17_30) :: (.int v18_31) :: (.int v19_32) :: (.int v20_33) :: (.int v21_34) :: (.int v22_35) :: (.ref ml) :: (.ref bg) :: (.ref co) :: (.ref sp) :: (.ref nb0) :: (.ref nb1) :: (.ref nb2) :: (.int (nI nf)) :: (.int (nI bd)) :: (.int (nI mm)) :: (.int v33_36) :: (.ref pl) :: (.ref se) :: (.ref ke) :: (.ref wi) :: (.ref hs) :: (.ref mo) :: (.ref po) :: (.ref nu) :: (.ref pr) :: (.ref sq) :: (.ref xa) :: (.ref sa) :: (.ref n64) :: (.ref m64) :: (.ref ex) :: (.ref wh) :: (.ref sd) :: (.ref tk) :: (.int v52_37) :: (.int v53_38) :: (.int v54_39) :: (.ref hd) :: (.ref ak) :: (.ref ho) :: (.ref ot) :: []) := (hB1.2.2.2 h0 (by rw [hT_h0]; simp)).trans hF_481
                  have hF_536 : F_531 lc = .inr (14, [.ref r_1, .int (nI zl)]) := (hB1.2.2.2 lc (by rw [ht_58]; simp)).trans hF_482
                  have hF_537 : F_531 r_1 = .inl (cs 17, 30, .inl fcl) := (hB1.2.2.2 r_1 (by rw [ht_60]; simp)).trans hF_483
                  have hF_538 : F_531 dm = .inr (14, [.ref r_2, .int (nI zm)]) := (hB1.2.2.2 dm (by rw [ht_63]; simp)).trans hF_484
                  have hF_539 : F_531 r_2 = .inl (cs 17, 60, .inl fcm) := (hB1.2.2.2 r_2 (by rw [ht_65]; simp)).trans hF_485
                  have hF_540 : F_531 dd = .inr (14, [.ref rd, .int (nI zd)]) := (hB1.2.2.2 dd (by rw [hT_dd]; simp only [List.mem_cons, List.not_mem_nil, or_false]; omega)).trans hF_486
                  have hF_541 : F_531 rd = .inl (cs 17, nd, .inl fcd) := (hB1.2.2.2 rd (by rw [ht_55]; simp only [List.mem_cons, List.not_mem_nil, or_false]; omega)).trans hF_487
                  have hF_542 : F_531 g2 = .inr (14, [.ref r2, .int (nI y)]) := (hB1.2.2.2 g2 (by rw [hT_g2]; simp only [List.mem_cons, List.not_mem_nil, or_false]; omega)).trans hF_488
                  have hF_543 : F_531 r2 = .inl (cs 17, 61, .inl fi) := (hB1.2.2.2 r2 (by rw [ht_50]; simp only [List.mem_cons, List.not_mem_nil, or_false]; omega)).trans hF_489
                  generalize H1 = H at hP hS ⊢
                  have hW_544 := src_one hW_490 (show 48 + (ocN (nI fm) (shv mq)) / 10 % 10 < 128 by omega)
                  refine lv_aload_n hx hb dX15_macroValue_268 rfl (lv_at hl 6 rfl) ?_
                  refine pg_get (ci := 15) (v := .ref pe) (C := RX15) (T := TX15) (N := 59) hx hb hts it_15 hown hK hP hL_h0 hF_535 rfl 16 (by decide) (hts _ kt_1126) (fun _ h9 => h9) rfl dX15_macroValue_269 ?_
                  refine lv_bipush (v := 48) hx hb dX15_macroValue_272 (by decide) ?_
                  refine lv_iload hx hb dX15_macroValue_274 (lv_at hl 0 rfl) ?_
                  refine lv_bipush (v := 10) hx hb dX15_macroValue_276 (by decide) ?_
                  refine lv_irem hx hb dX15_macroValue_278 (by decide) ?_
                  refine lv_topi (fun x_545 ex_545 => ?_)
                  obtain rfl : x_545 = (nI ((ocN (nI fm) (shv mq)) % 10)) := ex_545.trans (pk_rem (a := (ocN (nI fm) (shv mq))) (d := 10) (by omega) (by omega) (by omega))
                  refine lv_iadd hx hb dX15_macroValue_279 ?_
                  refine lv_topi (fun x_546 ex_546 => ?_)
                  obtain rfl : x_546 = (nI (48 + (ocN (nI fm) (shv mq)) % 10)) := ex_546.trans (nI_add 48 ((ocN (nI fm) (shv mq)) % 10))
                  have hFc := pg_free hD hS hA
                  refine va_callv (va_runV (As := [.int (nI (48 + (ocN (nI fm) (shv mq)) % 10))]) (rest := []) ⟨hx, hb, hml, hown, hts⟩ (s_X14_add_8 l dC dI cs ty gm L H.size F_531 pe (ρ + 7) rp 100 (zz2 + 2) (48 + (ocN (nI fm) (shv mq)) % 10) (upd (upd fz2 zz2 (nI (48 + (ocN (nI fm) (shv mq)) / 100))) (zz2 + 1) (nI (48 + (ocN (nI fm) (shv mq)) / 10 % 10))) hW hL_pe hT_pe hq_532 hq_533 (by omega) (by omega)) ⟨callB_of 1 hts (gi kt_711) rfl rfl rfl (hts _ kt_676) (hts _ kt_712) (by decide +kernel) ⟨Nat.le_of_ble_eq_true rfl, Nat.le_of_ble_eq_true rfl⟩, (hts _ kt_713), (hts _ kt_714)⟩ ⟨fun a U g mk q => ⟨q.1, PTm.calling q.2⟩, pg_recv hK hP hL_pe hq_532 (q := (RX14, TX14, 2)) rfl, fun U hU hWm => ⟨rfl, PTm.mk hU hWm hP hK hD hE hO⟩⟩ rfl rfl hl.1 rfl (lv_room (Nat.le_of_ble_eq_true rfl)) dX15_macroValue_280 ⟨by show _ + 0 ≤ 0; omega, by show _ + 0 ≤ 0; omega⟩) hS (fun q _ h => hFc q h) hFc (fun u t H1 locs ht hvm hw hB hz1 hk1 hS => ?_)
                  obtain ⟨F_548, hB1, hq_549, hq_550⟩ := hB
                  obtain ⟨hP, hD, hO, hR⟩ := QTm.back hB1 ht hFc hR (fun q h => by simp only [List.mem_cons, List.not_mem_nil, or_false] at h ⊢; omega)
                  have hF_551 : F_548 g1 = .inl (cs 17, 700, .inl fv) := (hB1.2.2.2 g1 (by rw [hT_g1]; simp only [List.mem_cons, List.not_mem_nil, or_false]; omega)).trans hF_534
                  have hF_552 : F_548 h0 = .inr (15, (.ref ta) :: (.int (nI zt)) :: (.int (nI zo)) :: (.int (nI ze)) :: (.ref ou) :: (.ref so) :: (.ref ad) :: (.ref na) :: (.ref va) :: (.ref lc) :: (.ref dm) :: (.int (nI fm)) :: (.int (nI sn)) :: (.ref tg) :: (.int v14_28) :: (.int v15_29) :: (.ref pe) :: (.int v17_30) :: (.int v18_31) :: (.int v19_32) :: (.int v20_33) :: (.int v21_34) :: (.int v22_35) :: (.ref ml) :: (.ref bg) :: (.ref co) :: (.ref sp) :: (.ref nb0) :: (.ref nb1) :: (.ref nb2) :: (.int (nI nf)) :: (.int (nI bd)) :: (.int (nI mm)) :: (.int v33_36) :: (.ref pl) :: (.ref se) :: (.ref ke) :: (.ref wi) :: (.ref hs) :: (.ref mo) :: (.ref po) :: (.ref nu) :: (.ref pr) :: (.ref sq) :: (.ref xa) :: (.ref sa) :: (.ref n64) :: (.ref m64) :: (.ref ex) :: (.ref wh) :: (.ref sd) :: (.ref tk) :: (.int v52_37) :: (.int v53_38) :: (.int v54_39) :: (.ref hd) :: (.ref ak) :: (.ref ho) :: (.ref ot) :: []) := (hB1.2.2.2 h0 (by rw [hT_h0]; simp)).trans hF_535
                  have hF_553 : F_548 lc = .inr (14, [.ref r_1, .int (nI zl)]) := (hB1.2.2.2 lc (by rw [ht_58]; simp)).trans hF_536
                  have hF_554 : F_548 r_1 = .inl (cs 17, 30, .inl fcl) := (hB1.2.2.2 r_1 (by rw [ht_60]; simp)).trans hF_537
                  have hF_555 : F_548 dm = .inr (14, [.ref r_2, .int (nI zm)]) := (hB1.2.2.2 dm (by rw [ht_63]; simp)).trans hF_538
                  have hF_556 : F_548 r_2 = .inl (cs 17, 60, .inl fcm) := (hB1.2.2.2 r_2 (by rw [ht_65]; simp)).trans hF_539
                  have hF_557 : F_548 dd = .inr (14, [.ref rd, .int (nI zd)]) := (hB1.2.2.2 dd (by rw [hT_dd]; simp only [List.mem_cons, List.not_mem_nil, or_false]; omega)).trans hF_540
                  have hF_558 : F_548 rd = .inl (cs 17, nd, .inl fcd) := (hB1.2.2.2 rd (by rw [ht_55]; simp only [List.mem_cons, List.not_mem_nil, or_false]; omega)).trans hF_541
                  have hF_559 : F_548 g2 = .inr (14, [.ref r2, .int (nI y)]) := (hB1.2.2.2 g2 (by rw [hT_g2]; simp only [List.mem_cons, List.not_mem_nil, or_false]; omega)).trans hF_542
                  have hF_560 : F_548 r2 = .inl (cs 17, 61, .inl fi) := (hB1.2.2.2 r2 (by rw [ht_50]; simp only [List.mem_cons, List.not_mem_nil, or_false]; omega)).trans hF_543
                  generalize H1 = H at hP hS ⊢
                  have hW_561 := src_one hW_544 (show 48 + (ocN (nI fm) (shv mq)) % 10 < 128 by omega)
                  refine lv_iload hx hb dX15_macroValue_283 (lv_at hl 1 rfl) ?_
                  refine lv_if_le (tgt := 297) hx hb dX15_macroValue_285 (by decide) (fun c_562 => ?_) (fun c_562 => ?_)
                  ·
                    have hk33 : ¬ mq < 3 := by have h9 := c_562; rw [sv_shv mq (by omega)] at h9; exact (shv_le (by omega)).mp h9
                    refine lv_iinc (v := (sv (mq + 1))) (lv' := [(10, .int (sv (mq + 1))), (11, .int (nI (ocN (nI fm) (shv mq)))), (9, .int (trW ((TC fv z) (tt - 1)))), (8, .int (nI nn)), (7, .int 0), (6, .int (nI ((TC fv z) a))), (0, .ref h0), (1, .ref g1), (2, .int (nI a)), (3, .int (nI tt)), (4, .ref dd), (5, .ref g2)]) hx hb dX15_macroValue_297 hl (k := 1) rfl (sv_n mq hm4) (by decide) rfl (fun ls hl => ?_)
                    refine lv_goto (tgt := 196) hx hb dX15_macroValue_300 (by decide) ?_
                    refine W.widen (k := 0) (n := 0) (by omega) (by omega) ?_
                    exact ih_359 ((mq + 1), (zz2 + 3), (upd (upd (upd fz2 zz2 (nI (48 + (ocN (nI fm) (shv mq)) / 100))) (zz2 + 1) (nI (48 + (ocN (nI fm) (shv mq)) / 10 % 10))) (zz2 + 2) (nI (48 + (ocN (nI fm) (shv mq)) % 10))), (((W2 ++ [48 + (ocN (nI fm) (shv mq)) / 100]) ++ [48 + (ocN (nI fm) (shv mq)) / 10 % 10]) ++ [48 + (ocN (nI fm) (shv mq)) % 10])) F_548 (⟨by omega, ⟨hF_559, hF_560, hq_549, hq_550, hW_561⟩, Or.inl ⟨hl5, by rw [hw2]; show _ = qdP (nI fm) mq ++ (dgL (ocN (nI fm) (shv mq)) ++ (if mq < 3 then [46] else [])); unfold dgL; rw [if_neg hl100, if_neg hl10, if_neg hk33]; simp only [List.append_assoc, List.nil_append, List.append_nil]⟩⟩) (by show 4 - (mq + 1) < 4 - mq; omega) hO hR _ _ hP hD hS ls (lv_sub hl [0, 2, 3, 4, 5, 6, 7, 8, 9, 10, 11] rfl)
                  ·
                    have hk33 : mq < 3 := Classical.byContradiction (fun q => c_562 (by rw [sv_shv mq (by omega)]; exact (shv_le (by omega)).mpr q))
                    refine lv_aload_n hx hb dX15_macroValue_288 rfl (lv_at hl 6 rfl) ?_
                    refine pg_get (ci := 15) (v := .ref pe) (C := RX15) (T := TX15) (N := 59) hx hb hts it_15 hown hK hP hL_h0 hF_552 rfl 16 (by decide) (hts _ kt_1126) (fun _ h9 => h9) rfl dX15_macroValue_289 ?_
                    refine lv_bipush (v := 46) hx hb dX15_macroValue_292 (by decide) ?_
                    refine W.eq (g2 := F0 m 294 ls [.int (nI 46), .ref pe]) rfl ?_
                    have hFc := pg_free hD hS hA
                    refine va_callv (va_runV (As := [.int (nI 46)]) (rest := []) ⟨hx, hb, hml, hown, hts⟩ (s_X14_add_8 l dC dI cs ty gm L H.size F_548 pe (ρ + 7) rp 100 (zz2 + 3) 46 (upd (upd (upd fz2 zz2 (nI (48 + (ocN (nI fm) (shv mq)) / 100))) (zz2 + 1) (nI (48 + (ocN (nI fm) (shv mq)) / 10 % 10))) (zz2 + 2) (nI (48 + (ocN (nI fm) (shv mq)) % 10))) hW hL_pe hT_pe hq_549 hq_550 (by omega) (by omega)) ⟨callB_of 1 hts (gi kt_711) rfl rfl rfl (hts _ kt_676) (hts _ kt_712) (by decide +kernel) ⟨Nat.le_of_ble_eq_true rfl, Nat.le_of_ble_eq_true rfl⟩, (hts _ kt_713), (hts _ kt_714)⟩ ⟨fun a U g mk q => ⟨q.1, PTm.calling q.2⟩, pg_recv hK hP hL_pe hq_549 (q := (RX14, TX14, 2)) rfl, fun U hU hWm => ⟨rfl, PTm.mk hU hWm hP hK hD hE hO⟩⟩ rfl rfl hl.1 rfl (lv_room (Nat.le_of_ble_eq_true rfl)) dX15_macroValue_294 ⟨by show _ + 0 ≤ 0; omega, by show _ + 0 ≤ 0; omega⟩) hS (fun q _ h => hFc q h) hFc (fun u t H1 locs ht hvm hw hB hz1 hk1 hS => ?_)
                    obtain ⟨F_564, hB1, hq_565, hq_566⟩ := hB
                    obtain ⟨hP, hD, hO, hR⟩ := QTm.back hB1 ht hFc hR (fun q h => by simp only [List.mem_cons, List.not_mem_nil, or_false] at h ⊢; omega)
                    have hF_567 : F_564 g1 = .inl (cs 17, 700, .inl fv) := (hB1.2.2.2 g1 (by rw [hT_g1]; simp only [List.mem_cons, List.not_mem_nil, or_false]; omega)).trans hF_551
                    have hF_568 : F_564 h0 = .inr (15, (.ref ta) :: (.int (nI zt)) :: (.int (nI zo)) :: (.int (nI ze)) :: (.ref ou) :: (.ref so) :: (.ref ad) :: (.ref na) :: (.ref va) :: (.ref lc) :: (.ref dm) :: (.int (nI fm)) :: (.int (nI sn)) :: (.ref tg) :: (.int v14_28) :: (.int v15_29) :: (.ref pe) :: (.int v17_30) :: (.int v18_31) :: (.int v19_32) :: (.int v20_33) :: (.int v21_34) :: (.int v22_35) :: (.ref ml) :: (.ref bg) :: (.ref co) :: (.ref sp) :: (.ref nb0) :: (.ref nb1) :: (.ref nb2) :: (.int (nI nf)) :: (.int (nI bd)) :: (.int (nI mm)) :: (.int v33_36) :: (.ref pl) :: (.ref se) :: (.ref ke) :: (.ref wi) :: (.ref hs) :: (.ref mo) :: (.ref po) :: (.ref nu) :: (.ref pr) :: (.ref sq) :: (.ref xa) :: (.ref sa) :: (.ref n64) :: (.ref m64) :: (.ref ex) :: (.ref wh) :: (.ref sd) :: (.ref tk) :: (.int v52_37) :: (.int v53_38) :: (.int v54_39) :: (.ref hd) :: (.ref ak) :: (.ref ho) :: (.ref ot) :: []) := (hB1.2.2.2 h0 (by rw [hT_h0]; simp)).trans hF_552
                    have hF_569 : F_564 lc = .inr (14, [.ref r_1, .int (nI zl)]) := (hB1.2.2.2 lc (by rw [ht_58]; simp)).trans hF_553
                    have hF_570 : F_564 r_1 = .inl (cs 17, 30, .inl fcl) := (hB1.2.2.2 r_1 (by rw [ht_60]; simp)).trans hF_554
                    have hF_571 : F_564 dm = .inr (14, [.ref r_2, .int (nI zm)]) := (hB1.2.2.2 dm (by rw [ht_63]; simp)).trans hF_555
                    have hF_572 : F_564 r_2 = .inl (cs 17, 60, .inl fcm) := (hB1.2.2.2 r_2 (by rw [ht_65]; simp)).trans hF_556
                    have hF_573 : F_564 dd = .inr (14, [.ref rd, .int (nI zd)]) := (hB1.2.2.2 dd (by rw [hT_dd]; simp only [List.mem_cons, List.not_mem_nil, or_false]; omega)).trans hF_557
                    have hF_574 : F_564 rd = .inl (cs 17, nd, .inl fcd) := (hB1.2.2.2 rd (by rw [ht_55]; simp only [List.mem_cons, List.not_mem_nil, or_false]; omega)).trans hF_558
                    have hF_575 : F_564 g2 = .inr (14, [.ref r2, .int (nI y)]) := (hB1.2.2.2 g2 (by rw [hT_g2]; simp only [List.mem_cons, List.not_mem_nil, or_false]; omega)).trans hF_559
                    have hF_576 : F_564 r2 = .inl (cs 17, 61, .inl fi) := (hB1.2.2.2 r2 (by rw [ht_50]; simp only [List.mem_cons, List.not_mem_nil, or_false]; omega)).trans hF_560
                    generalize H1 = H at hP hS ⊢
                    have hW_577 := src_one hW_561 (show 46 < 128 by omega)
                    refine lv_iinc (v := (sv (mq + 1))) (lv' := [(10, .int (sv (mq + 1))), (11, .int (nI (ocN (nI fm) (shv mq)))), (9, .int (trW ((TC fv z) (tt - 1)))), (8, .int (nI nn)), (7, .int 0), (6, .int (nI ((TC fv z) a))), (0, .ref h0), (1, .ref g1), (2, .int (nI a)), (3, .int (nI tt)), (4, .ref dd), (5, .ref g2)]) hx hb dX15_macroValue_297 hl (k := 1) rfl (sv_n mq hm4) (by decide) rfl (fun ls hl => ?_)
                    refine lv_goto (tgt := 196) hx hb dX15_macroValue_300 (by decide) ?_
                    refine W.widen (k := 0) (n := 0) (by omega) (by omega) ?_
                    exact ih_359 ((mq + 1), (zz2 + 4), (upd (upd (upd (upd fz2 zz2 (nI (48 + (ocN (nI fm) (shv mq)) / 100))) (zz2 + 1) (nI (48 + (ocN (nI fm) (shv mq)) / 10 % 10))) (zz2 + 2) (nI (48 + (ocN (nI fm) (shv mq)) % 10))) (zz2 + 3) (nI 46)), ((((W2 ++ [48 + (ocN (nI fm) (shv mq)) / 100]) ++ [48 + (ocN (nI fm) (shv mq)) / 10 % 10]) ++ [48 + (ocN (nI fm) (shv mq)) % 10]) ++ [46])) F_564 (⟨by omega, ⟨hF_575, hF_576, hq_565, hq_566, hW_577⟩, Or.inl ⟨hl5, by rw [hw2]; show _ = qdP (nI fm) mq ++ (dgL (ocN (nI fm) (shv mq)) ++ (if mq < 3 then [46] else [])); unfold dgL; rw [if_neg hl100, if_neg hl10, if_pos hk33]; simp only [List.append_assoc, List.nil_append, List.append_nil]⟩⟩) (by show 4 - (mq + 1) < 4 - mq; omega) hO hR _ _ hP hD hS ls (lv_sub hl [0, 2, 3, 4, 5, 6, 7, 8, 9, 10, 11] rfl)
      ·
        obtain ⟨hq_578, hq_579⟩ := hW.octs hi_46 ht_47
        obtain ⟨f_580, hF_581, hq_582⟩ := hO.octs hi_46 ht_47
        rcases hmL with hlt | hlt | hlt | hlt | hlt
        ·
          refine lv_iload hx hb dX15_macroValue_79 (lv_at hl 4 rfl) ?_
          refine lv_bipush (v := 115) hx hb dX15_macroValue_81 (by decide) ?_
          refine lv_icmp_eq (tgt := 93) hx hb dX15_macroValue_83 (by decide) (fun c_583 => ?_) (fun c_583 => absurd ((by rw [hlt]; rfl)) c_583)
          refine lv_aload_n hx hb dX15_macroValue_93 rfl (lv_at hl 5 rfl) ?_
          refine pg_get (ci := 15) (v := .ref pe) (C := RX15) (T := TX15) (N := 59) hx hb hts it_15 hown hK hP hL_h0 hF_116 rfl 16 (by decide) (hts _ kt_1126) (fun _ h9 => h9) rfl dX15_macroValue_94 ?_
          refine lv_aload_n hx hb dX15_macroValue_97 rfl (lv_at hl 5 rfl) ?_
          refine pg_get (ci := 15) (v := .ref lc) (C := RX15) (T := TX15) (N := 59) hx hb hts it_15 hown hK hP hL_h0 hF_116 rfl 9 (by decide) (hts _ kt_1123) (fun _ h9 => h9) rfl dX15_macroValue_98 ?_
          refine pg_get (ci := 14) (v := .ref r_1) (C := RX14) (T := TX14) (N := 2) hx hb hts it_14 hown hK hP hi_57 hF_117 rfl 0 (by decide) (hts _ kt_710) (fun _ h9 => h9) rfl dX15_macroValue_101 ?_
          refine lv_iconst (v := 0) hx hb dX15_macroValue_104 (by decide) ?_
          refine lv_aload_n hx hb dX15_macroValue_105 rfl (lv_at hl 5 rfl) ?_
          refine pg_get (ci := 15) (v := .ref lc) (C := RX15) (T := TX15) (N := 59) hx hb hts it_15 hown hK hP hL_h0 hF_116 rfl 9 (by decide) (hts _ kt_1123) (fun _ h9 => h9) rfl dX15_macroValue_106 ?_
          refine pg_get (ci := 14) (v := .int (nI zl)) (C := RX14) (T := TX14) (N := 2) hx hb hts it_14 hown hK hP hi_57 hF_117 rfl 1 (by decide) (hts _ kt_709) (fun _ h9 => h9) rfl dX15_macroValue_109 ?_
          obtain ⟨hq_584, hq_585⟩ := hW.octs hi_59 ht_60
          have hFc := pg_free hD hS hA
          refine va_callv (va_runV (As := [.ref r_1, .int 0, .int (nI zl)]) (rest := []) ⟨hx, hb, hml, hown, hts⟩ (s_X14_add__8 l dC dI cs ty gm L H.size F_112 pe (ρ + 7) rp 100 r_1 (ρ + 5) 30 0 zl f_580 fcl LC ([]) hW hL_pe hT_pe hi_59 ht_60 hF_114 hF_581 hF_118 (by omega) (by first | omega | (have h9 := (src_nil).1; simp only [List.length_append, List.length_nil, List.length_cons] at h9; omega)) (by omega) (src_nil) (hxl3)) ⟨callB_of 3 hts (gi kt_675) rfl rfl rfl (hts _ kt_676) (hts _ kt_956) (by decide +kernel) ⟨Nat.le_of_ble_eq_true rfl, Nat.le_of_ble_eq_true rfl⟩, (hts _ kt_678), (hts _ kt_679)⟩ ⟨fun a U g mk q => ⟨q.1, PTm.calling q.2⟩, pg_recv hK hP hL_pe hF_114 (q := (RX14, TX14, 2)) rfl, fun U hU hWm => ⟨rfl, PTm.mk hU hWm hP hK hD hE hO⟩⟩ rfl rfl hl.1 rfl (lv_room (Nat.le_of_ble_eq_true rfl)) dX15_macroValue_112 ⟨by show _ + 0 ≤ 0; omega, by show _ + 0 ≤ 0; omega⟩) hS (fun q _ h => hFc q h) hFc (fun u t H1 locs ht hvm hw hB hz1 hk1 hS => ?_)
          obtain ⟨F_587, f2_588, hB1, hq_589, hq_590, hq_591⟩ := hB
          obtain ⟨hP, hD, hO, hR⟩ := QTm.back hB1 ht hFc hR (fun q h => by simp only [List.mem_cons, List.not_mem_nil, or_false] at h ⊢; omega)
          have hF_592 : F_587 g1 = .inl (cs 17, 700, .inl fv) := (hB1.2.2.2 g1 (by rw [hT_g1]; simp only [List.mem_cons, List.not_mem_nil, or_false]; omega)).trans hF_115
          have hF_593 : F_587 h0 = .inr (15, (.ref ta) :: (.int (nI zt)) :: (.int (nI zo)) :: (.int (nI ze)) :: (.ref ou) :: (.ref so) :: (.ref ad) :: (.ref na) :: (.ref va) :: (.ref lc) :: (.ref dm) :: (.int (nI fm)) :: (.int (nI sn)) :: (.ref tg) :: (.int v14_28) :: (.int v15_29) :: (.ref pe) :: (.int v17_30) :: (.int v18_31) :: (.int v19_32) :: (.int v20_33) :: (.int v21_34) :: (.int v22_35) :: (.ref ml) :: (.ref bg) :: (.ref co) :: (.ref sp) :: (.ref nb0) :: (.ref nb1) :: (.ref nb2) :: (.int (nI nf)) :: (.int (nI bd)) :: (.int (nI mm)) :: (.int v33_36) :: (.ref pl) :: (.ref se) :: (.ref ke) :: (.ref wi) :: (.ref hs) :: (.ref mo) :: (.ref po) :: (.ref nu) :: (.ref pr) :: (.ref sq) :: (.ref xa) :: (.ref sa) :: (.ref n64) :: (.ref m64) :: (.ref ex) :: (.ref wh) :: (.ref sd) :: (.ref tk) :: (.int v52_37) :: (.int v53_38) :: (.int v54_39) :: (.ref hd) :: (.ref ak) :: (.ref ho) :: (.ref ot) :: []) := (hB1.2.2.2 h0 (by rw [hT_h0]; simp)).trans hF_116
          have hF_594 : F_587 lc = .inr (14, [.ref r_1, .int (nI zl)]) := (hB1.2.2.2 lc (by rw [ht_58]; simp)).trans hF_117
          have hF_595 : F_587 r_1 = .inl (cs 17, 30, .inl fcl) := (hB1.2.2.2 r_1 (by rw [ht_60]; simp)).trans hF_118
          have hF_596 : F_587 dm = .inr (14, [.ref r_2, .int (nI zm)]) := (hB1.2.2.2 dm (by rw [ht_63]; simp)).trans hF_119
          have hF_597 : F_587 r_2 = .inl (cs 17, 60, .inl fcm) := (hB1.2.2.2 r_2 (by rw [ht_65]; simp)).trans hF_120
          have hF_598 : F_587 dd = .inr (14, [.ref rd, .int (nI zd)]) := (hB1.2.2.2 dd (by rw [hT_dd]; simp only [List.mem_cons, List.not_mem_nil, or_false]; omega)).trans hF_121
          have hF_599 : F_587 rd = .inl (cs 17, nd, .inl fcd) := (hB1.2.2.2 rd (by rw [ht_55]; simp only [List.mem_cons, List.not_mem_nil, or_false]; omega)).trans hF_122
          have hF_600 : F_587 g2 = .inr (14, [.ref r2, .int (nI y)]) := (hB1.2.2.2 g2 (by rw [hT_g2]; simp only [List.mem_cons, List.not_mem_nil, or_false]; omega)).trans hF_123
          have hF_601 : F_587 r2 = .inl (cs 17, 61, .inl fi) := (hB1.2.2.2 r2 (by rw [ht_50]; simp only [List.mem_cons, List.not_mem_nil, or_false]; omega)).trans hF_124
          generalize H1 = H at hP hS ⊢
          refine lv_iload hx hb dX15_macroValue_115 (lv_at hl 4 rfl) ?_
          refine lv_bipush (v := 115) hx hb dX15_macroValue_117 (by decide) ?_
          refine lv_icmp_ne (tgt := 131) hx hb dX15_macroValue_119 (by decide) (fun c_602 => absurd ((by rw [hlt]; rfl)) c_602) (fun c_602 => ?_)
          refine lv_aload_n hx hb dX15_macroValue_122 rfl (lv_at hl 5 rfl) ?_
          refine pg_get (ci := 15) (v := .ref pe) (C := RX15) (T := TX15) (N := 59) hx hb hts it_15 hown hK hP hL_h0 hF_593 rfl 16 (by decide) (hts _ kt_1126) (fun _ h9 => h9) rfl dX15_macroValue_123 ?_
          refine lv_bipush (v := 64) hx hb dX15_macroValue_126 (by decide) ?_
          refine W.eq (g2 := F0 m 128 ls [.int (nI 64), .ref pe]) rfl ?_
          have hFc := pg_free hD hS hA
          refine va_callv (va_runV (As := [.int (nI 64)]) (rest := []) ⟨hx, hb, hml, hown, hts⟩ (s_X14_add_8 l dC dI cs ty gm L H.size F_587 pe (ρ + 7) rp 100 (0 + zl) 64 f2_588 hW hL_pe hT_pe hq_589 hq_590 (by have h9 := (hq_591).1; omega) (by omega)) ⟨callB_of 1 hts (gi kt_711) rfl rfl rfl (hts _ kt_676) (hts _ kt_712) (by decide +kernel) ⟨Nat.le_of_ble_eq_true rfl, Nat.le_of_ble_eq_true rfl⟩, (hts _ kt_713), (hts _ kt_714)⟩ ⟨fun a U g mk q => ⟨q.1, PTm.calling q.2⟩, pg_recv hK hP hL_pe hq_589 (q := (RX14, TX14, 2)) rfl, fun U hU hWm => ⟨rfl, PTm.mk hU hWm hP hK hD hE hO⟩⟩ rfl rfl hl.1 rfl (lv_room (Nat.le_of_ble_eq_true rfl)) dX15_macroValue_128 ⟨by show _ + 0 ≤ 0; omega, by show _ + 0 ≤ 0; omega⟩) hS (fun q _ h => hFc q h) hFc (fun u t H1 locs ht hvm hw hB hz1 hk1 hS => ?_)
          obtain ⟨F_604, hB1, hq_605, hq_606⟩ := hB
          obtain ⟨hP, hD, hO, hR⟩ := QTm.back hB1 ht hFc hR (fun q h => by simp only [List.mem_cons, List.not_mem_nil, or_false] at h ⊢; omega)
          have hF_607 : F_604 g1 = .inl (cs 17, 700, .inl fv) := (hB1.2.2.2 g1 (by rw [hT_g1]; simp only [List.mem_cons, List.not_mem_nil, or_false]; omega)).trans hF_592
          have hF_608 : F_604 h0 = .inr (15, (.ref ta) :: (.int (nI zt)) :: (.int (nI zo)) :: (.int (nI ze)) :: (.ref ou) :: (.ref so) :: (.ref ad) :: (.ref na) :: (.ref va) :: (.ref lc) :: (.ref dm) :: (.int (nI fm)) :: (.int (nI sn)) :: (.ref tg) :: (.int v14_28) :: (.int v15_29) :: (.ref pe) :: (.int v17_30) :: (.int v18_31) :: (.int v19_32) :: (.int v20_33) :: (.int v21_34) :: (.int v22_35) :: (.ref ml) :: (.ref bg) :: (.ref co) :: (.ref sp) :: (.ref nb0) :: (.ref nb1) :: (.ref nb2) :: (.int (nI nf)) :: (.int (nI bd)) :: (.int (nI mm)) :: (.int v33_36) :: (.ref pl) :: (.ref se) :: (.ref ke) :: (.ref wi) :: (.ref hs) :: (.ref mo) :: (.ref po) :: (.ref nu) :: (.ref pr) :: (.ref sq) :: (.ref xa) :: (.ref sa) :: (.ref n64) :: (.ref m64) :: (.ref ex) :: (.ref wh) :: (.ref sd) :: (.ref tk) :: (.int v52_37) :: (.int v53_38) :: (.int v54_39) :: (.ref hd) :: (.ref ak) :: (.ref ho) :: (.ref ot) :: []) := (hB1.2.2.2 h0 (by rw [hT_h0]; simp)).trans hF_593
          have hF_609 : F_604 lc = .inr (14, [.ref r_1, .int (nI zl)]) := (hB1.2.2.2 lc (by rw [ht_58]; simp)).trans hF_594
          have hF_610 : F_604 r_1 = .inl (cs 17, 30, .inl fcl) := (hB1.2.2.2 r_1 (by rw [ht_60]; simp)).trans hF_595
          have hF_611 : F_604 dm = .inr (14, [.ref r_2, .int (nI zm)]) := (hB1.2.2.2 dm (by rw [ht_63]; simp)).trans hF_596
          have hF_612 : F_604 r_2 = .inl (cs 17, 60, .inl fcm) := (hB1.2.2.2 r_2 (by rw [ht_65]; simp)).trans hF_597
          have hF_613 : F_604 dd = .inr (14, [.ref rd, .int (nI zd)]) := (hB1.2.2.2 dd (by rw [hT_dd]; simp only [List.mem_cons, List.not_mem_nil, or_false]; omega)).trans hF_598
          have hF_614 : F_604 rd = .inl (cs 17, nd, .inl fcd) := (hB1.2.2.2 rd (by rw [ht_55]; simp only [List.mem_cons, List.not_mem_nil, or_false]; omega)).trans hF_599
          have hF_615 : F_604 g2 = .inr (14, [.ref r2, .int (nI y)]) := (hB1.2.2.2 g2 (by rw [hT_g2]; simp only [List.mem_cons, List.not_mem_nil, or_false]; omega)).trans hF_600
          have hF_616 : F_604 r2 = .inl (cs 17, 61, .inl fi) := (hB1.2.2.2 r2 (by rw [ht_50]; simp only [List.mem_cons, List.not_mem_nil, or_false]; omega)).trans hF_601
          generalize H1 = H at hP hS ⊢
          have hW_617 := src_one hq_591 (show 64 < 128 by omega)
          refine lv_iload hx hb dX15_macroValue_131 (lv_at hl 4 rfl) ?_
          refine lv_bipush (v := 115) hx hb dX15_macroValue_133 (by decide) ?_
          refine lv_icmp_eq (tgt := 145) hx hb dX15_macroValue_135 (by decide) (fun c_618 => ?_) (fun c_618 => absurd ((by rw [hlt]; rfl)) c_618)
          refine lv_aload_n hx hb dX15_macroValue_145 rfl (lv_at hl 5 rfl) ?_
          refine pg_get (ci := 15) (v := .ref pe) (C := RX15) (T := TX15) (N := 59) hx hb hts it_15 hown hK hP hL_h0 hF_608 rfl 16 (by decide) (hts _ kt_1126) (fun _ h9 => h9) rfl dX15_macroValue_146 ?_
          refine lv_aload_n hx hb dX15_macroValue_149 rfl (lv_at hl 5 rfl) ?_
          refine pg_get (ci := 15) (v := .ref dm) (C := RX15) (T := TX15) (N := 59) hx hb hts it_15 hown hK hP hL_h0 hF_608 rfl 10 (by decide) (hts _ kt_1124) (fun _ h9 => h9) rfl dX15_macroValue_150 ?_
          refine pg_get (ci := 14) (v := .ref r_2) (C := RX14) (T := TX14) (N := 2) hx hb hts it_14 hown hK hP hi_62 hF_611 rfl 0 (by decide) (hts _ kt_710) (fun _ h9 => h9) rfl dX15_macroValue_153 ?_
          refine lv_iconst (v := 0) hx hb dX15_macroValue_156 (by decide) ?_
          refine lv_aload_n hx hb dX15_macroValue_157 rfl (lv_at hl 5 rfl) ?_
          refine pg_get (ci := 15) (v := .ref dm) (C := RX15) (T := TX15) (N := 59) hx hb hts it_15 hown hK hP hL_h0 hF_608 rfl 10 (by decide) (hts _ kt_1124) (fun _ h9 => h9) rfl dX15_macroValue_158 ?_
          refine pg_get (ci := 14) (v := .int (nI zm)) (C := RX14) (T := TX14) (N := 2) hx hb hts it_14 hown hK hP hi_62 hF_611 rfl 1 (by decide) (hts _ kt_709) (fun _ h9 => h9) rfl dX15_macroValue_161 ?_
          obtain ⟨hq_619, hq_620⟩ := hW.octs hi_64 ht_65
          have hFc := pg_free hD hS hA
          refine va_callv (va_runV (As := [.ref r_2, .int 0, .int (nI zm)]) (rest := []) ⟨hx, hb, hml, hown, hts⟩ (s_X14_add__8 l dC dI cs ty gm L H.size F_604 pe (ρ + 7) rp 100 r_2 (ρ + 32) 60 ((0 + zl) + 1) zm (upd f2_588 (0 + zl) (nI 64)) fcm DM (([] ++ LC) ++ [64]) hW hL_pe hT_pe hi_64 ht_65 hq_605 hq_606 hF_612 (by omega) (by first | omega | (have h9 := (hW_617).1; simp only [List.length_append, List.length_nil, List.length_cons] at h9; omega)) (by omega) (hW_617) (hxm3)) ⟨callB_of 3 hts (gi kt_675) rfl rfl rfl (hts _ kt_676) (hts _ kt_956) (by decide +kernel) ⟨Nat.le_of_ble_eq_true rfl, Nat.le_of_ble_eq_true rfl⟩, (hts _ kt_678), (hts _ kt_679)⟩ ⟨fun a U g mk q => ⟨q.1, PTm.calling q.2⟩, pg_recv hK hP hL_pe hq_605 (q := (RX14, TX14, 2)) rfl, fun U hU hWm => ⟨rfl, PTm.mk hU hWm hP hK hD hE hO⟩⟩ rfl rfl hl.1 rfl (lv_room (Nat.le_of_ble_eq_true rfl)) dX15_macroValue_164 ⟨by show _ + 0 ≤ 0; omega, by show _ + 0 ≤ 0; omega⟩) hS (fun q _ h => hFc q h) hFc (fun u t H1 locs ht hvm hw hB hz1 hk1 hS => ?_)
          obtain ⟨F_622, f2_623, hB1, hq_624, hq_625, hq_626⟩ := hB
          obtain ⟨hP, hD, hO, hR⟩ := QTm.back hB1 ht hFc hR (fun q h => by simp only [List.mem_cons, List.not_mem_nil, or_false] at h ⊢; omega)
          have hF_627 : F_622 g1 = .inl (cs 17, 700, .inl fv) := (hB1.2.2.2 g1 (by rw [hT_g1]; simp only [List.mem_cons, List.not_mem_nil, or_false]; omega)).trans hF_607
          have hF_628 : F_622 h0 = .inr (15, (.ref ta) :: (.int (nI zt)) :: (.int (nI zo)) :: (.int (nI ze)) :: (.ref ou) :: (.ref so) :: (.ref ad) :: (.ref na) :: (.ref va) :: (.ref lc) :: (.ref dm) :: (.int (nI fm)) :: (.int (nI sn)) :: (.ref tg) :: (.int v14_28) :: (.int v15_29) :: (.ref pe) :: (.int v17_30) :: (.int v18_31) :: (.int v19_32) :: (.int v20_33) :: (.int v21_34) :: (.int v22_35) :: (.ref ml) :: (.ref bg) :: (.ref co) :: (.ref sp) :: (.ref nb0) :: (.ref nb1) :: (.ref nb2) :: (.int (nI nf)) :: (.int (nI bd)) :: (.int (nI mm)) :: (.int v33_36) :: (.ref pl) :: (.ref se) :: (.ref ke) :: (.ref wi) :: (.ref hs) :: (.ref mo) :: (.ref po) :: (.ref nu) :: (.ref pr) :: (.ref sq) :: (.ref xa) :: (.ref sa) :: (.ref n64) :: (.ref m64) :: (.ref ex) :: (.ref wh) :: (.ref sd) :: (.ref tk) :: (.int v52_37) :: (.int v53_38) :: (.int v54_39) :: (.ref hd) :: (.ref ak) :: (.ref ho) :: (.ref ot) :: []) := (hB1.2.2.2 h0 (by rw [hT_h0]; simp)).trans hF_608
          have hF_629 : F_622 lc = .inr (14, [.ref r_1, .int (nI zl)]) := (hB1.2.2.2 lc (by rw [ht_58]; simp)).trans hF_609
          have hF_630 : F_622 r_1 = .inl (cs 17, 30, .inl fcl) := (hB1.2.2.2 r_1 (by rw [ht_60]; simp)).trans hF_610
          have hF_631 : F_622 dm = .inr (14, [.ref r_2, .int (nI zm)]) := (hB1.2.2.2 dm (by rw [ht_63]; simp)).trans hF_611
          have hF_632 : F_622 r_2 = .inl (cs 17, 60, .inl fcm) := (hB1.2.2.2 r_2 (by rw [ht_65]; simp)).trans hF_612
          have hF_633 : F_622 dd = .inr (14, [.ref rd, .int (nI zd)]) := (hB1.2.2.2 dd (by rw [hT_dd]; simp only [List.mem_cons, List.not_mem_nil, or_false]; omega)).trans hF_613
          have hF_634 : F_622 rd = .inl (cs 17, nd, .inl fcd) := (hB1.2.2.2 rd (by rw [ht_55]; simp only [List.mem_cons, List.not_mem_nil, or_false]; omega)).trans hF_614
          have hF_635 : F_622 g2 = .inr (14, [.ref r2, .int (nI y)]) := (hB1.2.2.2 g2 (by rw [hT_g2]; simp only [List.mem_cons, List.not_mem_nil, or_false]; omega)).trans hF_615
          have hF_636 : F_622 r2 = .inl (cs 17, 61, .inl fi) := (hB1.2.2.2 r2 (by rw [ht_50]; simp only [List.mem_cons, List.not_mem_nil, or_false]; omega)).trans hF_616
          generalize H1 = H at hP hS ⊢
          refine lv_iload hx hb dX15_macroValue_167 (lv_at hl 4 rfl) ?_
          refine lv_bipush (v := 100) hx hb dX15_macroValue_169 (by decide) ?_
          refine lv_icmp_ne (tgt := 192) hx hb dX15_macroValue_171 (by decide) (fun c_637 => ?_) (fun c_637 => absurd c_637 ((fun q => absurd ((nI_eq (b := 100) (by omega) (by omega)).mp q) (by omega))))
          refine W.widen (k := 0) (n := 0) (by omega) (by omega) ?_
          exact jn_125 ((((0 + zl) + 1) + zm), f2_623, ((([] ++ LC) ++ [64]) ++ DM)) F_622 (⟨⟨hF_635, hF_636, hq_624, hq_625, hq_626⟩, Or.inr ⟨by omega, by rw [hlt]; rfl⟩⟩) hO hR _ _ hP hD hS ls (lv_sub hl [1, 2, 3, 4, 5, 6, 7, 8, 9, 10] rfl)
        ·
          refine lv_iload hx hb dX15_macroValue_79 (lv_at hl 4 rfl) ?_
          refine lv_bipush (v := 115) hx hb dX15_macroValue_81 (by decide) ?_
          refine lv_icmp_eq (tgt := 93) hx hb dX15_macroValue_83 (by decide) (fun c_638 => absurd c_638 ((fun q => absurd ((nI_eq (b := 115) (by omega) (by omega)).mp q) (by omega)))) (fun c_638 => ?_)
          refine lv_iload hx hb dX15_macroValue_86 (lv_at hl 4 rfl) ?_
          refine lv_bipush (v := 108) hx hb dX15_macroValue_88 (by decide) ?_
          refine lv_icmp_ne (tgt := 115) hx hb dX15_macroValue_90 (by decide) (fun c_639 => absurd ((by rw [hlt]; rfl)) c_639) (fun c_639 => ?_)
          refine lv_aload_n hx hb dX15_macroValue_93 rfl (lv_at hl 5 rfl) ?_
          refine pg_get (ci := 15) (v := .ref pe) (C := RX15) (T := TX15) (N := 59) hx hb hts it_15 hown hK hP hL_h0 hF_116 rfl 16 (by decide) (hts _ kt_1126) (fun _ h9 => h9) rfl dX15_macroValue_94 ?_
          refine lv_aload_n hx hb dX15_macroValue_97 rfl (lv_at hl 5 rfl) ?_
          refine pg_get (ci := 15) (v := .ref lc) (C := RX15) (T := TX15) (N := 59) hx hb hts it_15 hown hK hP hL_h0 hF_116 rfl 9 (by decide) (hts _ kt_1123) (fun _ h9 => h9) rfl dX15_macroValue_98 ?_
          refine pg_get (ci := 14) (v := .ref r_1) (C := RX14) (T := TX14) (N := 2) hx hb hts it_14 hown hK hP hi_57 hF_117 rfl 0 (by decide) (hts _ kt_710) (fun _ h9 => h9) rfl dX15_macroValue_101 ?_
          refine lv_iconst (v := 0) hx hb dX15_macroValue_104 (by decide) ?_
          refine lv_aload_n hx hb dX15_macroValue_105 rfl (lv_at hl 5 rfl) ?_
          refine pg_get (ci := 15) (v := .ref lc) (C := RX15) (T := TX15) (N := 59) hx hb hts it_15 hown hK hP hL_h0 hF_116 rfl 9 (by decide) (hts _ kt_1123) (fun _ h9 => h9) rfl dX15_macroValue_106 ?_
          refine pg_get (ci := 14) (v := .int (nI zl)) (C := RX14) (T := TX14) (N := 2) hx hb hts it_14 hown hK hP hi_57 hF_117 rfl 1 (by decide) (hts _ kt_709) (fun _ h9 => h9) rfl dX15_macroValue_109 ?_
          obtain ⟨hq_640, hq_641⟩ := hW.octs hi_59 ht_60
          have hFc := pg_free hD hS hA
          refine va_callv (va_runV (As := [.ref r_1, .int 0, .int (nI zl)]) (rest := []) ⟨hx, hb, hml, hown, hts⟩ (s_X14_add__8 l dC dI cs ty gm L H.size F_112 pe (ρ + 7) rp 100 r_1 (ρ + 5) 30 0 zl f_580 fcl LC ([]) hW hL_pe hT_pe hi_59 ht_60 hF_114 hF_581 hF_118 (by omega) (by first | omega | (have h9 := (src_nil).1; simp only [List.length_append, List.length_nil, List.length_cons] at h9; omega)) (by omega) (src_nil) (hxl3)) ⟨callB_of 3 hts (gi kt_675) rfl rfl rfl (hts _ kt_676) (hts _ kt_956) (by decide +kernel) ⟨Nat.le_of_ble_eq_true rfl, Nat.le_of_ble_eq_true rfl⟩, (hts _ kt_678), (hts _ kt_679)⟩ ⟨fun a U g mk q => ⟨q.1, PTm.calling q.2⟩, pg_recv hK hP hL_pe hF_114 (q := (RX14, TX14, 2)) rfl, fun U hU hWm => ⟨rfl, PTm.mk hU hWm hP hK hD hE hO⟩⟩ rfl rfl hl.1 rfl (lv_room (Nat.le_of_ble_eq_true rfl)) dX15_macroValue_112 ⟨by show _ + 0 ≤ 0; omega, by show _ + 0 ≤ 0; omega⟩) hS (fun q _ h => hFc q h) hFc (fun u t H1 locs ht hvm hw hB hz1 hk1 hS => ?_)
          obtain ⟨F_643, f2_644, hB1, hq_645, hq_646, hq_647⟩ := hB
          obtain ⟨hP, hD, hO, hR⟩ := QTm.back hB1 ht hFc hR (fun q h => by simp only [List.mem_cons, List.not_mem_nil, or_false] at h ⊢; omega)
          have hF_648 : F_643 g1 = .inl (cs 17, 700, .inl fv) := (hB1.2.2.2 g1 (by rw [hT_g1]; simp only [List.mem_cons, List.not_mem_nil, or_false]; omega)).trans hF_115
          have hF_649 : F_643 h0 = .inr (15, (.ref ta) :: (.int (nI zt)) :: (.int (nI zo)) :: (.int (nI ze)) :: (.ref ou) :: (.ref so) :: (.ref ad) :: (.ref na) :: (.ref va) :: (.ref lc) :: (.ref dm) :: (.int (nI fm)) :: (.int (nI sn)) :: (.ref tg) :: (.int v14_28) :: (.int v15_29) :: (.ref pe) :: (.int v17_30) :: (.int v18_31) :: (.int v19_32) :: (.int v20_33) :: (.int v21_34) :: (.int v22_35) :: (.ref ml) :: (.ref bg) :: (.ref co) :: (.ref sp) :: (.ref nb0) :: (.ref nb1) :: (.ref nb2) :: (.int (nI nf)) :: (.int (nI bd)) :: (.int (nI mm)) :: (.int v33_36) :: (.ref pl) :: (.ref se) :: (.ref ke) :: (.ref wi) :: (.ref hs) :: (.ref mo) :: (.ref po) :: (.ref nu) :: (.ref pr) :: (.ref sq) :: (.ref xa) :: (.ref sa) :: (.ref n64) :: (.ref m64) :: (.ref ex) :: (.ref wh) :: (.ref sd) :: (.ref tk) :: (.int v52_37) :: (.int v53_38) :: (.int v54_39) :: (.ref hd) :: (.ref ak) :: (.ref ho) :: (.ref ot) :: []) := (hB1.2.2.2 h0 (by rw [hT_h0]; simp)).trans hF_116
          have hF_650 : F_643 lc = .inr (14, [.ref r_1, .int (nI zl)]) := (hB1.2.2.2 lc (by rw [ht_58]; simp)).trans hF_117
          have hF_651 : F_643 r_1 = .inl (cs 17, 30, .inl fcl) := (hB1.2.2.2 r_1 (by rw [ht_60]; simp)).trans hF_118
          have hF_652 : F_643 dm = .inr (14, [.ref r_2, .int (nI zm)]) := (hB1.2.2.2 dm (by rw [ht_63]; simp)).trans hF_119
          have hF_653 : F_643 r_2 = .inl (cs 17, 60, .inl fcm) := (hB1.2.2.2 r_2 (by rw [ht_65]; simp)).trans hF_120
          have hF_654 : F_643 dd = .inr (14, [.ref rd, .int (nI zd)]) := (hB1.2.2.2 dd (by rw [hT_dd]; simp only [List.mem_cons, List.not_mem_nil, or_false]; omega)).trans hF_121
          have hF_655 : F_643 rd = .inl (cs 17, nd, .inl fcd) := (hB1.2.2.2 rd (by rw [ht_55]; simp only [List.mem_cons, List.not_mem_nil, or_false]; omega)).trans hF_122
          have hF_656 : F_643 g2 = .inr (14, [.ref r2, .int (nI y)]) := (hB1.2.2.2 g2 (by rw [hT_g2]; simp only [List.mem_cons, List.not_mem_nil, or_false]; omega)).trans hF_123
          have hF_657 : F_643 r2 = .inl (cs 17, 61, .inl fi) := (hB1.2.2.2 r2 (by rw [ht_50]; simp only [List.mem_cons, List.not_mem_nil, or_false]; omega)).trans hF_124
          generalize H1 = H at hP hS ⊢
          refine lv_iload hx hb dX15_macroValue_115 (lv_at hl 4 rfl) ?_
          refine lv_bipush (v := 115) hx hb dX15_macroValue_117 (by decide) ?_
          refine lv_icmp_ne (tgt := 131) hx hb dX15_macroValue_119 (by decide) (fun c_658 => ?_) (fun c_658 => absurd c_658 ((fun q => absurd ((nI_eq (b := 115) (by omega) (by omega)).mp q) (by omega))))
          refine lv_iload hx hb dX15_macroValue_131 (lv_at hl 4 rfl) ?_
          refine lv_bipush (v := 115) hx hb dX15_macroValue_133 (by decide) ?_
          refine lv_icmp_eq (tgt := 145) hx hb dX15_macroValue_135 (by decide) (fun c_659 => absurd c_659 ((fun q => absurd ((nI_eq (b := 115) (by omega) (by omega)).mp q) (by omega)))) (fun c_659 => ?_)
          refine lv_iload hx hb dX15_macroValue_138 (lv_at hl 4 rfl) ?_
          refine lv_bipush (v := 111) hx hb dX15_macroValue_140 (by decide) ?_
          refine lv_icmp_ne (tgt := 167) hx hb dX15_macroValue_142 (by decide) (fun c_660 => ?_) (fun c_660 => absurd c_660 ((fun q => absurd ((nI_eq (b := 111) (by omega) (by omega)).mp q) (by omega))))
          refine lv_iload hx hb dX15_macroValue_167 (lv_at hl 4 rfl) ?_
          refine lv_bipush (v := 100) hx hb dX15_macroValue_169 (by decide) ?_
          refine lv_icmp_ne (tgt := 192) hx hb dX15_macroValue_171 (by decide) (fun c_661 => ?_) (fun c_661 => absurd c_661 ((fun q => absurd ((nI_eq (b := 100) (by omega) (by omega)).mp q) (by omega))))
          refine W.widen (k := 0) (n := 0) (by omega) (by omega) ?_
          exact jn_125 ((0 + zl), f2_644, ([] ++ LC)) F_643 (⟨⟨hF_656, hF_657, hq_645, hq_646, hq_647⟩, Or.inr ⟨by omega, by rw [hlt]; rfl⟩⟩) hO hR _ _ hP hD hS ls (lv_sub hl [1, 2, 3, 4, 5, 6, 7, 8, 9, 10] rfl)
        ·
          refine lv_iload hx hb dX15_macroValue_79 (lv_at hl 4 rfl) ?_
          refine lv_bipush (v := 115) hx hb dX15_macroValue_81 (by decide) ?_
          refine lv_icmp_eq (tgt := 93) hx hb dX15_macroValue_83 (by decide) (fun c_662 => absurd c_662 ((fun q => absurd ((nI_eq (b := 115) (by omega) (by omega)).mp q) (by omega)))) (fun c_662 => ?_)
          refine lv_iload hx hb dX15_macroValue_86 (lv_at hl 4 rfl) ?_
          refine lv_bipush (v := 108) hx hb dX15_macroValue_88 (by decide) ?_
          refine lv_icmp_ne (tgt := 115) hx hb dX15_macroValue_90 (by decide) (fun c_663 => ?_) (fun c_663 => absurd c_663 ((fun q => absurd ((nI_eq (b := 108) (by omega) (by omega)).mp q) (by omega))))
          refine lv_iload hx hb dX15_macroValue_115 (lv_at hl 4 rfl) ?_
          refine lv_bipush (v := 115) hx hb dX15_macroValue_117 (by decide) ?_
          refine lv_icmp_ne (tgt := 131) hx hb dX15_macroValue_119 (by decide) (fun c_664 => ?_) (fun c_664 => absurd c_664 ((fun q => absurd ((nI_eq (b := 115) (by omega) (by omega)).mp q) (by omega))))
          refine lv_iload hx hb dX15_macroValue_131 (lv_at hl 4 rfl) ?_
          refine lv_bipush (v := 115) hx hb dX15_macroValue_133 (by decide) ?_
          refine lv_icmp_eq (tgt := 145) hx hb dX15_macroValue_135 (by decide) (fun c_665 => absurd c_665 ((fun q => absurd ((nI_eq (b := 115) (by omega) (by omega)).mp q) (by omega)))) (fun c_665 => ?_)
          refine lv_iload hx hb dX15_macroValue_138 (lv_at hl 4 rfl) ?_
          refine lv_bipush (v := 111) hx hb dX15_macroValue_140 (by decide) ?_
          refine lv_icmp_ne (tgt := 167) hx hb dX15_macroValue_142 (by decide) (fun c_666 => absurd ((by rw [hlt]; rfl)) c_666) (fun c_666 => ?_)
          refine lv_aload_n hx hb dX15_macroValue_145 rfl (lv_at hl 5 rfl) ?_
          refine pg_get (ci := 15) (v := .ref pe) (C := RX15) (T := TX15) (N := 59) hx hb hts it_15 hown hK hP hL_h0 hF_116 rfl 16 (by decide) (hts _ kt_1126) (fun _ h9 => h9) rfl dX15_macroValue_146 ?_
          refine lv_aload_n hx hb dX15_macroValue_149 rfl (lv_at hl 5 rfl) ?_
          refine pg_get (ci := 15) (v := .ref dm) (C := RX15) (T := TX15) (N := 59) hx hb hts it_15 hown hK hP hL_h0 hF_116 rfl 10 (by decide) (hts _ kt_1124) (fun _ h9 => h9) rfl dX15_macroValue_150 ?_
          refine pg_get (ci := 14) (v := .ref r_2) (C := RX14) (T := TX14) (N := 2) hx hb hts it_14 hown hK hP hi_62 hF_119 rfl 0 (by decide) (hts _ kt_710) (fun _ h9 => h9) rfl dX15_macroValue_153 ?_
          refine lv_iconst (v := 0) hx hb dX15_macroValue_156 (by decide) ?_
          refine lv_aload_n hx hb dX15_macroValue_157 rfl (lv_at hl 5 rfl) ?_
          refine pg_get (ci := 15) (v := .ref dm) (C := RX15) (T := TX15) (N := 59) hx hb hts it_15 hown hK hP hL_h0 hF_116 rfl 10 (by decide) (hts _ kt_1124) (fun _ h9 => h9) rfl dX15_macroValue_158 ?_
          refine pg_get (ci := 14) (v := .int (nI zm)) (C := RX14) (T := TX14) (N := 2) hx hb hts it_14 hown hK hP hi_62 hF_119 rfl 1 (by decide) (hts _ kt_709) (fun _ h9 => h9) rfl dX15_macroValue_161 ?_
          obtain ⟨hq_667, hq_668⟩ := hW.octs hi_64 ht_65
          have hFc := pg_free hD hS hA
          refine va_callv (va_runV (As := [.ref r_2, .int 0, .int (nI zm)]) (rest := []) ⟨hx, hb, hml, hown, hts⟩ (s_X14_add__8 l dC dI cs ty gm L H.size F_112 pe (ρ + 7) rp 100 r_2 (ρ + 32) 60 0 zm f_580 fcm DM ([]) hW hL_pe hT_pe hi_64 ht_65 hF_114 hF_581 hF_120 (by omega) (by first | omega | (have h9 := (src_nil).1; simp only [List.length_append, List.length_nil, List.length_cons] at h9; omega)) (by omega) (src_nil) (hxm3)) ⟨callB_of 3 hts (gi kt_675) rfl rfl rfl (hts _ kt_676) (hts _ kt_956) (by decide +kernel) ⟨Nat.le_of_ble_eq_true rfl, Nat.le_of_ble_eq_true rfl⟩, (hts _ kt_678), (hts _ kt_679)⟩ ⟨fun a U g mk q => ⟨q.1, PTm.calling q.2⟩, pg_recv hK hP hL_pe hF_114 (q := (RX14, TX14, 2)) rfl, fun U hU hWm => ⟨rfl, PTm.mk hU hWm hP hK hD hE hO⟩⟩ rfl rfl hl.1 rfl (lv_room (Nat.le_of_ble_eq_true rfl)) dX15_macroValue_164 ⟨by show _ + 0 ≤ 0; omega, by show _ + 0 ≤ 0; omega⟩) hS (fun q _ h => hFc q h) hFc (fun u t H1 locs ht hvm hw hB hz1 hk1 hS => ?_)
          obtain ⟨F_670, f2_671, hB1, hq_672, hq_673, hq_674⟩ := hB
          obtain ⟨hP, hD, hO, hR⟩ := QTm.back hB1 ht hFc hR (fun q h => by simp only [List.mem_cons, List.not_mem_nil, or_false] at h ⊢; omega)
          have hF_675 : F_670 g1 = .inl (cs 17, 700, .inl fv) := (hB1.2.2.2 g1 (by rw [hT_g1]; simp only [List.mem_cons, List.not_mem_nil, or_false]; omega)).trans hF_115
          have hF_676 : F_670 h0 = .inr (15, (.ref ta) :: (.int (nI zt)) :: (.int (nI zo)) :: (.int (nI ze)) :: (.ref ou) :: (.ref so) :: (.ref ad) :: (.ref na) :: (.ref va) :: (.ref lc) :: (.ref dm) :: (.int (nI fm)) :: (.int (nI sn)) :: (.ref tg) :: (.int v14_28) :: (.int v15_29) :: (.ref pe) :: (.int v17_30) :: (.int v18_31) :: (.int v19_32) :: (.int v20_33) :: (.int v21_34) :: (.int v22_35) :: (.ref ml) :: (.ref bg) :: (.ref co) :: (.ref sp) :: (.ref nb0) :: (.ref nb1) :: (.ref nb2) :: (.int (nI nf)) :: (.int (nI bd)) :: (.int (nI mm)) :: (.int v33_36) :: (.ref pl) :: (.ref se) :: (.ref ke) :: (.ref wi) :: (.ref hs) :: (.ref mo) :: (.ref po) :: (.ref nu) :: (.ref pr) :: (.ref sq) :: (.ref xa) :: (.ref sa) :: (.ref n64) :: (.ref m64) :: (.ref ex) :: (.ref wh) :: (.ref sd) :: (.ref tk) :: (.int v52_37) :: (.int v53_38) :: (.int v54_39) :: (.ref hd) :: (.ref ak) :: (.ref ho) :: (.ref ot) :: []) := (hB1.2.2.2 h0 (by rw [hT_h0]; simp)).trans hF_116
          have hF_677 : F_670 lc = .inr (14, [.ref r_1, .int (nI zl)]) := (hB1.2.2.2 lc (by rw [ht_58]; simp)).trans hF_117
          have hF_678 : F_670 r_1 = .inl (cs 17, 30, .inl fcl) := (hB1.2.2.2 r_1 (by rw [ht_60]; simp)).trans hF_118
          have hF_679 : F_670 dm = .inr (14, [.ref r_2, .int (nI zm)]) := (hB1.2.2.2 dm (by rw [ht_63]; simp)).trans hF_119
          have hF_680 : F_670 r_2 = .inl (cs 17, 60, .inl fcm) := (hB1.2.2.2 r_2 (by rw [ht_65]; simp)).trans hF_120
          have hF_681 : F_670 dd = .inr (14, [.ref rd, .int (nI zd)]) := (hB1.2.2.2 dd (by rw [hT_dd]; simp only [List.mem_cons, List.not_mem_nil, or_false]; omega)).trans hF_121
          have hF_682 : F_670 rd = .inl (cs 17, nd, .inl fcd) := (hB1.2.2.2 rd (by rw [ht_55]; simp only [List.mem_cons, List.not_mem_nil, or_false]; omega)).trans hF_122
          have hF_683 : F_670 g2 = .inr (14, [.ref r2, .int (nI y)]) := (hB1.2.2.2 g2 (by rw [hT_g2]; simp only [List.mem_cons, List.not_mem_nil, or_false]; omega)).trans hF_123
          have hF_684 : F_670 r2 = .inl (cs 17, 61, .inl fi) := (hB1.2.2.2 r2 (by rw [ht_50]; simp only [List.mem_cons, List.not_mem_nil, or_false]; omega)).trans hF_124
          generalize H1 = H at hP hS ⊢
          refine lv_iload hx hb dX15_macroValue_167 (lv_at hl 4 rfl) ?_
          refine lv_bipush (v := 100) hx hb dX15_macroValue_169 (by decide) ?_
          refine lv_icmp_ne (tgt := 192) hx hb dX15_macroValue_171 (by decide) (fun c_685 => ?_) (fun c_685 => absurd c_685 ((fun q => absurd ((nI_eq (b := 100) (by omega) (by omega)).mp q) (by omega))))
          refine W.widen (k := 0) (n := 0) (by omega) (by omega) ?_
          exact jn_125 ((0 + zm), f2_671, ([] ++ DM)) F_670 (⟨⟨hF_683, hF_684, hq_672, hq_673, hq_674⟩, Or.inr ⟨by omega, by rw [hlt]; rfl⟩⟩) hO hR _ _ hP hD hS ls (lv_sub hl [1, 2, 3, 4, 5, 6, 7, 8, 9, 10] rfl)
        ·
          refine lv_iload hx hb dX15_macroValue_79 (lv_at hl 4 rfl) ?_
          refine lv_bipush (v := 115) hx hb dX15_macroValue_81 (by decide) ?_
          refine lv_icmp_eq (tgt := 93) hx hb dX15_macroValue_83 (by decide) (fun c_686 => absurd c_686 ((fun q => absurd ((nI_eq (b := 115) (by omega) (by omega)).mp q) (by omega)))) (fun c_686 => ?_)
          refine lv_iload hx hb dX15_macroValue_86 (lv_at hl 4 rfl) ?_
          refine lv_bipush (v := 108) hx hb dX15_macroValue_88 (by decide) ?_
          refine lv_icmp_ne (tgt := 115) hx hb dX15_macroValue_90 (by decide) (fun c_687 => ?_) (fun c_687 => absurd c_687 ((fun q => absurd ((nI_eq (b := 108) (by omega) (by omega)).mp q) (by omega))))
          refine lv_iload hx hb dX15_macroValue_115 (lv_at hl 4 rfl) ?_
          refine lv_bipush (v := 115) hx hb dX15_macroValue_117 (by decide) ?_
          refine lv_icmp_ne (tgt := 131) hx hb dX15_macroValue_119 (by decide) (fun c_688 => ?_) (fun c_688 => absurd c_688 ((fun q => absurd ((nI_eq (b := 115) (by omega) (by omega)).mp q) (by omega))))
          refine lv_iload hx hb dX15_macroValue_131 (lv_at hl 4 rfl) ?_
          refine lv_bipush (v := 115) hx hb dX15_macroValue_133 (by decide) ?_
          refine lv_icmp_eq (tgt := 145) hx hb dX15_macroValue_135 (by decide) (fun c_689 => absurd c_689 ((fun q => absurd ((nI_eq (b := 115) (by omega) (by omega)).mp q) (by omega)))) (fun c_689 => ?_)
          refine lv_iload hx hb dX15_macroValue_138 (lv_at hl 4 rfl) ?_
          refine lv_bipush (v := 111) hx hb dX15_macroValue_140 (by decide) ?_
          refine lv_icmp_ne (tgt := 167) hx hb dX15_macroValue_142 (by decide) (fun c_690 => ?_) (fun c_690 => absurd c_690 ((fun q => absurd ((nI_eq (b := 111) (by omega) (by omega)).mp q) (by omega))))
          refine lv_iload hx hb dX15_macroValue_167 (lv_at hl 4 rfl) ?_
          refine lv_bipush (v := 100) hx hb dX15_macroValue_169 (by decide) ?_
          refine lv_icmp_ne (tgt := 192) hx hb dX15_macroValue_171 (by decide) (fun c_691 => absurd ((by rw [hlt]; rfl)) c_691) (fun c_691 => ?_)
          refine lv_aload_n hx hb dX15_macroValue_174 rfl (lv_at hl 5 rfl) ?_
          refine pg_get (ci := 15) (v := .ref pe) (C := RX15) (T := TX15) (N := 59) hx hb hts it_15 hown hK hP hL_h0 hF_116 rfl 16 (by decide) (hts _ kt_1126) (fun _ h9 => h9) rfl dX15_macroValue_175 ?_
          refine lv_aload hx hb dX15_macroValue_178 (lv_at hl 9 rfl) ?_
          refine pg_get (ci := 14) (v := .ref rd) (C := RX14) (T := TX14) (N := 2) hx hb hts it_14 hown hK hP hL_dd hF_121 rfl 0 (by decide) (hts _ kt_710) (fun _ h9 => h9) rfl dX15_macroValue_180 ?_
          refine lv_iconst (v := 0) hx hb dX15_macroValue_183 (by decide) ?_
          refine lv_aload hx hb dX15_macroValue_184 (lv_at hl 9 rfl) ?_
          refine pg_get (ci := 14) (v := .int (nI zd)) (C := RX14) (T := TX14) (N := 2) hx hb hts it_14 hown hK hP hL_dd hF_121 rfl 1 (by decide) (hts _ kt_709) (fun _ h9 => h9) rfl dX15_macroValue_186 ?_
          obtain ⟨hq_692, hq_693⟩ := hW.octs hi_54 ht_55
          have hFc := pg_free hD hS hA
          refine va_callv (va_runV (As := [.ref rd, .int 0, .int (nI zd)]) (rest := []) ⟨hx, hb, hml, hown, hts⟩ (s_X14_add__8 l dC dI cs ty gm L H.size F_112 pe (ρ + 7) rp 100 rd τ nd 0 zd f_580 fcd dn ([]) hW hL_pe hT_pe hi_54 ht_55 hF_114 hF_581 hF_122 (by omega) (by first | omega | (have h9 := (src_nil).1; simp only [List.length_append, List.length_nil, List.length_cons] at h9; omega)) (by omega) (src_nil) (hxd3)) ⟨callB_of 3 hts (gi kt_675) rfl rfl rfl (hts _ kt_676) (hts _ kt_956) (by decide +kernel) ⟨Nat.le_of_ble_eq_true rfl, Nat.le_of_ble_eq_true rfl⟩, (hts _ kt_678), (hts _ kt_679)⟩ ⟨fun a U g mk q => ⟨q.1, PTm.calling q.2⟩, pg_recv hK hP hL_pe hF_114 (q := (RX14, TX14, 2)) rfl, fun U hU hWm => ⟨rfl, PTm.mk hU hWm hP hK hD hE hO⟩⟩ rfl rfl hl.1 rfl (lv_room (Nat.le_of_ble_eq_true rfl)) dX15_macroValue_189 ⟨by show _ + 0 ≤ 0; omega, by show _ + 0 ≤ 0; omega⟩) hS (fun q _ h => hFc q h) hFc (fun u t H1 locs ht hvm hw hB hz1 hk1 hS => ?_)
          obtain ⟨F_695, f2_696, hB1, hq_697, hq_698, hq_699⟩ := hB
          obtain ⟨hP, hD, hO, hR⟩ := QTm.back hB1 ht hFc hR (fun q h => by simp only [List.mem_cons, List.not_mem_nil, or_false] at h ⊢; omega)
          have hF_700 : F_695 g1 = .inl (cs 17, 700, .inl fv) := (hB1.2.2.2 g1 (by rw [hT_g1]; simp only [List.mem_cons, List.not_mem_nil, or_false]; omega)).trans hF_115
          have hF_701 : F_695 h0 = .inr (15, (.ref ta) :: (.int (nI zt)) :: (.int (nI zo)) :: (.int (nI ze)) :: (.ref ou) :: (.ref so) :: (.ref ad) :: (.ref na) :: (.ref va) :: (.ref lc) :: (.ref dm) :: (.int (nI fm)) :: (.int (nI sn)) :: (.ref tg) :: (.int v14_28) :: (.int v15_29) :: (.ref pe) :: (.int v17_30) :: (.int v18_31) :: (.int v19_32) :: (.int v20_33) :: (.int v21_34) :: (.int v22_35) :: (.ref ml) :: (.ref bg) :: (.ref co) :: (.ref sp) :: (.ref nb0) :: (.ref nb1) :: (.ref nb2) :: (.int (nI nf)) :: (.int (nI bd)) :: (.int (nI mm)) :: (.int v33_36) :: (.ref pl) :: (.ref se) :: (.ref ke) :: (.ref wi) :: (.ref hs) :: (.ref mo) :: (.ref po) :: (.ref nu) :: (.ref pr) :: (.ref sq) :: (.ref xa) :: (.ref sa) :: (.ref n64) :: (.ref m64) :: (.ref ex) :: (.ref wh) :: (.ref sd) :: (.ref tk) :: (.int v52_37) :: (.int v53_38) :: (.int v54_39) :: (.ref hd) :: (.ref ak) :: (.ref ho) :: (.ref ot) :: []) := (hB1.2.2.2 h0 (by rw [hT_h0]; simp)).trans hF_116
          have hF_702 : F_695 lc = .inr (14, [.ref r_1, .int (nI zl)]) := (hB1.2.2.2 lc (by rw [ht_58]; simp)).trans hF_117
          have hF_703 : F_695 r_1 = .inl (cs 17, 30, .inl fcl) := (hB1.2.2.2 r_1 (by rw [ht_60]; simp)).trans hF_118
          have hF_704 : F_695 dm = .inr (14, [.ref r_2, .int (nI zm)]) := (hB1.2.2.2 dm (by rw [ht_63]; simp)).trans hF_119
          have hF_705 : F_695 r_2 = .inl (cs 17, 60, .inl fcm) := (hB1.2.2.2 r_2 (by rw [ht_65]; simp)).trans hF_120
          have hF_706 : F_695 dd = .inr (14, [.ref rd, .int (nI zd)]) := (hB1.2.2.2 dd (by rw [hT_dd]; simp only [List.mem_cons, List.not_mem_nil, or_false]; omega)).trans hF_121
          have hF_707 : F_695 rd = .inl (cs 17, nd, .inl fcd) := (hB1.2.2.2 rd (by rw [ht_55]; simp only [List.mem_cons, List.not_mem_nil, or_false]; omega)).trans hF_122
          have hF_708 : F_695 g2 = .inr (14, [.ref r2, .int (nI y)]) := (hB1.2.2.2 g2 (by rw [hT_g2]; simp only [List.mem_cons, List.not_mem_nil, or_false]; omega)).trans hF_123
          have hF_709 : F_695 r2 = .inl (cs 17, 61, .inl fi) := (hB1.2.2.2 r2 (by rw [ht_50]; simp only [List.mem_cons, List.not_mem_nil, or_false]; omega)).trans hF_124
          generalize H1 = H at hP hS ⊢
          refine W.widen (k := 0) (n := 0) (by omega) (by omega) ?_
          exact jn_125 ((0 + zd), f2_696, ([] ++ dn)) F_695 (⟨⟨hF_708, hF_709, hq_697, hq_698, hq_699⟩, Or.inr ⟨by omega, by rw [hlt]; rfl⟩⟩) hO hR _ _ hP hD hS ls (lv_sub hl [1, 2, 3, 4, 5, 6, 7, 8, 9, 10] rfl)
        ·
          refine lv_iload hx hb dX15_macroValue_79 (lv_at hl 4 rfl) ?_
          refine lv_bipush (v := 115) hx hb dX15_macroValue_81 (by decide) ?_
          refine lv_icmp_eq (tgt := 93) hx hb dX15_macroValue_83 (by decide) (fun c_710 => absurd c_710 ((fun q => absurd ((nI_eq (b := 115) (by omega) (by omega)).mp q) (by omega)))) (fun c_710 => ?_)
          refine lv_iload hx hb dX15_macroValue_86 (lv_at hl 4 rfl) ?_
          refine lv_bipush (v := 108) hx hb dX15_macroValue_88 (by decide) ?_
          refine lv_icmp_ne (tgt := 115) hx hb dX15_macroValue_90 (by decide) (fun c_711 => ?_) (fun c_711 => absurd c_711 ((fun q => absurd ((nI_eq (b := 108) (by omega) (by omega)).mp q) (by omega))))
          refine lv_iload hx hb dX15_macroValue_115 (lv_at hl 4 rfl) ?_
          refine lv_bipush (v := 115) hx hb dX15_macroValue_117 (by decide) ?_
          refine lv_icmp_ne (tgt := 131) hx hb dX15_macroValue_119 (by decide) (fun c_712 => ?_) (fun c_712 => absurd c_712 ((fun q => absurd ((nI_eq (b := 115) (by omega) (by omega)).mp q) (by omega))))
          refine lv_iload hx hb dX15_macroValue_131 (lv_at hl 4 rfl) ?_
          refine lv_bipush (v := 115) hx hb dX15_macroValue_133 (by decide) ?_
          refine lv_icmp_eq (tgt := 145) hx hb dX15_macroValue_135 (by decide) (fun c_713 => absurd c_713 ((fun q => absurd ((nI_eq (b := 115) (by omega) (by omega)).mp q) (by omega)))) (fun c_713 => ?_)
          refine lv_iload hx hb dX15_macroValue_138 (lv_at hl 4 rfl) ?_
          refine lv_bipush (v := 111) hx hb dX15_macroValue_140 (by decide) ?_
          refine lv_icmp_ne (tgt := 167) hx hb dX15_macroValue_142 (by decide) (fun c_714 => ?_) (fun c_714 => absurd c_714 ((fun q => absurd ((nI_eq (b := 111) (by omega) (by omega)).mp q) (by omega))))
          refine lv_iload hx hb dX15_macroValue_167 (lv_at hl 4 rfl) ?_
          refine lv_bipush (v := 100) hx hb dX15_macroValue_169 (by decide) ?_
          refine lv_icmp_ne (tgt := 192) hx hb dX15_macroValue_171 (by decide) (fun c_715 => ?_) (fun c_715 => absurd c_715 ((fun q => absurd ((nI_eq (b := 100) (by omega) (by omega)).mp q) (by omega))))
          refine W.widen (k := 0) (n := 0) (by omega) (by omega) ?_
          exact jn_125 (0, f_580, []) F_112 (⟨⟨hF_123, hF_124, hF_114, hF_581, src_nil⟩, Or.inl ⟨hlt, rfl⟩⟩) hO hR _ _ hP hD hS ls (lv_sub hl [1, 2, 3, 4, 5, 6, 7, 8, 9, 10] rfl)
    ·
      have hi_716 : j < tt := ltN (N := tt) c_107
      refine lv_aload_n hx hb dX15_macroValue_46 rfl (lv_at hl 6 rfl) ?_
      refine lv_iload hx hb dX15_macroValue_47 (lv_at hl 0 rfl) ?_
      refine pg_bald hx hb hK hP hL_g1 1 hF_99 rfl (vp_in_nI (by omega) (by omega)) dX15_macroValue_49 ?_
      refine lv_topi (fun x_717 ex_717 => ?_)
      obtain rfl : x_717 = fv j := ex_717.trans (congrArg fv (show ((nI j) : Int32).toNatClampNeg = j from nI_clamp (by omega)))
      have hFc := pg_free hD hS hA
      refine va_calli (va_runS (As := [.int (fv j)]) (rest := []) ⟨hx, hb, hml, hown, hts⟩ (s_X15_isDigit_e l dC dI cs ty gm L H.size F_88 (fv j) hW ) ⟨callB_of 1 hts (gi kt_687) rfl rfl rfl (hts _ kt_669) (hts _ kt_707) (by decide +kernel) ⟨Nat.le_of_ble_eq_true rfl, Nat.le_of_ble_eq_true rfl⟩, (hts _ kt_688)⟩ ⟨fun a U g mk q => ⟨q.1, PTm.calling q.2⟩, fun U hU hWm => ⟨rfl, PTm.mk hU hWm hP hK hD hE hO⟩⟩ rfl rfl hl.1 rfl (lv_room (Nat.le_of_ble_eq_true rfl)) dX15_macroValue_50 ⟨by show _ + 0 ≤ 0; omega, by show _ + 0 ≤ 0; omega⟩) hS (fun q _ h => hFc q h) hFc (fun r_718 u t H1 locs ht hvm hw hB hz1 hk1 hS => ?_)
      obtain ⟨F_719, hB1⟩ := hB
      obtain rfl : F_88 = F_719 := (funext (fun a => hB1.2.2.2 a List.not_mem_nil)).symm
      obtain ⟨hP, hD, hO, hR⟩ := QTm.back hB1 ht hFc hR (fun q h => absurd h List.not_mem_nil)
      generalize H1 = H at hP hS ⊢
      have hw : r_718 = (if 48 ≤ (fv j) ∧ (fv j) ≤ 57 then 1 else 0) := hw
      have hw_720 := hw
      refine lv_if_eq (tgt := 65) hx hb dX15_macroValue_53 (by decide) (fun c_721 => ?_) (fun c_721 => ?_)
      ·
        refine lv_iinc (v := (nI (j + 1))) (lv' := [(10, .int (nI (j + 1))), (9, .int (trW ((TC fv z) (tt - 1)))), (8, .int (nI nn)), (7, .int 0), (6, .int (nI ((TC fv z) a))), (0, .ref h0), (1, .ref g1), (2, .int (nI a)), (3, .int (nI tt)), (4, .ref dd), (5, .ref g2)]) hx hb dX15_macroValue_65 hl (k := 0) rfl (nI_1 _) (by decide) rfl (fun ls hl => ?_)
        refine lv_goto (tgt := 40) hx hb dX15_macroValue_68 (by decide) ?_
        refine W.widen (k := 0) (n := 0) (by omega) (by omega) ?_
        exact ih_98 ((j + 1), nn) F_88 (⟨by omega, by omega, hn9, fun q => absurd q (by omega), fun q => by by_cases e9 : j = a + 1; rw [hn5 e9]; exact (mg_n hto (fun q2 => absurd q2.2 (by rw [← e9, tc_at (show j < z by omega)]; exact sme_n hw_720 c_721))).symm; exact hn2 (by omega), hn3, hn4⟩) (by show tt - (j + 1) < tt - j; omega) hO hR _ _ hP hD hS ls (lv_sub hl [0, 1, 2, 3, 4, 5, 6, 7, 8, 9, 10] rfl)
      ·
        have hdg : 48 ≤ (TC fv z) j ∧ (TC fv z) j ≤ 57 := (by rw [tc_at (show j < z by omega)]; exact sme_d hw_720 c_721)
        have hcd : fv j = nI ((TC fv z) j) := tc_in (by omega) (by omega)
        refine lv_aload_n hx hb dX15_macroValue_56 rfl (lv_at hl 6 rfl) ?_
        refine lv_iload hx hb dX15_macroValue_57 (lv_at hl 0 rfl) ?_
        refine pg_bald hx hb hK hP hL_g1 1 hF_99 rfl (vp_in_nI (by omega) (by omega)) dX15_macroValue_59 ?_
        refine lv_topi (fun x_722 ex_722 => ?_)
        obtain rfl : x_722 = fv j := ex_722.trans (congrArg fv (show ((nI j) : Int32).toNatClampNeg = j from nI_clamp (by omega)))
        refine lv_bipush (v := 48) hx hb dX15_macroValue_60 (by decide) ?_
        refine lv_isub hx hb dX15_macroValue_62 ?_
        refine lv_topi (fun x_723 ex_723 => ?_)
        obtain rfl : x_723 = (nI ((TC fv z) j - 48)) := ex_723.trans ((congrArg (fun q => q - 48) hcd).trans (pk_sub (b := 48) (by omega)))
        refine lv_istore (lv' := [(8, .int (nI ((TC fv z) j - 48))), (10, .int (nI j)), (9, .int (trW ((TC fv z) (tt - 1)))), (7, .int 0), (6, .int (nI ((TC fv z) a))), (0, .ref h0), (1, .ref g1), (2, .int (nI a)), (3, .int (nI tt)), (4, .ref dd), (5, .ref g2)]) hx hb dX15_macroValue_63 hl (by decide) rfl (fun ls hl => ?_)
        refine lv_iinc (v := (nI (j + 1))) (lv' := [(10, .int (nI (j + 1))), (8, .int (nI ((TC fv z) j - 48))), (9, .int (trW ((TC fv z) (tt - 1)))), (7, .int 0), (6, .int (nI ((TC fv z) a))), (0, .ref h0), (1, .ref g1), (2, .int (nI a)), (3, .int (nI tt)), (4, .ref dd), (5, .ref g2)]) hx hb dX15_macroValue_65 hl (k := 1) rfl (nI_1 _) (by decide) rfl (fun ls hl => ?_)
        refine lv_goto (tgt := 40) hx hb dX15_macroValue_68 (by decide) ?_
        refine W.widen (k := 0) (n := 0) (by omega) (by omega) ?_
        exact ih_98 ((j + 1), ((TC fv z) j - 48)) F_88 (⟨by omega, by omega, by omega, fun q => absurd q (by omega), fun q => by by_cases e9 : j = a + 1; subst e9; exact mg_d hto (by omega) hdg; exact absurd hdg (by rw [show j = a + 2 by omega]; exact mg_2 hto (by omega)), hn3, hn4⟩) (by show tt - (j + 1) < tt - j; omega) hO hR _ _ hP hD hS ls (lv_sub hl [0, 2, 1, 3, 4, 5, 6, 7, 8, 9, 10] rfl)
  ·
    refine lv_aload_n hx hb dX15_macroValue_11 rfl (lv_at hl 4 rfl) ?_
    refine lv_iload_n hx hb dX15_macroValue_12 rfl (lv_at hl 6 rfl) ?_
    refine lv_iconst (v := 1) hx hb dX15_macroValue_13 (by decide) ?_
    refine lv_isub hx hb dX15_macroValue_14 ?_
    refine lv_topi (fun x_724 ex_724 => ?_)
    obtain rfl : x_724 = (nI (tt - 1)) := ex_724.trans (pk_sub (a := tt) (b := 1) (by omega))
    refine pg_bald hx hb hK hP hL_g1 1 hFg rfl (vp_in_nI (by omega) (by omega)) dX15_macroValue_15 ?_
    refine lv_topi (fun x_725 ex_725 => ?_)
    obtain rfl : x_725 = fv (tt - 1) := ex_725.trans (congrArg fv (show ((nI (tt - 1)) : Int32).toNatClampNeg = (tt - 1) from nI_clamp (by omega)))
    refine lv_bipush (v := 114) hx hb dX15_macroValue_16 (by decide) ?_
    refine lv_icmp_ne (tgt := 32) hx hb dX15_macroValue_18 (by decide) (fun c_726 => ?_) (fun c_726 => ?_)
    ·
      refine lv_iconst (v := 0) hx hb dX15_macroValue_32 (by decide) ?_
      refine W.widen (k := 0) (n := 0) (by omega) (by omega) ?_
      exact jn_68 0 F (⟨(if_neg (fun q => c_726 ((tc_eq (z := z) (by omega) (by first | decide | omega)).mp q))).symm, hFi, hFj⟩) hO hR _ _ hP hD hS ls (lv_sub hl [0, 1, 2, 3, 4, 5, 6, 7, 8] rfl)
    ·
      refine lv_iload_n hx hb dX15_macroValue_21 rfl (lv_at hl 6 rfl) ?_
      refine lv_iconst (v := 1) hx hb dX15_macroValue_22 (by decide) ?_
      refine lv_isub hx hb dX15_macroValue_23 ?_
      refine lv_topi (fun x_727 ex_727 => ?_)
      obtain rfl : x_727 = (nI (tt - 1)) := ex_727.trans (pk_sub (a := tt) (b := 1) (by omega))
      refine lv_iload_n hx hb dX15_macroValue_24 rfl (lv_at hl 5 rfl) ?_
      refine lv_icmp_le (tgt := 32) hx hb dX15_macroValue_25 (by decide) (fun c_728 => ?_) (fun c_728 => ?_)
      ·
        have hi_729 : (tt - 1) ≤ a := (nI_leI (a := (tt - 1)) (b := a) (by omega) (by omega)).mp c_728
        refine lv_iconst (v := 0) hx hb dX15_macroValue_32 (by decide) ?_
        refine W.widen (k := 0) (n := 0) (by omega) (by omega) ?_
        exact jn_68 0 F (⟨(if_neg (fun q => by rw [show tt - 1 = a by omega] at q; rcases hmL with h9 | h9 | h9 | h9 | h9 <;> omega)).symm, hFi, hFj⟩) hO hR _ _ hP hD hS ls (lv_sub hl [0, 1, 2, 3, 4, 5, 6, 7, 8] rfl)
      ·
        have hi_730 : a < (tt - 1) := Nat.not_le.mp (fun q => c_728 ((nI_leI (a := (tt - 1)) (b := a) (by omega) (by omega)).mpr q))
        refine lv_iconst (v := 1) hx hb dX15_macroValue_28 (by decide) ?_
        refine lv_goto (tgt := 33) hx hb dX15_macroValue_29 (by decide) ?_
        refine W.widen (k := 0) (n := 0) (by omega) (by omega) ?_
        exact jn_68 1 F (⟨(if_pos ((tc_eq (z := z) (by omega) (by first | decide | omega)).mpr c_726)).symm, hFi, hFj⟩) hO hR _ _ hP hD hS ls (lv_sub hl [0, 1, 2, 3, 4, 5, 6, 7, 8] rfl)
