theorem kt_1129 : Cond.fieldLink RX15 57 "PostGateModel" "local" "LPostGateModel$Text;" ∈ tb := tb_at (i := 1298) (by decide +kernel) (by decide +kernel)
theorem kt_1130 : Cond.fieldLink RX15 61 "PostGateModel" "domain" "LPostGateModel$Text;" ∈ tb := tb_at (i := 1299) (by decide +kernel) (by decide +kernel)
theorem dX15_macroValue_0 : decode cX15_macroValue 0 = .ok (.aload_n 1, 1) := by decide +kernel
theorem dX15_macroValue_1 : decode cX15_macroValue 1 = .ok (.iload_n 2, 1) := by decide +kernel
theorem dX15_macroValue_2 : decode cX15_macroValue 2 = .ok (.baload, 1) := by decide +kernel
theorem dX15_macroValue_3 : decode cX15_macroValue 3 = .ok (.istore 6, 2) := by decide +kernel
theorem dX15_macroValue_5 : decode cX15_macroValue 5 = .ok (.iconst 0, 1) := by decide +kernel
theorem dX15_macroValue_6 : decode cX15_macroValue 6 = .ok (.istore 7, 2) := by decide +kernel
theorem dX15_macroValue_8 : decode cX15_macroValue 8 = .ok (.iconst 0, 1) := by decide +kernel
theorem dX15_macroValue_9 : decode cX15_macroValue 9 = .ok (.istore 8, 2) := by decide +kernel
theorem dX15_macroValue_11 : decode cX15_macroValue 11 = .ok (.aload_n 1, 1) := by decide +kernel
theorem dX15_macroValue_12 : decode cX15_macroValue 12 = .ok (.iload_n 3, 1) := by decide +kernel
theorem dX15_macroValue_13 : decode cX15_macroValue 13 = .ok (.iconst 1, 1) := by decide +kernel
theorem dX15_macroValue_14 : decode cX15_macroValue 14 = .ok (.isub, 1) := by decide +kernel
theorem dX15_macroValue_15 : decode cX15_macroValue 15 = .ok (.baload, 1) := by decide +kernel
theorem dX15_macroValue_16 : decode cX15_macroValue 16 = .ok (.bipush 114, 2) := by decide +kernel
theorem dX15_macroValue_18 : decode cX15_macroValue 18 = .ok (.if_icmp .ne 14, 3) := by decide +kernel
theorem dX15_macroValue_21 : decode cX15_macroValue 21 = .ok (.iload_n 3, 1) := by decide +kernel
theorem dX15_macroValue_22 : decode cX15_macroValue 22 = .ok (.iconst 1, 1) := by decide +kernel
theorem dX15_macroValue_23 : decode cX15_macroValue 23 = .ok (.isub, 1) := by decide +kernel
theorem dX15_macroValue_24 : decode cX15_macroValue 24 = .ok (.iload_n 2, 1) := by decide +kernel
theorem dX15_macroValue_25 : decode cX15_macroValue 25 = .ok (.if_icmp .le 7, 3) := by decide +kernel
theorem dX15_macroValue_28 : decode cX15_macroValue 28 = .ok (.iconst 1, 1) := by decide +kernel
theorem dX15_macroValue_29 : decode cX15_macroValue 29 = .ok (.goto 4, 3) := by decide +kernel
theorem dX15_macroValue_32 : decode cX15_macroValue 32 = .ok (.iconst 0, 1) := by decide +kernel
theorem dX15_macroValue_33 : decode cX15_macroValue 33 = .ok (.istore 9, 2) := by decide +kernel
theorem dX15_macroValue_35 : decode cX15_macroValue 35 = .ok (.iload_n 2, 1) := by decide +kernel
theorem dX15_macroValue_36 : decode cX15_macroValue 36 = .ok (.iconst 1, 1) := by decide +kernel
theorem dX15_macroValue_37 : decode cX15_macroValue 37 = .ok (.iadd, 1) := by decide +kernel
theorem dX15_macroValue_38 : decode cX15_macroValue 38 = .ok (.istore 10, 2) := by decide +kernel
theorem dX15_macroValue_40 : decode cX15_macroValue 40 = .ok (.iload 10, 2) := by decide +kernel
theorem dX15_macroValue_42 : decode cX15_macroValue 42 = .ok (.iload_n 3, 1) := by decide +kernel
theorem dX15_macroValue_43 : decode cX15_macroValue 43 = .ok (.if_icmp .ge 28, 3) := by decide +kernel
theorem dX15_macroValue_46 : decode cX15_macroValue 46 = .ok (.aload_n 1, 1) := by decide +kernel
theorem dX15_macroValue_47 : decode cX15_macroValue 47 = .ok (.iload 10, 2) := by decide +kernel
theorem dX15_macroValue_49 : decode cX15_macroValue 49 = .ok (.baload, 1) := by decide +kernel
theorem dX15_macroValue_50 : decode cX15_macroValue 50 = .ok (.invokestatic 202, 3) := by decide +kernel
theorem dX15_macroValue_53 : decode cX15_macroValue 53 = .ok (.ifCond .eq 12, 3) := by decide +kernel
theorem dX15_macroValue_56 : decode cX15_macroValue 56 = .ok (.aload_n 1, 1) := by decide +kernel
theorem dX15_macroValue_57 : decode cX15_macroValue 57 = .ok (.iload 10, 2) := by decide +kernel
theorem dX15_macroValue_59 : decode cX15_macroValue 59 = .ok (.baload, 1) := by decide +kernel
theorem dX15_macroValue_60 : decode cX15_macroValue 60 = .ok (.bipush 48, 2) := by decide +kernel
theorem dX15_macroValue_62 : decode cX15_macroValue 62 = .ok (.isub, 1) := by decide +kernel
theorem dX15_macroValue_63 : decode cX15_macroValue 63 = .ok (.istore 8, 2) := by decide +kernel
theorem dX15_macroValue_65 : decode cX15_macroValue 65 = .ok (.iinc 10 1, 3) := by decide +kernel
theorem dX15_macroValue_68 : decode cX15_macroValue 68 = .ok (.goto (-28), 3) := by decide +kernel
theorem dX15_macroValue_71 : decode cX15_macroValue 71 = .ok (.aload_n 0, 1) := by decide +kernel
theorem dX15_macroValue_72 : decode cX15_macroValue 72 = .ok (.getfield 67, 3) := by decide +kernel
theorem dX15_macroValue_75 : decode cX15_macroValue 75 = .ok (.iconst 0, 1) := by decide +kernel
theorem dX15_macroValue_76 : decode cX15_macroValue 76 = .ok (.putfield 190, 3) := by decide +kernel
theorem dX15_macroValue_79 : decode cX15_macroValue 79 = .ok (.iload 6, 2) := by decide +kernel
theorem dX15_macroValue_81 : decode cX15_macroValue 81 = .ok (.bipush 115, 2) := by decide +kernel
theorem dX15_macroValue_83 : decode cX15_macroValue 83 = .ok (.if_icmp .eq 10, 3) := by decide +kernel
theorem dX15_macroValue_86 : decode cX15_macroValue 86 = .ok (.iload 6, 2) := by decide +kernel
theorem dX15_macroValue_88 : decode cX15_macroValue 88 = .ok (.bipush 108, 2) := by decide +kernel
theorem dX15_macroValue_90 : decode cX15_macroValue 90 = .ok (.if_icmp .ne 25, 3) := by decide +kernel
theorem dX15_macroValue_93 : decode cX15_macroValue 93 = .ok (.aload_n 0, 1) := by decide +kernel
theorem dX15_macroValue_94 : decode cX15_macroValue 94 = .ok (.getfield 67, 3) := by decide +kernel
theorem dX15_macroValue_97 : decode cX15_macroValue 97 = .ok (.aload_n 0, 1) := by decide +kernel
theorem dX15_macroValue_98 : decode cX15_macroValue 98 = .ok (.getfield 57, 3) := by decide +kernel
theorem dX15_macroValue_101 : decode cX15_macroValue 101 = .ok (.getfield 295, 3) := by decide +kernel
theorem dX15_macroValue_104 : decode cX15_macroValue 104 = .ok (.iconst 0, 1) := by decide +kernel
theorem dX15_macroValue_105 : decode cX15_macroValue 105 = .ok (.aload_n 0, 1) := by decide +kernel
theorem dX15_macroValue_106 : decode cX15_macroValue 106 = .ok (.getfield 57, 3) := by decide +kernel
theorem dX15_macroValue_109 : decode cX15_macroValue 109 = .ok (.getfield 190, 3) := by decide +kernel
theorem dX15_macroValue_112 : decode cX15_macroValue 112 = .ok (.invokevirtual 298, 3) := by decide +kernel
theorem dX15_macroValue_115 : decode cX15_macroValue 115 = .ok (.iload 6, 2) := by decide +kernel
theorem dX15_macroValue_117 : decode cX15_macroValue 117 = .ok (.bipush 115, 2) := by decide +kernel
theorem dX15_macroValue_119 : decode cX15_macroValue 119 = .ok (.if_icmp .ne 12, 3) := by decide +kernel
theorem dX15_macroValue_122 : decode cX15_macroValue 122 = .ok (.aload_n 0, 1) := by decide +kernel
theorem dX15_macroValue_123 : decode cX15_macroValue 123 = .ok (.getfield 67, 3) := by decide +kernel
theorem dX15_macroValue_126 : decode cX15_macroValue 126 = .ok (.bipush 64, 2) := by decide +kernel
theorem dX15_macroValue_128 : decode cX15_macroValue 128 = .ok (.invokevirtual 292, 3) := by decide +kernel
theorem dX15_macroValue_131 : decode cX15_macroValue 131 = .ok (.iload 6, 2) := by decide +kernel
theorem dX15_macroValue_133 : decode cX15_macroValue 133 = .ok (.bipush 115, 2) := by decide +kernel
theorem dX15_macroValue_135 : decode cX15_macroValue 135 = .ok (.if_icmp .eq 10, 3) := by decide +kernel
theorem dX15_macroValue_138 : decode cX15_macroValue 138 = .ok (.iload 6, 2) := by decide +kernel
theorem dX15_macroValue_140 : decode cX15_macroValue 140 = .ok (.bipush 111, 2) := by decide +kernel
theorem dX15_macroValue_142 : decode cX15_macroValue 142 = .ok (.if_icmp .ne 25, 3) := by decide +kernel
theorem dX15_macroValue_145 : decode cX15_macroValue 145 = .ok (.aload_n 0, 1) := by decide +kernel
theorem dX15_macroValue_146 : decode cX15_macroValue 146 = .ok (.getfield 67, 3) := by decide +kernel
theorem dX15_macroValue_149 : decode cX15_macroValue 149 = .ok (.aload_n 0, 1) := by decide +kernel
theorem dX15_macroValue_150 : decode cX15_macroValue 150 = .ok (.getfield 61, 3) := by decide +kernel
theorem dX15_macroValue_153 : decode cX15_macroValue 153 = .ok (.getfield 295, 3) := by decide +kernel
theorem dX15_macroValue_156 : decode cX15_macroValue 156 = .ok (.iconst 0, 1) := by decide +kernel
theorem dX15_macroValue_157 : decode cX15_macroValue 157 = .ok (.aload_n 0, 1) := by decide +kernel
theorem dX15_macroValue_158 : decode cX15_macroValue 158 = .ok (.getfield 61, 3) := by decide +kernel
theorem dX15_macroValue_161 : decode cX15_macroValue 161 = .ok (.getfield 190, 3) := by decide +kernel
theorem dX15_macroValue_164 : decode cX15_macroValue 164 = .ok (.invokevirtual 298, 3) := by decide +kernel
theorem dX15_macroValue_167 : decode cX15_macroValue 167 = .ok (.iload 6, 2) := by decide +kernel
theorem dX15_macroValue_169 : decode cX15_macroValue 169 = .ok (.bipush 100, 2) := by decide +kernel
theorem dX15_macroValue_171 : decode cX15_macroValue 171 = .ok (.if_icmp .ne 21, 3) := by decide +kernel
theorem dX15_macroValue_174 : decode cX15_macroValue 174 = .ok (.aload_n 0, 1) := by decide +kernel
theorem dX15_macroValue_175 : decode cX15_macroValue 175 = .ok (.getfield 67, 3) := by decide +kernel
theorem dX15_macroValue_178 : decode cX15_macroValue 178 = .ok (.aload 4, 2) := by decide +kernel
theorem dX15_macroValue_180 : decode cX15_macroValue 180 = .ok (.getfield 295, 3) := by decide +kernel
theorem dX15_macroValue_183 : decode cX15_macroValue 183 = .ok (.iconst 0, 1) := by decide +kernel
theorem dX15_macroValue_184 : decode cX15_macroValue 184 = .ok (.aload 4, 2) := by decide +kernel
theorem dX15_macroValue_186 : decode cX15_macroValue 186 = .ok (.getfield 190, 3) := by decide +kernel
theorem dX15_macroValue_189 : decode cX15_macroValue 189 = .ok (.invokevirtual 298, 3) := by decide +kernel
theorem dX15_macroValue_192 : decode cX15_macroValue 192 = .ok (.bipush 24, 2) := by decide +kernel
theorem dX15_macroValue_194 : decode cX15_macroValue 194 = .ok (.istore 10, 2) := by decide +kernel
theorem dX15_macroValue_196 : decode cX15_macroValue 196 = .ok (.iload 6, 2) := by decide +kernel
theorem dX15_macroValue_198 : decode cX15_macroValue 198 = .ok (.bipush 105, 2) := by decide +kernel
theorem dX15_macroValue_200 : decode cX15_macroValue 200 = .ok (.if_icmp .ne 103, 3) := by decide +kernel
theorem dX15_macroValue_203 : decode cX15_macroValue 203 = .ok (.iload 10, 2) := by decide +kernel
theorem dX15_macroValue_205 : decode cX15_macroValue 205 = .ok (.ifCond .lt 98, 3) := by decide +kernel
theorem dX15_macroValue_208 : decode cX15_macroValue 208 = .ok (.aload_n 0, 1) := by decide +kernel
theorem dX15_macroValue_209 : decode cX15_macroValue 209 = .ok (.getfield 205, 3) := by decide +kernel
theorem dX15_macroValue_212 : decode cX15_macroValue 212 = .ok (.iload 10, 2) := by decide +kernel
theorem dX15_macroValue_214 : decode cX15_macroValue 214 = .ok (.ishr, 1) := by decide +kernel
theorem dX15_macroValue_215 : decode cX15_macroValue 215 = .ok (.sipush 255, 3) := by decide +kernel
theorem dX15_macroValue_218 : decode cX15_macroValue 218 = .ok (.iand, 1) := by decide +kernel
theorem dX15_macroValue_219 : decode cX15_macroValue 219 = .ok (.istore 11, 2) := by decide +kernel
theorem dX15_macroValue_221 : decode cX15_macroValue 221 = .ok (.iload 11, 2) := by decide +kernel
theorem dX15_macroValue_223 : decode cX15_macroValue 223 = .ok (.bipush 99, 2) := by decide +kernel
theorem dX15_macroValue_225 : decode cX15_macroValue 225 = .ok (.if_icmp .le 18, 3) := by decide +kernel
theorem dX15_macroValue_228 : decode cX15_macroValue 228 = .ok (.aload_n 0, 1) := by decide +kernel
theorem dX15_macroValue_229 : decode cX15_macroValue 229 = .ok (.getfield 67, 3) := by decide +kernel
theorem dX15_macroValue_232 : decode cX15_macroValue 232 = .ok (.bipush 48, 2) := by decide +kernel
theorem dX15_macroValue_234 : decode cX15_macroValue 234 = .ok (.iload 11, 2) := by decide +kernel
theorem dX15_macroValue_236 : decode cX15_macroValue 236 = .ok (.bipush 100, 2) := by decide +kernel
theorem dX15_macroValue_238 : decode cX15_macroValue 238 = .ok (.idiv, 1) := by decide +kernel
theorem dX15_macroValue_239 : decode cX15_macroValue 239 = .ok (.iadd, 1) := by decide +kernel
theorem dX15_macroValue_240 : decode cX15_macroValue 240 = .ok (.invokevirtual 292, 3) := by decide +kernel
theorem dX15_macroValue_243 : decode cX15_macroValue 243 = .ok (.iload 11, 2) := by decide +kernel
theorem dX15_macroValue_245 : decode cX15_macroValue 245 = .ok (.bipush 9, 2) := by decide +kernel
theorem dX15_macroValue_247 : decode cX15_macroValue 247 = .ok (.if_icmp .le 21, 3) := by decide +kernel
theorem dX15_macroValue_250 : decode cX15_macroValue 250 = .ok (.aload_n 0, 1) := by decide +kernel
theorem dX15_macroValue_251 : decode cX15_macroValue 251 = .ok (.getfield 67, 3) := by decide +kernel
theorem dX15_macroValue_254 : decode cX15_macroValue 254 = .ok (.bipush 48, 2) := by decide +kernel
theorem dX15_macroValue_256 : decode cX15_macroValue 256 = .ok (.iload 11, 2) := by decide +kernel
theorem dX15_macroValue_258 : decode cX15_macroValue 258 = .ok (.bipush 10, 2) := by decide +kernel
theorem dX15_macroValue_260 : decode cX15_macroValue 260 = .ok (.idiv, 1) := by decide +kernel
theorem dX15_macroValue_261 : decode cX15_macroValue 261 = .ok (.bipush 10, 2) := by decide +kernel
theorem dX15_macroValue_263 : decode cX15_macroValue 263 = .ok (.irem, 1) := by decide +kernel
theorem dX15_macroValue_264 : decode cX15_macroValue 264 = .ok (.iadd, 1) := by decide +kernel
theorem dX15_macroValue_265 : decode cX15_macroValue 265 = .ok (.invokevirtual 292, 3) := by decide +kernel
theorem dX15_macroValue_268 : decode cX15_macroValue 268 = .ok (.aload_n 0, 1) := by decide +kernel
theorem dX15_macroValue_269 : decode cX15_macroValue 269 = .ok (.getfield 67, 3) := by decide +kernel
theorem dX15_macroValue_272 : decode cX15_macroValue 272 = .ok (.bipush 48, 2) := by decide +kernel
theorem dX15_macroValue_274 : decode cX15_macroValue 274 = .ok (.iload 11, 2) := by decide +kernel
theorem dX15_macroValue_276 : decode cX15_macroValue 276 = .ok (.bipush 10, 2) := by decide +kernel
theorem dX15_macroValue_278 : decode cX15_macroValue 278 = .ok (.irem, 1) := by decide +kernel
theorem dX15_macroValue_279 : decode cX15_macroValue 279 = .ok (.iadd, 1) := by decide +kernel
theorem dX15_macroValue_280 : decode cX15_macroValue 280 = .ok (.invokevirtual 292, 3) := by decide +kernel
theorem dX15_macroValue_283 : decode cX15_macroValue 283 = .ok (.iload 10, 2) := by decide +kernel
theorem dX15_macroValue_285 : decode cX15_macroValue 285 = .ok (.ifCond .le 12, 3) := by decide +kernel
theorem dX15_macroValue_288 : decode cX15_macroValue 288 = .ok (.aload_n 0, 1) := by decide +kernel
theorem dX15_macroValue_289 : decode cX15_macroValue 289 = .ok (.getfield 67, 3) := by decide +kernel
theorem dX15_macroValue_292 : decode cX15_macroValue 292 = .ok (.bipush 46, 2) := by decide +kernel
theorem dX15_macroValue_294 : decode cX15_macroValue 294 = .ok (.invokevirtual 292, 3) := by decide +kernel
theorem dX15_macroValue_297 : decode cX15_macroValue 297 = .ok (.iinc 10 (-8), 3) := by decide +kernel
theorem dX15_macroValue_300 : decode cX15_macroValue 300 = .ok (.goto (-104), 3) := by decide +kernel
theorem dX15_macroValue_303 : decode cX15_macroValue 303 = .ok (.iconst 1, 1) := by decide +kernel
theorem dX15_macroValue_304 : decode cX15_macroValue 304 = .ok (.istore 7, 2) := by decide +kernel
theorem dX15_macroValue_306 : decode cX15_macroValue 306 = .ok (.iconst 0, 1) := by decide +kernel
theorem dX15_macroValue_307 : decode cX15_macroValue 307 = .ok (.istore 10, 2) := by decide +kernel
theorem dX15_macroValue_309 : decode cX15_macroValue 309 = .ok (.iload 10, 2) := by decide +kernel
theorem dX15_macroValue_311 : decode cX15_macroValue 311 = .ok (.aload_n 0, 1) := by decide +kernel
theorem dX15_macroValue_312 : decode cX15_macroValue 312 = .ok (.getfield 67, 3) := by decide +kernel
theorem dX15_macroValue_315 : decode cX15_macroValue 315 = .ok (.getfield 190, 3) := by decide +kernel
theorem dX15_macroValue_318 : decode cX15_macroValue 318 = .ok (.if_icmp .ge 27, 3) := by decide +kernel
theorem dX15_macroValue_321 : decode cX15_macroValue 321 = .ok (.aload_n 0, 1) := by decide +kernel
theorem dX15_macroValue_322 : decode cX15_macroValue 322 = .ok (.getfield 67, 3) := by decide +kernel
theorem dX15_macroValue_325 : decode cX15_macroValue 325 = .ok (.getfield 295, 3) := by decide +kernel
theorem dX15_macroValue_328 : decode cX15_macroValue 328 = .ok (.iload 10, 2) := by decide +kernel
theorem dX15_macroValue_330 : decode cX15_macroValue 330 = .ok (.baload, 1) := by decide +kernel
theorem dX15_macroValue_331 : decode cX15_macroValue 331 = .ok (.bipush 46, 2) := by decide +kernel
theorem dX15_macroValue_333 : decode cX15_macroValue 333 = .ok (.if_icmp .ne 6, 3) := by decide +kernel
theorem dX15_macroValue_336 : decode cX15_macroValue 336 = .ok (.iinc 7 1, 3) := by decide +kernel
theorem dX15_macroValue_339 : decode cX15_macroValue 339 = .ok (.iinc 10 1, 3) := by decide +kernel
theorem dX15_macroValue_342 : decode cX15_macroValue 342 = .ok (.goto (-33), 3) := by decide +kernel
theorem dX15_macroValue_345 : decode cX15_macroValue 345 = .ok (.iload 8, 2) := by decide +kernel
theorem dX15_macroValue_347 : decode cX15_macroValue 347 = .ok (.ifCond .eq 10, 3) := by decide +kernel
theorem dX15_macroValue_350 : decode cX15_macroValue 350 = .ok (.iload 8, 2) := by decide +kernel
theorem dX15_macroValue_352 : decode cX15_macroValue 352 = .ok (.iload 7, 2) := by decide +kernel
theorem dX15_macroValue_354 : decode cX15_macroValue 354 = .ok (.if_icmp .lt 7, 3) := by decide +kernel
theorem dX15_macroValue_357 : decode cX15_macroValue 357 = .ok (.iconst 0, 1) := by decide +kernel
theorem dX15_macroValue_358 : decode cX15_macroValue 358 = .ok (.goto 8, 3) := by decide +kernel
theorem dX15_macroValue_361 : decode cX15_macroValue 361 = .ok (.iload 7, 2) := by decide +kernel
theorem dX15_macroValue_363 : decode cX15_macroValue 363 = .ok (.iload 8, 2) := by decide +kernel
theorem dX15_macroValue_365 : decode cX15_macroValue 365 = .ok (.isub, 1) := by decide +kernel
theorem dX15_macroValue_366 : decode cX15_macroValue 366 = .ok (.istore 10, 2) := by decide +kernel
theorem dX15_macroValue_368 : decode cX15_macroValue 368 = .ok (.iload 10, 2) := by decide +kernel
theorem dX15_macroValue_370 : decode cX15_macroValue 370 = .ok (.istore 11, 2) := by decide +kernel
theorem dX15_macroValue_372 : decode cX15_macroValue 372 = .ok (.iload 11, 2) := by decide +kernel
theorem dX15_macroValue_374 : decode cX15_macroValue 374 = .ok (.iload 7, 2) := by decide +kernel
theorem dX15_macroValue_376 : decode cX15_macroValue 376 = .ok (.if_icmp .ge 46, 3) := by decide +kernel
theorem dX15_macroValue_379 : decode cX15_macroValue 379 = .ok (.iload 11, 2) := by decide +kernel
theorem dX15_macroValue_381 : decode cX15_macroValue 381 = .ok (.iload 10, 2) := by decide +kernel
theorem dX15_macroValue_383 : decode cX15_macroValue 383 = .ok (.if_icmp .le 10, 3) := by decide +kernel
theorem dX15_macroValue_386 : decode cX15_macroValue 386 = .ok (.aload 5, 2) := by decide +kernel
theorem dX15_macroValue_388 : decode cX15_macroValue 388 = .ok (.bipush 46, 2) := by decide +kernel
theorem dX15_macroValue_390 : decode cX15_macroValue 390 = .ok (.invokestatic 284, 3) := by decide +kernel
theorem dX15_macroValue_393 : decode cX15_macroValue 393 = .ok (.aload_n 0, 1) := by decide +kernel
theorem dX15_macroValue_394 : decode cX15_macroValue 394 = .ok (.iload 9, 2) := by decide +kernel
theorem dX15_macroValue_396 : decode cX15_macroValue 396 = .ok (.ifCond .eq 13, 3) := by decide +kernel
theorem dX15_macroValue_399 : decode cX15_macroValue 399 = .ok (.iload 7, 2) := by decide +kernel
theorem dX15_macroValue_401 : decode cX15_macroValue 401 = .ok (.iconst 1, 1) := by decide +kernel
theorem dX15_macroValue_402 : decode cX15_macroValue 402 = .ok (.isub, 1) := by decide +kernel
theorem dX15_macroValue_403 : decode cX15_macroValue 403 = .ok (.iload 11, 2) := by decide +kernel
theorem dX15_macroValue_405 : decode cX15_macroValue 405 = .ok (.isub, 1) := by decide +kernel
theorem dX15_macroValue_406 : decode cX15_macroValue 406 = .ok (.goto 5, 3) := by decide +kernel
theorem dX15_macroValue_409 : decode cX15_macroValue 409 = .ok (.iload 11, 2) := by decide +kernel
theorem dX15_macroValue_411 : decode cX15_macroValue 411 = .ok (.aload 5, 2) := by decide +kernel
theorem dX15_macroValue_413 : decode cX15_macroValue 413 = .ok (.invokevirtual 300, 3) := by decide +kernel
theorem dX15_macroValue_416 : decode cX15_macroValue 416 = .ok (.iinc 11 1, 3) := by decide +kernel
theorem dX15_macroValue_419 : decode cX15_macroValue 419 = .ok (.goto (-47), 3) := by decide +kernel
theorem dX15_macroValue_422 : decode cX15_macroValue 422 = .ok (.return_, 1) := by decide +kernel
theorem kt_1148 : Cond.code yX15_part cX15_part 5 none ∈ tb := tb_at (i := 1623) (by decide +kernel) (by decide +kernel)
theorem kt_1149 : Cond.methodLink RX15 300 yX15_part ∈ tb := tb_at (i := 1620) (by decide +kernel) (by decide +kernel)
theorem kt_1150 : Cond.instanceMethod yX15_part ∈ tb := tb_at (i := 1622) (by decide +kernel) (by decide +kernel)
theorem kt_1151 : Cond.selects RX15 yX15_part yX15_part ∈ tb := tb_at (i := 54) (by decide +kernel) (by decide +kernel)
theorem src_app {W V : List Nat} {z y : Nat} {f fv f2 : Nat → Int32} (h : SRC W z f) (hv : SRC V y fv) (h1 : ∀ j, j < z → f2 j = f j) (h2 : ∀ j, j < y → f2 (z + j) = fv j) : SRC (W ++ V) (z + y) f2 := by
  obtain ⟨a1, a2, a3⟩ := h
  obtain ⟨b1, b2, b3⟩ := hv
  have hr : ∀ j, (W ++ V).getD (z + j) 0 = V.getD j 0 := fun j => by rw [← a1]; exact apl_r W j
  refine ⟨by rw [List.length_append, a1, b1], fun j hj => ?_, fun j hj => ?_⟩
  · rcases Nat.lt_or_ge j z with q | q
    · rw [h1 j q, a2 j q, apl_l W j (by omega)]
    · have h9 := hr (j - z)
      have h8 := h2 (j - z) (by omega)
      rw [show z + (j - z) = j by omega] at h9 h8
      rw [h9, h8, b2 _ (by omega)]
  · rcases Nat.lt_or_ge j z with q | q
    · rw [apl_l W j (by omega)]
      exact a3 j q
    · have h9 := hr (j - z)
      rw [show z + (j - z) = j by omega] at h9
      rw [h9]
      exact b3 _ (by omega)
theorem src_one {W : List Nat} {z c : Nat} {f : Nat → Int32} (h : SRC W z f) (hc : c < 128) : SRC (W ++ [c]) (z + 1) (upd f z (nI c)) := by
  refine src_app h (V := [c]) (y := 1) (fv := fun _ => nI c) ⟨rfl, fun j hj => ?_, fun j hj => ?_⟩ (fun j hj => updc_ne (by omega)) (fun j hj => ?_)
  · rw [show j = 0 by omega]
    rfl
  · rw [show j = 0 by omega]
    exact hc
  · rw [show z + j = z by omega, updc_at]
theorem src_nil {f : Nat → Int32} : SRC [] 0 f := ⟨rfl, fun j hj => absurd hj (Nat.not_lt_zero _), fun j hj => absurd hj (Nat.not_lt_zero _)⟩
def TXM (cs : Nat → ClassId) (F : Nat → va_E) (w n : Nat) (V : List Nat) : Prop := ∃ (r z : Nat) (f : Nat → Int32), F w = .inr (14, [.ref r, .int (nI z)]) ∧ F r = .inl (cs 17, n, .inl f) ∧ SRC V z f ∧ z ≤ n
theorem TXM.get {cs : Nat → ClassId} {ty : TyM} {gm : Nat → Nat → Nat} {L : List Nat} {F : Nat → va_E} {w δ r n : Nat} {V : List Nat} (h : TXM cs F w n V) (hO : OKm cs ty gm L F) (hL : w ∈ L) (hT : ty w = (14, δ, [r, n])) : ∃ (z : Nat) (f : Nat → Int32), F w = .inr (14, [.ref r, .int (nI z)]) ∧ F r = .inl (cs 17, n, .inl f) ∧ SRC V z f ∧ z ≤ n := by
  obtain ⟨r9, z, f, h1, h2, h3, h4⟩ := h
  obtain ⟨z1, u1, -⟩ := hO.txt hL hT
  have e8 := u1.symm.trans h1
  simp only [Sum.inr.injEq, Prod.mk.injEq, List.cons.injEq, Value.ref.injEq, true_and] at e8
  obtain ⟨rfl, -⟩ := e8
  exact ⟨z, f, h1, h2, h3, h4⟩
theorem TXM.fr {cs : Nat → ClassId} {ty : TyM} {gm : Nat → Nat → Nat} {L S : List Nat} {F G : Nat → va_E} {w δ r n : Nat} {V : List Nat} (h : TXM cs F w n V) (hO : OKm cs ty gm L F) (hW : WTm ty gm L) (hL : w ∈ L) (hT : ty w = (14, δ, [r, n])) (hR : FR ty S F G) (hS : δ ∉ S) : TXM cs G w n V := by
  obtain ⟨z, f, h1, h2, h3, h4⟩ := h.get hO hL hT
  obtain ⟨m1, m2, -⟩ := hW.txt hL hT
  exact ⟨r, z, f, (hR w (by rw [hT]; exact hS)).trans h1, (hR r (by rw [m2]; exact hS)).trans h2, h3, h4⟩
def sdM (LC DM : List Nat) (x : Int32) : SDR := (LC ++ [64] ++ DM, LC, DM, qdL x)
def pm1 (LC : List Nat) (c : Nat) : List Nat := if c = 115 ∨ c = 108 then LC else []
def pm2 (LC : List Nat) (c : Nat) : List Nat := if c = 115 then pm1 LC c ++ [64] else pm1 LC c
def pm3 (LC DM : List Nat) (c : Nat) : List Nat := if c = 115 ∨ c = 111 then pm2 LC c ++ DM else pm2 LC c
def pm4 (LC DM dn : List Nat) (c : Nat) : List Nat := if c = 100 then pm3 LC DM c ++ dn else pm3 LC DM c
theorem pm_i {LC DM dn : List Nat} {c : Nat} (h : c = 105) : pm4 LC DM dn c = [] := by
  subst h
  rfl
theorem pm_pc {LC DM dn : List Nat} {x : Int32} {c : Nat} (h : mcL c) (hi : ¬ c = 105) : pm4 LC DM dn c = pcW (sdM LC DM x) dn c := by
  rcases h with h | h | h | h | h
  · subst h
    rfl
  · subst h
    rfl
  · subst h
    rfl
  · subst h
    rfl
  · exact absurd h hi
theorem pc_i {LC DM dn : List Nat} {x : Int32} {c : Nat} (h : c = 105) : pcW (sdM LC DM x) dn c = qdL x := by
  subst h
  rfl
theorem sv_shv : ∀ m, m ≤ 4 → sv m = shv m := by decide +kernel
theorem oc_s (x s s2 : Int32) (k D : Nat) (hk : (s.toBitVec.smod 32).toNat = k) (hu : ((s2.toUInt32 &&& Int32.toUInt32 31).toBitVec % 32).toNat = k) (hD : 2 ^ k = D) (hN : ∀ t, t < 4294967296 → (4294967295 - (4294967295 - t) / D) % 256 = t / D % 256) : (x >>> s) &&& 255 = usn x s2 &&& 255 := by
  have a1 := pk_and (x >>> s) (m := 255) 8 (by decide)
  have a2 := pk_and (usn x s2) (m := 255) 8 (by decide)
  have a3 : (usn x s2).toBitVec.toNat = x.toBitVec.toNat / D := by
    rw [← hD]
    exact pk_ushr x s2 k hu
  have a4 : (x >>> s).toBitVec.toNat = (x.toBitVec.sshiftRight k).toNat := by
    rw [← hk]
    rfl
  have ht : x.toBitVec.toNat < 4294967296 := x.toBitVec.isLt
  rw [a1, a2, a3, a4, BitVec.toNat_sshiftRight]
  by_cases c : x.toBitVec.msb = true
  · rw [if_pos c, Nat.shiftRight_eq_div_pow, hD]
    exact congrArg nI (hN _ ht)
  · rw [if_neg c, Nat.shiftRight_eq_div_pow, hD]
theorem oc_r (x : Int32) : ∀ m, m < 4 → (x >>> (sv m &&& 31)) &&& 255 = usn x (shv m) &&& 255 := by
  intro m hm
  rcases (show m = 0 ∨ m = 1 ∨ m = 2 ∨ m = 3 by omega) with rfl | rfl | rfl | rfl
  · exact oc_s x _ _ 24 16777216 (by decide +kernel) (by decide +kernel) (by decide) (fun t h => by omega)
  · exact oc_s x _ _ 16 65536 (by decide +kernel) (by decide +kernel) (by decide) (fun t h => by omega)
  · exact oc_s x _ _ 8 256 (by decide +kernel) (by decide +kernel) (by decide) (fun t h => by omega)
  · exact oc_s x _ _ 0 1 (by decide +kernel) (by decide +kernel) (by decide) (fun t h => by omega)
theorem mg_to {T : Nat → Nat} {a tt : Nat} (h : tt = mcR T (mcD T (a + 1))) : a + 1 ≤ tt ∧ tt ≤ a + 3 := by
  have h1 := mcD_le T (a + 1)
  have h2 := mcR_le T (mcD T (a + 1))
  omega
/-- the digit of a MACRO, as it is found -/
theorem mg_d {T : Nat → Nat} {a tt : Nat} (h : tt = mcR T (mcD T (a + 1))) (hj : a + 1 < tt) (hd : 48 ≤ T (a + 1) ∧ T (a + 1) ≤ 57) : T (a + 1) - 48 = dgW (T (a + 1)) := by
  unfold dgW
  by_cases c : 49 ≤ T (a + 1) ∧ T (a + 1) ≤ 57
  · rw [if_pos c]
  · exfalso
    have e1 : mcD T (a + 1) = a + 1 := if_neg c
    have e2 : mcR T (a + 1) = a + 1 := if_neg (by omega)
    rw [e1, e2] at h
    omega
theorem mg_n {T : Nat → Nat} {a tt : Nat} (h : tt = mcR T (mcD T (a + 1))) (hd : ¬ (a + 1 < tt ∧ 48 ≤ T (a + 1) ∧ T (a + 1) ≤ 57)) : dgW (T (a + 1)) = 0 := by
  unfold dgW
  by_cases c : 49 ≤ T (a + 1) ∧ T (a + 1) ≤ 57
  · exfalso
    have e1 : mcD T (a + 1) = a + 1 + 1 := if_pos c
    have e2 := mcR_le T (a + 1 + 1)
    rw [e1] at h
    exact hd ⟨by omega, by omega, c.2⟩
  · rw [if_neg c]
theorem mg_2 {T : Nat → Nat} {a tt : Nat} (h : tt = mcR T (mcD T (a + 1))) (hj : a + 2 < tt) : ¬ (48 ≤ T (a + 2) ∧ T (a + 2) ≤ 57) := by
  intro hd
  by_cases c : 49 ≤ T (a + 1) ∧ T (a + 1) ≤ 57
  · have e1 : mcD T (a + 1) = a + 1 + 1 := if_pos c
    have e2 : mcR T (a + 1 + 1) = a + 1 + 1 := if_neg (show ¬ T (a + 2) = 114 by omega)
    rw [e1, e2] at h
    omega
  · have e1 : mcD T (a + 1) = a + 1 := if_neg c
    have e2 := mcR_le T (a + 1)
    rw [e1] at h
    omega
set_option maxHeartbeats 4000000 in
set_option maxRecDepth 100000 in
theorem s_X14_add__8 (l : Launch) (dC : Nat → ClassId) (dI : Nat → Nat → Nat) (cs : Nat → ClassId) (ty : TyM) (gm : Nat → Nat → Nat) (L : List Nat) (sz : Nat) (F : Nat → va_E) (h0 : Nat) (ρ : Nat) (r0 : Nat) (n : Nat) (g1 : Nat) (σ : Nat) (n1 : Nat) (z : Nat) (tt : Nat) (fq : Nat → Int32) (gv : Nat → Int32) (V : List Nat) (Wq : List Nat) (hW : WTm ty gm L) (hL_h0 : h0 ∈ L) (hT_h0 : ty h0 = (14, ρ, [r0, n])) (hL_g1 : g1 ∈ L) (hT_g1 : ty g1 = (17, σ, [n1])) (hF0 : F h0 = .inr (14, [.ref r0, .int (nI z)])) (hFr : F r0 = .inl (cs 17, n, .inl fq)) (hFg : F g1 = .inl (cs 17, n1, .inl gv)) (htn : tt ≤ n1) (hfit : z + tt ≤ n) (hn9 : n ≤ 10000) (hW0 : SRC Wq z fq) (hV : SRC V tt gv) : Met l yX14_add_ (.code yX14_add_ cX14_add_ 4 none :: tb) ({ frames := 1, cells := 0, slots := 0, locals := 48 }) (va_Pc [.ref h0, .ref g1, .int 0, .int (nI tt)] (PTm (dC, dI) cs ty gm L F sz)) (va_Qv (fun _ : Unit => True) (fun _ T9 => ∃ F2 : Nat → va_E, ∃ f2 : Nat → Int32, QTm (dC, dI) cs ty gm L [ρ] F F2 (va_A (va_pl L F) sz) T9 ∧ F2 h0 = .inr (14, [.ref r0, .int (nI (z + tt))]) ∧ F2 r0 = .inl (cs 17, n, .inl f2) ∧ SRC (Wq ++ V) (z + tt) f2) (va_A (va_pl L F) sz)) 0 0 (va_A (va_pl L F) sz) := by
  refine Met.ofW (cc := cX14_add_) (maxL := 4) (ret := none) (by decide) rfl ?_
  intro p e s m args below meth c s₁ B hml hv
  obtain ⟨rfl, hsz, hP, hK, hD0, hE, hO⟩ := hv
  have hx := B.exec
  have hb := B.bytes
  have hr := B.returns
  have hts : ∀ w ∈ tb, w.before _ s = true := fun w h => atoms_spec (ws := .code yX14_add_ cX14_add_ 4 none :: tb) B.pre w (List.mem_cons_of_mem _ h)
  have hown : s.vm.findClass RX14 = some m.cls := findClass_of_methodNamed B.named
  have hlocks := B.notSynchronized
  subst hsz
  have hD := hD0.self (sz := s.heap.size)
  generalize hAe : va_A (va_pl L F) s.heap.size = A at hD ⊢
  have hA : ∀ q : Nat, s.heap.size ≤ q → A q := fun q h => by rw [← hAe]; exact Or.inr h
  have hS : va_S A s.heap s.heap [] := va_S.rf
  have hR : FR ty [ρ] F F := FR.refl
  have hl := lv_entry ([.ref h0, .ref g1, .int 0, .int (nI tt)]) (n := 4) (Nat.le_of_ble_eq_true rfl)
  rw [lg_entry_eq]
  generalize (lg_sl ([.ref h0, .ref g1, .int 0, .int (nI tt)]) ++ List.replicate (4 - (lg_sl ([.ref h0, .ref g1, .int 0, .int (nI tt)])).length) Slot.unset).toArray = ls at hl ⊢
  have hl : lv_has ls 4 [(0, .ref h0), (1, .ref g1), (2, .int 0), (3, .int (nI tt))] := hl
  obtain ⟨hi_1, ht_2, hq_3⟩ := hW.txt hL_h0 hT_h0
  obtain ⟨hq_4, hq_5⟩ := hW.octs hL_g1 hT_g1
  have hBg := bfmo hFg (hO.octs hL_g1 hT_g1)
  have hBr := bfmo hFr (hO.octs hi_1 ht_2)
  refine lv_aload_n hx hb dX14_add__0 rfl (lv_at hl 1 rfl) ?_
  refine lv_iload_n hx hb dX14_add__1 rfl (lv_at hl 2 rfl) ?_
  refine lv_aload_n hx hb dX14_add__2 rfl (lv_at hl 0 rfl) ?_
  refine pg_get (ci := 14) (v := .ref r0) (C := RX14) (T := TX14) (N := 2) hx hb hts it_14 hown hK hP hL_h0 hF0 rfl 0 (by decide) (hts _ kt_672) (fun _ h9 => h9) rfl dX14_add__3 ?_
  refine lv_aload_n hx hb dX14_add__6 rfl (lv_at hl 0 rfl) ?_
  refine pg_get (ci := 14) (v := .int (nI z)) (C := RX14) (T := TX14) (N := 2) hx hb hts it_14 hown hK hP hL_h0 hF0 rfl 1 (by decide) (hts _ kt_673) (fun _ h9 => h9) rfl dX14_add__7 ?_
  refine lv_iload_n hx hb dX14_add__10 rfl (lv_at hl 3 rfl) ?_
  refine lv_iload_n hx hb dX14_add__11 rfl (lv_at hl 2 rfl) ?_
  refine lv_isub hx hb dX14_add__12 ?_
  refine lv_topi (fun x_6 ex_6 => ?_)
  obtain rfl : x_6 = (nI tt) := ex_6.trans (pk_sub (b := 0) (by omega))
  obtain ⟨hq_7, hq_8⟩ := hW.octs hi_1 ht_2
  refine pg_copyi hx hb (by rw [hml]; exact hl.1.symm) hown (hts _ kt_674) (hts _ kt_29) (hts _ kt_30) (hts _ kt_31) hK hP hD hS hL_g1 hi_1 1 1 hFg hFr rfl rfl rfl (by decide) (nI_pos (by omega)) (nI_pos (by omega)) (by rw [show (0 : Int32).toNatClampNeg = 0 by decide, nI_clamp (by omega)]; omega) (by rw [nI_clamp (by omega), nI_clamp (by omega)]; omega) (fun _ _ => hBg _) (Nat.le_of_ble_eq_true rfl) (by decide) dX14_add__13 (fun H locs hP hD hS => ?_)
  obtain ⟨F_9, he_10, hP, hD, hO, hR⟩ : ∃ G, G = va_up F r0 (.inl (cs 17, n, .inl (va_cpy gv fq (0 : Int32).toNatClampNeg ((nI z)).toNatClampNeg ((nI tt)).toNatClampNeg))) ∧ va_P (dC, dI) vwCl (va_pl L G) H ∧ va_D A (va_pl L G) ∧ OKm cs ty gm L G ∧ FR ty [ρ] F G := ⟨_, rfl, hP, hD, hO.up (shm.octs ht_2 ⟨_, rfl, bfm_cpy hBg hBr _ _ _⟩), hR.up ht_2 (by simp)⟩
  have hF_11 : F_9 r0 = .inl (cs 17, n, .inl (va_cpy gv fq (0 : Int32).toNatClampNeg ((nI z)).toNatClampNeg ((nI tt)).toNatClampNeg)) := by rw [he_10]; exact up_self
  have hF_12 : F_9 h0 = .inr (14, [.ref r0, .int (nI z)]) := by rw [he_10, up_ne (ne_ty hT_h0 ht_2 (by simp))]; exact hF0
  obtain ⟨f_13, hF_11, hq_14, hfe_15⟩ : ∃ f : Nat → Int32, F_9 r0 = .inl (cs 17, n, .inl f) ∧ BFm f ∧ f = va_cpy gv fq (0 : Int32).toNatClampNeg ((nI z)).toNatClampNeg ((nI tt)).toNatClampNeg := ⟨_, hF_11, bfm_cpy hBg hBr _ _ _, rfl⟩
  refine lv_aload_n hx hb dX14_add__16 rfl (lv_at hl 0 rfl) ?_
  refine lv_dup hx hb dX14_add__17 rfl ?_
  refine pg_get (ci := 14) (v := .int (nI z)) (C := RX14) (T := TX14) (N := 2) hx hb hts it_14 hown hK hP hL_h0 hF_12 rfl 1 (by decide) (hts _ kt_673) (fun _ h9 => h9) rfl dX14_add__18 ?_
  refine lv_iload_n hx hb dX14_add__21 rfl (lv_at hl 3 rfl) ?_
  refine lv_iload_n hx hb dX14_add__22 rfl (lv_at hl 2 rfl) ?_
  refine lv_isub hx hb dX14_add__23 ?_
  refine lv_topi (fun x_16 ex_16 => ?_)
  obtain rfl : x_16 = (nI tt) := ex_16.trans (pk_sub (b := 0) (by omega))
  refine lv_iadd hx hb dX14_add__24 ?_
  refine lv_topi (fun x_17 ex_17 => ?_)
  obtain rfl : x_17 = (nI (z + tt)) := ex_17.trans (nI_add z tt)
  refine pg_put (ci := 14) (v := .int (nI (z + tt))) (ty := .int) (C := RX14) (T := TX14) (N := 2) hx hb hts it_14 tyX14 tyX14_ok nmX14 hown hK hP hD hS hL_h0 hF_12 rfl 1 (by decide) (hts _ kt_673) (fun _ h9 => h9) rfl (by decide +kernel) (rfl) (rfl) (Nat.le_of_ble_eq_true rfl) dX14_add__25 (fun H locs hP hD hS => ?_)
  obtain ⟨F_18, he_19, hP, hD, hO, hR⟩ : ∃ G, G = va_up F_9 h0 (.inr (14, [.ref r0, .int (nI (z + tt))])) ∧ va_P (dC, dI) vwCl (va_pl L G) H ∧ va_D A (va_pl L G) ∧ OKm cs ty gm L G ∧ FR ty [ρ] F G := ⟨_, rfl, hP, hD, hO.up (shm.txt hT_h0 ⟨(z + tt), rfl, (by first | omega | assumption | exact Or.inl rfl | exact Or.inr rfl)⟩), hR.up hT_h0 (by simp)⟩
  have hF_20 : F_18 h0 = .inr (14, [.ref r0, .int (nI (z + tt))]) := by rw [he_19]; exact up_self
  have hF_21 : F_18 r0 = .inl (cs 17, n, .inl f_13) := by rw [he_19, up_ne (ne_ty ht_2 hT_h0 (by simp))]; exact hF_11
  refine W.widen (k := 0) (n := 0) (by omega) (by omega) ?_
  exact W.vret hx hb hr (fun t ht hWm => ⟨⟨(), rfl, trivial, ⟨F_18, f_13, QTm.mk ht hP hD hO hR, hF_20, hF_21, (src_app hW0 hV (fun j hj => by rw [hfe_15]; exact cpy_n (a := 0) (by omega) (by omega) (by omega) j hj) (fun j hj => by rw [hfe_15]; exact (cpy_y (a := 0) (by omega) (by omega) (by omega) (z + j) (by omega) (by omega)).trans (by rw [show 0 + (z + j - z) = j by omega])))⟩⟩, hS.F ht⟩) hS.2.2 dX14_add__28
theorem pc_len {LC DM dn : List Nat} {x : Int32} {c : Nat} (h1 : LC.length ≤ 30) (h2 : DM.length ≤ 60) (h3 : dn.length ≤ 61) (hi : ¬ c = 105) (hm : mcL c) : (pcW (sdM LC DM x) dn c).length ≤ 91 := by
  rcases hm with h | h | h | h | h
  · subst h
    show (LC ++ [64] ++ DM).length ≤ 91
    rw [List.length_append, List.length_append]
    show LC.length + 1 + DM.length ≤ 91
    omega
  · subst h
    show LC.length ≤ 91
    omega
  · subst h
    show DM.length ≤ 91
    omega
  · subst h
    show dn.length ≤ 91
    omega
  · exact absurd h hi
theorem fst_y {w p9 : Nat} (h : w = 0 ∨ p9 ≤ w) : 0 = p9 - cnW w p9 := by
  unfold cnW
  by_cases c : w = 0
  · rw [if_pos c]
    omega
  · rw [if_neg c]
    have h9 := h.resolve_left c
    omega
theorem fst_n {w p9 : Nat} (h : ¬ w = 0) (h1 : w < p9) : p9 - w = p9 - cnW w p9 := by
  unfold cnW
  rw [if_neg h]
  omega
theorem cn_pos {w p9 : Nat} (h : 0 < p9) : 0 < cnW w p9 := by
  unfold cnW
  by_cases c : w = 0
  · rw [if_pos c]
    exact h
  · rw [if_neg c]
    omega
set_option maxHeartbeats 4000000 in
set_option maxRecDepth 100000 in
theorem s_X15_macroValue_x (l : Launch) (dC : Nat → ClassId) (dI : Nat → Nat → Nat) (cs : Nat → ClassId) (ty : TyM) (gm : Nat → Nat → Nat) (L : List Nat) (sz : Nat) (F : Nat → va_E) (h0 : Nat) (ρ : Nat) (ta : Nat) (ou : Nat) (so : Nat) (ad : Nat) (na : Nat) (va : Nat) (lc : Nat) (dm : Nat) (tg : Nat) (pe : Nat) (ml : Nat) (bg : Nat) (co : Nat) (sp : Nat) (nb0 : Nat) (nb1 : Nat) (nb2 : Nat) (pl : Nat) (se : Nat) (ke : Nat) (wi : Nat) (hs : Nat) (mo : Nat) (po : Nat) (nu : Nat) (pr : Nat) (sq : Nat) (xa : Nat) (sa : Nat) (n64 : Nat) (m64 : Nat) (ex : Nat) (wh : Nat) (sd : Nat) (tk : Nat) (hd : Nat) (ak : Nat) (ho : Nat) (ot : Nat) (sx : Nat) (s0 : Nat) (s1 : Nat) (s2 : Nat) (nf : Nat) (bd : Nat) (mm : Nat) (fm : Nat) (sn : Nat) (hg : Nat) (gc : Nat) (gv : Nat) (ze : Nat) (zt : Nat) (rp : Nat) (g2 : Nat) (κ : Nat) (r2 : Nat) (g1 : Nat) (μ : Nat) (fv : Nat → Int32) (dd : Nat) (τ : Nat) (rd : Nat) (nd : Nat) (z : Nat) (a : Nat) (tt : Nat) (y : Nat) (fi : Nat → Int32) (LC : List Nat) (DM : List Nat) (dn : List Nat) (U : List Nat) (hW : WTm ty gm L) (hL_h0 : h0 ∈ L) (hT_h0 : ty h0 = (15, ρ, [ta, ou, so, ad, na, va, lc, dm, tg, pe, ml, bg, co, sp, nb0, nb1, nb2, pl, se, ke, wi, hs, mo, po, nu, pr, sq, xa, sa, n64, m64, ex, wh, sd, tk, hd, ak, ho, ot, sx, s0, s1, s2, nf, bd, mm, fm, sn, hg, gc, gv, ze, zt])) (hL_pe : pe ∈ L) (hT_pe : ty pe = (14, ρ + 7, [rp, 100])) (hL_g2 : g2 ∈ L) (hT_g2 : ty g2 = (14, κ, [r2, 61])) (hL_g1 : g1 ∈ L) (hT_g1 : ty g1 = (17, μ, [700])) (hL_dd : dd ∈ L) (hT_dd : ty dd = (14, τ, [rd, nd])) (hFg : F g1 = .inl (cs 17, 700, .inl fv)) (hmu : ρ + 100 ≤ μ) (hmu2 : μ < ρ + 300) (hkr : ρ + 300 ≤ κ) (htk : τ ≠ κ) (htp : τ ≠ ρ + 7) (hFi : F g2 = .inr (14, [.ref r2, .int (nI y)])) (hFj : F r2 = .inl (cs 17, 61, .inl fi)) (hTU : TGM U y fi) (hzn : z ≤ 700) (htz : tt < z) (hnd : nd ≤ 61) (hmL : mcL ((TC fv z) a)) (hto : tt = mcR (TC fv z) (mcD (TC fv z) (a + 1))) (hLC : TXM cs F lc 30 LC) (hDM : TXM cs F dm 60 DM) (hDN : TXM cs F dd nd dn) : Met l yX15_macroValue (.code yX15_macroValue cX15_macroValue 12 none :: tb) ({ frames := 3, cells := 0, slots := 0, locals := 71 }) (va_Pc [.ref h0, .ref g1, .int (nI a), .int (nI tt), .ref dd, .ref g2] (PTm (dC, dI) cs ty gm L F sz)) (va_Qv (fun _ : Unit => True) (fun _ T9 => ∃ F2 : Nat → va_E, ∃ y2 : Nat, ∃ f2 : Nat → Int32, QTm (dC, dI) cs ty gm L [κ, ρ + 7] F F2 (va_A (va_pl L F) sz) T9 ∧ F2 g2 = .inr (14, [.ref r2, .int (nI y2)]) ∧ F2 r2 = .inl (cs 17, 61, .inl f2) ∧ TGM (U ++ (prL (pcW (sdM LC DM (nI fm)) dn ((TC fv z) a)) (dgW ((TC fv z) (a + 1))) (trW ((TC fv z) (tt - 1))))) y2 f2) (va_A (va_pl L F) sz)) 0 0 (va_A (va_pl L F) sz) := by
  refine Met.ofW (cc := cX15_macroValue) (maxL := 12) (ret := none) (by decide) rfl ?_
  intro p e s m args below meth c s₁ B hml hv
  obtain ⟨rfl, hsz, hP, hK, hD0, hE, hO⟩ := hv
  have hx := B.exec
  have hb := B.bytes
  have hr := B.returns
  have hts : ∀ w ∈ tb, w.before _ s = true := fun w h => atoms_spec (ws := .code yX15_macroValue cX15_macroValue 12 none :: tb) B.pre w (List.mem_cons_of_mem _ h)
  have hown : s.vm.findClass RX15 = some m.cls := findClass_of_methodNamed B.named
  have hlocks := B.notSynchronized
  subst hsz
  have hD := hD0.self (sz := s.heap.size)
  generalize hAe : va_A (va_pl L F) s.heap.size = A at hD ⊢
  have hA : ∀ q : Nat, s.heap.size ≤ q → A q := fun q h => by rw [← hAe]; exact Or.inr h
  have hS : va_S A s.heap s.heap [] := va_S.rf
  have hR : FR ty [κ, ρ + 7] F F := FR.refl
  have hl := lv_entry ([.ref h0, .ref g1, .int (nI a), .int (nI tt), .ref dd, .ref g2]) (n := 12) (Nat.le_of_ble_eq_true rfl)
  rw [lg_entry_eq]
  generalize (lg_sl ([.ref h0, .ref g1, .int (nI a), .int (nI tt), .ref dd, .ref g2]) ++ List.replicate (12 - (lg_sl ([.ref h0, .ref g1, .int (nI a), .int (nI tt), .ref dd, .ref g2])).length) Slot.unset).toArray = ls at hl ⊢
  have hl : lv_has ls 12 [(0, .ref h0), (1, .ref g1), (2, .int (nI a)), (3, .int (nI tt)), (4, .ref dd), (5, .ref g2)] := hl
  obtain ⟨hq_22, hq_23, hq_24, hq_25, hq_26, hgO, hgA, hgB, hq_27⟩ := hW.sc hL_h0 hT_h0
  obtain ⟨zo_28, v14_29, v15_30, v17_31, v18_32, v19_33, v20_34, v21_35, v22_36, v33_37, v52_38, v53_39, v54_40, hF_41, hq_42, hq_43, hq_44, hq_45, hq_46⟩ := hO.mod hL_h0 hT_h0
  obtain ⟨hi_47, ht_48, hq_49⟩ := hW.txt hL_pe hT_pe
  obtain ⟨hi_50, ht_51, hq_52⟩ := hW.txt hL_g2 hT_g2
  obtain ⟨hq_53, hq_54⟩ := hW.octs hL_g1 hT_g1
  obtain ⟨hi_55, ht_56, hq_57⟩ := hW.txt hL_dd hT_dd
  have htg := mg_to hto
  have hl2 := mcL_lt hmL
  obtain ⟨hi_58, r_1, ht_59⟩ := hW.f_lc hL_h0 hT_h0
  obtain ⟨zl, fcl, hxl1, hxl2, hxl3, hxl4⟩ := hLC.get hO hi_58 ht_59
  obtain ⟨hi_60, ht_61, hq_62⟩ := hW.txt hi_58 ht_59
  have hll9 := hxl3.1
  obtain ⟨hi_63, r_2, ht_64⟩ := hW.f_dm hL_h0 hT_h0
  obtain ⟨zm, fcm, hxm1, hxm2, hxm3, hxm4⟩ := hDM.get hO hi_63 ht_64
  obtain ⟨hi_65, ht_66, hq_67⟩ := hW.txt hi_63 ht_64
  have hlm9 := hxm3.1
  obtain ⟨zd, fcd, hxd1, hxd2, hxd3, hxd4⟩ := hDN.get hO hL_dd hT_dd
  have hld9 := hxd3.1
  refine lv_aload_n hx hb dX15_macroValue_0 rfl (lv_at hl 1 rfl) ?_
  refine lv_iload_n hx hb dX15_macroValue_1 rfl (lv_at hl 2 rfl) ?_
  refine pg_bald hx hb hK hP hL_g1 1 hFg rfl (vp_in_nI (by omega) (by omega)) dX15_macroValue_2 ?_
  refine lv_topi (fun x_68 ex_68 => ?_)
  obtain rfl : x_68 = (nI ((TC fv z) a)) := ex_68.trans ((congrArg fv (nI_clamp (by omega))).trans (tc_in (by omega) hl2))
  refine lv_istore (lv' := [(6, .int (nI ((TC fv z) a))), (0, .ref h0), (1, .ref g1), (2, .int (nI a)), (3, .int (nI tt)), (4, .ref dd), (5, .ref g2)]) hx hb dX15_macroValue_3 hl (by decide) rfl (fun ls hl => ?_)
  refine lv_iconst (v := 0) hx hb dX15_macroValue_5 (by decide) ?_
  refine lv_istore (lv' := [(7, .int 0), (6, .int (nI ((TC fv z) a))), (0, .ref h0), (1, .ref g1), (2, .int (nI a)), (3, .int (nI tt)), (4, .ref dd), (5, .ref g2)]) hx hb dX15_macroValue_6 hl (by decide) rfl (fun ls hl => ?_)
  refine lv_iconst (v := 0) hx hb dX15_macroValue_8 (by decide) ?_
  refine lv_istore (lv' := [(8, .int 0), (7, .int 0), (6, .int (nI ((TC fv z) a))), (0, .ref h0), (1, .ref g1), (2, .int (nI a)), (3, .int (nI tt)), (4, .ref dd), (5, .ref g2)]) hx hb dX15_macroValue_9 hl (by decide) rfl (fun ls hl => ?_)
  have hF_71 : F g1 = .inl (cs 17, 700, .inl fv) := (hR g1 (by rw [hT_g1]; simp only [List.mem_cons, List.not_mem_nil, or_false]; omega)).symm.trans hFg
  have hF_72 : F h0 = .inr (15, (.ref ta) :: (.int (nI zt)) :: (.int (nI zo_28)) :: (.int (nI ze)) :: (.ref ou) :: (.ref so) :: (.ref ad) :: (.ref na) :: (.ref va) :: (.ref lc) :: (.ref dm) :: (.int (nI fm)) :: (.int (nI sn)) :: (.ref tg) :: (.int v14_29) :: (.int v15_30) :: (.ref pe) :: (.int v17_31) :: (.int v18_32) :: (.int v19_33) :: (.int v20_34) :: (.int v21_35) :: (.int v22_36) :: (.ref ml) :: (.ref bg) :: (.ref co) :: (.ref sp) :: (.ref nb0) :: (.ref nb1) :: (.ref nb2) :: (.int (nI nf)) :: (.int (nI bd)) :: (.int (nI mm)) :: (.int v33_37) :: (.ref pl) :: (.ref se) :: (.ref ke) :: (.ref wi) :: (.ref hs) :: (.ref mo) :: (.ref po) :: (.ref nu) :: (.ref pr) :: (.ref sq) :: (.ref xa) :: (.ref sa) :: (.ref n64) :: (.ref m64) :: (.ref ex) :: (.ref wh) :: (.ref sd) :: (.ref tk) :: (.int v52_38) :: (.int v53_39) :: (.int v54_40) :: (.ref hd) :: (.ref ak) :: (.ref ho) :: (.ref ot) :: []) := (hR h0 (by rw [hT_h0]; simp only [List.mem_cons, List.not_mem_nil, or_false]; omega)).symm.trans hF_41
  have hF_73 : F lc = .inr (14, [.ref r_1, .int (nI zl)]) := (hR lc (by rw [ht_59]; simp only [List.mem_cons, List.not_mem_nil, or_false]; omega)).symm.trans hxl1
  have hF_74 : F r_1 = .inl (cs 17, 30, .inl fcl) := (hR r_1 (by rw [ht_61]; simp only [List.mem_cons, List.not_mem_nil, or_false]; omega)).symm.trans hxl2
  have hF_75 : F dm = .inr (14, [.ref r_2, .int (nI zm)]) := (hR dm (by rw [ht_64]; simp only [List.mem_cons, List.not_mem_nil, or_false]; omega)).symm.trans hxm1
  have hF_76 : F r_2 = .inl (cs 17, 60, .inl fcm) := (hR r_2 (by rw [ht_66]; simp only [List.mem_cons, List.not_mem_nil, or_false]; omega)).symm.trans hxm2
  have hF_77 : F dd = .inr (14, [.ref rd, .int (nI zd)]) := (hR dd (by rw [hT_dd]; simp only [List.mem_cons, List.not_mem_nil, or_false]; omega)).symm.trans hxd1
  have hF_78 : F rd = .inl (cs 17, nd, .inl fcd) := (hR rd (by rw [ht_56]; simp only [List.mem_cons, List.not_mem_nil, or_false]; omega)).symm.trans hxd2
  refine W.widen (k := 0) (n := 0) (by omega) (by omega) ?_
  refine pl_cutm (σ := Int32) A (dC, dI) cs ty gm L [κ, ρ + 7] F 33 12 (fun s9 => [(8, .int 0), (7, .int 0), (6, .int (nI ((TC fv z) a))), (0, .ref h0), (1, .ref g1), (2, .int (nI a)), (3, .int (nI tt)), (4, .ref dd), (5, .ref g2)]) (fun s9 => [.int s9]) (fun s9 FF => s9 = (trW ((TC fv z) (tt - 1))) ∧ FF g2 = .inr (14, [.ref r2, .int (nI y)]) ∧ FF r2 = .inl (cs 17, 61, .inl fi)) ?_ (fun jn_69 => ?_)
  ·
    rintro s9 F_70 hv_79 hO hR H locs hP hD hS ls hl
    have hl : lv_has ls 12 [(8, .int 0), (7, .int 0), (6, .int (nI ((TC fv z) a))), (0, .ref h0), (1, .ref g1), (2, .int (nI a)), (3, .int (nI tt)), (4, .ref dd), (5, .ref g2)] := hl
    have hv_79 : s9 = (trW ((TC fv z) (tt - 1))) ∧ F_70 g2 = .inr (14, [.ref r2, .int (nI y)]) ∧ F_70 r2 = .inl (cs 17, 61, .inl fi) := hv_79
    refine W.eq (g2 := F0 m 33 ls [.int s9]) rfl ?_
    have hF_80 : F_70 g1 = .inl (cs 17, 700, .inl fv) := (hR g1 (by rw [hT_g1]; simp only [List.mem_cons, List.not_mem_nil, or_false]; omega)).trans hF_71
    have hF_81 : F_70 h0 = .inr (15, (.ref ta) :: (.int (nI zt)) :: (.int (nI zo_28)) :: (.int (nI ze)) :: (.ref ou) :: (.ref so) :: (.ref ad) :: (.ref na) :: (.ref va) :: (.ref lc) :: (.ref dm) :: (.int (nI fm)) :: (.int (nI sn)) :: (.ref tg) :: (.int v14_29) :: (.int v15_30) :: (.ref pe) :: (.int v17_31) :: (.int v18_32) :: (.int v19_33) :: (.int v20_34) :: (.int v21_35) :: (.int v22_36) :: (.ref ml) :: (.ref bg) :: (.ref co) :: (.ref sp) :: (.ref nb0) :: (.ref nb1) :: (.ref nb2) :: (.int (nI nf)) :: (.int (nI bd)) :: (.int (nI mm)) :: (.int v33_37) :: (.ref pl) :: (.ref se) :: (.ref ke) :: (.ref wi) :: (.ref hs) :: (.ref mo) :: (.ref po) :: (.ref nu) :: (.ref pr) :: (.ref sq) :: (.ref xa) :: (.ref sa) :: (.ref n64) :: (.ref m64) :: (.ref ex) :: (.ref wh) :: (.ref sd) :: (.ref tk) :: (.int v52_38) :: (.int v53_39) :: (.int v54_40) :: (.ref hd) :: (.ref ak) :: (.ref ho) :: (.ref ot) :: []) := (hR h0 (by rw [hT_h0]; simp only [List.mem_cons, List.not_mem_nil, or_false]; omega)).trans hF_72
    have hF_82 : F_70 lc = .inr (14, [.ref r_1, .int (nI zl)]) := (hR lc (by rw [ht_59]; simp only [List.mem_cons, List.not_mem_nil, or_false]; omega)).trans hF_73
    have hF_83 : F_70 r_1 = .inl (cs 17, 30, .inl fcl) := (hR r_1 (by rw [ht_61]; simp only [List.mem_cons, List.not_mem_nil, or_false]; omega)).trans hF_74
    have hF_84 : F_70 dm = .inr (14, [.ref r_2, .int (nI zm)]) := (hR dm (by rw [ht_64]; simp only [List.mem_cons, List.not_mem_nil, or_false]; omega)).trans hF_75
    have hF_85 : F_70 r_2 = .inl (cs 17, 60, .inl fcm) := (hR r_2 (by rw [ht_66]; simp only [List.mem_cons, List.not_mem_nil, or_false]; omega)).trans hF_76
    have hF_86 : F_70 dd = .inr (14, [.ref rd, .int (nI zd)]) := (hR dd (by rw [hT_dd]; simp only [List.mem_cons, List.not_mem_nil, or_false]; omega)).trans hF_77
    have hF_87 : F_70 rd = .inl (cs 17, nd, .inl fcd) := (hR rd (by rw [ht_56]; simp only [List.mem_cons, List.not_mem_nil, or_false]; omega)).trans hF_78
    obtain ⟨hr9, ha1, ha2⟩ := hv_79
    subst hr9
    refine W.eq (g2 := F0 m 33 ls [.int (trW ((TC fv z) (tt - 1)))]) rfl ?_
    refine lv_istore (lv' := [(9, .int (trW ((TC fv z) (tt - 1)))), (8, .int 0), (7, .int 0), (6, .int (nI ((TC fv z) a))), (0, .ref h0), (1, .ref g1), (2, .int (nI a)), (3, .int (nI tt)), (4, .ref dd), (5, .ref g2)]) hx hb dX15_macroValue_33 hl (by decide) rfl (fun ls hl => ?_)
    refine lv_iload_n hx hb dX15_macroValue_35 rfl (lv_at hl 6 rfl) ?_
    refine lv_iconst (v := 1) hx hb dX15_macroValue_36 (by decide) ?_
    refine lv_iadd hx hb dX15_macroValue_37 ?_
    refine lv_topi (fun x_88 ex_88 => ?_)
    obtain rfl : x_88 = (nI (a + 1)) := ex_88.trans (nI_add a 1)
    refine lv_istore (lv' := [(10, .int (nI (a + 1))), (9, .int (trW ((TC fv z) (tt - 1)))), (8, .int 0), (7, .int 0), (6, .int (nI ((TC fv z) a))), (0, .ref h0), (1, .ref g1), (2, .int (nI a)), (3, .int (nI tt)), (4, .ref dd), (5, .ref g2)]) hx hb dX15_macroValue_38 hl (by decide) rfl (fun ls hl => ?_)
    refine W.widen (k := 0) (n := 0) (by omega) (by omega) ?_
    have hF_90 : F g1 = .inl (cs 17, 700, .inl fv) := (hR g1 (by rw [hT_g1]; simp only [List.mem_cons, List.not_mem_nil, or_false]; omega)).symm.trans hF_80
    have hF_91 : F h0 = .inr (15, (.ref ta) :: (.int (nI zt)) :: (.int (nI zo_28)) :: (.int (nI ze)) :: (.ref ou) :: (.ref so) :: (.ref ad) :: (.ref na) :: (.ref va) :: (.ref lc) :: (.ref dm) :: (.int (nI fm)) :: (.int (nI sn)) :: (.ref tg) :: (.int v14_29) :: (.int v15_30) :: (.ref pe) :: (.int v17_31) :: (.int v18_32) :: (.int v19_33) :: (.int v20_34) :: (.int v21_35) :: (.int v22_36) :: (.ref ml) :: (.ref bg) :: (.ref co) :: (.ref sp) :: (.ref nb0) :: (.ref nb1) :: (.ref nb2) :: (.int (nI nf)) :: (.int (nI bd)) :: (.int (nI mm)) :: (.int v33_37) :: (.ref pl) :: (.ref se) :: (.ref ke) :: (.ref wi) :: (.ref hs) :: (.ref mo) :: (.ref po) :: (.ref nu) :: (.ref pr) :: (.ref sq) :: (.ref xa) :: (.ref sa) :: (.ref n64) :: (.ref m64) :: (.ref ex) :: (.ref wh) :: (.ref sd) :: (.ref tk) :: (.int v52_38) :: (.int v53_39) :: (.int v54_40) :: (.ref hd) :: (.ref ak) :: (.ref ho) :: (.ref ot) :: []) := (hR h0 (by rw [hT_h0]; simp only [List.mem_cons, List.not_mem_nil, or_false]; omega)).symm.trans hF_81
    have hF_92 : F lc = .inr (14, [.ref r_1, .int (nI zl)]) := (hR lc (by rw [ht_59]; simp only [List.mem_cons, List.not_mem_nil, or_false]; omega)).symm.trans hF_82
    have hF_93 : F r_1 = .inl (cs 17, 30, .inl fcl) := (hR r_1 (by rw [ht_61]; simp only [List.mem_cons, List.not_mem_nil, or_false]; omega)).symm.trans hF_83
    have hF_94 : F dm = .inr (14, [.ref r_2, .int (nI zm)]) := (hR dm (by rw [ht_64]; simp only [List.mem_cons, List.not_mem_nil, or_false]; omega)).symm.trans hF_84
    have hF_95 : F r_2 = .inl (cs 17, 60, .inl fcm) := (hR r_2 (by rw [ht_66]; simp only [List.mem_cons, List.not_mem_nil, or_false]; omega)).symm.trans hF_85
    have hF_96 : F dd = .inr (14, [.ref rd, .int (nI zd)]) := (hR dd (by rw [hT_dd]; simp only [List.mem_cons, List.not_mem_nil, or_false]; omega)).symm.trans hF_86
    have hF_97 : F rd = .inl (cs 17, nd, .inl fcd) := (hR rd (by rw [ht_56]; simp only [List.mem_cons, List.not_mem_nil, or_false]; omega)).symm.trans hF_87
    refine pl_loopm (σ := Nat × Nat) A (dC, dI) cs ty gm L [κ, ρ + 7] F 40 12 (fun (j, nn) => [(10, .int (nI j)), (9, .int (trW ((TC fv z) (tt - 1)))), (8, .int (nI nn)), (7, .int 0), (6, .int (nI ((TC fv z) a))), (0, .ref h0), (1, .ref g1), (2, .int (nI a)), (3, .int (nI tt)), (4, .ref dd), (5, .ref g2)]) (fun (j, nn) => []) (fun (j, nn) FF => a + 1 ≤ j ∧ j ≤ tt ∧ nn ≤ 9 ∧ IMPL (j = a + 1) (nn = 0) ∧ IMPL (a + 1 < j) (nn = (dgW ((TC fv z) (a + 1)))) ∧ FF g2 = .inr (14, [.ref r2, .int (nI y)]) ∧ FF r2 = .inl (cs 17, 61, .inl fi)) (fun (j, nn) => tt - j) ?_ ((a + 1), 0) F_70 (⟨Nat.le_refl _, by omega, by omega, fun _ => rfl, fun q => absurd q (by omega), ha1, ha2⟩) hO hR _ _ hP hD hS ls (lv_sub hl [0, 1, 2, 3, 4, 5, 6, 7, 8, 9, 10] rfl)
    rintro ⟨j, nn⟩ F_89 hv_98 hO hR ih_99 H locs hP hD hS ls hl
    have hl : lv_has ls 12 [(10, .int (nI j)), (9, .int (trW ((TC fv z) (tt - 1)))), (8, .int (nI nn)), (7, .int 0), (6, .int (nI ((TC fv z) a))), (0, .ref h0), (1, .ref g1), (2, .int (nI a)), (3, .int (nI tt)), (4, .ref dd), (5, .ref g2)] := hl
    have hv_98 : a + 1 ≤ j ∧ j ≤ tt ∧ nn ≤ 9 ∧ IMPL (j = a + 1) (nn = 0) ∧ IMPL (a + 1 < j) (nn = (dgW ((TC fv z) (a + 1)))) ∧ F_89 g2 = .inr (14, [.ref r2, .int (nI y)]) ∧ F_89 r2 = .inl (cs 17, 61, .inl fi) := hv_98
    refine W.eq (g2 := F0 m 40 ls []) rfl ?_
    have hF_100 : F_89 g1 = .inl (cs 17, 700, .inl fv) := (hR g1 (by rw [hT_g1]; simp only [List.mem_cons, List.not_mem_nil, or_false]; omega)).trans hF_90
    have hF_101 : F_89 h0 = .inr (15, (.ref ta) :: (.int (nI zt)) :: (.int (nI zo_28)) :: (.int (nI ze)) :: (.ref ou) :: (.ref so) :: (.ref ad) :: (.ref na) :: (.ref va) :: (.ref lc) :: (.ref dm) :: (.int (nI fm)) :: (.int (nI sn)) :: (.ref tg) :: (.int v14_29) :: (.int v15_30) :: (.ref pe) :: (.int v17_31) :: (.int v18_32) :: (.int v19_33) :: (.int v20_34) :: (.int v21_35) :: (.int v22_36) :: (.ref ml) :: (.ref bg) :: (.ref co) :: (.ref sp) :: (.ref nb0) :: (.ref nb1) :: (.ref nb2) :: (.int (nI nf)) :: (.int (nI bd)) :: (.int (nI mm)) :: (.int v33_37) :: (.ref pl) :: (.ref se) :: (.ref ke) :: (.ref wi) :: (.ref hs) :: (.ref mo) :: (.ref po) :: (.ref nu) :: (.ref pr) :: (.ref sq) :: (.ref xa) :: (.ref sa) :: (.ref n64) :: (.ref m64) :: (.ref ex) :: (.ref wh) :: (.ref sd) :: (.ref tk) :: (.int v52_38) :: (.int v53_39) :: (.int v54_40) :: (.ref hd) :: (.ref ak) :: (.ref ho) :: (.ref ot) :: []) := (hR h0 (by rw [hT_h0]; simp only [List.mem_cons, List.not_mem_nil, or_false]; omega)).trans hF_91
    have hF_102 : F_89 lc = .inr (14, [.ref r_1, .int (nI zl)]) := (hR lc (by rw [ht_59]; simp only [List.mem_cons, List.not_mem_nil, or_false]; omega)).trans hF_92
    have hF_103 : F_89 r_1 = .inl (cs 17, 30, .inl fcl) := (hR r_1 (by rw [ht_61]; simp only [List.mem_cons, List.not_mem_nil, or_false]; omega)).trans hF_93
    have hF_104 : F_89 dm = .inr (14, [.ref r_2, .int (nI zm)]) := (hR dm (by rw [ht_64]; simp only [List.mem_cons, List.not_mem_nil, or_false]; omega)).trans hF_94
    have hF_105 : F_89 r_2 = .inl (cs 17, 60, .inl fcm) := (hR r_2 (by rw [ht_66]; simp only [List.mem_cons, List.not_mem_nil, or_false]; omega)).trans hF_95
    have hF_106 : F_89 dd = .inr (14, [.ref rd, .int (nI zd)]) := (hR dd (by rw [hT_dd]; simp only [List.mem_cons, List.not_mem_nil, or_false]; omega)).trans hF_96
    have hF_107 : F_89 rd = .inl (cs 17, nd, .inl fcd) := (hR rd (by rw [ht_56]; simp only [List.mem_cons, List.not_mem_nil, or_false]; omega)).trans hF_97
    obtain ⟨hn1, hn8, hn9, hn5, hn2, hn3, hn4⟩ := hv_98
    refine lv_iload hx hb dX15_macroValue_40 (lv_at hl 0 rfl) ?_
    refine lv_iload_n hx hb dX15_macroValue_42 rfl (lv_at hl 8 rfl) ?_
    refine lv_icmp_ge (tgt := 71) hx hb dX15_macroValue_43 (by decide) (fun c_108 => ?_) (fun c_108 => ?_)
    ·
      have hi_109 : tt ≤ j := leN (N := tt) c_108
      have hnn : nn = (dgW ((TC fv z) (a + 1))) := by rcases Nat.lt_or_ge (a + 1) j with q | q; exact hn2 q; rw [hn5 (by omega)]; exact (mg_n hto (fun q2 => absurd q2.1 (by omega))).symm
      refine lv_aload_n hx hb dX15_macroValue_71 rfl (lv_at hl 5 rfl) ?_
      refine pg_get (ci := 15) (v := .ref pe) (C := RX15) (T := TX15) (N := 59) hx hb hts it_15 hown hK hP hL_h0 hF_101 rfl 16 (by decide) (hts _ kt_1132) (fun _ h9 => h9) rfl dX15_macroValue_72 ?_
      refine lv_iconst (v := 0) hx hb dX15_macroValue_75 (by decide) ?_
      obtain ⟨z_110, hF_111, hq_112⟩ := hO.txt hL_pe hT_pe
      refine pg_put (ci := 14) (v := .int 0) (ty := .int) (C := RX14) (T := TX14) (N := 2) hx hb hts it_14 tyX14 tyX14_ok nmX14 hown hK hP hD hS hL_pe hF_111 rfl 1 (by decide) (hts _ kt_709) (fun _ h9 => h9) rfl (by decide +kernel) (rfl) (rfl) (Nat.le_of_ble_eq_true rfl) dX15_macroValue_76 (fun H locs hP hD hS => ?_)
      obtain ⟨F_113, he_114, hP, hD, hO, hR⟩ : ∃ G, G = va_up F_89 pe (.inr (14, [.ref rp, .int 0])) ∧ va_P (dC, dI) vwCl (va_pl L G) H ∧ va_D A (va_pl L G) ∧ OKm cs ty gm L G ∧ FR ty [κ, ρ + 7] F G := ⟨_, rfl, hP, hD, hO.up (shm.txt hT_pe ⟨0, rfl, (by first | omega | assumption | exact Or.inl rfl | exact Or.inr rfl)⟩), hR.up hT_pe (by simp)⟩
      have hF_115 : F_113 pe = .inr (14, [.ref rp, .int 0]) := by rw [he_114]; exact up_self
      have hF_116 : F_113 g1 = .inl (cs 17, 700, .inl fv) := by rw [he_114, up_ne (ne_ty hT_g1 hT_pe (by simp))]; exact hF_100
      have hF_117 : F_113 h0 = .inr (15, (.ref ta) :: (.int (nI zt)) :: (.int (nI zo_28)) :: (.int (nI ze)) :: (.ref ou) :: (.ref so) :: (.ref ad) :: (.ref na) :: (.ref va) :: (.ref lc) :: (.ref dm) :: (.int (nI fm)) :: (.int (nI sn)) :: (.ref tg) :: (.int v14_29) :: (.int v15_30) :: (.ref pe) :: (.int v17_31) :: (.int v18_32) :: (.int v19_33) :: (.int v20_34) :: (.int v21_35) :: (.int v22_36) :: (.ref ml) :: (.ref bg) :: (.ref co) :: (.ref sp) :: (.ref nb0) :: (.ref nb1) :: (.ref nb2) :: (.int (nI nf)) :: (.int (nI bd)) :: (.int (nI mm)) :: (.int v33_37) :: (.ref pl) :: (.ref se) :: (.ref ke) :: (.ref wi) :: (.ref hs) :: (.ref mo) :: (.ref po) :: (.ref nu) :: (.ref pr) :: (.ref sq) :: (.ref xa) :: (.ref sa) :: (.ref n64) :: (.ref m64) :: (.ref ex) :: (.ref wh) :: (.ref sd) :: (.ref tk) :: (.int v52_38) :: (.int v53_39) :: (.int v54_40) :: (.ref hd) :: (.ref ak) :: (.ref ho) :: (.ref ot) :: []) := by rw [he_114, up_ne (ne_ty hT_h0 hT_pe (by simp))]; exact hF_101
      have hF_118 : F_113 lc = .inr (14, [.ref r_1, .int (nI zl)]) := by rw [he_114, up_ne (ne_ty2 ht_59 hT_pe (by simp))]; exact hF_102
      have hF_119 : F_113 r_1 = .inl (cs 17, 30, .inl fcl) := by rw [he_114, up_ne (ne_ty ht_61 hT_pe (by simp))]; exact hF_103
      have hF_120 : F_113 dm = .inr (14, [.ref r_2, .int (nI zm)]) := by rw [he_114, up_ne (ne_ty2 ht_64 hT_pe (by simp))]; exact hF_104
      have hF_121 : F_113 r_2 = .inl (cs 17, 60, .inl fcm) := by rw [he_114, up_ne (ne_ty ht_66 hT_pe (by simp))]; exact hF_105
      have hF_122 : F_113 dd = .inr (14, [.ref rd, .int (nI zd)]) := by rw [he_114, up_ne (ne_ty3 hT_dd hT_pe (by show τ ≠ ρ + 7; omega))]; exact hF_106
      have hF_123 : F_113 rd = .inl (cs 17, nd, .inl fcd) := by rw [he_114, up_ne (ne_ty ht_56 hT_pe (by simp))]; exact hF_107
      have hF_124 : F_113 g2 = .inr (14, [.ref r2, .int (nI y)]) := by rw [he_114, up_ne (ne_ty2 hT_g2 hT_pe (by simp))]; exact hn3
      have hF_125 : F_113 r2 = .inl (cs 17, 61, .inl fi) := by rw [he_114, up_ne (ne_ty ht_51 hT_pe (by simp))]; exact hn4
      have hF_128 : F g1 = .inl (cs 17, 700, .inl fv) := (hR g1 (by rw [hT_g1]; simp only [List.mem_cons, List.not_mem_nil, or_false]; omega)).symm.trans hF_116
      have hF_129 : F h0 = .inr (15, (.ref ta) :: (.int (nI zt)) :: (.int (nI zo_28)) :: (.int (nI ze)) :: (.ref ou) :: (.ref so) :: (.ref ad) :: (.ref na) :: (.ref va) :: (.ref lc) :: (.ref dm) :: (.int (nI fm)) :: (.int (nI sn)) :: (.ref tg) :: (.int v14_29) :: (.int v15_30) :: (.ref pe) :: (.int v17_31) :: (.int v18_32) :: (.int v19_33) :: (.int v20_34) :: (.int v21_35) :: (.int v22_36) :: (.ref ml) :: (.ref bg) :: (.ref co) :: (.ref sp) :: (.ref nb0) :: (.ref nb1) :: (.ref nb2) :: (.int (nI nf)) :: (.int (nI bd)) :: (.int (nI mm)) :: (.int v33_37) :: (.ref pl) :: (.ref se) :: (.ref ke) :: (.ref wi) :: (.ref hs) :: (.ref mo) :: (.ref po) :: (.ref nu) :: (.ref pr) :: (.ref sq) :: (.ref xa) :: (.ref sa) :: (.ref n64) :: (.ref m64) :: (.ref ex) :: (.ref wh) :: (.ref sd) :: (.ref tk) :: (.int v52_38) :: (.int v53_39) :: (.int v54_40) :: (.ref hd) :: (.ref ak) :: (.ref ho) :: (.ref ot) :: []) := (hR h0 (by rw [hT_h0]; simp only [List.mem_cons, List.not_mem_nil, or_false]; omega)).symm.trans hF_117
      have hF_130 : F lc = .inr (14, [.ref r_1, .int (nI zl)]) := (hR lc (by rw [ht_59]; simp only [List.mem_cons, List.not_mem_nil, or_false]; omega)).symm.trans hF_118
      have hF_131 : F r_1 = .inl (cs 17, 30, .inl fcl) := (hR r_1 (by rw [ht_61]; simp only [List.mem_cons, List.not_mem_nil, or_false]; omega)).symm.trans hF_119
      have hF_132 : F dm = .inr (14, [.ref r_2, .int (nI zm)]) := (hR dm (by rw [ht_64]; simp only [List.mem_cons, List.not_mem_nil, or_false]; omega)).symm.trans hF_120
      have hF_133 : F r_2 = .inl (cs 17, 60, .inl fcm) := (hR r_2 (by rw [ht_66]; simp only [List.mem_cons, List.not_mem_nil, or_false]; omega)).symm.trans hF_121
      have hF_134 : F dd = .inr (14, [.ref rd, .int (nI zd)]) := (hR dd (by rw [hT_dd]; simp only [List.mem_cons, List.not_mem_nil, or_false]; omega)).symm.trans hF_122
      have hF_135 : F rd = .inl (cs 17, nd, .inl fcd) := (hR rd (by rw [ht_56]; simp only [List.mem_cons, List.not_mem_nil, or_false]; omega)).symm.trans hF_123
      refine W.widen (k := 0) (n := 0) (by omega) (by omega) ?_
      refine pl_cutm (σ := Nat × (Nat → Int32) × (List Nat)) A (dC, dI) cs ty gm L [κ, ρ + 7] F 192 12 (fun (zz, fz, Wg) => [(9, .int (trW ((TC fv z) (tt - 1)))), (8, .int (nI nn)), (7, .int 0), (6, .int (nI ((TC fv z) a))), (0, .ref h0), (1, .ref g1), (2, .int (nI a)), (3, .int (nI tt)), (4, .ref dd), (5, .ref g2)]) (fun (zz, fz, Wg) => []) (fun (zz, fz, Wg) FF => (FF g2 = .inr (14, [.ref r2, .int (nI y)]) ∧ FF r2 = .inl (cs 17, 61, .inl fi) ∧ FF pe = .inr (14, [.ref rp, .int (nI zz)]) ∧ FF rp = .inl (cs 17, 100, .inl fz) ∧ SRC Wg zz fz) ∧ ((((TC fv z) a) = 105 ∧ Wg = []) ∨ (¬ ((TC fv z) a) = 105 ∧ Wg = (pcW (sdM LC DM (nI fm)) dn ((TC fv z) a))))) ?_ (fun jn_126 => ?_)
      ·
        rintro ⟨zz, fz, Wg⟩ F_127 hv_136 hO hR H locs hP hD hS ls hl
        have hl : lv_has ls 12 [(9, .int (trW ((TC fv z) (tt - 1)))), (8, .int (nI nn)), (7, .int 0), (6, .int (nI ((TC fv z) a))), (0, .ref h0), (1, .ref g1), (2, .int (nI a)), (3, .int (nI tt)), (4, .ref dd), (5, .ref g2)] := hl
        have hv_136 : (F_127 g2 = .inr (14, [.ref r2, .int (nI y)]) ∧ F_127 r2 = .inl (cs 17, 61, .inl fi) ∧ F_127 pe = .inr (14, [.ref rp, .int (nI zz)]) ∧ F_127 rp = .inl (cs 17, 100, .inl fz) ∧ SRC Wg zz fz) ∧ ((((TC fv z) a) = 105 ∧ Wg = []) ∨ (¬ ((TC fv z) a) = 105 ∧ Wg = (pcW (sdM LC DM (nI fm)) dn ((TC fv z) a)))) := hv_136
        refine W.eq (g2 := F0 m 192 ls []) rfl ?_
        have hF_137 : F_127 g1 = .inl (cs 17, 700, .inl fv) := (hR g1 (by rw [hT_g1]; simp only [List.mem_cons, List.not_mem_nil, or_false]; omega)).trans hF_128
        have hF_138 : F_127 h0 = .inr (15, (.ref ta) :: (.int (nI zt)) :: (.int (nI zo_28)) :: (.int (nI ze)) :: (.ref ou) :: (.ref so) :: (.ref ad) :: (.ref na) :: (.ref va) :: (.ref lc) :: (.ref dm) :: (.int (nI fm)) :: (.int (nI sn)) :: (.ref tg) :: (.int v14_29) :: (.int v15_30) :: (.ref pe) :: (.int v17_31) :: (.int v18_32) :: (.int v19_33) :: (.int v20_34) :: (.int v21_35) :: (.int v22_36) :: (.ref ml) :: (.ref bg) :: (.ref co) :: (.ref sp) :: (.ref nb0) :: (.ref nb1) :: (.ref nb2) :: (.int (nI nf)) :: (.int (nI bd)) :: (.int (nI mm)) :: (.int v33_37) :: (.ref pl) :: (.ref se) :: (.ref ke) :: (.ref wi) :: (.ref hs) :: (.ref mo) :: (.ref po) :: (.ref nu) :: (.ref pr) :: (.ref sq) :: (.ref xa) :: (.ref sa) :: (.ref n64) :: (.ref m64) :: (.ref ex) :: (.ref wh) :: (.ref sd) :: (.ref tk) :: (.int v52_38) :: (.int v53_39) :: (.int v54_40) :: (.ref hd) :: (.ref ak) :: (.ref ho) :: (.ref ot) :: []) := (hR h0 (by rw [hT_h0]; simp only [List.mem_cons, List.not_mem_nil, or_false]; omega)).trans hF_129
        have hF_139 : F_127 lc = .inr (14, [.ref r_1, .int (nI zl)]) := (hR lc (by rw [ht_59]; simp only [List.mem_cons, List.not_mem_nil, or_false]; omega)).trans hF_130
        have hF_140 : F_127 r_1 = .inl (cs 17, 30, .inl fcl) := (hR r_1 (by rw [ht_61]; simp only [List.mem_cons, List.not_mem_nil, or_false]; omega)).trans hF_131
        have hF_141 : F_127 dm = .inr (14, [.ref r_2, .int (nI zm)]) := (hR dm (by rw [ht_64]; simp only [List.mem_cons, List.not_mem_nil, or_false]; omega)).trans hF_132
        have hF_142 : F_127 r_2 = .inl (cs 17, 60, .inl fcm) := (hR r_2 (by rw [ht_66]; simp only [List.mem_cons, List.not_mem_nil, or_false]; omega)).trans hF_133
        have hF_143 : F_127 dd = .inr (14, [.ref rd, .int (nI zd)]) := (hR dd (by rw [hT_dd]; simp only [List.mem_cons, List.not_mem_nil, or_false]; omega)).trans hF_134
        have hF_144 : F_127 rd = .inl (cs 17, nd, .inl fcd) := (hR rd (by rw [ht_56]; simp only [List.mem_cons, List.not_mem_nil, or_false]; omega)).trans hF_135
        obtain ⟨⟨hc1, hc2, hc3, hc4, hc5⟩, hc6⟩ := hv_136
        have hF_147 : F g1 = .inl (cs 17, 700, .inl fv) := (hR g1 (by rw [hT_g1]; simp only [List.mem_cons, List.not_mem_nil, or_false]; omega)).symm.trans hF_137
        have hF_148 : F h0 = .inr (15, (.ref ta) :: (.int (nI zt)) :: (.int (nI zo_28)) :: (.int (nI ze)) :: (.ref ou) :: (.ref so) :: (.ref ad) :: (.ref na) :: (.ref va) :: (.ref lc) :: (.ref dm) :: (.int (nI fm)) :: (.int (nI sn)) :: (.ref tg) :: (.int v14_29) :: (.int v15_30) :: (.ref pe) :: (.int v17_31) :: (.int v18_32) :: (.int v19_33) :: (.int v20_34) :: (.int v21_35) :: (.int v22_36) :: (.ref ml) :: (.ref bg) :: (.ref co) :: (.ref sp) :: (.ref nb0) :: (.ref nb1) :: (.ref nb2) :: (.int (nI nf)) :: (.int (nI bd)) :: (.int (nI mm)) :: (.int v33_37) :: (.ref pl) :: (.ref se) :: (.ref ke) :: (.ref wi) :: (.ref hs) :: (.ref mo) :: (.ref po) :: (.ref nu) :: (.ref pr) :: (.ref sq) :: (.ref xa) :: (.ref sa) :: (.ref n64) :: (.ref m64) :: (.ref ex) :: (.ref wh) :: (.ref sd) :: (.ref tk) :: (.int v52_38) :: (.int v53_39) :: (.int v54_40) :: (.ref hd) :: (.ref ak) :: (.ref ho) :: (.ref ot) :: []) := (hR h0 (by rw [hT_h0]; simp only [List.mem_cons, List.not_mem_nil, or_false]; omega)).symm.trans hF_138
        have hF_149 : F lc = .inr (14, [.ref r_1, .int (nI zl)]) := (hR lc (by rw [ht_59]; simp only [List.mem_cons, List.not_mem_nil, or_false]; omega)).symm.trans hF_139
        have hF_150 : F r_1 = .inl (cs 17, 30, .inl fcl) := (hR r_1 (by rw [ht_61]; simp only [List.mem_cons, List.not_mem_nil, or_false]; omega)).symm.trans hF_140
        have hF_151 : F dm = .inr (14, [.ref r_2, .int (nI zm)]) := (hR dm (by rw [ht_64]; simp only [List.mem_cons, List.not_mem_nil, or_false]; omega)).symm.trans hF_141
        have hF_152 : F r_2 = .inl (cs 17, 60, .inl fcm) := (hR r_2 (by rw [ht_66]; simp only [List.mem_cons, List.not_mem_nil, or_false]; omega)).symm.trans hF_142
        have hF_153 : F dd = .inr (14, [.ref rd, .int (nI zd)]) := (hR dd (by rw [hT_dd]; simp only [List.mem_cons, List.not_mem_nil, or_false]; omega)).symm.trans hF_143
        have hF_154 : F rd = .inl (cs 17, nd, .inl fcd) := (hR rd (by rw [ht_56]; simp only [List.mem_cons, List.not_mem_nil, or_false]; omega)).symm.trans hF_144
        refine W.widen (k := 0) (n := 0) (by omega) (by omega) ?_
        refine pl_cutm (σ := Nat × (Nat → Int32)) A (dC, dI) cs ty gm L [κ, ρ + 7] F 303 12 (fun (ze9, f9) => [(9, .int (trW ((TC fv z) (tt - 1)))), (8, .int (nI nn)), (7, .int 0), (6, .int (nI ((TC fv z) a))), (0, .ref h0), (1, .ref g1), (2, .int (nI a)), (3, .int (nI tt)), (4, .ref dd), (5, .ref g2)]) (fun (ze9, f9) => []) (fun (ze9, f9) FF => (FF g2 = .inr (14, [.ref r2, .int (nI y)]) ∧ FF r2 = .inl (cs 17, 61, .inl fi) ∧ FF pe = .inr (14, [.ref rp, .int (nI ze9)]) ∧ FF rp = .inl (cs 17, 100, .inl f9) ∧ SRC (pcW (sdM LC DM (nI fm)) dn ((TC fv z) a)) ze9 f9) ∧ ze9 ≤ 91) ?_ (fun jn_145 => ?_)
        ·
          rintro ⟨ze9, f9⟩ F_146 hv_155 hO hR H locs hP hD hS ls hl
          have hl : lv_has ls 12 [(9, .int (trW ((TC fv z) (tt - 1)))), (8, .int (nI nn)), (7, .int 0), (6, .int (nI ((TC fv z) a))), (0, .ref h0), (1, .ref g1), (2, .int (nI a)), (3, .int (nI tt)), (4, .ref dd), (5, .ref g2)] := hl
          have hv_155 : (F_146 g2 = .inr (14, [.ref r2, .int (nI y)]) ∧ F_146 r2 = .inl (cs 17, 61, .inl fi) ∧ F_146 pe = .inr (14, [.ref rp, .int (nI ze9)]) ∧ F_146 rp = .inl (cs 17, 100, .inl f9) ∧ SRC (pcW (sdM LC DM (nI fm)) dn ((TC fv z) a)) ze9 f9) ∧ ze9 ≤ 91 := hv_155
          refine W.eq (g2 := F0 m 303 ls []) rfl ?_
          have hF_156 : F_146 g1 = .inl (cs 17, 700, .inl fv) := (hR g1 (by rw [hT_g1]; simp only [List.mem_cons, List.not_mem_nil, or_false]; omega)).trans hF_147
          have hF_157 : F_146 h0 = .inr (15, (.ref ta) :: (.int (nI zt)) :: (.int (nI zo_28)) :: (.int (nI ze)) :: (.ref ou) :: (.ref so) :: (.ref ad) :: (.ref na) :: (.ref va) :: (.ref lc) :: (.ref dm) :: (.int (nI fm)) :: (.int (nI sn)) :: (.ref tg) :: (.int v14_29) :: (.int v15_30) :: (.ref pe) :: (.int v17_31) :: (.int v18_32) :: (.int v19_33) :: (.int v20_34) :: (.int v21_35) :: (.int v22_36) :: (.ref ml) :: (.ref bg) :: (.ref co) :: (.ref sp) :: (.ref nb0) :: (.ref nb1) :: (.ref nb2) :: (.int (nI nf)) :: (.int (nI bd)) :: (.int (nI mm)) :: (.int v33_37) :: (.ref pl) :: (.ref se) :: (.ref ke) :: (.ref wi) :: (.ref hs) :: (.ref mo) :: (.ref po) :: (.ref nu) :: (.ref pr) :: (.ref sq) :: (.ref xa) :: (.ref sa) :: (.ref n64) :: (.ref m64) :: (.ref ex) :: (.ref wh) :: (.ref sd) :: (.ref tk) :: (.int v52_38) :: (.int v53_39) :: (.int v54_40) :: (.ref hd) :: (.ref ak) :: (.ref ho) :: (.ref ot) :: []) := (hR h0 (by rw [hT_h0]; simp only [List.mem_cons, List.not_mem_nil, or_false]; omega)).trans hF_148
          have hF_158 : F_146 lc = .inr (14, [.ref r_1, .int (nI zl)]) := (hR lc (by rw [ht_59]; simp only [List.mem_cons, List.not_mem_nil, or_false]; omega)).trans hF_149
          have hF_159 : F_146 r_1 = .inl (cs 17, 30, .inl fcl) := (hR r_1 (by rw [ht_61]; simp only [List.mem_cons, List.not_mem_nil, or_false]; omega)).trans hF_150
          have hF_160 : F_146 dm = .inr (14, [.ref r_2, .int (nI zm)]) := (hR dm (by rw [ht_64]; simp only [List.mem_cons, List.not_mem_nil, or_false]; omega)).trans hF_151
          have hF_161 : F_146 r_2 = .inl (cs 17, 60, .inl fcm) := (hR r_2 (by rw [ht_66]; simp only [List.mem_cons, List.not_mem_nil, or_false]; omega)).trans hF_152
          have hF_162 : F_146 dd = .inr (14, [.ref rd, .int (nI zd)]) := (hR dd (by rw [hT_dd]; simp only [List.mem_cons, List.not_mem_nil, or_false]; omega)).trans hF_153
          have hF_163 : F_146 rd = .inl (cs 17, nd, .inl fcd) := (hR rd (by rw [ht_56]; simp only [List.mem_cons, List.not_mem_nil, or_false]; omega)).trans hF_154
          obtain ⟨⟨hg1, hg2, hg3, hg4, hV⟩, hg6⟩ := hv_155
          have hdb2 := dtc_le (V := (pcW (sdM LC DM (nI fm)) dn ((TC fv z) a))) ze9
          refine lv_iconst (v := 1) hx hb dX15_macroValue_303 (by decide) ?_
          refine lv_istore (lv' := [(7, .int 1), (9, .int (trW ((TC fv z) (tt - 1)))), (8, .int (nI nn)), (6, .int (nI ((TC fv z) a))), (0, .ref h0), (1, .ref g1), (2, .int (nI a)), (3, .int (nI tt)), (4, .ref dd), (5, .ref g2)]) hx hb dX15_macroValue_304 hl (by decide) rfl (fun ls hl => ?_)
          refine lv_iconst (v := 0) hx hb dX15_macroValue_306 (by decide) ?_
          refine lv_istore (lv' := [(10, .int 0), (7, .int 1), (9, .int (trW ((TC fv z) (tt - 1)))), (8, .int (nI nn)), (6, .int (nI ((TC fv z) a))), (0, .ref h0), (1, .ref g1), (2, .int (nI a)), (3, .int (nI tt)), (4, .ref dd), (5, .ref g2)]) hx hb dX15_macroValue_307 hl (by decide) rfl (fun ls hl => ?_)
          refine W.widen (k := 0) (n := 0) (by omega) (by omega) ?_
          have hF_165 : F g1 = .inl (cs 17, 700, .inl fv) := (hR g1 (by rw [hT_g1]; simp only [List.mem_cons, List.not_mem_nil, or_false]; omega)).symm.trans hF_156
          have hF_166 : F h0 = .inr (15, (.ref ta) :: (.int (nI zt)) :: (.int (nI zo_28)) :: (.int (nI ze)) :: (.ref ou) :: (.ref so) :: (.ref ad) :: (.ref na) :: (.ref va) :: (.ref lc) :: (.ref dm) :: (.int (nI fm)) :: (.int (nI sn)) :: (.ref tg) :: (.int v14_29) :: (.int v15_30) :: (.ref pe) :: (.int v17_31) :: (.int v18_32) :: (.int v19_33) :: (.int v20_34) :: (.int v21_35) :: (.int v22_36) :: (.ref ml) :: (.ref bg) :: (.ref co) :: (.ref sp) :: (.ref nb0) :: (.ref nb1) :: (.ref nb2) :: (.int (nI nf)) :: (.int (nI bd)) :: (.int (nI mm)) :: (.int v33_37) :: (.ref pl) :: (.ref se) :: (.ref ke) :: (.ref wi) :: (.ref hs) :: (.ref mo) :: (.ref po) :: (.ref nu) :: (.ref pr) :: (.ref sq) :: (.ref xa) :: (.ref sa) :: (.ref n64) :: (.ref m64) :: (.ref ex) :: (.ref wh) :: (.ref sd) :: (.ref tk) :: (.int v52_38) :: (.int v53_39) :: (.int v54_40) :: (.ref hd) :: (.ref ak) :: (.ref ho) :: (.ref ot) :: []) := (hR h0 (by rw [hT_h0]; simp only [List.mem_cons, List.not_mem_nil, or_false]; omega)).symm.trans hF_157
          have hF_167 : F lc = .inr (14, [.ref r_1, .int (nI zl)]) := (hR lc (by rw [ht_59]; simp only [List.mem_cons, List.not_mem_nil, or_false]; omega)).symm.trans hF_158
          have hF_168 : F r_1 = .inl (cs 17, 30, .inl fcl) := (hR r_1 (by rw [ht_61]; simp only [List.mem_cons, List.not_mem_nil, or_false]; omega)).symm.trans hF_159
          have hF_169 : F dm = .inr (14, [.ref r_2, .int (nI zm)]) := (hR dm (by rw [ht_64]; simp only [List.mem_cons, List.not_mem_nil, or_false]; omega)).symm.trans hF_160
          have hF_170 : F r_2 = .inl (cs 17, 60, .inl fcm) := (hR r_2 (by rw [ht_66]; simp only [List.mem_cons, List.not_mem_nil, or_false]; omega)).symm.trans hF_161
          have hF_171 : F dd = .inr (14, [.ref rd, .int (nI zd)]) := (hR dd (by rw [hT_dd]; simp only [List.mem_cons, List.not_mem_nil, or_false]; omega)).symm.trans hF_162
          have hF_172 : F rd = .inl (cs 17, nd, .inl fcd) := (hR rd (by rw [ht_56]; simp only [List.mem_cons, List.not_mem_nil, or_false]; omega)).symm.trans hF_163
          refine pl_loopm (σ := Nat × Nat) A (dC, dI) cs ty gm L [κ, ρ + 7] F 309 12 (fun (j, w7) => [(10, .int (nI j)), (7, .int (nI w7)), (9, .int (trW ((TC fv z) (tt - 1)))), (8, .int (nI nn)), (6, .int (nI ((TC fv z) a))), (0, .ref h0), (1, .ref g1), (2, .int (nI a)), (3, .int (nI tt)), (4, .ref dd), (5, .ref g2)]) (fun (j, w7) => []) (fun (j, w7) FF => w7 = 1 + dtc (pcW (sdM LC DM (nI fm)) dn ((TC fv z) a)) j ∧ j ≤ ze9 ∧ FF g2 = .inr (14, [.ref r2, .int (nI y)]) ∧ FF r2 = .inl (cs 17, 61, .inl fi) ∧ FF pe = .inr (14, [.ref rp, .int (nI ze9)]) ∧ FF rp = .inl (cs 17, 100, .inl f9)) (fun (j, w7) => ze9 - j) ?_ (0, 1) F_146 (⟨rfl, Nat.zero_le _, hg1, hg2, hg3, hg4⟩) hO hR _ _ hP hD hS ls (lv_sub hl [0, 1, 2, 3, 4, 5, 6, 7, 8, 9, 10] rfl)
          rintro ⟨j, w7⟩ F_164 hv_173 hO hR ih_174 H locs hP hD hS ls hl
          have hl : lv_has ls 12 [(10, .int (nI j)), (7, .int (nI w7)), (9, .int (trW ((TC fv z) (tt - 1)))), (8, .int (nI nn)), (6, .int (nI ((TC fv z) a))), (0, .ref h0), (1, .ref g1), (2, .int (nI a)), (3, .int (nI tt)), (4, .ref dd), (5, .ref g2)] := hl
          have hv_173 : w7 = 1 + dtc (pcW (sdM LC DM (nI fm)) dn ((TC fv z) a)) j ∧ j ≤ ze9 ∧ F_164 g2 = .inr (14, [.ref r2, .int (nI y)]) ∧ F_164 r2 = .inl (cs 17, 61, .inl fi) ∧ F_164 pe = .inr (14, [.ref rp, .int (nI ze9)]) ∧ F_164 rp = .inl (cs 17, 100, .inl f9) := hv_173
          refine W.eq (g2 := F0 m 309 ls []) rfl ?_
          have hF_175 : F_164 g1 = .inl (cs 17, 700, .inl fv) := (hR g1 (by rw [hT_g1]; simp only [List.mem_cons, List.not_mem_nil, or_false]; omega)).trans hF_165
          have hF_176 : F_164 h0 = .inr (15, (.ref ta) :: (.int (nI zt)) :: (.int (nI zo_28)) :: (.int (nI ze)) :: (.ref ou) :: (.ref so) :: (.ref ad) :: (.ref na) :: (.ref va) :: (.ref lc) :: (.ref dm) :: (.int (nI fm)) :: (.int (nI sn)) :: (.ref tg) :: (.int v14_29) :: (.int v15_30) :: (.ref pe) :: (.int v17_31) :: (.int v18_32) :: (.int v19_33) :: (.int v20_34) :: (.int v21_35) :: (.int v22_36) :: (.ref ml) :: (.ref bg) :: (.ref co) :: (.ref sp) :: (.ref nb0) :: (.ref nb1) :: (.ref nb2) :: (.int (nI nf)) :: (.int (nI bd)) :: (.int (nI mm)) :: (.int v33_37) :: (.ref pl) :: (.ref se) :: (.ref ke) :: (.ref wi) :: (.ref hs) :: (.ref mo) :: (.ref po) :: (.ref nu) :: (.ref pr) :: (.ref sq) :: (.ref xa) :: (.ref sa) :: (.ref n64) :: (.ref m64) :: (.ref ex) :: (.ref wh) :: (.ref sd) :: (.ref tk) :: (.int v52_38) :: (.int v53_39) :: (.int v54_40) :: (.ref hd) :: (.ref ak) :: (.ref ho) :: (.ref ot) :: []) := (hR h0 (by rw [hT_h0]; simp only [List.mem_cons, List.not_mem_nil, or_false]; omega)).trans hF_166
          have hF_177 : F_164 lc = .inr (14, [.ref r_1, .int (nI zl)]) := (hR lc (by rw [ht_59]; simp only [List.mem_cons, List.not_mem_nil, or_false]; omega)).trans hF_167
          have hF_178 : F_164 r_1 = .inl (cs 17, 30, .inl fcl) := (hR r_1 (by rw [ht_61]; simp only [List.mem_cons, List.not_mem_nil, or_false]; omega)).trans hF_168
          have hF_179 : F_164 dm = .inr (14, [.ref r_2, .int (nI zm)]) := (hR dm (by rw [ht_64]; simp only [List.mem_cons, List.not_mem_nil, or_false]; omega)).trans hF_169
          have hF_180 : F_164 r_2 = .inl (cs 17, 60, .inl fcm) := (hR r_2 (by rw [ht_66]; simp only [List.mem_cons, List.not_mem_nil, or_false]; omega)).trans hF_170
          have hF_181 : F_164 dd = .inr (14, [.ref rd, .int (nI zd)]) := (hR dd (by rw [hT_dd]; simp only [List.mem_cons, List.not_mem_nil, or_false]; omega)).trans hF_171
          have hF_182 : F_164 rd = .inl (cs 17, nd, .inl fcd) := (hR rd (by rw [ht_56]; simp only [List.mem_cons, List.not_mem_nil, or_false]; omega)).trans hF_172
          obtain ⟨hc1, hc2, hc3, hc4, hc5, hc6⟩ := hv_173
          have hdb := dtc_le (V := (pcW (sdM LC DM (nI fm)) dn ((TC fv z) a))) j
          refine lv_iload hx hb dX15_macroValue_309 (lv_at hl 0 rfl) ?_
          refine lv_aload_n hx hb dX15_macroValue_311 rfl (lv_at hl 5 rfl) ?_
          refine pg_get (ci := 15) (v := .ref pe) (C := RX15) (T := TX15) (N := 59) hx hb hts it_15 hown hK hP hL_h0 hF_176 rfl 16 (by decide) (hts _ kt_1132) (fun _ h9 => h9) rfl dX15_macroValue_312 ?_
          refine pg_get (ci := 14) (v := .int (nI ze9)) (C := RX14) (T := TX14) (N := 2) hx hb hts it_14 hown hK hP hL_pe hc5 rfl 1 (by decide) (hts _ kt_709) (fun _ h9 => h9) rfl dX15_macroValue_315 ?_
          refine lv_icmp_ge (tgt := 345) hx hb dX15_macroValue_318 (by decide) (fun c_183 => ?_) (fun c_183 => ?_)
          ·
            have hi_184 : ze9 ≤ j := leN (N := ze9) c_183
            have hw7 : w7 = (1 + dtc (pcW (sdM LC DM (nI fm)) dn ((TC fv z) a)) (pcW (sdM LC DM (nI fm)) dn ((TC fv z) a)).length) := by rw [hc1, hV.1, show j = ze9 by omega]
            have hcl := cnW_le (w := (dgW ((TC fv z) (a + 1)))) (p9 := (1 + dtc (pcW (sdM LC DM (nI fm)) dn ((TC fv z) a)) (pcW (sdM LC DM (nI fm)) dn ((TC fv z) a)).length))
            have hcp := cn_pos (w := (dgW ((TC fv z) (a + 1)))) (p9 := (1 + dtc (pcW (sdM LC DM (nI fm)) dn ((TC fv z) a)) (pcW (sdM LC DM (nI fm)) dn ((TC fv z) a)).length)) (by omega)
            have hdb3 : dtc (pcW (sdM LC DM (nI fm)) dn ((TC fv z) a)) (pcW (sdM LC DM (nI fm)) dn ((TC fv z) a)).length ≤ 91 := by rw [hV.1]; omega
            have hF_187 : F g1 = .inl (cs 17, 700, .inl fv) := (hR g1 (by rw [hT_g1]; simp only [List.mem_cons, List.not_mem_nil, or_false]; omega)).symm.trans hF_175
            have hF_188 : F h0 = .inr (15, (.ref ta) :: (.int (nI zt)) :: (.int (nI zo_28)) :: (.int (nI ze)) :: (.ref ou) :: (.ref so) :: (.ref ad) :: (.ref na) :: (.ref va) :: (.ref lc) :: (.ref dm) :: (.int (nI fm)) :: (.int (nI sn)) :: (.ref tg) :: (.int v14_29) :: (.int v15_30) :: (.ref pe) :: (.int v17_31) :: (.int v18_32) :: (.int v19_33) :: (.int v20_34) :: (.int v21_35) :: (.int v22_36) :: (.ref ml) :: (.ref bg) :: (.ref co) :: (.ref sp) :: (.ref nb0) :: (.ref nb1) :: (.ref nb2) :: (.int (nI nf)) :: (.int (nI bd)) :: (.int (nI mm)) :: (.int v33_37) :: (.ref pl) :: (.ref se) :: (.ref ke) :: (.ref wi) :: (.ref hs) :: (.ref mo) :: (.ref po) :: (.ref nu) :: (.ref pr) :: (.ref sq) :: (.ref xa) :: (.ref sa) :: (.ref n64) :: (.ref m64) :: (.ref ex) :: (.ref wh) :: (.ref sd) :: (.ref tk) :: (.int v52_38) :: (.int v53_39) :: (.int v54_40) :: (.ref hd) :: (.ref ak) :: (.ref ho) :: (.ref ot) :: []) := (hR h0 (by rw [hT_h0]; simp only [List.mem_cons, List.not_mem_nil, or_false]; omega)).symm.trans hF_176
            have hF_189 : F lc = .inr (14, [.ref r_1, .int (nI zl)]) := (hR lc (by rw [ht_59]; simp only [List.mem_cons, List.not_mem_nil, or_false]; omega)).symm.trans hF_177
            have hF_190 : F r_1 = .inl (cs 17, 30, .inl fcl) := (hR r_1 (by rw [ht_61]; simp only [List.mem_cons, List.not_mem_nil, or_false]; omega)).symm.trans hF_178
            have hF_191 : F dm = .inr (14, [.ref r_2, .int (nI zm)]) := (hR dm (by rw [ht_64]; simp only [List.mem_cons, List.not_mem_nil, or_false]; omega)).symm.trans hF_179
            have hF_192 : F r_2 = .inl (cs 17, 60, .inl fcm) := (hR r_2 (by rw [ht_66]; simp only [List.mem_cons, List.not_mem_nil, or_false]; omega)).symm.trans hF_180
            have hF_193 : F dd = .inr (14, [.ref rd, .int (nI zd)]) := (hR dd (by rw [hT_dd]; simp only [List.mem_cons, List.not_mem_nil, or_false]; omega)).symm.trans hF_181
            have hF_194 : F rd = .inl (cs 17, nd, .inl fcd) := (hR rd (by rw [ht_56]; simp only [List.mem_cons, List.not_mem_nil, or_false]; omega)).symm.trans hF_182
            refine W.widen (k := 0) (n := 0) (by omega) (by omega) ?_
            refine pl_cutm (σ := Int32) A (dC, dI) cs ty gm L [κ, ρ + 7] F 366 12 (fun s10 => [(7, .int (nI w7)), (9, .int (trW ((TC fv z) (tt - 1)))), (8, .int (nI nn)), (6, .int (nI ((TC fv z) a))), (0, .ref h0), (1, .ref g1), (2, .int (nI a)), (3, .int (nI tt)), (4, .ref dd), (5, .ref g2)]) (fun s10 => [.int s10]) (fun s10 FF => s10 = nI ((1 + dtc (pcW (sdM LC DM (nI fm)) dn ((TC fv z) a)) (pcW (sdM LC DM (nI fm)) dn ((TC fv z) a)).length) - (cnW (dgW ((TC fv z) (a + 1))) (1 + dtc (pcW (sdM LC DM (nI fm)) dn ((TC fv z) a)) (pcW (sdM LC DM (nI fm)) dn ((TC fv z) a)).length))) ∧ FF g2 = .inr (14, [.ref r2, .int (nI y)]) ∧ FF r2 = .inl (cs 17, 61, .inl fi) ∧ FF pe = .inr (14, [.ref rp, .int (nI ze9)]) ∧ FF rp = .inl (cs 17, 100, .inl f9)) ?_ (fun jn_185 => ?_)
            ·
              rintro s10 F_186 hv_195 hO hR H locs hP hD hS ls hl
              have hl : lv_has ls 12 [(7, .int (nI w7)), (9, .int (trW ((TC fv z) (tt - 1)))), (8, .int (nI nn)), (6, .int (nI ((TC fv z) a))), (0, .ref h0), (1, .ref g1), (2, .int (nI a)), (3, .int (nI tt)), (4, .ref dd), (5, .ref g2)] := hl
              have hv_195 : s10 = nI ((1 + dtc (pcW (sdM LC DM (nI fm)) dn ((TC fv z) a)) (pcW (sdM LC DM (nI fm)) dn ((TC fv z) a)).length) - (cnW (dgW ((TC fv z) (a + 1))) (1 + dtc (pcW (sdM LC DM (nI fm)) dn ((TC fv z) a)) (pcW (sdM LC DM (nI fm)) dn ((TC fv z) a)).length))) ∧ F_186 g2 = .inr (14, [.ref r2, .int (nI y)]) ∧ F_186 r2 = .inl (cs 17, 61, .inl fi) ∧ F_186 pe = .inr (14, [.ref rp, .int (nI ze9)]) ∧ F_186 rp = .inl (cs 17, 100, .inl f9) := hv_195
              refine W.eq (g2 := F0 m 366 ls [.int s10]) rfl ?_
              have hF_196 : F_186 g1 = .inl (cs 17, 700, .inl fv) := (hR g1 (by rw [hT_g1]; simp only [List.mem_cons, List.not_mem_nil, or_false]; omega)).trans hF_187
              have hF_197 : F_186 h0 = .inr (15, (.ref ta) :: (.int (nI zt)) :: (.int (nI zo_28)) :: (.int (nI ze)) :: (.ref ou) :: (.ref so) :: (.ref ad) :: (.ref na) :: (.ref va) :: (.ref lc) :: (.ref dm) :: (.int (nI fm)) :: (.int (nI sn)) :: (.ref tg) :: (.int v14_29) :: (.int v15_30) :: (.ref pe) :: (.int v17_31) :: (.int v18_32) :: (.int v19_33) :: (.int v20_34) :: (.int v21_35) :: (.int v22_36) :: (.ref ml) :: (.ref bg) :: (.ref co) :: (.ref sp) :: (.ref nb0) :: (.ref nb1) :: (.ref nb2) :: (.int (nI nf)) :: (.int (nI bd)) :: (.int (nI mm)) :: (.int v33_37) :: (.ref pl) :: (.ref se) :: (.ref ke) :: (.ref wi) :: (.ref hs) :: (.ref mo) :: (.ref po) :: (.ref nu) :: (.ref pr) :: (.ref sq) :: (.ref xa) :: (.ref sa) :: (.ref n64) :: (.ref m64) :: (.ref ex) :: (.ref wh) :: (.ref sd) :: (.ref tk) :: (.int v52_38) :: (.int v53_39) :: (.int v54_40) :: (.ref hd) :: (.ref ak) :: (.ref ho) :: (.ref ot) :: []) := (hR h0 (by rw [hT_h0]; simp only [List.mem_cons, List.not_mem_nil, or_false]; omega)).trans hF_188
              have hF_198 : F_186 lc = .inr (14, [.ref r_1, .int (nI zl)]) := (hR lc (by rw [ht_59]; simp only [List.mem_cons, List.not_mem_nil, or_false]; omega)).trans hF_189
              have hF_199 : F_186 r_1 = .inl (cs 17, 30, .inl fcl) := (hR r_1 (by rw [ht_61]; simp only [List.mem_cons, List.not_mem_nil, or_false]; omega)).trans hF_190
              have hF_200 : F_186 dm = .inr (14, [.ref r_2, .int (nI zm)]) := (hR dm (by rw [ht_64]; simp only [List.mem_cons, List.not_mem_nil, or_false]; omega)).trans hF_191
              have hF_201 : F_186 r_2 = .inl (cs 17, 60, .inl fcm) := (hR r_2 (by rw [ht_66]; simp only [List.mem_cons, List.not_mem_nil, or_false]; omega)).trans hF_192
              have hF_202 : F_186 dd = .inr (14, [.ref rd, .int (nI zd)]) := (hR dd (by rw [hT_dd]; simp only [List.mem_cons, List.not_mem_nil, or_false]; omega)).trans hF_193
              have hF_203 : F_186 rd = .inl (cs 17, nd, .inl fcd) := (hR rd (by rw [ht_56]; simp only [List.mem_cons, List.not_mem_nil, or_false]; omega)).trans hF_194
              obtain ⟨hi1, hi2, hi3, hi4, hi5⟩ := hv_195
              subst hi1
              refine W.eq (g2 := F0 m 366 ls [.int (nI ((1 + dtc (pcW (sdM LC DM (nI fm)) dn ((TC fv z) a)) (pcW (sdM LC DM (nI fm)) dn ((TC fv z) a)).length) - (cnW (dgW ((TC fv z) (a + 1))) (1 + dtc (pcW (sdM LC DM (nI fm)) dn ((TC fv z) a)) (pcW (sdM LC DM (nI fm)) dn ((TC fv z) a)).length))))]) rfl ?_
              refine lv_istore (lv' := [(10, .int (nI ((1 + dtc (pcW (sdM LC DM (nI fm)) dn ((TC fv z) a)) (pcW (sdM LC DM (nI fm)) dn ((TC fv z) a)).length) - (cnW (dgW ((TC fv z) (a + 1))) (1 + dtc (pcW (sdM LC DM (nI fm)) dn ((TC fv z) a)) (pcW (sdM LC DM (nI fm)) dn ((TC fv z) a)).length))))), (7, .int (nI w7)), (9, .int (trW ((TC fv z) (tt - 1)))), (8, .int (nI nn)), (6, .int (nI ((TC fv z) a))), (0, .ref h0), (1, .ref g1), (2, .int (nI a)), (3, .int (nI tt)), (4, .ref dd), (5, .ref g2)]) hx hb dX15_macroValue_366 hl (by decide) rfl (fun ls hl => ?_)
              refine lv_iload hx hb dX15_macroValue_368 (lv_at hl 0 rfl) ?_
              refine lv_istore (lv' := [(11, .int (nI ((1 + dtc (pcW (sdM LC DM (nI fm)) dn ((TC fv z) a)) (pcW (sdM LC DM (nI fm)) dn ((TC fv z) a)).length) - (cnW (dgW ((TC fv z) (a + 1))) (1 + dtc (pcW (sdM LC DM (nI fm)) dn ((TC fv z) a)) (pcW (sdM LC DM (nI fm)) dn ((TC fv z) a)).length))))), (10, .int (nI ((1 + dtc (pcW (sdM LC DM (nI fm)) dn ((TC fv z) a)) (pcW (sdM LC DM (nI fm)) dn ((TC fv z) a)).length) - (cnW (dgW ((TC fv z) (a + 1))) (1 + dtc (pcW (sdM LC DM (nI fm)) dn ((TC fv z) a)) (pcW (sdM LC DM (nI fm)) dn ((TC fv z) a)).length))))), (7, .int (nI w7)), (9, .int (trW ((TC fv z) (tt - 1)))), (8, .int (nI nn)), (6, .int (nI ((TC fv z) a))), (0, .ref h0), (1, .ref g1), (2, .int (nI a)), (3, .int (nI tt)), (4, .ref dd), (5, .ref g2)]) hx hb dX15_macroValue_370 hl (by decide) rfl (fun ls hl => ?_)
              refine W.widen (k := 0) (n := 0) (by omega) (by omega) ?_
              have hF_205 : F g1 = .inl (cs 17, 700, .inl fv) := (hR g1 (by rw [hT_g1]; simp only [List.mem_cons, List.not_mem_nil, or_false]; omega)).symm.trans hF_196
              have hF_206 : F h0 = .inr (15, (.ref ta) :: (.int (nI zt)) :: (.int (nI zo_28)) :: (.int (nI ze)) :: (.ref ou) :: (.ref so) :: (.ref ad) :: (.ref na) :: (.ref va) :: (.ref lc) :: (.ref dm) :: (.int (nI fm)) :: (.int (nI sn)) :: (.ref tg) :: (.int v14_29) :: (.int v15_30) :: (.ref pe) :: (.int v17_31) :: (.int v18_32) :: (.int v19_33) :: (.int v20_34) :: (.int v21_35) :: (.int v22_36) :: (.ref ml) :: (.ref bg) :: (.ref co) :: (.ref sp) :: (.ref nb0) :: (.ref nb1) :: (.ref nb2) :: (.int (nI nf)) :: (.int (nI bd)) :: (.int (nI mm)) :: (.int v33_37) :: (.ref pl) :: (.ref se) :: (.ref ke) :: (.ref wi) :: (.ref hs) :: (.ref mo) :: (.ref po) :: (.ref nu) :: (.ref pr) :: (.ref sq) :: (.ref xa) :: (.ref sa) :: (.ref n64) :: (.ref m64) :: (.ref ex) :: (.ref wh) :: (.ref sd) :: (.ref tk) :: (.int v52_38) :: (.int v53_39) :: (.int v54_40) :: (.ref hd) :: (.ref ak) :: (.ref ho) :: (.ref ot) :: []) := (hR h0 (by rw [hT_h0]; simp only [List.mem_cons, List.not_mem_nil, or_false]; omega)).symm.trans hF_197
              have hF_207 : F lc = .inr (14, [.ref r_1, .int (nI zl)]) := (hR lc (by rw [ht_59]; simp only [List.mem_cons, List.not_mem_nil, or_false]; omega)).symm.trans hF_198
              have hF_208 : F r_1 = .inl (cs 17, 30, .inl fcl) := (hR r_1 (by rw [ht_61]; simp only [List.mem_cons, List.not_mem_nil, or_false]; omega)).symm.trans hF_199
              have hF_209 : F dm = .inr (14, [.ref r_2, .int (nI zm)]) := (hR dm (by rw [ht_64]; simp only [List.mem_cons, List.not_mem_nil, or_false]; omega)).symm.trans hF_200
              have hF_210 : F r_2 = .inl (cs 17, 60, .inl fcm) := (hR r_2 (by rw [ht_66]; simp only [List.mem_cons, List.not_mem_nil, or_false]; omega)).symm.trans hF_201
              have hF_211 : F dd = .inr (14, [.ref rd, .int (nI zd)]) := (hR dd (by rw [hT_dd]; simp only [List.mem_cons, List.not_mem_nil, or_false]; omega)).symm.trans hF_202
              have hF_212 : F rd = .inl (cs 17, nd, .inl fcd) := (hR rd (by rw [ht_56]; simp only [List.mem_cons, List.not_mem_nil, or_false]; omega)).symm.trans hF_203
              refine pl_loopm (σ := Nat × Nat × (Nat → Int32)) A (dC, dI) cs ty gm L [κ, ρ + 7] F 372 12 (fun (i, yy, fq) => [(11, .int (nI i)), (10, .int (nI ((1 + dtc (pcW (sdM LC DM (nI fm)) dn ((TC fv z) a)) (pcW (sdM LC DM (nI fm)) dn ((TC fv z) a)).length) - (cnW (dgW ((TC fv z) (a + 1))) (1 + dtc (pcW (sdM LC DM (nI fm)) dn ((TC fv z) a)) (pcW (sdM LC DM (nI fm)) dn ((TC fv z) a)).length))))), (7, .int (nI w7)), (9, .int (trW ((TC fv z) (tt - 1)))), (8, .int (nI nn)), (6, .int (nI ((TC fv z) a))), (0, .ref h0), (1, .ref g1), (2, .int (nI a)), (3, .int (nI tt)), (4, .ref dd), (5, .ref g2)]) (fun (i, yy, fq) => []) (fun (i, yy, fq) FF => ((1 + dtc (pcW (sdM LC DM (nI fm)) dn ((TC fv z) a)) (pcW (sdM LC DM (nI fm)) dn ((TC fv z) a)).length) - (cnW (dgW ((TC fv z) (a + 1))) (1 + dtc (pcW (sdM LC DM (nI fm)) dn ((TC fv z) a)) (pcW (sdM LC DM (nI fm)) dn ((TC fv z) a)).length))) ≤ i ∧ i ≤ w7 ∧ FF g2 = .inr (14, [.ref r2, .int (nI yy)]) ∧ FF r2 = .inl (cs 17, 61, .inl fq) ∧ FF pe = .inr (14, [.ref rp, .int (nI ze9)]) ∧ FF rp = .inl (cs 17, 100, .inl f9) ∧ TGM (U ++ prw (pcW (sdM LC DM (nI fm)) dn ((TC fv z) a)) (trW ((TC fv z) (tt - 1))) (cnW (dgW ((TC fv z) (a + 1))) (1 + dtc (pcW (sdM LC DM (nI fm)) dn ((TC fv z) a)) (pcW (sdM LC DM (nI fm)) dn ((TC fv z) a)).length)) (1 + dtc (pcW (sdM LC DM (nI fm)) dn ((TC fv z) a)) (pcW (sdM LC DM (nI fm)) dn ((TC fv z) a)).length) (i - ((1 + dtc (pcW (sdM LC DM (nI fm)) dn ((TC fv z) a)) (pcW (sdM LC DM (nI fm)) dn ((TC fv z) a)).length) - (cnW (dgW ((TC fv z) (a + 1))) (1 + dtc (pcW (sdM LC DM (nI fm)) dn ((TC fv z) a)) (pcW (sdM LC DM (nI fm)) dn ((TC fv z) a)).length))))) yy fq) (fun (i, yy, fq) => w7 - i) ?_ (((1 + dtc (pcW (sdM LC DM (nI fm)) dn ((TC fv z) a)) (pcW (sdM LC DM (nI fm)) dn ((TC fv z) a)).length) - (cnW (dgW ((TC fv z) (a + 1))) (1 + dtc (pcW (sdM LC DM (nI fm)) dn ((TC fv z) a)) (pcW (sdM LC DM (nI fm)) dn ((TC fv z) a)).length))), y, fi) F_186 (⟨Nat.le_refl _, by omega, hi2, hi3, hi4, hi5, by rw [show ((1 + dtc (pcW (sdM LC DM (nI fm)) dn ((TC fv z) a)) (pcW (sdM LC DM (nI fm)) dn ((TC fv z) a)).length) - (cnW (dgW ((TC fv z) (a + 1))) (1 + dtc (pcW (sdM LC DM (nI fm)) dn ((TC fv z) a)) (pcW (sdM LC DM (nI fm)) dn ((TC fv z) a)).length))) - ((1 + dtc (pcW (sdM LC DM (nI fm)) dn ((TC fv z) a)) (pcW (sdM LC DM (nI fm)) dn ((TC fv z) a)).length) - (cnW (dgW ((TC fv z) (a + 1))) (1 + dtc (pcW (sdM LC DM (nI fm)) dn ((TC fv z) a)) (pcW (sdM LC DM (nI fm)) dn ((TC fv z) a)).length))) = 0 by omega]; show TGM (U ++ []) y fi; rw [List.append_nil]; exact hTU⟩) hO hR _ _ hP hD hS ls (lv_sub hl [0, 1, 2, 3, 4, 5, 6, 7, 8, 9, 10, 11] rfl)
              rintro ⟨i, yy, fq⟩ F_204 hv_213 hO hR ih_214 H locs hP hD hS ls hl
              have hl : lv_has ls 12 [(11, .int (nI i)), (10, .int (nI ((1 + dtc (pcW (sdM LC DM (nI fm)) dn ((TC fv z) a)) (pcW (sdM LC DM (nI fm)) dn ((TC fv z) a)).length) - (cnW (dgW ((TC fv z) (a + 1))) (1 + dtc (pcW (sdM LC DM (nI fm)) dn ((TC fv z) a)) (pcW (sdM LC DM (nI fm)) dn ((TC fv z) a)).length))))), (7, .int (nI w7)), (9, .int (trW ((TC fv z) (tt - 1)))), (8, .int (nI nn)), (6, .int (nI ((TC fv z) a))), (0, .ref h0), (1, .ref g1), (2, .int (nI a)), (3, .int (nI tt)), (4, .ref dd), (5, .ref g2)] := hl
              have hv_213 : ((1 + dtc (pcW (sdM LC DM (nI fm)) dn ((TC fv z) a)) (pcW (sdM LC DM (nI fm)) dn ((TC fv z) a)).length) - (cnW (dgW ((TC fv z) (a + 1))) (1 + dtc (pcW (sdM LC DM (nI fm)) dn ((TC fv z) a)) (pcW (sdM LC DM (nI fm)) dn ((TC fv z) a)).length))) ≤ i ∧ i ≤ w7 ∧ F_204 g2 = .inr (14, [.ref r2, .int (nI yy)]) ∧ F_204 r2 = .inl (cs 17, 61, .inl fq) ∧ F_204 pe = .inr (14, [.ref rp, .int (nI ze9)]) ∧ F_204 rp = .inl (cs 17, 100, .inl f9) ∧ TGM (U ++ prw (pcW (sdM LC DM (nI fm)) dn ((TC fv z) a)) (trW ((TC fv z) (tt - 1))) (cnW (dgW ((TC fv z) (a + 1))) (1 + dtc (pcW (sdM LC DM (nI fm)) dn ((TC fv z) a)) (pcW (sdM LC DM (nI fm)) dn ((TC fv z) a)).length)) (1 + dtc (pcW (sdM LC DM (nI fm)) dn ((TC fv z) a)) (pcW (sdM LC DM (nI fm)) dn ((TC fv z) a)).length) (i - ((1 + dtc (pcW (sdM LC DM (nI fm)) dn ((TC fv z) a)) (pcW (sdM LC DM (nI fm)) dn ((TC fv z) a)).length) - (cnW (dgW ((TC fv z) (a + 1))) (1 + dtc (pcW (sdM LC DM (nI fm)) dn ((TC fv z) a)) (pcW (sdM LC DM (nI fm)) dn ((TC fv z) a)).length))))) yy fq := hv_213
              refine W.eq (g2 := F0 m 372 ls []) rfl ?_
              have hF_215 : F_204 g1 = .inl (cs 17, 700, .inl fv) := (hR g1 (by rw [hT_g1]; simp only [List.mem_cons, List.not_mem_nil, or_false]; omega)).trans hF_205
              have hF_216 : F_204 h0 = .inr (15, (.ref ta) :: (.int (nI zt)) :: (.int (nI zo_28)) :: (.int (nI ze)) :: (.ref ou) :: (.ref so) :: (.ref ad) :: (.ref na) :: (.ref va) :: (.ref lc) :: (.ref dm) :: (.int (nI fm)) :: (.int (nI sn)) :: (.ref tg) :: (.int v14_29) :: (.int v15_30) :: (.ref pe) :: (.int v17_31) :: (.int v18_32) :: (.int v19_33) :: (.int v20_34) :: (.int v21_35) :: (.int v22_36) :: (.ref ml) :: (.ref bg) :: (.ref co) :: (.ref sp) :: (.ref nb0) :: (.ref nb1) :: (.ref nb2) :: (.int (nI nf)) :: (.int (nI bd)) :: (.int (nI mm)) :: (.int v33_37) :: (.ref pl) :: (.ref se) :: (.ref ke) :: (.ref wi) :: (.ref hs) :: (.ref mo) :: (.ref po) :: (.ref nu) :: (.ref pr) :: (.ref sq) :: (.ref xa) :: (.ref sa) :: (.ref n64) :: (.ref m64) :: (.ref ex) :: (.ref wh) :: (.ref sd) :: (.ref tk) :: (.int v52_38) :: (.int v53_39) :: (.int v54_40) :: (.ref hd) :: (.ref ak) :: (.ref ho) :: (.ref ot) :: []) := (hR h0 (by rw [hT_h0]; simp only [List.mem_cons, List.not_mem_nil, or_false]; omega)).trans hF_206
              have hF_217 : F_204 lc = .inr (14, [.ref r_1, .int (nI zl)]) := (hR lc (by rw [ht_59]; simp only [List.mem_cons, List.not_mem_nil, or_false]; omega)).trans hF_207
              have hF_218 : F_204 r_1 = .inl (cs 17, 30, .inl fcl) := (hR r_1 (by rw [ht_61]; simp only [List.mem_cons, List.not_mem_nil, or_false]; omega)).trans hF_208
              have hF_219 : F_204 dm = .inr (14, [.ref r_2, .int (nI zm)]) := (hR dm (by rw [ht_64]; simp only [List.mem_cons, List.not_mem_nil, or_false]; omega)).trans hF_209
              have hF_220 : F_204 r_2 = .inl (cs 17, 60, .inl fcm) := (hR r_2 (by rw [ht_66]; simp only [List.mem_cons, List.not_mem_nil, or_false]; omega)).trans hF_210
              have hF_221 : F_204 dd = .inr (14, [.ref rd, .int (nI zd)]) := (hR dd (by rw [hT_dd]; simp only [List.mem_cons, List.not_mem_nil, or_false]; omega)).trans hF_211
              have hF_222 : F_204 rd = .inl (cs 17, nd, .inl fcd) := (hR rd (by rw [ht_56]; simp only [List.mem_cons, List.not_mem_nil, or_false]; omega)).trans hF_212
              obtain ⟨hj1, hj2, hj3, hj4, hj5, hj6, hj7⟩ := hv_213
              refine lv_iload hx hb dX15_macroValue_372 (lv_at hl 0 rfl) ?_
              refine lv_iload hx hb dX15_macroValue_374 (lv_at hl 2 rfl) ?_
              refine lv_icmp_ge (tgt := 422) hx hb dX15_macroValue_376 (by decide) (fun c_223 => ?_) (fun c_223 => ?_)
              ·
                have hi_224 : w7 ≤ i := leN (N := w7) c_223
                refine W.widen (k := 0) (n := 0) (by omega) (by omega) ?_
                exact W.vret hx hb hr (fun t ht hWm => ⟨⟨(), rfl, trivial, ⟨F_204, yy, fq, QTm.mk ht hP hD hO hR, hj3, hj4, (by have h9 := hj7; rw [show i - ((1 + dtc (pcW (sdM LC DM (nI fm)) dn ((TC fv z) a)) (pcW (sdM LC DM (nI fm)) dn ((TC fv z) a)).length) - (cnW (dgW ((TC fv z) (a + 1))) (1 + dtc (pcW (sdM LC DM (nI fm)) dn ((TC fv z) a)) (pcW (sdM LC DM (nI fm)) dn ((TC fv z) a)).length))) = (cnW (dgW ((TC fv z) (a + 1))) (1 + dtc (pcW (sdM LC DM (nI fm)) dn ((TC fv z) a)) (pcW (sdM LC DM (nI fm)) dn ((TC fv z) a)).length)) by omega] at h9; exact h9)⟩⟩, hS.F ht⟩) hS.2.2 dX15_macroValue_422
              ·
                have hi_225 : i < w7 := ltN (N := w7) c_223
                refine lv_iload hx hb dX15_macroValue_379 (lv_at hl 0 rfl) ?_
                refine lv_iload hx hb dX15_macroValue_381 (lv_at hl 1 rfl) ?_
                refine lv_icmp_le (tgt := 393) hx hb dX15_macroValue_383 (by decide) (fun c_226 => ?_) (fun c_226 => ?_)
                ·
                  have hi_227 : i ≤ ((1 + dtc (pcW (sdM LC DM (nI fm)) dn ((TC fv z) a)) (pcW (sdM LC DM (nI fm)) dn ((TC fv z) a)).length) - (cnW (dgW ((TC fv z) (a + 1))) (1 + dtc (pcW (sdM LC DM (nI fm)) dn ((TC fv z) a)) (pcW (sdM LC DM (nI fm)) dn ((TC fv z) a)).length))) := (nI_leI (a := i) (b := ((1 + dtc (pcW (sdM LC DM (nI fm)) dn ((TC fv z) a)) (pcW (sdM LC DM (nI fm)) dn ((TC fv z) a)).length) - (cnW (dgW ((TC fv z) (a + 1))) (1 + dtc (pcW (sdM LC DM (nI fm)) dn ((TC fv z) a)) (pcW (sdM LC DM (nI fm)) dn ((TC fv z) a)).length)))) (by omega) (by omega)).mp c_226
                  refine lv_aload_n hx hb dX15_macroValue_393 rfl (lv_at hl 6 rfl) ?_
                  refine lv_iload hx hb dX15_macroValue_394 (lv_at hl 3 rfl) ?_
                  refine lv_if_eq (tgt := 409) hx hb dX15_macroValue_396 (by decide) (fun c_228 => ?_) (fun c_228 => ?_)
                  ·
                    refine lv_iload hx hb dX15_macroValue_409 (lv_at hl 0 rfl) ?_
                    refine lv_aload hx hb dX15_macroValue_411 (lv_at hl 11 rfl) ?_
                    refine W.eq (g2 := F0 m 413 ls [.ref g2, .int (nI ((1 + dtc (pcW (sdM LC DM (nI fm)) dn ((TC fv z) a)) (pcW (sdM LC DM (nI fm)) dn ((TC fv z) a)).length) - (cnW (dgW ((TC fv z) (a + 1))) (1 + dtc (pcW (sdM LC DM (nI fm)) dn ((TC fv z) a)) (pcW (sdM LC DM (nI fm)) dn ((TC fv z) a)).length)) + (i - ((1 + dtc (pcW (sdM LC DM (nI fm)) dn ((TC fv z) a)) (pcW (sdM LC DM (nI fm)) dn ((TC fv z) a)).length) - (cnW (dgW ((TC fv z) (a + 1))) (1 + dtc (pcW (sdM LC DM (nI fm)) dn ((TC fv z) a)) (pcW (sdM LC DM (nI fm)) dn ((TC fv z) a)).length)))))), .ref h0]) (by rw [show (1 + dtc (pcW (sdM LC DM (nI fm)) dn ((TC fv z) a)) (pcW (sdM LC DM (nI fm)) dn ((TC fv z) a)).length) - (cnW (dgW ((TC fv z) (a + 1))) (1 + dtc (pcW (sdM LC DM (nI fm)) dn ((TC fv z) a)) (pcW (sdM LC DM (nI fm)) dn ((TC fv z) a)).length)) + (i - ((1 + dtc (pcW (sdM LC DM (nI fm)) dn ((TC fv z) a)) (pcW (sdM LC DM (nI fm)) dn ((TC fv z) a)).length) - (cnW (dgW ((TC fv z) (a + 1))) (1 + dtc (pcW (sdM LC DM (nI fm)) dn ((TC fv z) a)) (pcW (sdM LC DM (nI fm)) dn ((TC fv z) a)).length)))) = i by omega]) ?_
                    obtain ⟨hq_229, hq_230⟩ := hW.octs hi_47 ht_48
                    obtain ⟨hq_231, hq_232⟩ := hW.octs hi_50 ht_51
                    have hFc := pg_free hD hS hA
                    refine va_callv (va_runV (As := [.int (nI ((1 + dtc (pcW (sdM LC DM (nI fm)) dn ((TC fv z) a)) (pcW (sdM LC DM (nI fm)) dn ((TC fv z) a)).length) - (cnW (dgW ((TC fv z) (a + 1))) (1 + dtc (pcW (sdM LC DM (nI fm)) dn ((TC fv z) a)) (pcW (sdM LC DM (nI fm)) dn ((TC fv z) a)).length)) + (i - ((1 + dtc (pcW (sdM LC DM (nI fm)) dn ((TC fv z) a)) (pcW (sdM LC DM (nI fm)) dn ((TC fv z) a)).length) - (cnW (dgW ((TC fv z) (a + 1))) (1 + dtc (pcW (sdM LC DM (nI fm)) dn ((TC fv z) a)) (pcW (sdM LC DM (nI fm)) dn ((TC fv z) a)).length)))))), .ref g2]) (rest := []) ⟨hx, hb, hml, hown, hts⟩ (s_X15_part_x l dC dI cs ty gm L H.size F_204 h0 ρ ta ou so ad na va lc dm tg pe ml bg co sp nb0 nb1 nb2 pl se ke wi hs mo po nu pr sq xa sa n64 m64 ex wh sd tk hd ak ho ot sx s0 s1 s2 nf bd mm fm sn hg gc gv ze zt rp g2 κ r2 ((1 + dtc (pcW (sdM LC DM (nI fm)) dn ((TC fv z) a)) (pcW (sdM LC DM (nI fm)) dn ((TC fv z) a)).length) - (cnW (dgW ((TC fv z) (a + 1))) (1 + dtc (pcW (sdM LC DM (nI fm)) dn ((TC fv z) a)) (pcW (sdM LC DM (nI fm)) dn ((TC fv z) a)).length)) + (i - ((1 + dtc (pcW (sdM LC DM (nI fm)) dn ((TC fv z) a)) (pcW (sdM LC DM (nI fm)) dn ((TC fv z) a)).length) - (cnW (dgW ((TC fv z) (a + 1))) (1 + dtc (pcW (sdM LC DM (nI fm)) dn ((TC fv z) a)) (pcW (sdM LC DM (nI fm)) dn ((TC fv z) a)).length))))) ze9 yy f9 fq (pcW (sdM LC DM (nI fm)) dn ((TC fv z) a)) (U ++ prw (pcW (sdM LC DM (nI fm)) dn ((TC fv z) a)) (trW ((TC fv z) (tt - 1))) (cnW (dgW ((TC fv z) (a + 1))) (1 + dtc (pcW (sdM LC DM (nI fm)) dn ((TC fv z) a)) (pcW (sdM LC DM (nI fm)) dn ((TC fv z) a)).length)) (1 + dtc (pcW (sdM LC DM (nI fm)) dn ((TC fv z) a)) (pcW (sdM LC DM (nI fm)) dn ((TC fv z) a)).length) (i - ((1 + dtc (pcW (sdM LC DM (nI fm)) dn ((TC fv z) a)) (pcW (sdM LC DM (nI fm)) dn ((TC fv z) a)).length) - (cnW (dgW ((TC fv z) (a + 1))) (1 + dtc (pcW (sdM LC DM (nI fm)) dn ((TC fv z) a)) (pcW (sdM LC DM (nI fm)) dn ((TC fv z) a)).length))))) hW hL_h0 hT_h0 hL_pe hT_pe hL_g2 hT_g2 hj5 hj6 hj3 hj4 (hj7) (by first | omega | assumption | exact Or.inl rfl) (by omega) (hV) (by rw [← hV.1]; omega)) ⟨callB_of 2 hts (gi kt_1148) rfl rfl rfl (hts _ kt_669) (hts _ kt_1149) (by decide +kernel) ⟨Nat.le_of_ble_eq_true rfl, Nat.le_of_ble_eq_true rfl⟩, (hts _ kt_1150), (hts _ kt_1151)⟩ ⟨fun a U g mk q => ⟨q.1, PTm.calling q.2⟩, pg_recv hK hP hL_h0 hF_216 (q := (RX15, TX15, 59)) rfl, fun U hU hWm => ⟨rfl, PTm.mk hU hWm hP hK hD hE hO⟩⟩ rfl rfl hl.1 rfl (lv_room (Nat.le_of_ble_eq_true rfl)) dX15_macroValue_413 ⟨by show _ + 0 ≤ 0; omega, by show _ + 0 ≤ 0; omega⟩) hS (fun q _ h => hFc q h) hFc (fun u t H1 locs ht hvm hw hB hz1 hk1 hS => ?_)
                    obtain ⟨F_234, y2_235, f2_236, hB1, hq_237, hq_238, hq_239⟩ := hB
                    obtain ⟨hP, hD, hO, hR⟩ := QTm.back hB1 ht hFc hR (fun q h => by simp only [List.mem_cons, List.not_mem_nil, or_false] at h ⊢; omega)
                    have hF_240 : F_234 g1 = .inl (cs 17, 700, .inl fv) := (hB1.2.2.2 g1 (by rw [hT_g1]; simp only [List.mem_cons, List.not_mem_nil, or_false]; omega)).trans hF_215
                    have hF_241 : F_234 h0 = .inr (15, (.ref ta) :: (.int (nI zt)) :: (.int (nI zo_28)) :: (.int (nI ze)) :: (.ref ou) :: (.ref so) :: (.ref ad) :: (.ref na) :: (.ref va) :: (.ref lc) :: (.ref dm) :: (.int (nI fm)) :: (.int (nI sn)) :: (.ref tg) :: (.int v14_29) :: (.int v15_30) :: (.ref pe) :: (.int v17_31) :: (.int v18_32) :: (.int v19_33) :: (.int v20_34) :: (.int v21_35) :: (.int v22_36) :: (.ref ml) :: (.ref bg) :: (.ref co) :: (.ref sp) :: (.ref nb0) :: (.ref nb1) :: (.ref nb2) :: (.int (nI nf)) :: (.int (nI bd)) :: (.int (nI mm)) :: (.int v33_37) :: (.ref pl) :: (.ref se) :: (.ref ke) :: (.ref wi) :: (.ref hs) :: (.ref mo) :: (.ref po) :: (.ref nu) :: (.ref pr) :: (.ref sq) :: (.ref xa) :: (.ref sa) :: (.ref n64) :: (.ref m64) :: (.ref ex) :: (.ref wh) :: (.ref sd) :: (.ref tk) :: (.int v52_38) :: (.int v53_39) :: (.int v54_40) :: (.ref hd) :: (.ref ak) :: (.ref ho) :: (.ref ot) :: []) := (hB1.2.2.2 h0 (by rw [hT_h0]; simp only [List.mem_cons, List.not_mem_nil, or_false]; omega)).trans hF_216
                    have hF_242 : F_234 lc = .inr (14, [.ref r_1, .int (nI zl)]) := (hB1.2.2.2 lc (by rw [ht_59]; simp only [List.mem_cons, List.not_mem_nil, or_false]; omega)).trans hF_217
                    have hF_243 : F_234 r_1 = .inl (cs 17, 30, .inl fcl) := (hB1.2.2.2 r_1 (by rw [ht_61]; simp only [List.mem_cons, List.not_mem_nil, or_false]; omega)).trans hF_218
                    have hF_244 : F_234 dm = .inr (14, [.ref r_2, .int (nI zm)]) := (hB1.2.2.2 dm (by rw [ht_64]; simp only [List.mem_cons, List.not_mem_nil, or_false]; omega)).trans hF_219
                    have hF_245 : F_234 r_2 = .inl (cs 17, 60, .inl fcm) := (hB1.2.2.2 r_2 (by rw [ht_66]; simp only [List.mem_cons, List.not_mem_nil, or_false]; omega)).trans hF_220
                    have hF_246 : F_234 dd = .inr (14, [.ref rd, .int (nI zd)]) := (hB1.2.2.2 dd (by rw [hT_dd]; simp only [List.mem_cons, List.not_mem_nil, or_false]; omega)).trans hF_221
                    have hF_247 : F_234 rd = .inl (cs 17, nd, .inl fcd) := (hB1.2.2.2 rd (by rw [ht_56]; simp only [List.mem_cons, List.not_mem_nil, or_false]; omega)).trans hF_222
                    have hF_248 : F_234 pe = .inr (14, [.ref rp, .int (nI ze9)]) := (hB1.2.2.2 pe (by rw [hT_pe]; simp only [List.mem_cons, List.not_mem_nil, or_false]; omega)).trans hj5
                    have hF_249 : F_234 rp = .inl (cs 17, 100, .inl f9) := (hB1.2.2.2 rp (by rw [ht_48]; simp only [List.mem_cons, List.not_mem_nil, or_false]; omega)).trans hj6
                    generalize H1 = H at hP hS ⊢
                    refine lv_iinc (v := (nI (i + 1))) (lv' := [(11, .int (nI (i + 1))), (10, .int (nI ((1 + dtc (pcW (sdM LC DM (nI fm)) dn ((TC fv z) a)) (pcW (sdM LC DM (nI fm)) dn ((TC fv z) a)).length) - (cnW (dgW ((TC fv z) (a + 1))) (1 + dtc (pcW (sdM LC DM (nI fm)) dn ((TC fv z) a)) (pcW (sdM LC DM (nI fm)) dn ((TC fv z) a)).length))))), (7, .int (nI w7)), (9, .int (trW ((TC fv z) (tt - 1)))), (8, .int (nI nn)), (6, .int (nI ((TC fv z) a))), (0, .ref h0), (1, .ref g1), (2, .int (nI a)), (3, .int (nI tt)), (4, .ref dd), (5, .ref g2)]) hx hb dX15_macroValue_416 hl (k := 0) rfl (nI_1 _) (by decide) rfl (fun ls hl => ?_)
                    refine lv_goto (tgt := 372) hx hb dX15_macroValue_419 (by decide) ?_
                    refine W.widen (k := 0) (n := 0) (by omega) (by omega) ?_
                    exact ih_214 ((i + 1), y2_235, f2_236) F_234 (⟨by omega, by omega, hq_237, hq_238, hF_248, hF_249, by have h9 := hq_239; rw [show i + 1 - ((1 + dtc (pcW (sdM LC DM (nI fm)) dn ((TC fv z) a)) (pcW (sdM LC DM (nI fm)) dn ((TC fv z) a)).length) - (cnW (dgW ((TC fv z) (a + 1))) (1 + dtc (pcW (sdM LC DM (nI fm)) dn ((TC fv z) a)) (pcW (sdM LC DM (nI fm)) dn ((TC fv z) a)).length))) = i - ((1 + dtc (pcW (sdM LC DM (nI fm)) dn ((TC fv z) a)) (pcW (sdM LC DM (nI fm)) dn ((TC fv z) a)).length) - (cnW (dgW ((TC fv z) (a + 1))) (1 + dtc (pcW (sdM LC DM (nI fm)) dn ((TC fv z) a)) (pcW (sdM LC DM (nI fm)) dn ((TC fv z) a)).length))) + 1 by omega]; show TGM (U ++ (prw (pcW (sdM LC DM (nI fm)) dn ((TC fv z) a)) (trW ((TC fv z) (tt - 1))) (cnW (dgW ((TC fv z) (a + 1))) (1 + dtc (pcW (sdM LC DM (nI fm)) dn ((TC fv z) a)) (pcW (sdM LC DM (nI fm)) dn ((TC fv z) a)).length)) (1 + dtc (pcW (sdM LC DM (nI fm)) dn ((TC fv z) a)) (pcW (sdM LC DM (nI fm)) dn ((TC fv z) a)).length) (i - ((1 + dtc (pcW (sdM LC DM (nI fm)) dn ((TC fv z) a)) (pcW (sdM LC DM (nI fm)) dn ((TC fv z) a)).length) - (cnW (dgW ((TC fv z) (a + 1))) (1 + dtc (pcW (sdM LC DM (nI fm)) dn ((TC fv z) a)) (pcW (sdM LC DM (nI fm)) dn ((TC fv z) a)).length)))) ++ (if 0 < i - ((1 + dtc (pcW (sdM LC DM (nI fm)) dn ((TC fv z) a)) (pcW (sdM LC DM (nI fm)) dn ((TC fv z) a)).length) - (cnW (dgW ((TC fv z) (a + 1))) (1 + dtc (pcW (sdM LC DM (nI fm)) dn ((TC fv z) a)) (pcW (sdM LC DM (nI fm)) dn ((TC fv z) a)).length))) then [46] else []) ++ ptL (pcW (sdM LC DM (nI fm)) dn ((TC fv z) a)) (pix (trW ((TC fv z) (tt - 1))) (cnW (dgW ((TC fv z) (a + 1))) (1 + dtc (pcW (sdM LC DM (nI fm)) dn ((TC fv z) a)) (pcW (sdM LC DM (nI fm)) dn ((TC fv z) a)).length)) (1 + dtc (pcW (sdM LC DM (nI fm)) dn ((TC fv z) a)) (pcW (sdM LC DM (nI fm)) dn ((TC fv z) a)).length) (i - ((1 + dtc (pcW (sdM LC DM (nI fm)) dn ((TC fv z) a)) (pcW (sdM LC DM (nI fm)) dn ((TC fv z) a)).length) - (cnW (dgW ((TC fv z) (a + 1))) (1 + dtc (pcW (sdM LC DM (nI fm)) dn ((TC fv z) a)) (pcW (sdM LC DM (nI fm)) dn ((TC fv z) a)).length))))))) _ _; rw [if_neg (by omega), show pix (trW ((TC fv z) (tt - 1))) (cnW (dgW ((TC fv z) (a + 1))) (1 + dtc (pcW (sdM LC DM (nI fm)) dn ((TC fv z) a)) (pcW (sdM LC DM (nI fm)) dn ((TC fv z) a)).length)) (1 + dtc (pcW (sdM LC DM (nI fm)) dn ((TC fv z) a)) (pcW (sdM LC DM (nI fm)) dn ((TC fv z) a)).length) (i - ((1 + dtc (pcW (sdM LC DM (nI fm)) dn ((TC fv z) a)) (pcW (sdM LC DM (nI fm)) dn ((TC fv z) a)).length) - (cnW (dgW ((TC fv z) (a + 1))) (1 + dtc (pcW (sdM LC DM (nI fm)) dn ((TC fv z) a)) (pcW (sdM LC DM (nI fm)) dn ((TC fv z) a)).length)))) = _ from if_pos c_228, ← List.append_assoc, ← List.append_assoc]; rw [List.append_nil]; exact h9⟩) (by show w7 - (i + 1) < w7 - i; omega) hO hR _ _ hP hD hS ls (lv_sub hl [0, 1, 2, 3, 4, 5, 6, 7, 8, 9, 10, 11] rfl)
                  ·
                    refine lv_iload hx hb dX15_macroValue_399 (lv_at hl 2 rfl) ?_
                    refine lv_iconst (v := 1) hx hb dX15_macroValue_401 (by decide) ?_
                    refine lv_isub hx hb dX15_macroValue_402 ?_
                    refine lv_topi (fun x_250 ex_250 => ?_)
                    obtain rfl : x_250 = (nI (w7 - 1)) := ex_250.trans (pk_sub (a := w7) (b := 1) (by omega))
                    refine lv_iload hx hb dX15_macroValue_403 (lv_at hl 0 rfl) ?_
                    refine lv_isub hx hb dX15_macroValue_405 ?_
                    refine lv_topi (fun x_251 ex_251 => ?_)
                    obtain rfl : x_251 = (nI ((cnW (dgW ((TC fv z) (a + 1))) (1 + dtc (pcW (sdM LC DM (nI fm)) dn ((TC fv z) a)) (pcW (sdM LC DM (nI fm)) dn ((TC fv z) a)).length)) - 1 - (i - ((1 + dtc (pcW (sdM LC DM (nI fm)) dn ((TC fv z) a)) (pcW (sdM LC DM (nI fm)) dn ((TC fv z) a)).length) - (cnW (dgW ((TC fv z) (a + 1))) (1 + dtc (pcW (sdM LC DM (nI fm)) dn ((TC fv z) a)) (pcW (sdM LC DM (nI fm)) dn ((TC fv z) a)).length)))))) := ex_251.trans ((pk_sub (a := w7 - 1) (b := i) (by omega)).trans (congrArg nI (by omega)))
                    refine lv_goto (tgt := 411) hx hb dX15_macroValue_406 (by decide) ?_
                    refine lv_aload hx hb dX15_macroValue_411 (lv_at hl 11 rfl) ?_
                    obtain ⟨hq_252, hq_253⟩ := hW.octs hi_47 ht_48
                    obtain ⟨hq_254, hq_255⟩ := hW.octs hi_50 ht_51
                    have hFc := pg_free hD hS hA
                    refine va_callv (va_runV (As := [.int (nI ((cnW (dgW ((TC fv z) (a + 1))) (1 + dtc (pcW (sdM LC DM (nI fm)) dn ((TC fv z) a)) (pcW (sdM LC DM (nI fm)) dn ((TC fv z) a)).length)) - 1 - (i - ((1 + dtc (pcW (sdM LC DM (nI fm)) dn ((TC fv z) a)) (pcW (sdM LC DM (nI fm)) dn ((TC fv z) a)).length) - (cnW (dgW ((TC fv z) (a + 1))) (1 + dtc (pcW (sdM LC DM (nI fm)) dn ((TC fv z) a)) (pcW (sdM LC DM (nI fm)) dn ((TC fv z) a)).length)))))), .ref g2]) (rest := []) ⟨hx, hb, hml, hown, hts⟩ (s_X15_part_x l dC dI cs ty gm L H.size F_204 h0 ρ ta ou so ad na va lc dm tg pe ml bg co sp nb0 nb1 nb2 pl se ke wi hs mo po nu pr sq xa sa n64 m64 ex wh sd tk hd ak ho ot sx s0 s1 s2 nf bd mm fm sn hg gc gv ze zt rp g2 κ r2 ((cnW (dgW ((TC fv z) (a + 1))) (1 + dtc (pcW (sdM LC DM (nI fm)) dn ((TC fv z) a)) (pcW (sdM LC DM (nI fm)) dn ((TC fv z) a)).length)) - 1 - (i - ((1 + dtc (pcW (sdM LC DM (nI fm)) dn ((TC fv z) a)) (pcW (sdM LC DM (nI fm)) dn ((TC fv z) a)).length) - (cnW (dgW ((TC fv z) (a + 1))) (1 + dtc (pcW (sdM LC DM (nI fm)) dn ((TC fv z) a)) (pcW (sdM LC DM (nI fm)) dn ((TC fv z) a)).length))))) ze9 yy f9 fq (pcW (sdM LC DM (nI fm)) dn ((TC fv z) a)) (U ++ prw (pcW (sdM LC DM (nI fm)) dn ((TC fv z) a)) (trW ((TC fv z) (tt - 1))) (cnW (dgW ((TC fv z) (a + 1))) (1 + dtc (pcW (sdM LC DM (nI fm)) dn ((TC fv z) a)) (pcW (sdM LC DM (nI fm)) dn ((TC fv z) a)).length)) (1 + dtc (pcW (sdM LC DM (nI fm)) dn ((TC fv z) a)) (pcW (sdM LC DM (nI fm)) dn ((TC fv z) a)).length) (i - ((1 + dtc (pcW (sdM LC DM (nI fm)) dn ((TC fv z) a)) (pcW (sdM LC DM (nI fm)) dn ((TC fv z) a)).length) - (cnW (dgW ((TC fv z) (a + 1))) (1 + dtc (pcW (sdM LC DM (nI fm)) dn ((TC fv z) a)) (pcW (sdM LC DM (nI fm)) dn ((TC fv z) a)).length))))) hW hL_h0 hT_h0 hL_pe hT_pe hL_g2 hT_g2 hj5 hj6 hj3 hj4 (hj7) (by first | omega | assumption | exact Or.inl rfl) (by omega) (hV) (by rw [← hV.1]; omega)) ⟨callB_of 2 hts (gi kt_1148) rfl rfl rfl (hts _ kt_669) (hts _ kt_1149) (by decide +kernel) ⟨Nat.le_of_ble_eq_true rfl, Nat.le_of_ble_eq_true rfl⟩, (hts _ kt_1150), (hts _ kt_1151)⟩ ⟨fun a U g mk q => ⟨q.1, PTm.calling q.2⟩, pg_recv hK hP hL_h0 hF_216 (q := (RX15, TX15, 59)) rfl, fun U hU hWm => ⟨rfl, PTm.mk hU hWm hP hK hD hE hO⟩⟩ rfl rfl hl.1 rfl (lv_room (Nat.le_of_ble_eq_true rfl)) dX15_macroValue_413 ⟨by show _ + 0 ≤ 0; omega, by show _ + 0 ≤ 0; omega⟩) hS (fun q _ h => hFc q h) hFc (fun u t H1 locs ht hvm hw hB hz1 hk1 hS => ?_)
                    obtain ⟨F_257, y2_258, f2_259, hB1, hq_260, hq_261, hq_262⟩ := hB
                    obtain ⟨hP, hD, hO, hR⟩ := QTm.back hB1 ht hFc hR (fun q h => by simp only [List.mem_cons, List.not_mem_nil, or_false] at h ⊢; omega)
                    have hF_263 : F_257 g1 = .inl (cs 17, 700, .inl fv) := (hB1.2.2.2 g1 (by rw [hT_g1]; simp only [List.mem_cons, List.not_mem_nil, or_false]; omega)).trans hF_215
                    have hF_264 : F_257 h0 = .inr (15, (.ref ta) :: (.int (nI zt)) :: (.int (nI zo_28)) :: (.int (nI ze)) :: (.ref ou) :: (.ref so) :: (.ref ad) :: (.ref na) :: (.ref va) :: (.ref lc) :: (.ref dm) :: (.int (nI fm)) :: (.int (nI sn)) :: (.ref tg) :: (.int v14_29) :: (.int v15_30) :: (.ref pe) :: (.int v17_31) :: (.int v18_32) :: (.int v19_33) :: (.int v20_34) :: (.int v21_35) :: (.int v22_36) :: (.ref ml) :: (.ref bg) :: (.ref co) :: (.ref sp) :: (.ref nb0) :: (.ref nb1) :: (.ref nb2) :: (.int (nI nf)) :: (.int (nI bd)) :: (.int (nI mm)) :: (.int v33_37) :: (.ref pl) :: (.ref se) :: (.ref ke) :: (.ref wi) :: (.ref hs) :: (.ref mo) :: (.ref po) :: (.ref nu) :: (.ref pr) :: (.ref sq) :: (.ref xa) :: (.ref sa) :: (.ref n64) :: (.ref m64) :: (.ref ex) :: (.ref wh) :: (.ref sd) :: (.ref tk) :: (.int v52_38) :: (.int v53_39) :: (.int v54_40) :: (.ref hd) :: (.ref ak) :: (.ref ho) :: (.ref ot) :: []) := (hB1.2.2.2 h0 (by rw [hT_h0]; simp only [List.mem_cons, List.not_mem_nil, or_false]; omega)).trans hF_216
                    have hF_265 : F_257 lc = .inr (14, [.ref r_1, .int (nI zl)]) := (hB1.2.2.2 lc (by rw [ht_59]; simp only [List.mem_cons, List.not_mem_nil, or_false]; omega)).trans hF_217
                    have hF_266 : F_257 r_1 = .inl (cs 17, 30, .inl fcl) := (hB1.2.2.2 r_1 (by rw [ht_61]; simp only [List.mem_cons, List.not_mem_nil, or_false]; omega)).trans hF_218
                    have hF_267 : F_257 dm = .inr (14, [.ref r_2, .int (nI zm)]) := (hB1.2.2.2 dm (by rw [ht_64]; simp only [List.mem_cons, List.not_mem_nil, or_false]; omega)).trans hF_219
                    have hF_268 : F_257 r_2 = .inl (cs 17, 60, .inl fcm) := (hB1.2.2.2 r_2 (by rw [ht_66]; simp only [List.mem_cons, List.not_mem_nil, or_false]; omega)).trans hF_220
                    have hF_269 : F_257 dd = .inr (14, [.ref rd, .int (nI zd)]) := (hB1.2.2.2 dd (by rw [hT_dd]; simp only [List.mem_cons, List.not_mem_nil, or_false]; omega)).trans hF_221
                    have hF_270 : F_257 rd = .inl (cs 17, nd, .inl fcd) := (hB1.2.2.2 rd (by rw [ht_56]; simp only [List.mem_cons, List.not_mem_nil, or_false]; omega)).trans hF_222
                    have hF_271 : F_257 pe = .inr (14, [.ref rp, .int (nI ze9)]) := (hB1.2.2.2 pe (by rw [hT_pe]; simp only [List.mem_cons, List.not_mem_nil, or_false]; omega)).trans hj5
                    have hF_272 : F_257 rp = .inl (cs 17, 100, .inl f9) := (hB1.2.2.2 rp (by rw [ht_48]; simp only [List.mem_cons, List.not_mem_nil, or_false]; omega)).trans hj6
                    generalize H1 = H at hP hS ⊢
                    refine lv_iinc (v := (nI (i + 1))) (lv' := [(11, .int (nI (i + 1))), (10, .int (nI ((1 + dtc (pcW (sdM LC DM (nI fm)) dn ((TC fv z) a)) (pcW (sdM LC DM (nI fm)) dn ((TC fv z) a)).length) - (cnW (dgW ((TC fv z) (a + 1))) (1 + dtc (pcW (sdM LC DM (nI fm)) dn ((TC fv z) a)) (pcW (sdM LC DM (nI fm)) dn ((TC fv z) a)).length))))), (7, .int (nI w7)), (9, .int (trW ((TC fv z) (tt - 1)))), (8, .int (nI nn)), (6, .int (nI ((TC fv z) a))), (0, .ref h0), (1, .ref g1), (2, .int (nI a)), (3, .int (nI tt)), (4, .ref dd), (5, .ref g2)]) hx hb dX15_macroValue_416 hl (k := 0) rfl (nI_1 _) (by decide) rfl (fun ls hl => ?_)
                    refine lv_goto (tgt := 372) hx hb dX15_macroValue_419 (by decide) ?_
                    refine W.widen (k := 0) (n := 0) (by omega) (by omega) ?_
                    exact ih_214 ((i + 1), y2_258, f2_259) F_257 (⟨by omega, by omega, hq_260, hq_261, hF_271, hF_272, by have h9 := hq_262; rw [show i + 1 - ((1 + dtc (pcW (sdM LC DM (nI fm)) dn ((TC fv z) a)) (pcW (sdM LC DM (nI fm)) dn ((TC fv z) a)).length) - (cnW (dgW ((TC fv z) (a + 1))) (1 + dtc (pcW (sdM LC DM (nI fm)) dn ((TC fv z) a)) (pcW (sdM LC DM (nI fm)) dn ((TC fv z) a)).length))) = i - ((1 + dtc (pcW (sdM LC DM (nI fm)) dn ((TC fv z) a)) (pcW (sdM LC DM (nI fm)) dn ((TC fv z) a)).length) - (cnW (dgW ((TC fv z) (a + 1))) (1 + dtc (pcW (sdM LC DM (nI fm)) dn ((TC fv z) a)) (pcW (sdM LC DM (nI fm)) dn ((TC fv z) a)).length))) + 1 by omega]; show TGM (U ++ (prw (pcW (sdM LC DM (nI fm)) dn ((TC fv z) a)) (trW ((TC fv z) (tt - 1))) (cnW (dgW ((TC fv z) (a + 1))) (1 + dtc (pcW (sdM LC DM (nI fm)) dn ((TC fv z) a)) (pcW (sdM LC DM (nI fm)) dn ((TC fv z) a)).length)) (1 + dtc (pcW (sdM LC DM (nI fm)) dn ((TC fv z) a)) (pcW (sdM LC DM (nI fm)) dn ((TC fv z) a)).length) (i - ((1 + dtc (pcW (sdM LC DM (nI fm)) dn ((TC fv z) a)) (pcW (sdM LC DM (nI fm)) dn ((TC fv z) a)).length) - (cnW (dgW ((TC fv z) (a + 1))) (1 + dtc (pcW (sdM LC DM (nI fm)) dn ((TC fv z) a)) (pcW (sdM LC DM (nI fm)) dn ((TC fv z) a)).length)))) ++ (if 0 < i - ((1 + dtc (pcW (sdM LC DM (nI fm)) dn ((TC fv z) a)) (pcW (sdM LC DM (nI fm)) dn ((TC fv z) a)).length) - (cnW (dgW ((TC fv z) (a + 1))) (1 + dtc (pcW (sdM LC DM (nI fm)) dn ((TC fv z) a)) (pcW (sdM LC DM (nI fm)) dn ((TC fv z) a)).length))) then [46] else []) ++ ptL (pcW (sdM LC DM (nI fm)) dn ((TC fv z) a)) (pix (trW ((TC fv z) (tt - 1))) (cnW (dgW ((TC fv z) (a + 1))) (1 + dtc (pcW (sdM LC DM (nI fm)) dn ((TC fv z) a)) (pcW (sdM LC DM (nI fm)) dn ((TC fv z) a)).length)) (1 + dtc (pcW (sdM LC DM (nI fm)) dn ((TC fv z) a)) (pcW (sdM LC DM (nI fm)) dn ((TC fv z) a)).length) (i - ((1 + dtc (pcW (sdM LC DM (nI fm)) dn ((TC fv z) a)) (pcW (sdM LC DM (nI fm)) dn ((TC fv z) a)).length) - (cnW (dgW ((TC fv z) (a + 1))) (1 + dtc (pcW (sdM LC DM (nI fm)) dn ((TC fv z) a)) (pcW (sdM LC DM (nI fm)) dn ((TC fv z) a)).length))))))) _ _; rw [if_neg (by omega), show pix (trW ((TC fv z) (tt - 1))) (cnW (dgW ((TC fv z) (a + 1))) (1 + dtc (pcW (sdM LC DM (nI fm)) dn ((TC fv z) a)) (pcW (sdM LC DM (nI fm)) dn ((TC fv z) a)).length)) (1 + dtc (pcW (sdM LC DM (nI fm)) dn ((TC fv z) a)) (pcW (sdM LC DM (nI fm)) dn ((TC fv z) a)).length) (i - ((1 + dtc (pcW (sdM LC DM (nI fm)) dn ((TC fv z) a)) (pcW (sdM LC DM (nI fm)) dn ((TC fv z) a)).length) - (cnW (dgW ((TC fv z) (a + 1))) (1 + dtc (pcW (sdM LC DM (nI fm)) dn ((TC fv z) a)) (pcW (sdM LC DM (nI fm)) dn ((TC fv z) a)).length)))) = _ from if_neg c_228, ← List.append_assoc, ← List.append_assoc]; rw [List.append_nil]; exact h9⟩) (by show w7 - (i + 1) < w7 - i; omega) hO hR _ _ hP hD hS ls (lv_sub hl [0, 1, 2, 3, 4, 5, 6, 7, 8, 9, 10, 11] rfl)
                ·
                  have hi_273 : ((1 + dtc (pcW (sdM LC DM (nI fm)) dn ((TC fv z) a)) (pcW (sdM LC DM (nI fm)) dn ((TC fv z) a)).length) - (cnW (dgW ((TC fv z) (a + 1))) (1 + dtc (pcW (sdM LC DM (nI fm)) dn ((TC fv z) a)) (pcW (sdM LC DM (nI fm)) dn ((TC fv z) a)).length))) < i := Nat.not_le.mp (fun q => c_226 ((nI_leI (a := i) (b := ((1 + dtc (pcW (sdM LC DM (nI fm)) dn ((TC fv z) a)) (pcW (sdM LC DM (nI fm)) dn ((TC fv z) a)).length) - (cnW (dgW ((TC fv z) (a + 1))) (1 + dtc (pcW (sdM LC DM (nI fm)) dn ((TC fv z) a)) (pcW (sdM LC DM (nI fm)) dn ((TC fv z) a)).length)))) (by omega) (by omega)).mpr q))
                  refine lv_aload hx hb dX15_macroValue_386 (lv_at hl 11 rfl) ?_
                  refine lv_bipush (v := 46) hx hb dX15_macroValue_388 (by decide) ?_
                  refine W.eq (g2 := F0 m 390 ls [.int (nI 46), .ref g2]) rfl ?_
                  obtain ⟨hq_274, hq_275⟩ := hW.octs hi_50 ht_51
                  have hFc := pg_free hD hS hA
                  refine va_callv (va_runS (As := [.ref g2, .int (nI 46)]) (rest := []) ⟨hx, hb, hml, hown, hts⟩ (s_X15_put_x l dC dI cs ty gm L H.size F_204 g2 κ r2 61 yy 46 fq (U ++ prw (pcW (sdM LC DM (nI fm)) dn ((TC fv z) a)) (trW ((TC fv z) (tt - 1))) (cnW (dgW ((TC fv z) (a + 1))) (1 + dtc (pcW (sdM LC DM (nI fm)) dn ((TC fv z) a)) (pcW (sdM LC DM (nI fm)) dn ((TC fv z) a)).length)) (1 + dtc (pcW (sdM LC DM (nI fm)) dn ((TC fv z) a)) (pcW (sdM LC DM (nI fm)) dn ((TC fv z) a)).length) (i - ((1 + dtc (pcW (sdM LC DM (nI fm)) dn ((TC fv z) a)) (pcW (sdM LC DM (nI fm)) dn ((TC fv z) a)).length) - (cnW (dgW ((TC fv z) (a + 1))) (1 + dtc (pcW (sdM LC DM (nI fm)) dn ((TC fv z) a)) (pcW (sdM LC DM (nI fm)) dn ((TC fv z) a)).length))))) hW hL_g2 hT_g2 hj3 hj4 (hj7) (by omega) (by omega)) ⟨callB_of 2 hts (gi kt_1145) rfl rfl rfl (hts _ kt_669) (hts _ kt_1146) (by decide +kernel) ⟨Nat.le_of_ble_eq_true rfl, Nat.le_of_ble_eq_true rfl⟩, (hts _ kt_1147)⟩ ⟨fun a U g mk q => ⟨q.1, PTm.calling q.2⟩, fun U hU hWm => ⟨rfl, PTm.mk hU hWm hP hK hD hE hO⟩⟩ rfl rfl hl.1 rfl (lv_room (Nat.le_of_ble_eq_true rfl)) dX15_macroValue_390 ⟨by show _ + 0 ≤ 0; omega, by show _ + 0 ≤ 0; omega⟩) hS (fun q _ h => hFc q h) hFc (fun u t H1 locs ht hvm hw hB hz1 hk1 hS => ?_)
                  obtain ⟨F_277, y2_278, f2_279, hB1, hq_280, hq_281, hq_282⟩ := hB
                  obtain ⟨hP, hD, hO, hR⟩ := QTm.back hB1 ht hFc hR (fun q h => by simp only [List.mem_cons, List.not_mem_nil, or_false] at h ⊢; omega)
                  have hF_283 : F_277 g1 = .inl (cs 17, 700, .inl fv) := (hB1.2.2.2 g1 (by rw [hT_g1]; simp only [List.mem_cons, List.not_mem_nil, or_false]; omega)).trans hF_215
                  have hF_284 : F_277 h0 = .inr (15, (.ref ta) :: (.int (nI zt)) :: (.int (nI zo_28)) :: (.int (nI ze)) :: (.ref ou) :: (.ref so) :: (.ref ad) :: (.ref na) :: (.ref va) :: (.ref lc) :: (.ref dm) :: (.int (nI fm)) :: (.int (nI sn)) :: (.ref tg) :: (.int v14_29) :: (.int v15_30) :: (.ref pe) :: (.int v17_31) :: (.int v18_32) :: (.int v19_33) :: (.int v20_34) :: (.int v21_35) :: (.int v22_36) :: (.ref ml) :: (.ref bg) :: (.ref co) :: (.ref sp) :: (.ref nb0) :: (.ref nb1) :: (.ref nb2) :: (.int (nI nf)) :: (.int (nI bd)) :: (.int (nI mm)) :: (.int v33_37) :: (.ref pl) :: (.ref se) :: (.ref ke) :: (.ref wi) :: (.ref hs) :: (.ref mo) :: (.ref po) :: (.ref nu) :: (.ref pr) :: (.ref sq) :: (.ref xa) :: (.ref sa) :: (.ref n64) :: (.ref m64) :: (.ref ex) :: (.ref wh) :: (.ref sd) :: (.ref tk) :: (.int v52_38) :: (.int v53_39) :: (.int v54_40) :: (.ref hd) :: (.ref ak) :: (.ref ho) :: (.ref ot) :: []) := (hB1.2.2.2 h0 (by rw [hT_h0]; simp only [List.mem_cons, List.not_mem_nil, or_false]; omega)).trans hF_216
                  have hF_285 : F_277 lc = .inr (14, [.ref r_1, .int (nI zl)]) := (hB1.2.2.2 lc (by rw [ht_59]; simp only [List.mem_cons, List.not_mem_nil, or_false]; omega)).trans hF_217
                  have hF_286 : F_277 r_1 = .inl (cs 17, 30, .inl fcl) := (hB1.2.2.2 r_1 (by rw [ht_61]; simp only [List.mem_cons, List.not_mem_nil, or_false]; omega)).trans hF_218
                  have hF_287 : F_277 dm = .inr (14, [.ref r_2, .int (nI zm)]) := (hB1.2.2.2 dm (by rw [ht_64]; simp only [List.mem_cons, List.not_mem_nil, or_false]; omega)).trans hF_219
                  have hF_288 : F_277 r_2 = .inl (cs 17, 60, .inl fcm) := (hB1.2.2.2 r_2 (by rw [ht_66]; simp only [List.mem_cons, List.not_mem_nil, or_false]; omega)).trans hF_220
                  have hF_289 : F_277 dd = .inr (14, [.ref rd, .int (nI zd)]) := (hB1.2.2.2 dd (by rw [hT_dd]; simp only [List.mem_cons, List.not_mem_nil, or_false]; omega)).trans hF_221
                  have hF_290 : F_277 rd = .inl (cs 17, nd, .inl fcd) := (hB1.2.2.2 rd (by rw [ht_56]; simp only [List.mem_cons, List.not_mem_nil, or_false]; omega)).trans hF_222
                  have hF_291 : F_277 pe = .inr (14, [.ref rp, .int (nI ze9)]) := (hB1.2.2.2 pe (by rw [hT_pe]; simp only [List.mem_cons, List.not_mem_nil, or_false]; omega)).trans hj5
                  have hF_292 : F_277 rp = .inl (cs 17, 100, .inl f9) := (hB1.2.2.2 rp (by rw [ht_48]; simp only [List.mem_cons, List.not_mem_nil, or_false]; omega)).trans hj6
                  generalize H1 = H at hP hS ⊢
                  refine lv_aload_n hx hb dX15_macroValue_393 rfl (lv_at hl 6 rfl) ?_
                  refine lv_iload hx hb dX15_macroValue_394 (lv_at hl 3 rfl) ?_
                  refine lv_if_eq (tgt := 409) hx hb dX15_macroValue_396 (by decide) (fun c_293 => ?_) (fun c_293 => ?_)
                  ·
                    refine lv_iload hx hb dX15_macroValue_409 (lv_at hl 0 rfl) ?_
                    refine lv_aload hx hb dX15_macroValue_411 (lv_at hl 11 rfl) ?_
                    refine W.eq (g2 := F0 m 413 ls [.ref g2, .int (nI ((1 + dtc (pcW (sdM LC DM (nI fm)) dn ((TC fv z) a)) (pcW (sdM LC DM (nI fm)) dn ((TC fv z) a)).length) - (cnW (dgW ((TC fv z) (a + 1))) (1 + dtc (pcW (sdM LC DM (nI fm)) dn ((TC fv z) a)) (pcW (sdM LC DM (nI fm)) dn ((TC fv z) a)).length)) + (i - ((1 + dtc (pcW (sdM LC DM (nI fm)) dn ((TC fv z) a)) (pcW (sdM LC DM (nI fm)) dn ((TC fv z) a)).length) - (cnW (dgW ((TC fv z) (a + 1))) (1 + dtc (pcW (sdM LC DM (nI fm)) dn ((TC fv z) a)) (pcW (sdM LC DM (nI fm)) dn ((TC fv z) a)).length)))))), .ref h0]) (by rw [show (1 + dtc (pcW (sdM LC DM (nI fm)) dn ((TC fv z) a)) (pcW (sdM LC DM (nI fm)) dn ((TC fv z) a)).length) - (cnW (dgW ((TC fv z) (a + 1))) (1 + dtc (pcW (sdM LC DM (nI fm)) dn ((TC fv z) a)) (pcW (sdM LC DM (nI fm)) dn ((TC fv z) a)).length)) + (i - ((1 + dtc (pcW (sdM LC DM (nI fm)) dn ((TC fv z) a)) (pcW (sdM LC DM (nI fm)) dn ((TC fv z) a)).length) - (cnW (dgW ((TC fv z) (a + 1))) (1 + dtc (pcW (sdM LC DM (nI fm)) dn ((TC fv z) a)) (pcW (sdM LC DM (nI fm)) dn ((TC fv z) a)).length)))) = i by omega]) ?_
                    obtain ⟨hq_294, hq_295⟩ := hW.octs hi_47 ht_48
                    have hFc := pg_free hD hS hA
                    refine va_callv (va_runV (As := [.int (nI ((1 + dtc (pcW (sdM LC DM (nI fm)) dn ((TC fv z) a)) (pcW (sdM LC DM (nI fm)) dn ((TC fv z) a)).length) - (cnW (dgW ((TC fv z) (a + 1))) (1 + dtc (pcW (sdM LC DM (nI fm)) dn ((TC fv z) a)) (pcW (sdM LC DM (nI fm)) dn ((TC fv z) a)).length)) + (i - ((1 + dtc (pcW (sdM LC DM (nI fm)) dn ((TC fv z) a)) (pcW (sdM LC DM (nI fm)) dn ((TC fv z) a)).length) - (cnW (dgW ((TC fv z) (a + 1))) (1 + dtc (pcW (sdM LC DM (nI fm)) dn ((TC fv z) a)) (pcW (sdM LC DM (nI fm)) dn ((TC fv z) a)).length)))))), .ref g2]) (rest := []) ⟨hx, hb, hml, hown, hts⟩ (s_X15_part_x l dC dI cs ty gm L H.size F_277 h0 ρ ta ou so ad na va lc dm tg pe ml bg co sp nb0 nb1 nb2 pl se ke wi hs mo po nu pr sq xa sa n64 m64 ex wh sd tk hd ak ho ot sx s0 s1 s2 nf bd mm fm sn hg gc gv ze zt rp g2 κ r2 ((1 + dtc (pcW (sdM LC DM (nI fm)) dn ((TC fv z) a)) (pcW (sdM LC DM (nI fm)) dn ((TC fv z) a)).length) - (cnW (dgW ((TC fv z) (a + 1))) (1 + dtc (pcW (sdM LC DM (nI fm)) dn ((TC fv z) a)) (pcW (sdM LC DM (nI fm)) dn ((TC fv z) a)).length)) + (i - ((1 + dtc (pcW (sdM LC DM (nI fm)) dn ((TC fv z) a)) (pcW (sdM LC DM (nI fm)) dn ((TC fv z) a)).length) - (cnW (dgW ((TC fv z) (a + 1))) (1 + dtc (pcW (sdM LC DM (nI fm)) dn ((TC fv z) a)) (pcW (sdM LC DM (nI fm)) dn ((TC fv z) a)).length))))) ze9 y2_278 f9 f2_279 (pcW (sdM LC DM (nI fm)) dn ((TC fv z) a)) ((U ++ prw (pcW (sdM LC DM (nI fm)) dn ((TC fv z) a)) (trW ((TC fv z) (tt - 1))) (cnW (dgW ((TC fv z) (a + 1))) (1 + dtc (pcW (sdM LC DM (nI fm)) dn ((TC fv z) a)) (pcW (sdM LC DM (nI fm)) dn ((TC fv z) a)).length)) (1 + dtc (pcW (sdM LC DM (nI fm)) dn ((TC fv z) a)) (pcW (sdM LC DM (nI fm)) dn ((TC fv z) a)).length) (i - ((1 + dtc (pcW (sdM LC DM (nI fm)) dn ((TC fv z) a)) (pcW (sdM LC DM (nI fm)) dn ((TC fv z) a)).length) - (cnW (dgW ((TC fv z) (a + 1))) (1 + dtc (pcW (sdM LC DM (nI fm)) dn ((TC fv z) a)) (pcW (sdM LC DM (nI fm)) dn ((TC fv z) a)).length))))) ++ [46]) hW hL_h0 hT_h0 hL_pe hT_pe hL_g2 hT_g2 hF_291 hF_292 hq_280 hq_281 (hq_282) (by first | omega | assumption | exact Or.inl rfl) (by omega) (hV) (by rw [← hV.1]; omega)) ⟨callB_of 2 hts (gi kt_1148) rfl rfl rfl (hts _ kt_669) (hts _ kt_1149) (by decide +kernel) ⟨Nat.le_of_ble_eq_true rfl, Nat.le_of_ble_eq_true rfl⟩, (hts _ kt_1150), (hts _ kt_1151)⟩ ⟨fun a U g mk q => ⟨q.1, PTm.calling q.2⟩, pg_recv hK hP hL_h0 hF_284 (q := (RX15, TX15, 59)) rfl, fun U hU hWm => ⟨rfl, PTm.mk hU hWm hP hK hD hE hO⟩⟩ rfl rfl hl.1 rfl (lv_room (Nat.le_of_ble_eq_true rfl)) dX15_macroValue_413 ⟨by show _ + 0 ≤ 0; omega, by show _ + 0 ≤ 0; omega⟩) hS (fun q _ h => hFc q h) hFc (fun u t H1 locs ht hvm hw hB hz1 hk1 hS => ?_)
                    obtain ⟨F_297, y2_298, f2_299, hB1, hq_300, hq_301, hq_302⟩ := hB
                    obtain ⟨hP, hD, hO, hR⟩ := QTm.back hB1 ht hFc hR (fun q h => by simp only [List.mem_cons, List.not_mem_nil, or_false] at h ⊢; omega)
                    have hF_303 : F_297 g1 = .inl (cs 17, 700, .inl fv) := (hB1.2.2.2 g1 (by rw [hT_g1]; simp only [List.mem_cons, List.not_mem_nil, or_false]; omega)).trans hF_283
                    have hF_304 : F_297 h0 = .inr (15, (.ref ta) :: (.int (nI zt)) :: (.int (nI zo_28)) :: (.int (nI ze)) :: (.ref ou) :: (.ref so) :: (.ref ad) :: (.ref na) :: (.ref va) :: (.ref lc) :: (.ref dm) :: (.int (nI fm)) :: (.int (nI sn)) :: (.ref tg) :: (.int v14_29) :: (.int v15_30) :: (.ref pe) :: (.int v17_31) :: (.int v18_32) :: (.int v19_33) :: (.int v20_34) :: (.int v21_35) :: (.int v22_36) :: (.ref ml) :: (.ref bg) :: (.ref co) :: (.ref sp) :: (.ref nb0) :: (.ref nb1) :: (.ref nb2) :: (.int (nI nf)) :: (.int (nI bd)) :: (.int (nI mm)) :: (.int v33_37) :: (.ref pl) :: (.ref se) :: (.ref ke) :: (.ref wi) :: (.ref hs) :: (.ref mo) :: (.ref po) :: (.ref nu) :: (.ref pr) :: (.ref sq) :: (.ref xa) :: (.ref sa) :: (.ref n64) :: (.ref m64) :: (.ref ex) :: (.ref wh) :: (.ref sd) :: (.ref tk) :: (.int v52_38) :: (.int v53_39) :: (.int v54_40) :: (.ref hd) :: (.ref ak) :: (.ref ho) :: (.ref ot) :: []) := (hB1.2.2.2 h0 (by rw [hT_h0]; simp only [List.mem_cons, List.not_mem_nil, or_false]; omega)).trans hF_284
                    have hF_305 : F_297 lc = .inr (14, [.ref r_1, .int (nI zl)]) := (hB1.2.2.2 lc (by rw [ht_59]; simp only [List.mem_cons, List.not_mem_nil, or_false]; omega)).trans hF_285
                    have hF_306 : F_297 r_1 = .inl (cs 17, 30, .inl fcl) := (hB1.2.2.2 r_1 (by rw [ht_61]; simp only [List.mem_cons, List.not_mem_nil, or_false]; omega)).trans hF_286
                    have hF_307 : F_297 dm = .inr (14, [.ref r_2, .int (nI zm)]) := (hB1.2.2.2 dm (by rw [ht_64]; simp only [List.mem_cons, List.not_mem_nil, or_false]; omega)).trans hF_287
                    have hF_308 : F_297 r_2 = .inl (cs 17, 60, .inl fcm) := (hB1.2.2.2 r_2 (by rw [ht_66]; simp only [List.mem_cons, List.not_mem_nil, or_false]; omega)).trans hF_288
                    have hF_309 : F_297 dd = .inr (14, [.ref rd, .int (nI zd)]) := (hB1.2.2.2 dd (by rw [hT_dd]; simp only [List.mem_cons, List.not_mem_nil, or_false]; omega)).trans hF_289
                    have hF_310 : F_297 rd = .inl (cs 17, nd, .inl fcd) := (hB1.2.2.2 rd (by rw [ht_56]; simp only [List.mem_cons, List.not_mem_nil, or_false]; omega)).trans hF_290
                    have hF_311 : F_297 pe = .inr (14, [.ref rp, .int (nI ze9)]) := (hB1.2.2.2 pe (by rw [hT_pe]; simp only [List.mem_cons, List.not_mem_nil, or_false]; omega)).trans hF_291
                    have hF_312 : F_297 rp = .inl (cs 17, 100, .inl f9) := (hB1.2.2.2 rp (by rw [ht_48]; simp only [List.mem_cons, List.not_mem_nil, or_false]; omega)).trans hF_292
                    generalize H1 = H at hP hS ⊢
                    refine lv_iinc (v := (nI (i + 1))) (lv' := [(11, .int (nI (i + 1))), (10, .int (nI ((1 + dtc (pcW (sdM LC DM (nI fm)) dn ((TC fv z) a)) (pcW (sdM LC DM (nI fm)) dn ((TC fv z) a)).length) - (cnW (dgW ((TC fv z) (a + 1))) (1 + dtc (pcW (sdM LC DM (nI fm)) dn ((TC fv z) a)) (pcW (sdM LC DM (nI fm)) dn ((TC fv z) a)).length))))), (7, .int (nI w7)), (9, .int (trW ((TC fv z) (tt - 1)))), (8, .int (nI nn)), (6, .int (nI ((TC fv z) a))), (0, .ref h0), (1, .ref g1), (2, .int (nI a)), (3, .int (nI tt)), (4, .ref dd), (5, .ref g2)]) hx hb dX15_macroValue_416 hl (k := 0) rfl (nI_1 _) (by decide) rfl (fun ls hl => ?_)
                    refine lv_goto (tgt := 372) hx hb dX15_macroValue_419 (by decide) ?_
                    refine W.widen (k := 0) (n := 0) (by omega) (by omega) ?_
                    exact ih_214 ((i + 1), y2_298, f2_299) F_297 (⟨by omega, by omega, hq_300, hq_301, hF_311, hF_312, by have h9 := hq_302; rw [show i + 1 - ((1 + dtc (pcW (sdM LC DM (nI fm)) dn ((TC fv z) a)) (pcW (sdM LC DM (nI fm)) dn ((TC fv z) a)).length) - (cnW (dgW ((TC fv z) (a + 1))) (1 + dtc (pcW (sdM LC DM (nI fm)) dn ((TC fv z) a)) (pcW (sdM LC DM (nI fm)) dn ((TC fv z) a)).length))) = i - ((1 + dtc (pcW (sdM LC DM (nI fm)) dn ((TC fv z) a)) (pcW (sdM LC DM (nI fm)) dn ((TC fv z) a)).length) - (cnW (dgW ((TC fv z) (a + 1))) (1 + dtc (pcW (sdM LC DM (nI fm)) dn ((TC fv z) a)) (pcW (sdM LC DM (nI fm)) dn ((TC fv z) a)).length))) + 1 by omega]; show TGM (U ++ (prw (pcW (sdM LC DM (nI fm)) dn ((TC fv z) a)) (trW ((TC fv z) (tt - 1))) (cnW (dgW ((TC fv z) (a + 1))) (1 + dtc (pcW (sdM LC DM (nI fm)) dn ((TC fv z) a)) (pcW (sdM LC DM (nI fm)) dn ((TC fv z) a)).length)) (1 + dtc (pcW (sdM LC DM (nI fm)) dn ((TC fv z) a)) (pcW (sdM LC DM (nI fm)) dn ((TC fv z) a)).length) (i - ((1 + dtc (pcW (sdM LC DM (nI fm)) dn ((TC fv z) a)) (pcW (sdM LC DM (nI fm)) dn ((TC fv z) a)).length) - (cnW (dgW ((TC fv z) (a + 1))) (1 + dtc (pcW (sdM LC DM (nI fm)) dn ((TC fv z) a)) (pcW (sdM LC DM (nI fm)) dn ((TC fv z) a)).length)))) ++ (if 0 < i - ((1 + dtc (pcW (sdM LC DM (nI fm)) dn ((TC fv z) a)) (pcW (sdM LC DM (nI fm)) dn ((TC fv z) a)).length) - (cnW (dgW ((TC fv z) (a + 1))) (1 + dtc (pcW (sdM LC DM (nI fm)) dn ((TC fv z) a)) (pcW (sdM LC DM (nI fm)) dn ((TC fv z) a)).length))) then [46] else []) ++ ptL (pcW (sdM LC DM (nI fm)) dn ((TC fv z) a)) (pix (trW ((TC fv z) (tt - 1))) (cnW (dgW ((TC fv z) (a + 1))) (1 + dtc (pcW (sdM LC DM (nI fm)) dn ((TC fv z) a)) (pcW (sdM LC DM (nI fm)) dn ((TC fv z) a)).length)) (1 + dtc (pcW (sdM LC DM (nI fm)) dn ((TC fv z) a)) (pcW (sdM LC DM (nI fm)) dn ((TC fv z) a)).length) (i - ((1 + dtc (pcW (sdM LC DM (nI fm)) dn ((TC fv z) a)) (pcW (sdM LC DM (nI fm)) dn ((TC fv z) a)).length) - (cnW (dgW ((TC fv z) (a + 1))) (1 + dtc (pcW (sdM LC DM (nI fm)) dn ((TC fv z) a)) (pcW (sdM LC DM (nI fm)) dn ((TC fv z) a)).length))))))) _ _; rw [if_pos (by omega), show pix (trW ((TC fv z) (tt - 1))) (cnW (dgW ((TC fv z) (a + 1))) (1 + dtc (pcW (sdM LC DM (nI fm)) dn ((TC fv z) a)) (pcW (sdM LC DM (nI fm)) dn ((TC fv z) a)).length)) (1 + dtc (pcW (sdM LC DM (nI fm)) dn ((TC fv z) a)) (pcW (sdM LC DM (nI fm)) dn ((TC fv z) a)).length) (i - ((1 + dtc (pcW (sdM LC DM (nI fm)) dn ((TC fv z) a)) (pcW (sdM LC DM (nI fm)) dn ((TC fv z) a)).length) - (cnW (dgW ((TC fv z) (a + 1))) (1 + dtc (pcW (sdM LC DM (nI fm)) dn ((TC fv z) a)) (pcW (sdM LC DM (nI fm)) dn ((TC fv z) a)).length)))) = _ from if_pos c_293, ← List.append_assoc, ← List.append_assoc]; exact h9⟩) (by show w7 - (i + 1) < w7 - i; omega) hO hR _ _ hP hD hS ls (lv_sub hl [0, 1, 2, 3, 4, 5, 6, 7, 8, 9, 10, 11] rfl)
                  ·
                    refine lv_iload hx hb dX15_macroValue_399 (lv_at hl 2 rfl) ?_
                    refine lv_iconst (v := 1) hx hb dX15_macroValue_401 (by decide) ?_
                    refine lv_isub hx hb dX15_macroValue_402 ?_
                    refine lv_topi (fun x_313 ex_313 => ?_)
                    obtain rfl : x_313 = (nI (w7 - 1)) := ex_313.trans (pk_sub (a := w7) (b := 1) (by omega))
                    refine lv_iload hx hb dX15_macroValue_403 (lv_at hl 0 rfl) ?_
                    refine lv_isub hx hb dX15_macroValue_405 ?_
                    refine lv_topi (fun x_314 ex_314 => ?_)
                    obtain rfl : x_314 = (nI ((cnW (dgW ((TC fv z) (a + 1))) (1 + dtc (pcW (sdM LC DM (nI fm)) dn ((TC fv z) a)) (pcW (sdM LC DM (nI fm)) dn ((TC fv z) a)).length)) - 1 - (i - ((1 + dtc (pcW (sdM LC DM (nI fm)) dn ((TC fv z) a)) (pcW (sdM LC DM (nI fm)) dn ((TC fv z) a)).length) - (cnW (dgW ((TC fv z) (a + 1))) (1 + dtc (pcW (sdM LC DM (nI fm)) dn ((TC fv z) a)) (pcW (sdM LC DM (nI fm)) dn ((TC fv z) a)).length)))))) := ex_314.trans ((pk_sub (a := w7 - 1) (b := i) (by omega)).trans (congrArg nI (by omega)))
                    refine lv_goto (tgt := 411) hx hb dX15_macroValue_406 (by decide) ?_
                    refine lv_aload hx hb dX15_macroValue_411 (lv_at hl 11 rfl) ?_
                    obtain ⟨hq_315, hq_316⟩ := hW.octs hi_47 ht_48
                    have hFc := pg_free hD hS hA
                    refine va_callv (va_runV (As := [.int (nI ((cnW (dgW ((TC fv z) (a + 1))) (1 + dtc (pcW (sdM LC DM (nI fm)) dn ((TC fv z) a)) (pcW (sdM LC DM (nI fm)) dn ((TC fv z) a)).length)) - 1 - (i - ((1 + dtc (pcW (sdM LC DM (nI fm)) dn ((TC fv z) a)) (pcW (sdM LC DM (nI fm)) dn ((TC fv z) a)).length) - (cnW (dgW ((TC fv z) (a + 1))) (1 + dtc (pcW (sdM LC DM (nI fm)) dn ((TC fv z) a)) (pcW (sdM LC DM (nI fm)) dn ((TC fv z) a)).length)))))), .ref g2]) (rest := []) ⟨hx, hb, hml, hown, hts⟩ (s_X15_part_x l dC dI cs ty gm L H.size F_277 h0 ρ ta ou so ad na va lc dm tg pe ml bg co sp nb0 nb1 nb2 pl se ke wi hs mo po nu pr sq xa sa n64 m64 ex wh sd tk hd ak ho ot sx s0 s1 s2 nf bd mm fm sn hg gc gv ze zt rp g2 κ r2 ((cnW (dgW ((TC fv z) (a + 1))) (1 + dtc (pcW (sdM LC DM (nI fm)) dn ((TC fv z) a)) (pcW (sdM LC DM (nI fm)) dn ((TC fv z) a)).length)) - 1 - (i - ((1 + dtc (pcW (sdM LC DM (nI fm)) dn ((TC fv z) a)) (pcW (sdM LC DM (nI fm)) dn ((TC fv z) a)).length) - (cnW (dgW ((TC fv z) (a + 1))) (1 + dtc (pcW (sdM LC DM (nI fm)) dn ((TC fv z) a)) (pcW (sdM LC DM (nI fm)) dn ((TC fv z) a)).length))))) ze9 y2_278 f9 f2_279 (pcW (sdM LC DM (nI fm)) dn ((TC fv z) a)) ((U ++ prw (pcW (sdM LC DM (nI fm)) dn ((TC fv z) a)) (trW ((TC fv z) (tt - 1))) (cnW (dgW ((TC fv z) (a + 1))) (1 + dtc (pcW (sdM LC DM (nI fm)) dn ((TC fv z) a)) (pcW (sdM LC DM (nI fm)) dn ((TC fv z) a)).length)) (1 + dtc (pcW (sdM LC DM (nI fm)) dn ((TC fv z) a)) (pcW (sdM LC DM (nI fm)) dn ((TC fv z) a)).length) (i - ((1 + dtc (pcW (sdM LC DM (nI fm)) dn ((TC fv z) a)) (pcW (sdM LC DM (nI fm)) dn ((TC fv z) a)).length) - (cnW (dgW ((TC fv z) (a + 1))) (1 + dtc (pcW (sdM LC DM (nI fm)) dn ((TC fv z) a)) (pcW (sdM LC DM (nI fm)) dn ((TC fv z) a)).length))))) ++ [46]) hW hL_h0 hT_h0 hL_pe hT_pe hL_g2 hT_g2 hF_291 hF_292 hq_280 hq_281 (hq_282) (by first | omega | assumption | exact Or.inl rfl) (by omega) (hV) (by rw [← hV.1]; omega)) ⟨callB_of 2 hts (gi kt_1148) rfl rfl rfl (hts _ kt_669) (hts _ kt_1149) (by decide +kernel) ⟨Nat.le_of_ble_eq_true rfl, Nat.le_of_ble_eq_true rfl⟩, (hts _ kt_1150), (hts _ kt_1151)⟩ ⟨fun a U g mk q => ⟨q.1, PTm.calling q.2⟩, pg_recv hK hP hL_h0 hF_284 (q := (RX15, TX15, 59)) rfl, fun U hU hWm => ⟨rfl, PTm.mk hU hWm hP hK hD hE hO⟩⟩ rfl rfl hl.1 rfl (lv_room (Nat.le_of_ble_eq_true rfl)) dX15_macroValue_413 ⟨by show _ + 0 ≤ 0; omega, by show _ + 0 ≤ 0; omega⟩) hS (fun q _ h => hFc q h) hFc (fun u t H1 locs ht hvm hw hB hz1 hk1 hS => ?_)
                    obtain ⟨F_318, y2_319, f2_320, hB1, hq_321, hq_322, hq_323⟩ := hB
                    obtain ⟨hP, hD, hO, hR⟩ := QTm.back hB1 ht hFc hR (fun q h => by simp only [List.mem_cons, List.not_mem_nil, or_false] at h ⊢; omega)
                    have hF_324 : F_318 g1 = .inl (cs 17, 700, .inl fv) := (hB1.2.2.2 g1 (by rw [hT_g1]; simp only [List.mem_cons, List.not_mem_nil, or_false]; omega)).trans hF_283
                    have hF_325 : F_318 h0 = .inr (15, (.ref ta) :: (.int (nI zt)) :: (.int (nI zo_28)) :: (.int (nI ze)) :: (.ref ou) :: (.ref so) :: (.ref ad) :: (.ref na) :: (.ref va) :: (.ref lc) :: (.ref dm) :: (.int (nI fm)) :: (.int (nI sn)) :: (.ref tg) :: (.int v14_29) :: (.int v15_30) :: (.ref pe) :: (.int v17_31) :: (.int v18_32) :: (.int v19_33) :: (.int v20_34) :: (.int v21_35) :: (.int v22_36) :: (.ref ml) :: (.ref bg) :: (.ref co) :: (.ref sp) :: (.ref nb0) :: (.ref nb1) :: (.ref nb2) :: (.int (nI nf)) :: (.int (nI bd)) :: (.int (nI mm)) :: (.int v33_37) :: (.ref pl) :: (.ref se) :: (.ref ke) :: (.ref wi) :: (.ref hs) :: (.ref mo) :: (.ref po) :: (.ref nu) :: (.ref pr) :: (.ref sq) :: (.ref xa) :: (.ref sa) :: (.ref n64) :: (.ref m64) :: (.ref ex) :: (.ref wh) :: (.ref sd) :: (.ref tk) :: (.int v52_38) :: (.int v53_39) :: (.int v54_40) :: (.ref hd) :: (.ref ak) :: (.ref ho) :: (.ref ot) :: []) := (hB1.2.2.2 h0 (by rw [hT_h0]; simp only [List.mem_cons, List.not_mem_nil, or_false]; omega)).trans hF_284
                    have hF_326 : F_318 lc = .inr (14, [.ref r_1, .int (nI zl)]) := (hB1.2.2.2 lc (by rw [ht_59]; simp only [List.mem_cons, List.not_mem_nil, or_false]; omega)).trans hF_285
                    have hF_327 : F_318 r_1 = .inl (cs 17, 30, .inl fcl) := (hB1.2.2.2 r_1 (by rw [ht_61]; simp only [List.mem_cons, List.not_mem_nil, or_false]; omega)).trans hF_286
                    have hF_328 : F_318 dm = .inr (14, [.ref r_2, .int (nI zm)]) := (hB1.2.2.2 dm (by rw [ht_64]; simp only [List.mem_cons, List.not_mem_nil, or_false]; omega)).trans hF_287
                    have hF_329 : F_318 r_2 = .inl (cs 17, 60, .inl fcm) := (hB1.2.2.2 r_2 (by rw [ht_66]; simp only [List.mem_cons, List.not_mem_nil, or_false]; omega)).trans hF_288
                    have hF_330 : F_318 dd = .inr (14, [.ref rd, .int (nI zd)]) := (hB1.2.2.2 dd (by rw [hT_dd]; simp only [List.mem_cons, List.not_mem_nil, or_false]; omega)).trans hF_289
                    have hF_331 : F_318 rd = .inl (cs 17, nd, .inl fcd) := (hB1.2.2.2 rd (by rw [ht_56]; simp only [List.mem_cons, List.not_mem_nil, or_false]; omega)).trans hF_290
                    have hF_332 : F_318 pe = .inr (14, [.ref rp, .int (nI ze9)]) := (hB1.2.2.2 pe (by rw [hT_pe]; simp only [List.mem_cons, List.not_mem_nil, or_false]; omega)).trans hF_291
                    have hF_333 : F_318 rp = .inl (cs 17, 100, .inl f9) := (hB1.2.2.2 rp (by rw [ht_48]; simp only [List.mem_cons, List.not_mem_nil, or_false]; omega)).trans hF_292
                    generalize H1 = H at hP hS ⊢
                    refine lv_iinc (v := (nI (i + 1))) (lv' := [(11, .int (nI (i + 1))), (10, .int (nI ((1 + dtc (pcW (sdM LC DM (nI fm)) dn ((TC fv z) a)) (pcW (sdM LC DM (nI fm)) dn ((TC fv z) a)).length) - (cnW (dgW ((TC fv z) (a + 1))) (1 + dtc (pcW (sdM LC DM (nI fm)) dn ((TC fv z) a)) (pcW (sdM LC DM (nI fm)) dn ((TC fv z) a)).length))))), (7, .int (nI w7)), (9, .int (trW ((TC fv z) (tt - 1)))), (8, .int (nI nn)), (6, .int (nI ((TC fv z) a))), (0, .ref h0), (1, .ref g1), (2, .int (nI a)), (3, .int (nI tt)), (4, .ref dd), (5, .ref g2)]) hx hb dX15_macroValue_416 hl (k := 0) rfl (nI_1 _) (by decide) rfl (fun ls hl => ?_)
                    refine lv_goto (tgt := 372) hx hb dX15_macroValue_419 (by decide) ?_
                    refine W.widen (k := 0) (n := 0) (by omega) (by omega) ?_
                    exact ih_214 ((i + 1), y2_319, f2_320) F_318 (⟨by omega, by omega, hq_321, hq_322, hF_332, hF_333, by have h9 := hq_323; rw [show i + 1 - ((1 + dtc (pcW (sdM LC DM (nI fm)) dn ((TC fv z) a)) (pcW (sdM LC DM (nI fm)) dn ((TC fv z) a)).length) - (cnW (dgW ((TC fv z) (a + 1))) (1 + dtc (pcW (sdM LC DM (nI fm)) dn ((TC fv z) a)) (pcW (sdM LC DM (nI fm)) dn ((TC fv z) a)).length))) = i - ((1 + dtc (pcW (sdM LC DM (nI fm)) dn ((TC fv z) a)) (pcW (sdM LC DM (nI fm)) dn ((TC fv z) a)).length) - (cnW (dgW ((TC fv z) (a + 1))) (1 + dtc (pcW (sdM LC DM (nI fm)) dn ((TC fv z) a)) (pcW (sdM LC DM (nI fm)) dn ((TC fv z) a)).length))) + 1 by omega]; show TGM (U ++ (prw (pcW (sdM LC DM (nI fm)) dn ((TC fv z) a)) (trW ((TC fv z) (tt - 1))) (cnW (dgW ((TC fv z) (a + 1))) (1 + dtc (pcW (sdM LC DM (nI fm)) dn ((TC fv z) a)) (pcW (sdM LC DM (nI fm)) dn ((TC fv z) a)).length)) (1 + dtc (pcW (sdM LC DM (nI fm)) dn ((TC fv z) a)) (pcW (sdM LC DM (nI fm)) dn ((TC fv z) a)).length) (i - ((1 + dtc (pcW (sdM LC DM (nI fm)) dn ((TC fv z) a)) (pcW (sdM LC DM (nI fm)) dn ((TC fv z) a)).length) - (cnW (dgW ((TC fv z) (a + 1))) (1 + dtc (pcW (sdM LC DM (nI fm)) dn ((TC fv z) a)) (pcW (sdM LC DM (nI fm)) dn ((TC fv z) a)).length)))) ++ (if 0 < i - ((1 + dtc (pcW (sdM LC DM (nI fm)) dn ((TC fv z) a)) (pcW (sdM LC DM (nI fm)) dn ((TC fv z) a)).length) - (cnW (dgW ((TC fv z) (a + 1))) (1 + dtc (pcW (sdM LC DM (nI fm)) dn ((TC fv z) a)) (pcW (sdM LC DM (nI fm)) dn ((TC fv z) a)).length))) then [46] else []) ++ ptL (pcW (sdM LC DM (nI fm)) dn ((TC fv z) a)) (pix (trW ((TC fv z) (tt - 1))) (cnW (dgW ((TC fv z) (a + 1))) (1 + dtc (pcW (sdM LC DM (nI fm)) dn ((TC fv z) a)) (pcW (sdM LC DM (nI fm)) dn ((TC fv z) a)).length)) (1 + dtc (pcW (sdM LC DM (nI fm)) dn ((TC fv z) a)) (pcW (sdM LC DM (nI fm)) dn ((TC fv z) a)).length) (i - ((1 + dtc (pcW (sdM LC DM (nI fm)) dn ((TC fv z) a)) (pcW (sdM LC DM (nI fm)) dn ((TC fv z) a)).length) - (cnW (dgW ((TC fv z) (a + 1))) (1 + dtc (pcW (sdM LC DM (nI fm)) dn ((TC fv z) a)) (pcW (sdM LC DM (nI fm)) dn ((TC fv z) a)).length))))))) _ _; rw [if_pos (by omega), show pix (trW ((TC fv z) (tt - 1))) (cnW (dgW ((TC fv z) (a + 1))) (1 + dtc (pcW (sdM LC DM (nI fm)) dn ((TC fv z) a)) (pcW (sdM LC DM (nI fm)) dn ((TC fv z) a)).length)) (1 + dtc (pcW (sdM LC DM (nI fm)) dn ((TC fv z) a)) (pcW (sdM LC DM (nI fm)) dn ((TC fv z) a)).length) (i - ((1 + dtc (pcW (sdM LC DM (nI fm)) dn ((TC fv z) a)) (pcW (sdM LC DM (nI fm)) dn ((TC fv z) a)).length) - (cnW (dgW ((TC fv z) (a + 1))) (1 + dtc (pcW (sdM LC DM (nI fm)) dn ((TC fv z) a)) (pcW (sdM LC DM (nI fm)) dn ((TC fv z) a)).length)))) = _ from if_neg c_293, ← List.append_assoc, ← List.append_assoc]; exact h9⟩) (by show w7 - (i + 1) < w7 - i; omega) hO hR _ _ hP hD hS ls (lv_sub hl [0, 1, 2, 3, 4, 5, 6, 7, 8, 9, 10, 11] rfl)
            ·
              refine lv_iload hx hb dX15_macroValue_345 (lv_at hl 3 rfl) ?_
              refine lv_if_eq (tgt := 357) hx hb dX15_macroValue_347 (by decide) (fun c_334 => ?_) (fun c_334 => ?_)
              ·
                have hi_335 : nn = 0 := (nI_eq (a := nn) (b := 0) (by omega) (by omega)).mp c_334
                refine lv_iconst (v := 0) hx hb dX15_macroValue_357 (by decide) ?_
                refine lv_goto (tgt := 366) hx hb dX15_macroValue_358 (by decide) ?_
                refine W.widen (k := 0) (n := 0) (by omega) (by omega) ?_
                exact jn_185 0 F_164 (⟨congrArg nI (fst_y (Or.inl (by rw [← hnn]; exact (nI_eq (b := 0) (by omega) (by omega)).mp c_334))), hc3, hc4, hc5, hc6⟩) hO hR _ _ hP hD hS ls (lv_sub hl [1, 2, 3, 4, 5, 6, 7, 8, 9, 10] rfl)
              ·
                have hi_336 : nn ≠ 0 := fun q => c_334 (by rw [q]; rfl)
                refine lv_iload hx hb dX15_macroValue_350 (lv_at hl 3 rfl) ?_
                refine lv_iload hx hb dX15_macroValue_352 (lv_at hl 1 rfl) ?_
                refine lv_icmp_lt (tgt := 361) hx hb dX15_macroValue_354 (by decide) (fun c_337 => ?_) (fun c_337 => ?_)
                ·
                  have hi_338 : nn < w7 := ltN (N := w7) (Int32.not_le.mpr c_337)
                  refine lv_iload hx hb dX15_macroValue_361 (lv_at hl 1 rfl) ?_
                  refine lv_iload hx hb dX15_macroValue_363 (lv_at hl 3 rfl) ?_
                  refine lv_isub hx hb dX15_macroValue_365 ?_
                  refine lv_topi (fun x_339 ex_339 => ?_)
                  obtain rfl : x_339 = (nI (w7 - nn)) := ex_339.trans (pk_sub (a := w7) (b := nn) (by omega))
                  refine W.widen (k := 0) (n := 0) (by omega) (by omega) ?_
                  exact jn_185 (nI (w7 - nn)) F_164 (⟨(show nI (w7 - nn) = nI ((1 + dtc (pcW (sdM LC DM (nI fm)) dn ((TC fv z) a)) (pcW (sdM LC DM (nI fm)) dn ((TC fv z) a)).length) - (cnW (dgW ((TC fv z) (a + 1))) (1 + dtc (pcW (sdM LC DM (nI fm)) dn ((TC fv z) a)) (pcW (sdM LC DM (nI fm)) dn ((TC fv z) a)).length))) from congrArg nI (by rw [hw7, hnn]; exact fst_n (by rw [← hnn]; exact fun q => c_334 (by rw [q]; rfl)) (by rw [← hnn, ← hw7]; omega))), hc3, hc4, hc5, hc6⟩) hO hR _ _ hP hD hS ls (lv_sub hl [1, 2, 3, 4, 5, 6, 7, 8, 9, 10] rfl)
                ·
                  have hi_340 : w7 ≤ nn := leN (N := w7) (Int32.not_lt.mp c_337)
                  refine lv_iconst (v := 0) hx hb dX15_macroValue_357 (by decide) ?_
                  refine lv_goto (tgt := 366) hx hb dX15_macroValue_358 (by decide) ?_
                  refine W.widen (k := 0) (n := 0) (by omega) (by omega) ?_
                  exact jn_185 0 F_164 (⟨congrArg nI (fst_y (Or.inr (by rw [← hnn, ← hw7]; omega))), hc3, hc4, hc5, hc6⟩) hO hR _ _ hP hD hS ls (lv_sub hl [1, 2, 3, 4, 5, 6, 7, 8, 9, 10] rfl)
          ·
            have hi_341 : j < ze9 := ltN (N := ze9) c_183
            refine lv_aload_n hx hb dX15_macroValue_321 rfl (lv_at hl 5 rfl) ?_
            refine pg_get (ci := 15) (v := .ref pe) (C := RX15) (T := TX15) (N := 59) hx hb hts it_15 hown hK hP hL_h0 hF_176 rfl 16 (by decide) (hts _ kt_1132) (fun _ h9 => h9) rfl dX15_macroValue_322 ?_
            refine pg_get (ci := 14) (v := .ref rp) (C := RX14) (T := TX14) (N := 2) hx hb hts it_14 hown hK hP hL_pe hc5 rfl 0 (by decide) (hts _ kt_710) (fun _ h9 => h9) rfl dX15_macroValue_325 ?_
            refine lv_iload hx hb dX15_macroValue_328 (lv_at hl 0 rfl) ?_
            obtain ⟨hq_342, hq_343⟩ := hW.octs hi_47 ht_48
            refine pg_bald hx hb hK hP hi_47 1 hc6 rfl (vp_in_nI (by omega) (by omega)) dX15_macroValue_330 ?_
            refine lv_topi (fun x_344 ex_344 => ?_)
            obtain rfl : x_344 = (nI ((pcW (sdM LC DM (nI fm)) dn ((TC fv z) a)).getD j 0)) := ex_344.trans ((congrArg f9 (nI_clamp (by omega))).trans (hV.2.1 j (by omega)))
            have hcd := hV.2.2 j (by omega)
            refine lv_bipush (v := 46) hx hb dX15_macroValue_331 (by decide) ?_
            refine lv_icmp_ne (tgt := 339) hx hb dX15_macroValue_333 (by decide) (fun c_345 => ?_) (fun c_345 => ?_)
            ·
              have hi_346 : ((pcW (sdM LC DM (nI fm)) dn ((TC fv z) a)).getD j 0) ≠ 46 := fun q => c_345 (by rw [q]; rfl)
              have hdt : ¬ (pcW (sdM LC DM (nI fm)) dn ((TC fv z) a)).getD j 0 = 46 := fun q => c_345 (by rw [q]; rfl)
              refine lv_iinc (v := (nI (j + 1))) (lv' := [(10, .int (nI (j + 1))), (7, .int (nI w7)), (9, .int (trW ((TC fv z) (tt - 1)))), (8, .int (nI nn)), (6, .int (nI ((TC fv z) a))), (0, .ref h0), (1, .ref g1), (2, .int (nI a)), (3, .int (nI tt)), (4, .ref dd), (5, .ref g2)]) hx hb dX15_macroValue_339 hl (k := 0) rfl (nI_1 _) (by decide) rfl (fun ls hl => ?_)
              refine lv_goto (tgt := 309) hx hb dX15_macroValue_342 (by decide) ?_
              refine W.widen (k := 0) (n := 0) (by omega) (by omega) ?_
              exact ih_174 ((j + 1), w7) F_164 (⟨by show _ = 1 + (dtc (pcW (sdM LC DM (nI fm)) dn ((TC fv z) a)) j + (if (pcW (sdM LC DM (nI fm)) dn ((TC fv z) a)).getD j 0 = 46 then 1 else 0)); rw [if_neg hdt]; omega, by omega, hc3, hc4, hc5, hc6⟩) (by show ze9 - (j + 1) < ze9 - j; omega) hO hR _ _ hP hD hS ls (lv_sub hl [0, 1, 2, 3, 4, 5, 6, 7, 8, 9, 10] rfl)
            ·
              have hi_347 : ((pcW (sdM LC DM (nI fm)) dn ((TC fv z) a)).getD j 0) = 46 := (nI_eq (a := ((pcW (sdM LC DM (nI fm)) dn ((TC fv z) a)).getD j 0)) (b := 46) (by omega) (by omega)).mp c_345
              have hdt : (pcW (sdM LC DM (nI fm)) dn ((TC fv z) a)).getD j 0 = 46 := (nI_eq (b := 46) (by omega) (by omega)).mp c_345
              refine lv_iinc (v := (nI (w7 + 1))) (lv' := [(7, .int (nI (w7 + 1))), (10, .int (nI j)), (9, .int (trW ((TC fv z) (tt - 1)))), (8, .int (nI nn)), (6, .int (nI ((TC fv z) a))), (0, .ref h0), (1, .ref g1), (2, .int (nI a)), (3, .int (nI tt)), (4, .ref dd), (5, .ref g2)]) hx hb dX15_macroValue_336 hl (k := 1) rfl (nI_1 _) (by decide) rfl (fun ls hl => ?_)
              refine lv_iinc (v := (nI (j + 1))) (lv' := [(10, .int (nI (j + 1))), (7, .int (nI (w7 + 1))), (9, .int (trW ((TC fv z) (tt - 1)))), (8, .int (nI nn)), (6, .int (nI ((TC fv z) a))), (0, .ref h0), (1, .ref g1), (2, .int (nI a)), (3, .int (nI tt)), (4, .ref dd), (5, .ref g2)]) hx hb dX15_macroValue_339 hl (k := 1) rfl (nI_1 _) (by decide) rfl (fun ls hl => ?_)
              refine lv_goto (tgt := 309) hx hb dX15_macroValue_342 (by decide) ?_
              refine W.widen (k := 0) (n := 0) (by omega) (by omega) ?_
              exact ih_174 ((j + 1), (w7 + 1)) F_164 (⟨by show _ = 1 + (dtc (pcW (sdM LC DM (nI fm)) dn ((TC fv z) a)) j + (if (pcW (sdM LC DM (nI fm)) dn ((TC fv z) a)).getD j 0 = 46 then 1 else 0)); rw [if_pos hdt]; omega, by omega, hc3, hc4, hc5, hc6⟩) (by show ze9 - (j + 1) < ze9 - j; omega) hO hR _ _ hP hD hS ls (lv_sub hl [0, 1, 2, 3, 4, 5, 6, 7, 8, 9, 10] rfl)
        ·
          refine lv_bipush (v := 24) hx hb dX15_macroValue_192 (by decide) ?_
          refine W.eq (g2 := F0 m 194 ls [.int (sv 0)]) rfl ?_
          refine lv_istore (lv' := [(10, .int (sv 0)), (9, .int (trW ((TC fv z) (tt - 1)))), (8, .int (nI nn)), (7, .int 0), (6, .int (nI ((TC fv z) a))), (0, .ref h0), (1, .ref g1), (2, .int (nI a)), (3, .int (nI tt)), (4, .ref dd), (5, .ref g2)]) hx hb dX15_macroValue_194 hl (by decide) rfl (fun ls hl => ?_)
          obtain ⟨hq_348, hq_349⟩ := hW.octs hi_47 ht_48
          refine W.widen (k := 0) (n := 0) (by omega) (by omega) ?_
          have hF_351 : F g1 = .inl (cs 17, 700, .inl fv) := (hR g1 (by rw [hT_g1]; simp only [List.mem_cons, List.not_mem_nil, or_false]; omega)).symm.trans hF_137
          have hF_352 : F h0 = .inr (15, (.ref ta) :: (.int (nI zt)) :: (.int (nI zo_28)) :: (.int (nI ze)) :: (.ref ou) :: (.ref so) :: (.ref ad) :: (.ref na) :: (.ref va) :: (.ref lc) :: (.ref dm) :: (.int (nI fm)) :: (.int (nI sn)) :: (.ref tg) :: (.int v14_29) :: (.int v15_30) :: (.ref pe) :: (.int v17_31) :: (.int v18_32) :: (.int v19_33) :: (.int v20_34) :: (.int v21_35) :: (.int v22_36) :: (.ref ml) :: (.ref bg) :: (.ref co) :: (.ref sp) :: (.ref nb0) :: (.ref nb1) :: (.ref nb2) :: (.int (nI nf)) :: (.int (nI bd)) :: (.int (nI mm)) :: (.int v33_37) :: (.ref pl) :: (.ref se) :: (.ref ke) :: (.ref wi) :: (.ref hs) :: (.ref mo) :: (.ref po) :: (.ref nu) :: (.ref pr) :: (.ref sq) :: (.ref xa) :: (.ref sa) :: (.ref n64) :: (.ref m64) :: (.ref ex) :: (.ref wh) :: (.ref sd) :: (.ref tk) :: (.int v52_38) :: (.int v53_39) :: (.int v54_40) :: (.ref hd) :: (.ref ak) :: (.ref ho) :: (.ref ot) :: []) := (hR h0 (by rw [hT_h0]; simp only [List.mem_cons, List.not_mem_nil, or_false]; omega)).symm.trans hF_138
          have hF_353 : F lc = .inr (14, [.ref r_1, .int (nI zl)]) := (hR lc (by rw [ht_59]; simp only [List.mem_cons, List.not_mem_nil, or_false]; omega)).symm.trans hF_139
          have hF_354 : F r_1 = .inl (cs 17, 30, .inl fcl) := (hR r_1 (by rw [ht_61]; simp only [List.mem_cons, List.not_mem_nil, or_false]; omega)).symm.trans hF_140
          have hF_355 : F dm = .inr (14, [.ref r_2, .int (nI zm)]) := (hR dm (by rw [ht_64]; simp only [List.mem_cons, List.not_mem_nil, or_false]; omega)).symm.trans hF_141
          have hF_356 : F r_2 = .inl (cs 17, 60, .inl fcm) := (hR r_2 (by rw [ht_66]; simp only [List.mem_cons, List.not_mem_nil, or_false]; omega)).symm.trans hF_142
          have hF_357 : F dd = .inr (14, [.ref rd, .int (nI zd)]) := (hR dd (by rw [hT_dd]; simp only [List.mem_cons, List.not_mem_nil, or_false]; omega)).symm.trans hF_143
          have hF_358 : F rd = .inl (cs 17, nd, .inl fcd) := (hR rd (by rw [ht_56]; simp only [List.mem_cons, List.not_mem_nil, or_false]; omega)).symm.trans hF_144
          refine pl_loopm (σ := Nat × Nat × (Nat → Int32) × (List Nat)) A (dC, dI) cs ty gm L [κ, ρ + 7] F 196 12 (fun (mq, zz2, fz2, W2) => [(10, .int (sv mq)), (9, .int (trW ((TC fv z) (tt - 1)))), (8, .int (nI nn)), (7, .int 0), (6, .int (nI ((TC fv z) a))), (0, .ref h0), (1, .ref g1), (2, .int (nI a)), (3, .int (nI tt)), (4, .ref dd), (5, .ref g2)]) (fun (mq, zz2, fz2, W2) => []) (fun (mq, zz2, fz2, W2) FF => mq ≤ 4 ∧ (FF g2 = .inr (14, [.ref r2, .int (nI y)]) ∧ FF r2 = .inl (cs 17, 61, .inl fi) ∧ FF pe = .inr (14, [.ref rp, .int (nI zz2)]) ∧ FF rp = .inl (cs 17, 100, .inl fz2) ∧ SRC W2 zz2 fz2) ∧ ((((TC fv z) a) = 105 ∧ W2 = qdP (nI fm) mq) ∨ (¬ ((TC fv z) a) = 105 ∧ W2 = (pcW (sdM LC DM (nI fm)) dn ((TC fv z) a))))) (fun (mq, zz2, fz2, W2) => 4 - mq) ?_ (0, zz, fz, Wg) F_127 (⟨by omega, ⟨hc1, hc2, hc3, hc4, hc5⟩, hc6⟩) hO hR _ _ hP hD hS ls (lv_sub hl [0, 1, 2, 3, 4, 5, 6, 7, 8, 9, 10] rfl)
          rintro ⟨mq, zz2, fz2, W2⟩ F_350 hv_359 hO hR ih_360 H locs hP hD hS ls hl
          have hl : lv_has ls 12 [(10, .int (sv mq)), (9, .int (trW ((TC fv z) (tt - 1)))), (8, .int (nI nn)), (7, .int 0), (6, .int (nI ((TC fv z) a))), (0, .ref h0), (1, .ref g1), (2, .int (nI a)), (3, .int (nI tt)), (4, .ref dd), (5, .ref g2)] := hl
          have hv_359 : mq ≤ 4 ∧ (F_350 g2 = .inr (14, [.ref r2, .int (nI y)]) ∧ F_350 r2 = .inl (cs 17, 61, .inl fi) ∧ F_350 pe = .inr (14, [.ref rp, .int (nI zz2)]) ∧ F_350 rp = .inl (cs 17, 100, .inl fz2) ∧ SRC W2 zz2 fz2) ∧ ((((TC fv z) a) = 105 ∧ W2 = qdP (nI fm) mq) ∨ (¬ ((TC fv z) a) = 105 ∧ W2 = (pcW (sdM LC DM (nI fm)) dn ((TC fv z) a)))) := hv_359
          refine W.eq (g2 := F0 m 196 ls []) rfl ?_
          have hF_361 : F_350 g1 = .inl (cs 17, 700, .inl fv) := (hR g1 (by rw [hT_g1]; simp only [List.mem_cons, List.not_mem_nil, or_false]; omega)).trans hF_351
          have hF_362 : F_350 h0 = .inr (15, (.ref ta) :: (.int (nI zt)) :: (.int (nI zo_28)) :: (.int (nI ze)) :: (.ref ou) :: (.ref so) :: (.ref ad) :: (.ref na) :: (.ref va) :: (.ref lc) :: (.ref dm) :: (.int (nI fm)) :: (.int (nI sn)) :: (.ref tg) :: (.int v14_29) :: (.int v15_30) :: (.ref pe) :: (.int v17_31) :: (.int v18_32) :: (.int v19_33) :: (.int v20_34) :: (.int v21_35) :: (.int v22_36) :: (.ref ml) :: (.ref bg) :: (.ref co) :: (.ref sp) :: (.ref nb0) :: (.ref nb1) :: (.ref nb2) :: (.int (nI nf)) :: (.int (nI bd)) :: (.int (nI mm)) :: (.int v33_37) :: (.ref pl) :: (.ref se) :: (.ref ke) :: (.ref wi) :: (.ref hs) :: (.ref mo) :: (.ref po) :: (.ref nu) :: (.ref pr) :: (.ref sq) :: (.ref xa) :: (.ref sa) :: (.ref n64) :: (.ref m64) :: (.ref ex) :: (.ref wh) :: (.ref sd) :: (.ref tk) :: (.int v52_38) :: (.int v53_39) :: (.int v54_40) :: (.ref hd) :: (.ref ak) :: (.ref ho) :: (.ref ot) :: []) := (hR h0 (by rw [hT_h0]; simp only [List.mem_cons, List.not_mem_nil, or_false]; omega)).trans hF_352
          have hF_363 : F_350 lc = .inr (14, [.ref r_1, .int (nI zl)]) := (hR lc (by rw [ht_59]; simp only [List.mem_cons, List.not_mem_nil, or_false]; omega)).trans hF_353
          have hF_364 : F_350 r_1 = .inl (cs 17, 30, .inl fcl) := (hR r_1 (by rw [ht_61]; simp only [List.mem_cons, List.not_mem_nil, or_false]; omega)).trans hF_354
          have hF_365 : F_350 dm = .inr (14, [.ref r_2, .int (nI zm)]) := (hR dm (by rw [ht_64]; simp only [List.mem_cons, List.not_mem_nil, or_false]; omega)).trans hF_355
          have hF_366 : F_350 r_2 = .inl (cs 17, 60, .inl fcm) := (hR r_2 (by rw [ht_66]; simp only [List.mem_cons, List.not_mem_nil, or_false]; omega)).trans hF_356
          have hF_367 : F_350 dd = .inr (14, [.ref rd, .int (nI zd)]) := (hR dd (by rw [hT_dd]; simp only [List.mem_cons, List.not_mem_nil, or_false]; omega)).trans hF_357
          have hF_368 : F_350 rd = .inl (cs 17, nd, .inl fcd) := (hR rd (by rw [ht_56]; simp only [List.mem_cons, List.not_mem_nil, or_false]; omega)).trans hF_358
          obtain ⟨hd1, ⟨he1, he2, he3, he4, he5⟩, hd2⟩ := hv_359
          have hvv := (ocN_e (nI fm) (shv mq)).2
          refine lv_iload hx hb dX15_macroValue_196 (lv_at hl 4 rfl) ?_
          refine lv_bipush (v := 105) hx hb dX15_macroValue_198 (by decide) ?_
          refine lv_icmp_ne (tgt := 303) hx hb dX15_macroValue_200 (by decide) (fun c_369 => ?_) (fun c_369 => ?_)
          ·
            have hi_370 : ((TC fv z) a) ≠ 105 := fun q => c_369 (by rw [q]; rfl)
            obtain ⟨hq_371, hq_372⟩ := hW.octs hi_47 ht_48
            refine W.widen (k := 0) (n := 0) (by omega) (by omega) ?_
            exact jn_145 (zz2, fz2) F_350 (⟨⟨he1, he2, he3, he4, by have h9 := he5; rw [(hd2.resolve_left (fun q => c_369 (by rw [q.1]; rfl))).2] at h9; exact h9⟩, by have h8 := he5.1; have h7 := (hd2.resolve_left (fun q => c_369 (by rw [q.1]; rfl))); rw [h7.2] at h8; have h6 := pc_len (x := (nI fm)) (LC := LC) (DM := DM) (dn := dn) (by omega) (by omega) (by omega) h7.1 hmL; omega⟩) hO hR _ _ hP hD hS ls (lv_sub hl [1, 2, 3, 4, 5, 6, 7, 8, 9, 10] rfl)
          ·
            have hi_373 : ((TC fv z) a) = 105 := (nI_eq (a := ((TC fv z) a)) (b := 105) (by omega) (by omega)).mp c_369
            have hl5 : ((TC fv z) a) = 105 := (nI_eq (b := 105) (by omega) (by omega)).mp c_369
            have hw2 : W2 = qdP (nI fm) mq := (hd2.resolve_right (fun q => q.1 hl5)).2
            refine lv_iload hx hb dX15_macroValue_203 (lv_at hl 0 rfl) ?_
            refine lv_if_lt (tgt := 303) hx hb dX15_macroValue_205 (by decide) (fun c_374 => ?_) (fun c_374 => ?_)
            ·
              have hm4 : mq = 4 := by rcases Nat.lt_or_ge mq 4 with q | q; exact absurd c_374 (sv_p mq q); omega
              obtain ⟨hq_375, hq_376⟩ := hW.octs hi_47 ht_48
              refine W.widen (k := 0) (n := 0) (by omega) (by omega) ?_
              exact jn_145 (zz2, fz2) F_350 (⟨⟨he1, he2, he3, he4, by have h9 := he5; rw [hw2, show mq = 4 by omega, show qdP (nI fm) 4 = (pcW (sdM LC DM (nI fm)) dn ((TC fv z) a)) from (pc_i hl5).symm] at h9; exact h9⟩, by have h8 := he5.1; rw [hw2, show mq = 4 by omega] at h8; have h7 := (qdL_ok (x := (nI fm))).1; have h6 : (qdP (nI fm) 4).length = (qdL (nI fm)).length := rfl; omega⟩) hO hR _ _ hP hD hS ls (lv_sub hl [1, 2, 3, 4, 5, 6, 7, 8, 9, 10] rfl)
            ·
              have hm4 := sv_lt hd1 c_374
              have hzq : zz2 ≤ 12 := by have h8 := he5.1; rw [hw2] at h8; have h7 := (qdP_ok (x := (nI fm)) mq (by omega)).1; omega
              refine lv_aload_n hx hb dX15_macroValue_208 rfl (lv_at hl 5 rfl) ?_
              refine pg_get (ci := 15) (v := .int (nI fm)) (C := RX15) (T := TX15) (N := 59) hx hb hts it_15 hown hK hP hL_h0 hF_362 rfl 11 (by decide) (hts _ kt_729) (fun _ h9 => h9) rfl dX15_macroValue_209 ?_
              refine lv_iload hx hb dX15_macroValue_212 (lv_at hl 0 rfl) ?_
              refine lv_ishr hx hb dX15_macroValue_214 ?_
              refine lv_topi (fun x_377 ex_377 => ?_)
              obtain rfl : x_377 = ((nI fm) >>> (sv mq &&& 31)) := ex_377.trans (rfl)
              refine lv_sipush (v := 255) hx hb dX15_macroValue_215 (by decide) ?_
              refine lv_iand hx hb dX15_macroValue_218 ?_
              refine lv_topi (fun x_378 ex_378 => ?_)
              obtain rfl : x_378 = (nI (ocN (nI fm) (shv mq))) := ex_378.trans ((oc_r (nI fm) mq hm4).trans (ocN_e (nI fm) (shv mq)).1)
              refine lv_istore (lv' := [(11, .int (nI (ocN (nI fm) (shv mq)))), (10, .int (sv mq)), (9, .int (trW ((TC fv z) (tt - 1)))), (8, .int (nI nn)), (7, .int 0), (6, .int (nI ((TC fv z) a))), (0, .ref h0), (1, .ref g1), (2, .int (nI a)), (3, .int (nI tt)), (4, .ref dd), (5, .ref g2)]) hx hb dX15_macroValue_219 hl (by decide) rfl (fun ls hl => ?_)
              refine lv_iload hx hb dX15_macroValue_221 (lv_at hl 0 rfl) ?_
              refine lv_bipush (v := 99) hx hb dX15_macroValue_223 (by decide) ?_
              refine lv_icmp_le (tgt := 243) hx hb dX15_macroValue_225 (by decide) (fun c_379 => ?_) (fun c_379 => ?_)
              ·
                have hi_380 : (ocN (nI fm) (shv mq)) ≤ 99 := (nI_leI (a := (ocN (nI fm) (shv mq))) (b := 99) (by omega) (by omega)).mp c_379
                have hl100 : (ocN (nI fm) (shv mq)) < 100 := by omega
                refine lv_iload hx hb dX15_macroValue_243 (lv_at hl 0 rfl) ?_
                refine lv_bipush (v := 9) hx hb dX15_macroValue_245 (by decide) ?_
                refine lv_icmp_le (tgt := 268) hx hb dX15_macroValue_247 (by decide) (fun c_381 => ?_) (fun c_381 => ?_)
                ·
                  have hi_382 : (ocN (nI fm) (shv mq)) ≤ 9 := (nI_leI (a := (ocN (nI fm) (shv mq))) (b := 9) (by omega) (by omega)).mp c_381
                  have hl10 : (ocN (nI fm) (shv mq)) < 10 := by omega
                  refine lv_aload_n hx hb dX15_macroValue_268 rfl (lv_at hl 6 rfl) ?_
                  refine pg_get (ci := 15) (v := .ref pe) (C := RX15) (T := TX15) (N := 59) hx hb hts it_15 hown hK hP hL_h0 hF_362 rfl 16 (by decide) (hts _ kt_1132) (fun _ h9 => h9) rfl dX15_macroValue_269 ?_
                  refine lv_bipush (v := 48) hx hb dX15_macroValue_272 (by decide) ?_
                  refine lv_iload hx hb dX15_macroValue_274 (lv_at hl 0 rfl) ?_
                  refine lv_bipush (v := 10) hx hb dX15_macroValue_276 (by decide) ?_
                  refine lv_irem hx hb dX15_macroValue_278 (by decide) ?_
                  refine lv_topi (fun x_383 ex_383 => ?_)
                  obtain rfl : x_383 = (nI ((ocN (nI fm) (shv mq)) % 10)) := ex_383.trans (pk_rem (a := (ocN (nI fm) (shv mq))) (d := 10) (by omega) (by omega) (by omega))
                  refine lv_iadd hx hb dX15_macroValue_279 ?_
                  refine lv_topi (fun x_384 ex_384 => ?_)
                  obtain rfl : x_384 = (nI (48 + (ocN (nI fm) (shv mq)) % 10)) := ex_384.trans (nI_add 48 ((ocN (nI fm) (shv mq)) % 10))
                  obtain ⟨hq_385, hq_386⟩ := hW.octs hi_47 ht_48
                  have hFc := pg_free hD hS hA
                  refine va_callv (va_runV (As := [.int (nI (48 + (ocN (nI fm) (shv mq)) % 10))]) (rest := []) ⟨hx, hb, hml, hown, hts⟩ (s_X14_add_8 l dC dI cs ty gm L H.size F_350 pe (ρ + 7) rp 100 zz2 (48 + (ocN (nI fm) (shv mq)) % 10) fz2 hW hL_pe hT_pe he3 he4 (by omega) (by omega)) ⟨callB_of 1 hts (gi kt_711) rfl rfl rfl (hts _ kt_676) (hts _ kt_712) (by decide +kernel) ⟨Nat.le_of_ble_eq_true rfl, Nat.le_of_ble_eq_true rfl⟩, (hts _ kt_713), (hts _ kt_714)⟩ ⟨fun a U g mk q => ⟨q.1, PTm.calling q.2⟩, pg_recv hK hP hL_pe he3 (q := (RX14, TX14, 2)) rfl, fun U hU hWm => ⟨rfl, PTm.mk hU hWm hP hK hD hE hO⟩⟩ rfl rfl hl.1 rfl (lv_room (Nat.le_of_ble_eq_true rfl)) dX15_macroValue_280 ⟨by show _ + 0 ≤ 0; omega, by show _ + 0 ≤ 0; omega⟩) hS (fun q _ h => hFc q h) hFc (fun u t H1 locs ht hvm hw hB hz1 hk1 hS => ?_)
                  obtain ⟨F_388, hB1, hq_389, hq_390⟩ := hB
                  obtain ⟨hP, hD, hO, hR⟩ := QTm.back hB1 ht hFc hR (fun q h => by simp only [List.mem_cons, List.not_mem_nil, or_false] at h ⊢; omega)
                  have hF_391 : F_388 g1 = .inl (cs 17, 700, .inl fv) := (hB1.2.2.2 g1 (by rw [hT_g1]; simp only [List.mem_cons, List.not_mem_nil, or_false]; omega)).trans hF_361
                  have hF_392 : F_388 h0 = .inr (15, (.ref ta) :: (.int (nI zt)) :: (.int (nI zo_28)) :: (.int (nI ze)) :: (.ref ou) :: (.ref so) :: (.ref ad) :: (.ref na) :: (.ref va) :: (.ref lc) :: (.ref dm) :: (.int (nI fm)) :: (.int (nI sn)) :: (.ref tg) :: (.int v14_29) :: (.int v15_30) :: (.ref pe) :: (.int v17_31) :: (.int v18_32) :: (.int v19_33) :: (.int v20_34) :: (.int v21_35) :: (.int v22_36) :: (.ref ml) :: (.ref bg) :: (.ref co) :: (.ref sp) :: (.ref nb0) :: (.ref nb1) :: (.ref nb2) :: (.int (nI nf)) :: (.int (nI bd)) :: (.int (nI mm)) :: (.int v33_37) :: (.ref pl) :: (.ref se) :: (.ref ke) :: (.ref wi) :: (.ref hs) :: (.ref mo) :: (.ref po) :: (.ref nu) :: (.ref pr) :: (.ref sq) :: (.ref xa) :: (.ref sa) :: (.ref n64) :: (.ref m64) :: (.ref ex) :: (.ref wh) :: (.ref sd) :: (.ref tk) :: (.int v52_38) :: (.int v53_39) :: (.int v54_40) :: (.ref hd) :: (.ref ak) :: (.ref ho) :: (.ref ot) :: []) := (hB1.2.2.2 h0 (by rw [hT_h0]; simp)).trans hF_362
                  have hF_393 : F_388 lc = .inr (14, [.ref r_1, .int (nI zl)]) := (hB1.2.2.2 lc (by rw [ht_59]; simp)).trans hF_363
                  have hF_394 : F_388 r_1 = .inl (cs 17, 30, .inl fcl) := (hB1.2.2.2 r_1 (by rw [ht_61]; simp)).trans hF_364
                  have hF_395 : F_388 dm = .inr (14, [.ref r_2, .int (nI zm)]) := (hB1.2.2.2 dm (by rw [ht_64]; simp)).trans hF_365
                  have hF_396 : F_388 r_2 = .inl (cs 17, 60, .inl fcm) := (hB1.2.2.2 r_2 (by rw [ht_66]; simp)).trans hF_366
                  have hF_397 : F_388 dd = .inr (14, [.ref rd, .int (nI zd)]) := (hB1.2.2.2 dd (by rw [hT_dd]; simp only [List.mem_cons, List.not_mem_nil, or_false]; omega)).trans hF_367
                  have hF_398 : F_388 rd = .inl (cs 17, nd, .inl fcd) := (hB1.2.2.2 rd (by rw [ht_56]; simp only [List.mem_cons, List.not_mem_nil, or_false]; omega)).trans hF_368
                  have hF_399 : F_388 g2 = .inr (14, [.ref r2, .int (nI y)]) := (hB1.2.2.2 g2 (by rw [hT_g2]; simp only [List.mem_cons, List.not_mem_nil, or_false]; omega)).trans he1
                  have hF_400 : F_388 r2 = .inl (cs 17, 61, .inl fi) := (hB1.2.2.2 r2 (by rw [ht_51]; simp only [List.mem_cons, List.not_mem_nil, or_false]; omega)).trans he2
                  generalize H1 = H at hP hS ⊢
                  have hW_401 := src_one he5 (show 48 + (ocN (nI fm) (shv mq)) % 10 < 128 by omega)
                  refine lv_iload hx hb dX15_macroValue_283 (lv_at hl 1 rfl) ?_
                  refine lv_if_le (tgt := 297) hx hb dX15_macroValue_285 (by decide) (fun c_402 => ?_) (fun c_402 => ?_)
                  ·
                    have hk33 : ¬ mq < 3 := by have h9 := c_402; rw [sv_shv mq (by omega)] at h9; exact (shv_le (by omega)).mp h9
                    refine lv_iinc (v := (sv (mq + 1))) (lv' := [(10, .int (sv (mq + 1))), (11, .int (nI (ocN (nI fm) (shv mq)))), (9, .int (trW ((TC fv z) (tt - 1)))), (8, .int (nI nn)), (7, .int 0), (6, .int (nI ((TC fv z) a))), (0, .ref h0), (1, .ref g1), (2, .int (nI a)), (3, .int (nI tt)), (4, .ref dd), (5, .ref g2)]) hx hb dX15_macroValue_297 hl (k := 1) rfl (sv_n mq hm4) (by decide) rfl (fun ls hl => ?_)
                    refine lv_goto (tgt := 196) hx hb dX15_macroValue_300 (by decide) ?_
                    refine W.widen (k := 0) (n := 0) (by omega) (by omega) ?_
                    exact ih_360 ((mq + 1), (zz2 + 1), (upd fz2 zz2 (nI (48 + (ocN (nI fm) (shv mq)) % 10))), (W2 ++ [48 + (ocN (nI fm) (shv mq)) % 10])) F_388 (⟨by omega, ⟨hF_399, hF_400, hq_389, hq_390, hW_401⟩, Or.inl ⟨hl5, by rw [hw2]; show _ = qdP (nI fm) mq ++ (dgL (ocN (nI fm) (shv mq)) ++ (if mq < 3 then [46] else [])); unfold dgL; rw [if_pos hl100, if_pos hl10, if_neg hk33]; simp only [List.append_assoc, List.nil_append, List.append_nil]⟩⟩) (by show 4 - (mq + 1) < 4 - mq; omega) hO hR _ _ hP hD hS ls (lv_sub hl [0, 2, 3, 4, 5, 6, 7, 8, 9, 10, 11] rfl)
                  ·
                    have hk33 : mq < 3 := Classical.byContradiction (fun q => c_402 (by rw [sv_shv mq (by omega)]; exact (shv_le (by omega)).mpr q))
                    refine lv_aload_n hx hb dX15_macroValue_288 rfl (lv_at hl 6 rfl) ?_
                    refine pg_get (ci := 15) (v := .ref pe) (C := RX15) (T := TX15) (N := 59) hx hb hts it_15 hown hK hP hL_h0 hF_392 rfl 16 (by decide) (hts _ kt_1132) (fun _ h9 => h9) rfl dX15_macroValue_289 ?_
                    refine lv_bipush (v := 46) hx hb dX15_macroValue_292 (by decide) ?_
                    refine W.eq (g2 := F0 m 294 ls [.int (nI 46), .ref pe]) rfl ?_
                    have hFc := pg_free hD hS hA
                    refine va_callv (va_runV (As := [.int (nI 46)]) (rest := []) ⟨hx, hb, hml, hown, hts⟩ (s_X14_add_8 l dC dI cs ty gm L H.size F_388 pe (ρ + 7) rp 100 (zz2 + 1) 46 (upd fz2 zz2 (nI (48 + (ocN (nI fm) (shv mq)) % 10))) hW hL_pe hT_pe hq_389 hq_390 (by omega) (by omega)) ⟨callB_of 1 hts (gi kt_711) rfl rfl rfl (hts _ kt_676) (hts _ kt_712) (by decide +kernel) ⟨Nat.le_of_ble_eq_true rfl, Nat.le_of_ble_eq_true rfl⟩, (hts _ kt_713), (hts _ kt_714)⟩ ⟨fun a U g mk q => ⟨q.1, PTm.calling q.2⟩, pg_recv hK hP hL_pe hq_389 (q := (RX14, TX14, 2)) rfl, fun U hU hWm => ⟨rfl, PTm.mk hU hWm hP hK hD hE hO⟩⟩ rfl rfl hl.1 rfl (lv_room (Nat.le_of_ble_eq_true rfl)) dX15_macroValue_294 ⟨by show _ + 0 ≤ 0; omega, by show _ + 0 ≤ 0; omega⟩) hS (fun q _ h => hFc q h) hFc (fun u t H1 locs ht hvm hw hB hz1 hk1 hS => ?_)
                    obtain ⟨F_404, hB1, hq_405, hq_406⟩ := hB
                    obtain ⟨hP, hD, hO, hR⟩ := QTm.back hB1 ht hFc hR (fun q h => by simp only [List.mem_cons, List.not_mem_nil, or_false] at h ⊢; omega)
                    have hF_407 : F_404 g1 = .inl (cs 17, 700, .inl fv) := (hB1.2.2.2 g1 (by rw [hT_g1]; simp only [List.mem_cons, List.not_mem_nil, or_false]; omega)).trans hF_391
                    have hF_408 : F_404 h0 = .inr (15, (.ref ta) :: (.int (nI zt)) :: (.int (nI zo_28)) :: (.int (nI ze)) :: (.ref ou) :: (.ref so) :: (.ref ad) :: (.ref na) :: (.ref va) :: (.ref lc) :: (.ref dm) :: (.int (nI fm)) :: (.int (nI sn)) :: (.ref tg) :: (.int v14_29) :: (.int v15_30) :: (.ref pe) :: (.int v17_31) :: (.int v18_32) :: (.int v19_33) :: (.int v20_34) :: (.int v21_35) :: (.int v22_36) :: (.ref ml) :: (.ref bg) :: (.ref co) :: (.ref sp) :: (.ref nb0) :: (.ref nb1) :: (.ref nb2) :: (.int (nI nf)) :: (.int (nI bd)) :: (.int (nI mm)) :: (.int v33_37) :: (.ref pl) :: (.ref se) :: (.ref ke) :: (.ref wi) :: (.ref hs) :: (.ref mo) :: (.ref po) :: (.ref nu) :: (.ref pr) :: (.ref sq) :: (.ref xa) :: (.ref sa) :: (.ref n64) :: (.ref m64) :: (.ref ex) :: (.ref wh) :: (.ref sd) :: (.ref tk) :: (.int v52_38) :: (.int v53_39) :: (.int v54_40) :: (.ref hd) :: (.ref ak) :: (.ref ho) :: (.ref ot) :: []) := (hB1.2.2.2 h0 (by rw [hT_h0]; simp)).trans hF_392
                    have hF_409 : F_404 lc = .inr (14, [.ref r_1, .int (nI zl)]) := (hB1.2.2.2 lc (by rw [ht_59]; simp)).trans hF_393
                    have hF_410 : F_404 r_1 = .inl (cs 17, 30, .inl fcl) := (hB1.2.2.2 r_1 (by rw [ht_61]; simp)).trans hF_394
                    have hF_411 : F_404 dm = .inr (14, [.ref r_2, .int (nI zm)]) := (hB1.2.2.2 dm (by rw [ht_64]; simp)).trans hF_395
                    have hF_412 : F_404 r_2 = .inl (cs 17, 60, .inl fcm) := (hB1.2.2.2 r_2 (by rw [ht_66]; simp)).trans hF_396
                    have hF_413 : F_404 dd = .inr (14, [.ref rd, .int (nI zd)]) := (hB1.2.2.2 dd (by rw [hT_dd]; simp only [List.mem_cons, List.not_mem_nil, or_false]; omega)).trans hF_397
                    have hF_414 : F_404 rd = .inl (cs 17, nd, .inl fcd) := (hB1.2.2.2 rd (by rw [ht_56]; simp only [List.mem_cons, List.not_mem_nil, or_false]; omega)).trans hF_398
                    have hF_415 : F_404 g2 = .inr (14, [.ref r2, .int (nI y)]) := (hB1.2.2.2 g2 (by rw [hT_g2]; simp only [List.mem_cons, List.not_mem_nil, or_false]; omega)).trans hF_399
                    have hF_416 : F_404 r2 = .inl (cs 17, 61, .inl fi) := (hB1.2.2.2 r2 (by rw [ht_51]; simp only [List.mem_cons, List.not_mem_nil, or_false]; omega)).trans hF_400
                    generalize H1 = H at hP hS ⊢
                    have hW_417 := src_one hW_401 (show 46 < 128 by omega)
                    refine lv_iinc (v := (sv (mq + 1))) (lv' := [(10, .int (sv (mq + 1))), (11, .int (nI (ocN (nI fm) (shv mq)))), (9, .int (trW ((TC fv z) (tt - 1)))), (8, .int (nI nn)), (7, .int 0), (6, .int (nI ((TC fv z) a))), (0, .ref h0), (1, .ref g1), (2, .int (nI a)), (3, .int (nI tt)), (4, .ref dd), (5, .ref g2)]) hx hb dX15_macroValue_297 hl (k := 1) rfl (sv_n mq hm4) (by decide) rfl (fun ls hl => ?_)
                    refine lv_goto (tgt := 196) hx hb dX15_macroValue_300 (by decide) ?_
                    refine W.widen (k := 0) (n := 0) (by omega) (by omega) ?_
                    exact ih_360 ((mq + 1), (zz2 + 2), (upd (upd fz2 zz2 (nI (48 + (ocN (nI fm) (shv mq)) % 10))) (zz2 + 1) (nI 46)), ((W2 ++ [48 + (ocN (nI fm) (shv mq)) % 10]) ++ [46])) F_404 (⟨by omega, ⟨hF_415, hF_416, hq_405, hq_406, hW_417⟩, Or.inl ⟨hl5, by rw [hw2]; show _ = qdP (nI fm) mq ++ (dgL (ocN (nI fm) (shv mq)) ++ (if mq < 3 then [46] else [])); unfold dgL; rw [if_pos hl100, if_pos hl10, if_pos hk33]; simp only [List.append_assoc, List.nil_append, List.append_nil]⟩⟩) (by show 4 - (mq + 1) < 4 - mq; omega) hO hR _ _ hP hD hS ls (lv_sub hl [0, 2, 3, 4, 5, 6, 7, 8, 9, 10, 11] rfl)
                ·
                  have hi_418 : 9 < (ocN (nI fm) (shv mq)) := Nat.not_le.mp (fun q => c_381 ((nI_leI (a := (ocN (nI fm) (shv mq))) (b := 9) (by omega) (by omega)).mpr q))
                  have hl10 : ¬ (ocN (nI fm) (shv mq)) < 10 := by omega
                  refine lv_aload_n hx hb dX15_macroValue_250 rfl (lv_at hl 6 rfl) ?_
                  refine pg_get (ci := 15) (v := .ref pe) (C := RX15) (T := TX15) (N := 59) hx hb hts it_15 hown hK hP hL_h0 hF_362 rfl 16 (by decide) (hts _ kt_1132) (fun _ h9 => h9) rfl dX15_macroValue_251 ?_
                  refine lv_bipush (v := 48) hx hb dX15_macroValue_254 (by decide) ?_
                  refine lv_iload hx hb dX15_macroValue_256 (lv_at hl 0 rfl) ?_
                  refine lv_bipush (v := 10) hx hb dX15_macroValue_258 (by decide) ?_
                  refine lv_idiv hx hb dX15_macroValue_260 (by decide) ?_
                  refine lv_topi (fun x_419 ex_419 => ?_)
                  obtain rfl : x_419 = (nI ((ocN (nI fm) (shv mq)) / 10)) := ex_419.trans (pk_div (d := 10) (by omega) (by omega) (by omega))
                  refine lv_bipush (v := 10) hx hb dX15_macroValue_261 (by decide) ?_
                  refine lv_irem hx hb dX15_macroValue_263 (by decide) ?_
                  refine lv_topi (fun x_420 ex_420 => ?_)
                  obtain rfl : x_420 = (nI ((ocN (nI fm) (shv mq)) / 10 % 10)) := ex_420.trans (pk_rem (a := (ocN (nI fm) (shv mq)) / 10) (d := 10) (by omega) (by omega) (by omega))
                  refine lv_iadd hx hb dX15_macroValue_264 ?_
                  refine lv_topi (fun x_421 ex_421 => ?_)
                  obtain rfl : x_421 = (nI (48 + (ocN (nI fm) (shv mq)) / 10 % 10)) := ex_421.trans (nI_add 48 ((ocN (nI fm) (shv mq)) / 10 % 10))
                  obtain ⟨hq_422, hq_423⟩ := hW.octs hi_47 ht_48
                  have hFc := pg_free hD hS hA
                  refine va_callv (va_runV (As := [.int (nI (48 + (ocN (nI fm) (shv mq)) / 10 % 10))]) (rest := []) ⟨hx, hb, hml, hown, hts⟩ (s_X14_add_8 l dC dI cs ty gm L H.size F_350 pe (ρ + 7) rp 100 zz2 (48 + (ocN (nI fm) (shv mq)) / 10 % 10) fz2 hW hL_pe hT_pe he3 he4 (by omega) (by omega)) ⟨callB_of 1 hts (gi kt_711) rfl rfl rfl (hts _ kt_676) (hts _ kt_712) (by decide +kernel) ⟨Nat.le_of_ble_eq_true rfl, Nat.le_of_ble_eq_true rfl⟩, (hts _ kt_713), (hts _ kt_714)⟩ ⟨fun a U g mk q => ⟨q.1, PTm.calling q.2⟩, pg_recv hK hP hL_pe he3 (q := (RX14, TX14, 2)) rfl, fun U hU hWm => ⟨rfl, PTm.mk hU hWm hP hK hD hE hO⟩⟩ rfl rfl hl.1 rfl (lv_room (Nat.le_of_ble_eq_true rfl)) dX15_macroValue_265 ⟨by show _ + 0 ≤ 0; omega, by show _ + 0 ≤ 0; omega⟩) hS (fun q _ h => hFc q h) hFc (fun u t H1 locs ht hvm hw hB hz1 hk1 hS => ?_)
                  obtain ⟨F_425, hB1, hq_426, hq_427⟩ := hB
                  obtain ⟨hP, hD, hO, hR⟩ := QTm.back hB1 ht hFc hR (fun q h => by simp only [List.mem_cons, List.not_mem_nil, or_false] at h ⊢; omega)
                  have hF_428 : F_425 g1 = .inl (cs 17, 700, .inl fv) := (hB1.2.2.2 g1 (by rw [hT_g1]; simp only [List.mem_cons, List.not_mem_nil, or_false]; omega)).trans hF_361
                  have hF_429 : F_425 h0 = .inr (15, (.ref ta) :: (.int (nI zt)) :: (.int (nI zo_28)) :: (.int (nI ze)) :: (.ref ou) :: (.ref so) :: (.ref ad) :: (.ref na) :: (.ref va) :: (.ref lc) :: (.ref dm) :: (.int (nI fm)) :: (.int (nI sn)) :: (.ref tg) :: (.int v14_29) :: (.int v15_30) :: (.ref pe) :: (.int v17_31) :: (.int v18_32) :: (.int v19_33) :: (.int v20_34) :: (.int v21_35) :: (.int v22_36) :: (.ref ml) :: (.ref bg) :: (.ref co) :: (.ref sp) :: (.ref nb0) :: (.ref nb1) :: (.ref nb2) :: (.int (nI nf)) :: (.int (nI bd)) :: (.int (nI mm)) :: (.int v33_37) :: (.ref pl) :: (.ref se) :: (.ref ke) :: (.ref wi) :: (.ref hs) :: (.ref mo) :: (.ref po) :: (.ref nu) :: (.ref pr) :: (.ref sq) :: (.ref xa) :: (.ref sa) :: (.ref n64) :: (.ref m64) :: (.ref ex) :: (.ref wh) :: (.ref sd) :: (.ref tk) :: (.int v52_38) :: (.int v53_39) :: (.int v54_40) :: (.ref hd) :: (.ref ak) :: (.ref ho) :: (.ref ot) :: []) := (hB1.2.2.2 h0 (by rw [hT_h0]; simp)).trans hF_362
                  have hF_430 : F_425 lc = .inr (14, [.ref r_1, .int (nI zl)]) := (hB1.2.2.2 lc (by rw [ht_59]; simp)).trans hF_363
                  have hF_431 : F_425 r_1 = .inl (cs 17, 30, .inl fcl) := (hB1.2.2.2 r_1 (by rw [ht_61]; simp)).trans hF_364
                  have hF_432 : F_425 dm = .inr (14, [.ref r_2, .int (nI zm)]) := (hB1.2.2.2 dm (by rw [ht_64]; simp)).trans hF_365
                  have hF_433 : F_425 r_2 = .inl (cs 17, 60, .inl fcm) := (hB1.2.2.2 r_2 (by rw [ht_66]; simp)).trans hF_366
                  have hF_434 : F_425 dd = .inr (14, [.ref rd, .int (nI zd)]) := (hB1.2.2.2 dd (by rw [hT_dd]; simp only [List.mem_cons, List.not_mem_nil, or_false]; omega)).trans hF_367
                  have hF_435 : F_425 rd = .inl (cs 17, nd, .inl fcd) := (hB1.2.2.2 rd (by rw [ht_56]; simp only [List.mem_cons, List.not_mem_nil, or_false]; omega)).trans hF_368
                  have hF_436 : F_425 g2 = .inr (14, [.ref r2, .int (nI y)]) := (hB1.2.2.2 g2 (by rw [hT_g2]; simp only [List.mem_cons, List.not_mem_nil, or_false]; omega)).trans he1
                  have hF_437 : F_425 r2 = .inl (cs 17, 61, .inl fi) := (hB1.2.2.2 r2 (by rw [ht_51]; simp only [List.mem_cons, List.not_mem_nil, or_false]; omega)).trans he2
                  generalize H1 = H at hP hS ⊢
                  have hW_438 := src_one he5 (show 48 + (ocN (nI fm) (shv mq)) / 10 % 10 < 128 by omega)
                  refine lv_aload_n hx hb dX15_macroValue_268 rfl (lv_at hl 6 rfl) ?_
                  refine pg_get (ci := 15) (v := .ref pe) (C := RX15) (T := TX15) (N := 59) hx hb hts it_15 hown hK hP hL_h0 hF_429 rfl 16 (by decide) (hts _ kt_1132) (fun _ h9 => h9) rfl dX15_macroValue_269 ?_
                  refine lv_bipush (v := 48) hx hb dX15_macroValue_272 (by decide) ?_
                  refine lv_iload hx hb dX15_macroValue_274 (lv_at hl 0 rfl) ?_
                  refine lv_bipush (v := 10) hx hb dX15_macroValue_276 (by decide) ?_
                  refine lv_irem hx hb dX15_macroValue_278 (by decide) ?_
                  refine lv_topi (fun x_439 ex_439 => ?_)
                  obtain rfl : x_439 = (nI ((ocN (nI fm) (shv mq)) % 10)) := ex_439.trans (pk_rem (a := (ocN (nI fm) (shv mq))) (d := 10) (by omega) (by omega) (by omega))
                  refine lv_iadd hx hb dX15_macroValue_279 ?_
                  refine lv_topi (fun x_440 ex_440 => ?_)
                  obtain rfl : x_440 = (nI (48 + (ocN (nI fm) (shv mq)) % 10)) := ex_440.trans (nI_add 48 ((ocN (nI fm) (shv mq)) % 10))
                  have hFc := pg_free hD hS hA
                  refine va_callv (va_runV (As := [.int (nI (48 + (ocN (nI fm) (shv mq)) % 10))]) (rest := []) ⟨hx, hb, hml, hown, hts⟩ (s_X14_add_8 l dC dI cs ty gm L H.size F_425 pe (ρ + 7) rp 100 (zz2 + 1) (48 + (ocN (nI fm) (shv mq)) % 10) (upd fz2 zz2 (nI (48 + (ocN (nI fm) (shv mq)) / 10 % 10))) hW hL_pe hT_pe hq_426 hq_427 (by omega) (by omega)) ⟨callB_of 1 hts (gi kt_711) rfl rfl rfl (hts _ kt_676) (hts _ kt_712) (by decide +kernel) ⟨Nat.le_of_ble_eq_true rfl, Nat.le_of_ble_eq_true rfl⟩, (hts _ kt_713), (hts _ kt_714)⟩ ⟨fun a U g mk q => ⟨q.1, PTm.calling q.2⟩, pg_recv hK hP hL_pe hq_426 (q := (RX14, TX14, 2)) rfl, fun U hU hWm => ⟨rfl, PTm.mk hU hWm hP hK hD hE hO⟩⟩ rfl rfl hl.1 rfl (lv_room (Nat.le_of_ble_eq_true rfl)) dX15_macroValue_280 ⟨by show _ + 0 ≤ 0; omega, by show _ + 0 ≤ 0; omega⟩) hS (fun q _ h => hFc q h) hFc (fun u t H1 locs ht hvm hw hB hz1 hk1 hS => ?_)
                  obtain ⟨F_442, hB1, hq_443, hq_444⟩ := hB
                  obtain ⟨hP, hD, hO, hR⟩ := QTm.back hB1 ht hFc hR (fun q h => by simp only [List.mem_cons, List.not_mem_nil, or_false] at h ⊢; omega)
                  have hF_445 : F_442 g1 = .inl (cs 17, 700, .inl fv) := (hB1.2.2.2 g1 (by rw [hT_g1]; simp only [List.mem_cons, List.not_mem_nil, or_false]; omega)).trans hF_428
                  have hF_446 : F_442 h0 = .inr (15, (.ref ta) :: (.int (nI zt)) :: (.int (nI zo_28)) :: (.int (nI ze)) :: (.ref ou) :: (.ref so) :: (.ref ad) :: (.ref na) :: (.ref va) :: (.ref lc) :: (.ref dm) :: (.int (nI fm)) :: (.int (nI sn)) :: (.ref tg) :: (.int v14_29) :: (.int v15_30) :: (.ref pe) :: (.int v17_31) :: (.int v18_32) :: (.int v19_33) :: (.int v20_34) :: (.int v21_35) :: (.int v22_36) :: (.ref ml) :: (.ref bg) :: (.ref co) :: (.ref sp) :: (.ref nb0) :: (.ref nb1) :: (.ref nb2) :: (.int (nI nf)) :: (.int (nI bd)) :: (.int (nI mm)) :: (.int v33_37) :: (.ref pl) :: (.ref se) :: (.ref ke) :: (.ref wi) :: (.ref hs) :: (.ref mo) :: (.ref po) :: (.ref nu) :: (.ref pr) :: (.ref sq) :: (.ref xa) :: (.ref sa) :: (.ref n64) :: (.ref m64) :: (.ref ex) :: (.ref wh) :: (.ref sd) :: (.ref tk) :: (.int v52_38) :: (.int v53_39) :: (.int v54_40) :: (.ref hd) :: (.ref ak) :: (.ref ho) :: (.ref ot) :: []) := (hB1.2.2.2 h0 (by rw [hT_h0]; simp)).trans hF_429
                  have hF_447 : F_442 lc = .inr (14, [.ref r_1, .int (nI zl)]) := (hB1.2.2.2 lc (by rw [ht_59]; simp)).trans hF_430
                  have hF_448 : F_442 r_1 = .inl (cs 17, 30, .inl fcl) := (hB1.2.2.2 r_1 (by rw [ht_61]; simp)).trans hF_431
                  have hF_449 : F_442 dm = .inr (14, [.ref r_2, .int (nI zm)]) := (hB1.2.2.2 dm (by rw [ht_64]; simp)).trans hF_432
                  have hF_450 : F_442 r_2 = .inl (cs 17, 60, .inl fcm) := (hB1.2.2.2 r_2 (by rw [ht_66]; simp)).trans hF_433
                  have hF_451 : F_442 dd = .inr (14, [.ref rd, .int (nI zd)]) := (hB1.2.2.2 dd (by rw [hT_dd]; simp only [List.mem_cons, List.not_mem_nil, or_false]; omega)).trans hF_434
                  have hF_452 : F_442 rd = .inl (cs 17, nd, .inl fcd) := (hB1.2.2.2 rd (by rw [ht_56]; simp only [List.mem_cons, List.not_mem_nil, or_false]; omega)).trans hF_435
                  have hF_453 : F_442 g2 = .inr (14, [.ref r2, .int (nI y)]) := (hB1.2.2.2 g2 (by rw [hT_g2]; simp only [List.mem_cons, List.not_mem_nil, or_false]; omega)).trans hF_436
                  have hF_454 : F_442 r2 = .inl (cs 17, 61, .inl fi) := (hB1.2.2.2 r2 (by rw [ht_51]; simp only [List.mem_cons, List.not_mem_nil, or_false]; omega)).trans hF_437
                  generalize H1 = H at hP hS ⊢
                  have hW_455 := src_one hW_438 (show 48 + (ocN (nI fm) (shv mq)) % 10 < 128 by omega)
                  refine lv_iload hx hb dX15_macroValue_283 (lv_at hl 1 rfl) ?_
                  refine lv_if_le (tgt := 297) hx hb dX15_macroValue_285 (by decide) (fun c_456 => ?_) (fun c_456 => ?_)
                  ·
                    have hk33 : ¬ mq < 3 := by have h9 := c_456; rw [sv_shv mq (by omega)] at h9; exact (shv_le (by omega)).mp h9
                    refine lv_iinc (v := (sv (mq + 1))) (lv' := [(10, .int (sv (mq + 1))), (11, .int (nI (ocN (nI fm) (shv mq)))), (9, .int (trW ((TC fv z) (tt - 1)))), (8, .int (nI nn)), (7, .int 0), (6, .int (nI ((TC fv z) a))), (0, .ref h0), (1, .ref g1), (2, .int (nI a)), (3, .int (nI tt)), (4, .ref dd), (5, .ref g2)]) hx hb dX15_macroValue_297 hl (k := 1) rfl (sv_n mq hm4) (by decide) rfl (fun ls hl => ?_)
                    refine lv_goto (tgt := 196) hx hb dX15_macroValue_300 (by decide) ?_
                    refine W.widen (k := 0) (n := 0) (by omega) (by omega) ?_
                    exact ih_360 ((mq + 1), (zz2 + 2), (upd (upd fz2 zz2 (nI (48 + (ocN (nI fm) (shv mq)) / 10 % 10))) (zz2 + 1) (nI (48 + (ocN (nI fm) (shv mq)) % 10))), ((W2 ++ [48 + (ocN (nI fm) (shv mq)) / 10 % 10]) ++ [48 + (ocN (nI fm) (shv mq)) % 10])) F_442 (⟨by omega, ⟨hF_453, hF_454, hq_443, hq_444, hW_455⟩, Or.inl ⟨hl5, by rw [hw2]; show _ = qdP (nI fm) mq ++ (dgL (ocN (nI fm) (shv mq)) ++ (if mq < 3 then [46] else [])); unfold dgL; rw [if_pos hl100, if_neg hl10, if_neg hk33]; simp only [List.append_assoc, List.nil_append, List.append_nil]⟩⟩) (by show 4 - (mq + 1) < 4 - mq; omega) hO hR _ _ hP hD hS ls (lv_sub hl [0, 2, 3, 4, 5, 6, 7, 8, 9, 10, 11] rfl)
                  ·
                    have hk33 : mq < 3 := Classical.byContradiction (fun q => c_456 (by rw [sv_shv mq (by omega)]; exact (shv_le (by omega)).mpr q))
                    refine lv_aload_n hx hb dX15_macroValue_288 rfl (lv_at hl 6 rfl) ?_
                    refine pg_get (ci := 15) (v := .ref pe) (C := RX15) (T := TX15) (N := 59) hx hb hts it_15 hown hK hP hL_h0 hF_446 rfl 16 (by decide) (hts _ kt_1132) (fun _ h9 => h9) rfl dX15_macroValue_289 ?_
                    refine lv_bipush (v := 46) hx hb dX15_macroValue_292 (by decide) ?_
                    refine W.eq (g2 := F0 m 294 ls [.int (nI 46), .ref pe]) rfl ?_
                    have hFc := pg_free hD hS hA
                    refine va_callv (va_runV (As := [.int (nI 46)]) (rest := []) ⟨hx, hb, hml, hown, hts⟩ (s_X14_add_8 l dC dI cs ty gm L H.size F_442 pe (ρ + 7) rp 100 (zz2 + 2) 46 (upd (upd fz2 zz2 (nI (48 + (ocN (nI fm) (shv mq)) / 10 % 10))) (zz2 + 1) (nI (48 + (ocN (nI fm) (shv mq)) % 10))) hW hL_pe hT_pe hq_443 hq_444 (by omega) (by omega)) ⟨callB_of 1 hts (gi kt_711) rfl rfl rfl (hts _ kt_676) (hts _ kt_712) (by decide +kernel) ⟨Nat.le_of_ble_eq_true rfl, Nat.le_of_ble_eq_true rfl⟩, (hts _ kt_713), (hts _ kt_714)⟩ ⟨fun a U g mk q => ⟨q.1, PTm.calling q.2⟩, pg_recv hK hP hL_pe hq_443 (q := (RX14, TX14, 2)) rfl, fun U hU hWm => ⟨rfl, PTm.mk hU hWm hP hK hD hE hO⟩⟩ rfl rfl hl.1 rfl (lv_room (Nat.le_of_ble_eq_true rfl)) dX15_macroValue_294 ⟨by show _ + 0 ≤ 0; omega, by show _ + 0 ≤ 0; omega⟩) hS (fun q _ h => hFc q h) hFc (fun u t H1 locs ht hvm hw hB hz1 hk1 hS => ?_)
                    obtain ⟨F_458, hB1, hq_459, hq_460⟩ := hB
                    obtain ⟨hP, hD, hO, hR⟩ := QTm.back hB1 ht hFc hR (fun q h => by simp only [List.mem_cons, List.not_mem_nil, or_false] at h ⊢; omega)
                    have hF_461 : F_458 g1 = .inl (cs 17, 700, .inl fv) := (hB1.2.2.2 g1 (by rw [hT_g1]; simp only [List.mem_cons, List.not_mem_nil, or_false]; omega)).trans hF_445
                    have hF_462 : F_458 h0 = .inr (15, (.ref ta) :: (.int (nI zt)) :: (.int (nI zo_28)) :: (.int (nI ze)) :: (.ref ou) :: (.ref so) :: (.ref ad) :: (.ref na) :: (.ref va) :: (.ref lc) :: (.ref dm) :: (.int (nI fm)) :: (.int (nI sn)) :: (.ref tg) :: (.int v14_29) :: (.int v15_30) :: (.ref pe) :: (.int v17_31) :: (.int v18_32) :: (.int v19_33) :: (.int v20_34) :: (.int v21_35) :: (.int v22_36) :: (.ref ml) :: (.ref bg) :: (.ref co) :: (.ref sp) :: (.ref nb0) :: (.ref nb1) :: (.ref nb2) :: (.int (nI nf)) :: (.int (nI bd)) :: (.int (nI mm)) :: (.int v33_37) :: (.ref pl) :: (.ref se) :: (.ref ke) :: (.ref wi) :: (.ref hs) :: (.ref mo) :: (.ref po) :: (.ref nu) :: (.ref pr) :: (.ref sq) :: (.ref xa) :: (.ref sa) :: (.ref n64) :: (.ref m64) :: (.ref ex) :: (.ref wh) :: (.ref sd) :: (.ref tk) :: (.int v52_38) :: (.int v53_39) :: (.int v54_40) :: (.ref hd) :: (.ref ak) :: (.ref ho) :: (.ref ot) :: []) := (hB1.2.2.2 h0 (by rw [hT_h0]; simp)).trans hF_446
                    have hF_463 : F_458 lc = .inr (14, [.ref r_1, .int (nI zl)]) := (hB1.2.2.2 lc (by rw [ht_59]; simp)).trans hF_447
                    have hF_464 : F_458 r_1 = .inl (cs 17, 30, .inl fcl) := (hB1.2.2.2 r_1 (by rw [ht_61]; simp)).trans hF_448
                    have hF_465 : F_458 dm = .inr (14, [.ref r_2, .int (nI zm)]) := (hB1.2.2.2 dm (by rw [ht_64]; simp)).trans hF_449
                    have hF_466 : F_458 r_2 = .inl (cs 17, 60, .inl fcm) := (hB1.2.2.2 r_2 (by rw [ht_66]; simp)).trans hF_450
                    have hF_467 : F_458 dd = .inr (14, [.ref rd, .int (nI zd)]) := (hB1.2.2.2 dd (by rw [hT_dd]; simp only [List.mem_cons, List.not_mem_nil, or_false]; omega)).trans hF_451
                    have hF_468 : F_458 rd = .inl (cs 17, nd, .inl fcd) := (hB1.2.2.2 rd (by rw [ht_56]; simp only [List.mem_cons, List.not_mem_nil, or_false]; omega)).trans hF_452
                    have hF_469 : F_458 g2 = .inr (14, [.ref r2, .int (nI y)]) := (hB1.2.2.2 g2 (by rw [hT_g2]; simp only [List.mem_cons, List.not_mem_nil, or_false]; omega)).trans hF_453
                    have hF_470 : F_458 r2 = .inl (cs 17, 61, .inl fi) := (hB1.2.2.2 r2 (by rw [ht_51]; simp only [List.mem_cons, List.not_mem_nil, or_false]; omega)).trans hF_454
                    generalize H1 = H at hP hS ⊢
                    have hW_471 := src_one hW_455 (show 46 < 128 by omega)
                    refine lv_iinc (v := (sv (mq + 1))) (lv' := [(10, .int (sv (mq + 1))), (11, .int (nI (ocN (nI fm) (shv mq)))), (9, .int (trW ((TC fv z) (tt - 1)))), (8, .int (nI nn)), (7, .int 0), (6, .int (nI ((TC fv z) a))), (0, .ref h0), (1, .ref g1), (2, .int (nI a)), (3, .int (nI tt)), (4, .ref dd), (5, .ref g2)]) hx hb dX15_macroValue_297 hl (k := 1) rfl (sv_n mq hm4) (by decide) rfl (fun ls hl => ?_)
                    refine lv_goto (tgt := 196) hx hb dX15_macroValue_300 (by decide) ?_
                    refine W.widen (k := 0) (n := 0) (by omega) (by omega) ?_
                    exact ih_360 ((mq + 1), (zz2 + 3), (upd (upd (upd fz2 zz2 (nI (48 + (ocN (nI fm) (shv mq)) / 10 % 10))) (zz2 + 1) (nI (48 + (ocN (nI fm) (shv mq)) % 10))) (zz2 + 2) (nI 46)), (((W2 ++ [48 + (ocN (nI fm) (shv mq)) / 10 % 10]) ++ [48 + (ocN (nI fm) (shv mq)) % 10]) ++ [46])) F_458 (⟨by omega, ⟨hF_469, hF_470, hq_459, hq_460, hW_471⟩, Or.inl ⟨hl5, by rw [hw2]; show _ = qdP (nI fm) mq ++ (dgL (ocN (nI fm) (shv mq)) ++ (if mq < 3 then [46] else [])); unfold dgL; rw [if_pos hl100, if_neg hl10, if_pos hk33]; simp only [List.append_assoc, List.nil_append, List.append_nil]⟩⟩) (by show 4 - (mq + 1) < 4 - mq; omega) hO hR _ _ hP hD hS ls (lv_sub hl [0, 2, 3, 4, 5, 6, 7, 8, 9, 10, 11] rfl)
              ·
                have hi_472 : 99 < (ocN (nI fm) (shv mq)) := Nat.not_le.mp (fun q => c_379 ((nI_leI (a := (ocN (nI fm) (shv mq))) (b := 99) (by omega) (by omega)).mpr q))
                have hl100 : ¬ (ocN (nI fm) (shv mq)) < 100 := by omega
                refine lv_aload_n hx hb dX15_macroValue_228 rfl (lv_at hl 6 rfl) ?_
                refine pg_get (ci := 15) (v := .ref pe) (C := RX15) (T := TX15) (N := 59) hx hb hts it_15 hown hK hP hL_h0 hF_362 rfl 16 (by decide) (hts _ kt_1132) (fun _ h9 => h9) rfl dX15_macroValue_229 ?_
                refine lv_bipush (v := 48) hx hb dX15_macroValue_232 (by decide) ?_
                refine lv_iload hx hb dX15_macroValue_234 (lv_at hl 0 rfl) ?_
                refine lv_bipush (v := 100) hx hb dX15_macroValue_236 (by decide) ?_
                refine lv_idiv hx hb dX15_macroValue_238 (by decide) ?_
                refine lv_topi (fun x_473 ex_473 => ?_)
                obtain rfl : x_473 = (nI ((ocN (nI fm) (shv mq)) / 100)) := ex_473.trans (pk_div (d := 100) (by omega) (by omega) (by omega))
                refine lv_iadd hx hb dX15_macroValue_239 ?_
                refine lv_topi (fun x_474 ex_474 => ?_)
                obtain rfl : x_474 = (nI (48 + (ocN (nI fm) (shv mq)) / 100)) := ex_474.trans (nI_add 48 ((ocN (nI fm) (shv mq)) / 100))
                obtain ⟨hq_475, hq_476⟩ := hW.octs hi_47 ht_48
                have hFc := pg_free hD hS hA
                refine va_callv (va_runV (As := [.int (nI (48 + (ocN (nI fm) (shv mq)) / 100))]) (rest := []) ⟨hx, hb, hml, hown, hts⟩ (s_X14_add_8 l dC dI cs ty gm L H.size F_350 pe (ρ + 7) rp 100 zz2 (48 + (ocN (nI fm) (shv mq)) / 100) fz2 hW hL_pe hT_pe he3 he4 (by omega) (by omega)) ⟨callB_of 1 hts (gi kt_711) rfl rfl rfl (hts _ kt_676) (hts _ kt_712) (by decide +kernel) ⟨Nat.le_of_ble_eq_true rfl, Nat.le_of_ble_eq_true rfl⟩, (hts _ kt_713), (hts _ kt_714)⟩ ⟨fun a U g mk q => ⟨q.1, PTm.calling q.2⟩, pg_recv hK hP hL_pe he3 (q := (RX14, TX14, 2)) rfl, fun U hU hWm => ⟨rfl, PTm.mk hU hWm hP hK hD hE hO⟩⟩ rfl rfl hl.1 rfl (lv_room (Nat.le_of_ble_eq_true rfl)) dX15_macroValue_240 ⟨by show _ + 0 ≤ 0; omega, by show _ + 0 ≤ 0; omega⟩) hS (fun q _ h => hFc q h) hFc (fun u t H1 locs ht hvm hw hB hz1 hk1 hS => ?_)
                obtain ⟨F_478, hB1, hq_479, hq_480⟩ := hB
                obtain ⟨hP, hD, hO, hR⟩ := QTm.back hB1 ht hFc hR (fun q h => by simp only [List.mem_cons, List.not_mem_nil, or_false] at h ⊢; omega)
                have hF_481 : F_478 g1 = .inl (cs 17, 700, .inl fv) := (hB1.2.2.2 g1 (by rw [hT_g1]; simp only [List.mem_cons, List.not_mem_nil, or_false]; omega)).trans hF_361
                have hF_482 : F_478 h0 = .inr (15, (.ref ta) :: (.int (nI zt)) :: (.int (nI zo_28)) :: (.int (nI ze)) :: (.ref ou) :: (.ref so) :: (.ref ad) :: (.ref na) :: (.ref va) :: (.ref lc) :: (.ref dm) :: (.int (nI fm)) :: (.int (nI sn)) :: (.ref tg) :: (.int v14_29) :: (.int v15_30) :: (.ref pe) :: (.int v17_31) :: (.int v18_32) :: (.int v19_33) :: (.int v20_34) :: (.int v21_35) :: (.int v22_36) :: (.ref ml) :: (.ref bg) :: (.ref co) :: (.ref sp) :: (.ref nb0) :: (.ref nb1) :: (.ref nb2) :: (.int (nI nf)) :: (.int (nI bd)) :: (.int (nI mm)) :: (.int v33_37) :: (.ref pl) :: (.ref se) :: (.ref ke) :: (.ref wi) :: (.ref hs) :: (.ref mo) :: (.ref po) :: (.ref nu) :: (.ref pr) :: (.ref sq) :: (.ref xa) :: (.ref sa) :: (.ref n64) :: (.ref m64) :: (.ref ex) :: (.ref wh) :: (.ref sd) :: (.ref tk) :: (.int v52_38) :: (.int v53_39) :: (.int v54_40) :: (.ref hd) :: (.ref ak) :: (.ref ho) :: (.ref ot) :: []) := (hB1.2.2.2 h0 (by rw [hT_h0]; simp)).trans hF_362
                have hF_483 : F_478 lc = .inr (14, [.ref r_1, .int (nI zl)]) := (hB1.2.2.2 lc (by rw [ht_59]; simp)).trans hF_363
                have hF_484 : F_478 r_1 = .inl (cs 17, 30, .inl fcl) := (hB1.2.2.2 r_1 (by rw [ht_61]; simp)).trans hF_364
                have hF_485 : F_478 dm = .inr (14, [.ref r_2, .int (nI zm)]) := (hB1.2.2.2 dm (by rw [ht_64]; simp)).trans hF_365
                have hF_486 : F_478 r_2 = .inl (cs 17, 60, .inl fcm) := (hB1.2.2.2 r_2 (by rw [ht_66]; simp)).trans hF_366
                have hF_487 : F_478 dd = .inr (14, [.ref rd, .int (nI zd)]) := (hB1.2.2.2 dd (by rw [hT_dd]; simp only [List.mem_cons, List.not_mem_nil, or_false]; omega)).trans hF_367
                have hF_488 : F_478 rd = .inl (cs 17, nd, .inl fcd) := (hB1.2.2.2 rd (by rw [ht_56]; simp only [List.mem_cons, List.not_mem_nil, or_false]; omega)).trans hF_368
                have hF_489 : F_478 g2 = .inr (14, [.ref r2, .int (nI y)]) := (hB1.2.2.2 g2 (by rw [hT_g2]; simp only [List.mem_cons, List.not_mem_nil, or_false]; omega)).trans he1
                have hF_490 : F_478 r2 = .inl (cs 17, 61, .inl fi) := (hB1.2.2.2 r2 (by rw [ht_51]; simp only [List.mem_cons, List.not_mem_nil, or_false]; omega)).trans he2
                generalize H1 = H at hP hS ⊢
                have hW_491 := src_one he5 (show 48 + (ocN (nI fm) (shv mq)) / 100 < 128 by omega)
                refine lv_iload hx hb dX15_macroValue_243 (lv_at hl 0 rfl) ?_
                refine lv_bipush (v := 9) hx hb dX15_macroValue_245 (by decide) ?_
                refine lv_icmp_le (tgt := 268) hx hb dX15_macroValue_247 (by decide) (fun c_492 => ?_) (fun c_492 => ?_)
                ·
                  have hi_493 : (ocN (nI fm) (shv mq)) ≤ 9 := (nI_leI (a := (ocN (nI fm) (shv mq))) (b := 9) (by omega) (by omega)).mp c_492
                  have hl10 : (ocN (nI fm) (shv mq)) < 10 := by omega
                  refine lv_aload_n hx hb dX15_macroValue_268 rfl (lv_at hl 6 rfl) ?_
                  refine pg_get (ci := 15) (v := .ref pe) (C := RX15) (T := TX15) (N := 59) hx hb hts it_15 hown hK hP hL_h0 hF_482 rfl 16 (by decide) (hts _ kt_1132) (fun _ h9 => h9) rfl dX15_macroValue_269 ?_
                  refine lv_bipush (v := 48) hx hb dX15_macroValue_272 (by decide) ?_
                  refine lv_iload hx hb dX15_macroValue_274 (lv_at hl 0 rfl) ?_
                  refine lv_bipush (v := 10) hx hb dX15_macroValue_276 (by decide) ?_
                  refine lv_irem hx hb dX15_macroValue_278 (by decide) ?_
                  refine lv_topi (fun x_494 ex_494 => ?_)
                  obtain rfl : x_494 = (nI ((ocN (nI fm) (shv mq)) % 10)) := ex_494.trans (pk_rem (a := (ocN (nI fm) (shv mq))) (d := 10) (by omega) (by omega) (by omega))
                  refine lv_iadd hx hb dX15_macroValue_279 ?_
                  refine lv_topi (fun x_495 ex_495 => ?_)
                  obtain rfl : x_495 = (nI (48 + (ocN (nI fm) (shv mq)) % 10)) := ex_495.trans (nI_add 48 ((ocN (nI fm) (shv mq)) % 10))
                  have hFc := pg_free hD hS hA
                  refine va_callv (va_runV (As := [.int (nI (48 + (ocN (nI fm) (shv mq)) % 10))]) (rest := []) ⟨hx, hb, hml, hown, hts⟩ (s_X14_add_8 l dC dI cs ty gm L H.size F_478 pe (ρ + 7) rp 100 (zz2 + 1) (48 + (ocN (nI fm) (shv mq)) % 10) (upd fz2 zz2 (nI (48 + (ocN (nI fm) (shv mq)) / 100))) hW hL_pe hT_pe hq_479 hq_480 (by omega) (by omega)) ⟨callB_of 1 hts (gi kt_711) rfl rfl rfl (hts _ kt_676) (hts _ kt_712) (by decide +kernel) ⟨Nat.le_of_ble_eq_true rfl, Nat.le_of_ble_eq_true rfl⟩, (hts _ kt_713), (hts _ kt_714)⟩ ⟨fun a U g mk q => ⟨q.1, PTm.calling q.2⟩, pg_recv hK hP hL_pe hq_479 (q := (RX14, TX14, 2)) rfl, fun U hU hWm => ⟨rfl, PTm.mk hU hWm hP hK hD hE hO⟩⟩ rfl rfl hl.1 rfl (lv_room (Nat.le_of_ble_eq_true rfl)) dX15_macroValue_280 ⟨by show _ + 0 ≤ 0; omega, by show _ + 0 ≤ 0; omega⟩) hS (fun q _ h => hFc q h) hFc (fun u t H1 locs ht hvm hw hB hz1 hk1 hS => ?_)
                  obtain ⟨F_497, hB1, hq_498, hq_499⟩ := hB
                  obtain ⟨hP, hD, hO, hR⟩ := QTm.back hB1 ht hFc hR (fun q h => by simp only [List.mem_cons, List.not_mem_nil, or_false] at h ⊢; omega)
                  have hF_500 : F_497 g1 = .inl (cs 17, 700, .inl fv) := (hB1.2.2.2 g1 (by rw [hT_g1]; simp only [List.mem_cons, List.not_mem_nil, or_false]; omega)).trans hF_481
                  have hF_501 : F_497 h0 = .inr (15, (.ref ta) :: (.int (nI zt)) :: (.int (nI zo_28)) :: (.int (nI ze)) :: (.ref ou) :: (.ref so) :: (.ref ad) :: (.ref na) :: (.ref va) :: (.ref lc) :: (.ref dm) :: (.int (nI fm)) :: (.int (nI sn)) :: (.ref tg) :: (.int v14_29) :: (.int v15_30) :: (.ref pe) :: (.int v17_31) :: (.int v18_32) :: (.int v19_33) :: (.int v20_34) :: (.int v21_35) :: (.int v22_36) :: (.ref ml) :: (.ref bg) :: (.ref co) :: (.ref sp) :: (.ref nb0) :: (.ref nb1) :: (.ref nb2) :: (.int (nI nf)) :: (.int (nI bd)) :: (.int (nI mm)) :: (.int v33_37) :: (.ref pl) :: (.ref se) :: (.ref ke) :: (.ref wi) :: (.ref hs) :: (.ref mo) :: (.ref po) :: (.ref nu) :: (.ref pr) :: (.ref sq) :: (.ref xa) :: (.ref sa) :: (.ref n64) :: (.ref m64) :: (.ref ex) :: (.ref wh) :: (.ref sd) :: (.ref tk) :: (.int v52_38) :: (.int v53_39) :: (.int v54_40) :: (.ref hd) :: (.ref ak) :: (.ref ho) :: (.ref ot) :: []) := (hB1.2.2.2 h0 (by rw [hT_h0]; simp)).trans hF_482
                  have hF_502 : F_497 lc = .inr (14, [.ref r_1, .int (nI zl)]) := (hB1.2.2.2 lc (by rw [ht_59]; simp)).trans hF_483
                  have hF_503 : F_497 r_1 = .inl (cs 17, 30, .inl fcl) := (hB1.2.2.2 r_1 (by rw [ht_61]; simp)).trans hF_484
                  have hF_504 : F_497 dm = .inr (14, [.ref r_2, .int (nI zm)]) := (hB1.2.2.2 dm (by rw [ht_64]; simp)).trans hF_485
                  have hF_505 : F_497 r_2 = .inl (cs 17, 60, .inl fcm) := (hB1.2.2.2 r_2 (by rw [ht_66]; simp)).trans hF_486
                  have hF_506 : F_497 dd = .inr (14, [.ref rd, .int (nI zd)]) := (hB1.2.2.2 dd (by rw [hT_dd]; simp only [List.mem_cons, List.not_mem_nil, or_false]; omega)).trans hF_487
                  have hF_507 : F_497 rd = .inl (cs 17, nd, .inl fcd) := (hB1.2.2.2 rd (by rw [ht_56]; simp only [List.mem_cons, List.not_mem_nil, or_false]; omega)).trans hF_488
                  have hF_508 : F_497 g2 = .inr (14, [.ref r2, .int (nI y)]) := (hB1.2.2.2 g2 (by rw [hT_g2]; simp only [List.mem_cons, List.not_mem_nil, or_false]; omega)).trans hF_489
                  have hF_509 : F_497 r2 = .inl (cs 17, 61, .inl fi) := (hB1.2.2.2 r2 (by rw [ht_51]; simp only [List.mem_cons, List.not_mem_nil, or_false]; omega)).trans hF_490
                  generalize H1 = H at hP hS ⊢
                  have hW_510 := src_one hW_491 (show 48 + (ocN (nI fm) (shv mq)) % 10 < 128 by omega)
                  refine lv_iload hx hb dX15_macroValue_283 (lv_at hl 1 rfl) ?_
                  refine lv_if_le (tgt := 297) hx hb dX15_macroValue_285 (by decide) (fun c_511 => ?_) (fun c_511 => ?_)
                  ·
                    have hk33 : ¬ mq < 3 := by have h9 := c_511; rw [sv_shv mq (by omega)] at h9; exact (shv_le (by omega)).mp h9
                    refine lv_iinc (v := (sv (mq + 1))) (lv' := [(10, .int (sv (mq + 1))), (11, .int (nI (ocN (nI fm) (shv mq)))), (9, .int (trW ((TC fv z) (tt - 1)))), (8, .int (nI nn)), (7, .int 0), (6, .int (nI ((TC fv z) a))), (0, .ref h0), (1, .ref g1), (2, .int (nI a)), (3, .int (nI tt)), (4, .ref dd), (5, .ref g2)]) hx hb dX15_macroValue_297 hl (k := 1) rfl (sv_n mq hm4) (by decide) rfl (fun ls hl => ?_)
                    refine lv_goto (tgt := 196) hx hb dX15_macroValue_300 (by decide) ?_
                    refine W.widen (k := 0) (n := 0) (by omega) (by omega) ?_
                    exact ih_360 ((mq + 1), (zz2 + 2), (upd (upd fz2 zz2 (nI (48 + (ocN (nI fm) (shv mq)) / 100))) (zz2 + 1) (nI (48 + (ocN (nI fm) (shv mq)) % 10))), ((W2 ++ [48 + (ocN (nI fm) (shv mq)) / 100]) ++ [48 + (ocN (nI fm) (shv mq)) % 10])) F_497 (⟨by omega, ⟨hF_508, hF_509, hq_498, hq_499, hW_510⟩, Or.inl ⟨hl5, by rw [hw2]; show _ = qdP (nI fm) mq ++ (dgL (ocN (nI fm) (shv mq)) ++ (if mq < 3 then [46] else [])); unfold dgL; rw [if_neg hl100, if_pos hl10, if_neg hk33]; simp only [List.append_assoc, List.nil_append, List.append_nil]⟩⟩) (by show 4 - (mq + 1) < 4 - mq; omega) hO hR _ _ hP hD hS ls (lv_sub hl [0, 2, 3, 4, 5, 6, 7, 8, 9, 10, 11] rfl)
                  ·
                    have hk33 : mq < 3 := Classical.byContradiction (fun q => c_511 (by rw [sv_shv mq (by omega)]; exact (shv_le (by omega)).mpr q))
                    refine lv_aload_n hx hb dX15_macroValue_288 rfl (lv_at hl 6 rfl) ?_
                    refine pg_get (ci := 15) (v := .ref pe) (C := RX15) (T := TX15) (N := 59) hx hb hts it_15 hown hK hP hL_h0 hF_501 rfl 16 (by decide) (hts _ kt_1132) (fun _ h9 => h9) rfl dX15_macroValue_289 ?_
                    refine lv_bipush (v := 46) hx hb dX15_macroValue_292 (by decide) ?_
                    refine W.eq (g2 := F0 m 294 ls [.int (nI 46), .ref pe]) rfl ?_
                    have hFc := pg_free hD hS hA
                    refine va_callv (va_runV (As := [.int (nI 46)]) (rest := []) ⟨hx, hb, hml, hown, hts⟩ (s_X14_add_8 l dC dI cs ty gm L H.size F_497 pe (ρ + 7) rp 100 (zz2 + 2) 46 (upd (upd fz2 zz2 (nI (48 + (ocN (nI fm) (shv mq)) / 100))) (zz2 + 1) (nI (48 + (ocN (nI fm) (shv mq)) % 10))) hW hL_pe hT_pe hq_498 hq_499 (by omega) (by omega)) ⟨callB_of 1 hts (gi kt_711) rfl rfl rfl (hts _ kt_676) (hts _ kt_712) (by decide +kernel) ⟨Nat.le_of_ble_eq_true rfl, Nat.le_of_ble_eq_true rfl⟩, (hts _ kt_713), (hts _ kt_714)⟩ ⟨fun a U g mk q => ⟨q.1, PTm.calling q.2⟩, pg_recv hK hP hL_pe hq_498 (q := (RX14, TX14, 2)) rfl, fun U hU hWm => ⟨rfl, PTm.mk hU hWm hP hK hD hE hO⟩⟩ rfl rfl hl.1 rfl (lv_room (Nat.le_of_ble_eq_true rfl)) dX15_macroValue_294 ⟨by show _ + 0 ≤ 0; omega, by show _ + 0 ≤ 0; omega⟩) hS (fun q _ h => hFc q h) hFc (fun u t H1 locs ht hvm hw hB hz1 hk1 hS => ?_)
                    obtain ⟨F_513, hB1, hq_514, hq_515⟩ := hB
                    obtain ⟨hP, hD, hO, hR⟩ := QTm.back hB1 ht hFc hR (fun q h => by simp only [List.mem_cons, List.not_mem_nil, or_false] at h ⊢; omega)
                    have hF_516 : F_513 g1 = .inl (cs 17, 700, .inl fv) := (hB1.2.2.2 g1 (by rw [hT_g1]; simp only [List.mem_cons, List.not_mem_nil, or_false]; omega)).trans hF_500
                    have hF_517 : F_513 h0 = .inr (15, (.ref ta) :: (.int (nI zt)) :: (.int (nI zo_28)) :: (.int (nI ze)) :: (.ref ou) :: (.ref so) :: (.ref ad) :: (.ref na) :: (.ref va) :: (.ref lc) :: (.ref dm) :: (.int (nI fm)) :: (.int (nI sn)) :: (.ref tg) :: (.int v14_29) :: (.int v15_30) :: (.ref pe) :: (.int v17_31) :: (.int v18_32) :: (.int v19_33) :: (.int v20_34) :: (.int v21_35) :: (.int v22_36) :: (.ref ml) :: (.ref bg) :: (.ref co) :: (.ref sp) :: (.ref nb0) :: (.ref nb1) :: (.ref nb2) :: (.int (nI nf)) :: (.int (nI bd)) :: (.int (nI mm)) :: (.int v33_37) :: (.ref pl) :: (.ref se) :: (.ref ke) :: (.ref wi) :: (.ref hs) :: (.ref mo) :: (.ref po) :: (.ref nu) :: (.ref pr) :: (.ref sq) :: (.ref xa) :: (.ref sa) :: (.ref n64) :: (.ref m64) :: (.ref ex) :: (.ref wh) :: (.ref sd) :: (.ref tk) :: (.int v52_38) :: (.int v53_39) :: (.int v54_40) :: (.ref hd) :: (.ref ak) :: (.ref ho) :: (.ref ot) :: []) := (hB1.2.2.2 h0 (by rw [hT_h0]; simp)).trans hF_501
                    have hF_518 : F_513 lc = .inr (14, [.ref r_1, .int (nI zl)]) := (hB1.2.2.2 lc (by rw [ht_59]; simp)).trans hF_502
                    have hF_519 : F_513 r_1 = .inl (cs 17, 30, .inl fcl) := (hB1.2.2.2 r_1 (by rw [ht_61]; simp)).trans hF_503
                    have hF_520 : F_513 dm = .inr (14, [.ref r_2, .int (nI zm)]) := (hB1.2.2.2 dm (by rw [ht_64]; simp)).trans hF_504
                    have hF_521 : F_513 r_2 = .inl (cs 17, 60, .inl fcm) := (hB1.2.2.2 r_2 (by rw [ht_66]; simp)).trans hF_505
                    have hF_522 : F_513 dd = .inr (14, [.ref rd, .int (nI zd)]) := (hB1.2.2.2 dd (by rw [hT_dd]; simp only [List.mem_cons, List.not_mem_nil, or_false]; omega)).trans hF_506
                    have hF_523 : F_513 rd = .inl (cs 17, nd, .inl fcd) := (hB1.2.2.2 rd (by rw [ht_56]; simp only [List.mem_cons, List.not_mem_nil, or_false]; omega)).trans hF_507
                    have hF_524 : F_513 g2 = .inr (14, [.ref r2, .int (nI y)]) := (hB1.2.2.2 g2 (by rw [hT_g2]; simp only [List.mem_cons, List.not_mem_nil, or_false]; omega)).trans hF_508
                    have hF_525 : F_513 r2 = .inl (cs 17, 61, .inl fi) := (hB1.2.2.2 r2 (by rw [ht_51]; simp only [List.mem_cons, List.not_mem_nil, or_false]; omega)).trans hF_509
                    generalize H1 = H at hP hS ⊢
                    have hW_526 := src_one hW_510 (show 46 < 128 by omega)
                    refine lv_iinc (v := (sv (mq + 1))) (lv' := [(10, .int (sv (mq + 1))), (11, .int (nI (ocN (nI fm) (shv mq)))), (9, .int (trW ((TC fv z) (tt - 1)))), (8, .int (nI nn)), (7, .int 0), (6, .int (nI ((TC fv z) a))), (0, .ref h0), (1, .ref g1), (2, .int (nI a)), (3, .int (nI tt)), (4, .ref dd), (5, .ref g2)]) hx hb dX15_macroValue_297 hl (k := 1) rfl (sv_n mq hm4) (by decide) rfl (fun ls hl => ?_)
                    refine lv_goto (tgt := 196) hx hb dX15_macroValue_300 (by decide) ?_
                    refine W.widen (k := 0) (n := 0) (by omega) (by omega) ?_
                    exact ih_360 ((mq + 1), (zz2 + 3), (upd (upd (upd fz2 zz2 (nI (48 + (ocN (nI fm) (shv mq)) / 100))) (zz2 + 1) (nI (48 + (ocN (nI fm) (shv mq)) % 10))) (zz2 + 2) (nI 46)), (((W2 ++ [48 + (ocN (nI fm) (shv mq)) / 100]) ++ [48 + (ocN (nI fm) (shv mq)) % 10]) ++ [46])) F_513 (⟨by omega, ⟨hF_524, hF_525, hq_514, hq_515, hW_526⟩, Or.inl ⟨hl5, by rw [hw2]; show _ = qdP (nI fm) mq ++ (dgL (ocN (nI fm) (shv mq)) ++ (if mq < 3 then [46] else [])); unfold dgL; rw [if_neg hl100, if_pos hl10, if_pos hk33]; simp only [List.append_assoc, List.nil_append, List.append_nil]⟩⟩) (by show 4 - (mq + 1) < 4 - mq; omega) hO hR _ _ hP hD hS ls (lv_sub hl [0, 2, 3, 4, 5, 6, 7, 8, 9, 10, 11] rfl)
                ·
                  have hi_527 : 9 < (ocN (nI fm) (shv mq)) := Nat.not_le.mp (fun q => c_492 ((nI_leI (a := (ocN (nI fm) (shv mq))) (b := 9) (by omega) (by omega)).mpr q))
                  have hl10 : ¬ (ocN (nI fm) (shv mq)) < 10 := by omega
                  refine lv_aload_n hx hb dX15_macroValue_250 rfl (lv_at hl 6 rfl) ?_
                  refine pg_get (ci := 15) (v := .ref pe) (C := RX15) (T := TX15) (N := 59) hx hb hts it_15 hown hK hP hL_h0 hF_482 rfl 16 (by decide) (hts _ kt_1132) (fun _ h9 => h9) rfl dX15_macroValue_251 ?_
                  refine lv_bipush (v := 48) hx hb dX15_macroValue_254 (by decide) ?_
                  refine lv_iload hx hb dX15_macroValue_256 (lv_at hl 0 rfl) ?_
                  refine lv_bipush (v := 10) hx hb dX15_macroValue_258 (by decide) ?_
                  refine lv_idiv hx hb dX15_macroValue_260 (by decide) ?_
                  refine lv_topi (fun x_528 ex_528 => ?_)
                  obtain rfl : x_528 = (nI ((ocN (nI fm) (shv mq)) / 10)) := ex_528.trans (pk_div (d := 10) (by omega) (by omega) (by omega))
                  refine lv_bipush (v := 10) hx hb dX15_macroValue_261 (by decide) ?_
                  refine lv_irem hx hb dX15_macroValue_263 (by decide) ?_
                  refine lv_topi (fun x_529 ex_529 => ?_)
                  obtain rfl : x_529 = (nI ((ocN (nI fm) (shv mq)) / 10 % 10)) := ex_529.trans (pk_rem (a := (ocN (nI fm) (shv mq)) / 10) (d := 10) (by omega) (by omega) (by omega))
                  refine lv_iadd hx hb dX15_macroValue_264 ?_
                  refine lv_topi (fun x_530 ex_530 => ?_)
                  obtain rfl : x_530 = (nI (48 + (ocN (nI fm) (shv mq)) / 10 % 10)) := ex_530.trans (nI_add 48 ((ocN (nI fm) (shv mq)) / 10 % 10))
                  have hFc := pg_free hD hS hA
                  refine va_callv (va_runV (As := [.int (nI (48 + (ocN (nI fm) (shv mq)) / 10 % 10))]) (rest := []) ⟨hx, hb, hml, hown, hts⟩ (s_X14_add_8 l dC dI cs ty gm L H.size F_478 pe (ρ + 7) rp 100 (zz2 + 1) (48 + (ocN (nI fm) (shv mq)) / 10 % 10) (upd fz2 zz2 (nI (48 + (ocN (nI fm) (shv mq)) / 100))) hW hL_pe hT_pe hq_479 hq_480 (by omega) (by omega)) ⟨callB_of 1 hts (gi kt_711) rfl rfl rfl (hts _ kt_676) (hts _ kt_712) (by decide +kernel) ⟨Nat.le_of_ble_eq_true rfl, Nat.le_of_ble_eq_true rfl⟩, (hts _ kt_713), (hts _ kt_714)⟩ ⟨fun a U g mk q => ⟨q.1, PTm.calling q.2⟩, pg_recv hK hP hL_pe hq_479 (q := (RX14, TX14, 2)) rfl, fun U hU hWm => ⟨rfl, PTm.mk hU hWm hP hK hD hE hO⟩⟩ rfl rfl hl.1 rfl (lv_room (Nat.le_of_ble_eq_true rfl)) dX15_macroValue_265 ⟨by show _ + 0 ≤ 0; omega, by show _ + 0 ≤ 0; omega⟩) hS (fun q _ h => hFc q h) hFc (fun u t H1 locs ht hvm hw hB hz1 hk1 hS => ?_)
                  obtain ⟨F_532, hB1, hq_533, hq_534⟩ := hB
                  obtain ⟨hP, hD, hO, hR⟩ := QTm.back hB1 ht hFc hR (fun q h => by simp only [List.mem_cons, List.not_mem_nil, or_false] at h ⊢; omega)
                  have hF_535 : F_532 g1 = .inl (cs 17, 700, .inl fv) := (hB1.2.2.2 g1 (by rw [hT_g1]; simp only [List.mem_cons, List.not_mem_nil, or_false]; omega)).trans hF_481
                  have hF_536 : F_532 h0 = .inr (15, (.ref ta) :: (.int (nI zt)) :: (.int (nI zo_28)) :: (.int (nI ze)) :: (.ref ou) :: (.ref so) :: (.ref ad) :: (.ref na) :: (.ref va) :: (.ref lc) :: (.ref dm) :: (.int (nI fm)) :: (.int (nI sn)) :: (.ref tg) :: (.int v14_29) :: (.int v15_30) :: (.ref pe) :: (.int v17_31) :: (.int v18_32) :: (.int v19_33) :: (.int v20_34) :: (.int v21_35) :: (.int v22_36) :: (.ref ml) :: (.ref bg) :: (.ref co) :: (.ref sp) :: (.ref nb0) :: (.ref nb1) :: (.ref nb2) :: (.int (nI nf)) :: (.int (nI bd)) :: (.int (nI mm)) :: (.int v33_37) :: (.ref pl) :: (.ref se) :: (.ref ke) :: (.ref wi) :: (.ref hs) :: (.ref mo) :: (.ref po) :: (.ref nu) :: (.ref pr) :: (.ref sq) :: (.ref xa) :: (.ref sa) :: (.ref n64) :: (.ref m64) :: (.ref ex) :: (.ref wh) :: (.ref sd) :: (.ref tk) :: (.int v52_38) :: (.int v53_39) :: (.int v54_40) :: (.ref hd) :: (.ref ak) :: (.ref ho) :: (.ref ot) :: []) := (hB1.2.2.2 h0 (by rw [hT_h0]; simp)).trans hF_482
                  have hF_537 : F_532 lc = .inr (14, [.ref r_1, .int (nI zl)]) := (hB1.2.2.2 lc (by rw [ht_59]; simp)).trans hF_483
                  have hF_538 : F_532 r_1 = .inl (cs 17, 30, .inl fcl) := (hB1.2.2.2 r_1 (by rw [ht_61]; simp)).trans hF_484
                  have hF_539 : F_532 dm = .inr (14, [.ref r_2, .int (nI zm)]) := (hB1.2.2.2 dm (by rw [ht_64]; simp)).trans hF_485
                  have hF_540 : F_532 r_2 = .inl (cs 17, 60, .inl fcm) := (hB1.2.2.2 r_2 (by rw [ht_66]; simp)).trans hF_486
                  have hF_541 : F_532 dd = .inr (14, [.ref rd, .int (nI zd)]) := (hB1.2.2.2 dd (by rw [hT_dd]; simp only [List.mem_cons, List.not_mem_nil, or_false]; omega)).trans hF_487
                  have hF_542 : F_532 rd = .inl (cs 17, nd, .inl fcd) := (hB1.2.2.2 rd (by rw [ht_56]; simp only [List.mem_cons, List.not_mem_nil, or_false]; omega)).trans hF_488
                  have hF_543 : F_532 g2 = .inr (14, [.ref r2, .int (nI y)]) := (hB1.2.2.2 g2 (by rw [hT_g2]; simp only [List.mem_cons, List.not_mem_nil, or_false]; omega)).trans hF_489
                  have hF_544 : F_532 r2 = .inl (cs 17, 61, .inl fi) := (hB1.2.2.2 r2 (by rw [ht_51]; simp only [List.mem_cons, List.not_mem_nil, or_false]; omega)).trans hF_490
                  generalize H1 = H at hP hS ⊢
                  have hW_545 := src_one hW_491 (show 48 + (ocN (nI fm) (shv mq)) / 10 % 10 < 128 by omega)
                  refine lv_aload_n hx hb dX15_macroValue_268 rfl (lv_at hl 6 rfl) ?_
                  refine pg_get (ci := 15) (v := .ref pe) (C := RX15) (T := TX15) (N := 59) hx hb hts it_15 hown hK hP hL_h0 hF_536 rfl 16 (by decide) (hts _ kt_1132) (fun _ h9 => h9) rfl dX15_macroValue_269 ?_
                  refine lv_bipush (v := 48) hx hb dX15_macroValue_272 (by decide) ?_
                  refine lv_iload hx hb dX15_macroValue_274 (lv_at hl 0 rfl) ?_
                  refine lv_bipush (v := 10) hx hb dX15_macroValue_276 (by decide) ?_
                  refine lv_irem hx hb dX15_macroValue_278 (by decide) ?_
                  refine lv_topi (fun x_546 ex_546 => ?_)
                  obtain rfl : x_546 = (nI ((ocN (nI fm) (shv mq)) % 10)) := ex_546.trans (pk_rem (a := (ocN (nI fm) (shv mq))) (d := 10) (by omega) (by omega) (by omega))
                  refine lv_iadd hx hb dX15_macroValue_279 ?_
                  refine lv_topi (fun x_547 ex_547 => ?_)
                  obtain rfl : x_547 = (nI (48 + (ocN (nI fm) (shv mq)) % 10)) := ex_547.trans (nI_add 48 ((ocN (nI fm) (shv mq)) % 10))
                  have hFc := pg_free hD hS hA
                  refine va_callv (va_runV (As := [.int (nI (48 + (ocN (nI fm) (shv mq)) % 10))]) (rest := []) ⟨hx, hb, hml, hown, hts⟩ (s_X14_add_8 l dC dI cs ty gm L H.size F_532 pe (ρ + 7) rp 100 (zz2 + 2) (48 + (ocN (nI fm) (shv mq)) % 10) (upd (upd fz2 zz2 (nI (48 + (ocN (nI fm) (shv mq)) / 100))) (zz2 + 1) (nI (48 + (ocN (nI fm) (shv mq)) / 10 % 10))) hW hL_pe hT_pe hq_533 hq_534 (by omega) (by omega)) ⟨callB_of 1 hts (gi kt_711) rfl rfl rfl (hts _ kt_676) (hts _ kt_712) (by decide +kernel) ⟨Nat.le_of_ble_eq_true rfl, Nat.le_of_ble_eq_true rfl⟩, (hts _ kt_713), (hts _ kt_714)⟩ ⟨fun a U g mk q => ⟨q.1, PTm.calling q.2⟩, pg_recv hK hP hL_pe hq_533 (q := (RX14, TX14, 2)) rfl, fun U hU hWm => ⟨rfl, PTm.mk hU hWm hP hK hD hE hO⟩⟩ rfl rfl hl.1 rfl (lv_room (Nat.le_of_ble_eq_true rfl)) dX15_macroValue_280 ⟨by show _ + 0 ≤ 0; omega, by show _ + 0 ≤ 0; omega⟩) hS (fun q _ h => hFc q h) hFc (fun u t H1 locs ht hvm hw hB hz1 hk1 hS => ?_)
                  obtain ⟨F_549, hB1, hq_550, hq_551⟩ := hB
                  obtain ⟨hP, hD, hO, hR⟩ := QTm.back hB1 ht hFc hR (fun q h => by simp only [List.mem_cons, List.not_mem_nil, or_false] at h ⊢; omega)
                  have hF_552 : F_549 g1 = .inl (cs 17, 700, .inl fv) := (hB1.2.2.2 g1 (by rw [hT_g1]; simp only [List.mem_cons, List.not_mem_nil, or_false]; omega)).trans hF_535
                  have hF_553 : F_549 h0 = .inr (15, (.ref ta) :: (.int (nI zt)) :: (.int (nI zo_28)) :: (.int (nI ze)) :: (.ref ou) :: (.ref so) :: (.ref ad) :: (.ref na) :: (.ref va) :: (.ref lc) :: (.ref dm) :: (.int (nI fm)) :: (.int (nI sn)) :: (.ref tg) :: (.int v14_29) :: (.int v15_30) :: (.ref pe) :: (.int v17_31) :: (.int v18_32) :: (.int v19_33) :: (.int v20_34) :: (.int v21_35) :: (.int v22_36) :: (.ref ml) :: (.ref bg) :: (.ref co) :: (.ref sp) :: (.ref nb0) :: (.ref nb1) :: (.ref nb2) :: (.int (nI nf)) :: (.int (nI bd)) :: (.int (nI mm)) :: (.int v33_37) :: (.ref pl) :: (.ref se) :: (.ref ke) :: (.ref wi) :: (.ref hs) :: (.ref mo) :: (.ref po) :: (.ref nu) :: (.ref pr) :: (.ref sq) :: (.ref xa) :: (.ref sa) :: (.ref n64) :: (.ref m64) :: (.ref ex) :: (.ref wh) :: (.ref sd) :: (.ref tk) :: (.int v52_38) :: (.int v53_39) :: (.int v54_40) :: (.ref hd) :: (.ref ak) :: (.ref ho) :: (.ref ot) :: []) := (hB1.2.2.2 h0 (by rw [hT_h0]; simp)).trans hF_536
                  have hF_554 : F_549 lc = .inr (14, [.ref r_1, .int (nI zl)]) := (hB1.2.2.2 lc (by rw [ht_59]; simp)).trans hF_537
                  have hF_555 : F_549 r_1 = .inl (cs 17, 30, .inl fcl) := (hB1.2.2.2 r_1 (by rw [ht_61]; simp)).trans hF_538
                  have hF_556 : F_549 dm = .inr (14, [.ref r_2, .int (nI zm)]) := (hB1.2.2.2 dm (by rw [ht_64]; simp)).trans hF_539
                  have hF_557 : F_549 r_2 = .inl (cs 17, 60, .inl fcm) := (hB1.2.2.2 r_2 (by rw [ht_66]; simp)).trans hF_540
                  have hF_558 : F_549 dd = .inr (14, [.ref rd, .int (nI zd)]) := (hB1.2.2.2 dd (by rw [hT_dd]; simp only [List.mem_cons, List.not_mem_nil, or_false]; omega)).trans hF_541
                  have hF_559 : F_549 rd = .inl (cs 17, nd, .inl fcd) := (hB1.2.2.2 rd (by rw [ht_56]; simp only [List.mem_cons, List.not_mem_nil, or_false]; omega)).trans hF_542
                  have hF_560 : F_549 g2 = .inr (14, [.ref r2, .int (nI y)]) := (hB1.2.2.2 g2 (by rw [hT_g2]; simp only [List.mem_cons, List.not_mem_nil, or_false]; omega)).trans hF_543
                  have hF_561 : F_549 r2 = .inl (cs 17, 61, .inl fi) := (hB1.2.2.2 r2 (by rw [ht_51]; simp only [List.mem_cons, List.not_mem_nil, or_false]; omega)).trans hF_544
                  generalize H1 = H at hP hS ⊢
                  have hW_562 := src_one hW_545 (show 48 + (ocN (nI fm) (shv mq)) % 10 < 128 by omega)
                  refine lv_iload hx hb dX15_macroValue_283 (lv_at hl 1 rfl) ?_
                  refine lv_if_le (tgt := 297) hx hb dX15_macroValue_285 (by decide) (fun c_563 => ?_) (fun c_563 => ?_)
                  ·
                    have hk33 : ¬ mq < 3 := by have h9 := c_563; rw [sv_shv mq (by omega)] at h9; exact (shv_le (by omega)).mp h9
                    refine lv_iinc (v := (sv (mq + 1))) (lv' := [(10, .int (sv (mq + 1))), (11, .int (nI (ocN (nI fm) (shv mq)))), (9, .int (trW ((TC fv z) (tt - 1)))), (8, .int (nI nn)), (7, .int 0), (6, .int (nI ((TC fv z) a))), (0, .ref h0), (1, .ref g1), (2, .int (nI a)), (3, .int (nI tt)), (4, .ref dd), (5, .ref g2)]) hx hb dX15_macroValue_297 hl (k := 1) rfl (sv_n mq hm4) (by decide) rfl (fun ls hl => ?_)
                    refine lv_goto (tgt := 196) hx hb dX15_macroValue_300 (by decide) ?_
                    refine W.widen (k := 0) (n := 0) (by omega) (by omega) ?_
                    exact ih_360 ((mq + 1), (zz2 + 3), (upd (upd (upd fz2 zz2 (nI (48 + (ocN (nI fm) (shv mq)) / 100))) (zz2 + 1) (nI (48 + (ocN (nI fm) (shv mq)) / 10 % 10))) (zz2 + 2) (nI (48 + (ocN (nI fm) (shv mq)) % 10))), (((W2 ++ [48 + (ocN (nI fm) (shv mq)) / 100]) ++ [48 + (ocN (nI fm) (shv mq)) / 10 % 10]) ++ [48 + (ocN (nI fm) (shv mq)) % 10])) F_549 (⟨by omega, ⟨hF_560, hF_561, hq_550, hq_551, hW_562⟩, Or.inl ⟨hl5, by rw [hw2]; show _ = qdP (nI fm) mq ++ (dgL (ocN (nI fm) (shv mq)) ++ (if mq < 3 then [46] else [])); unfold dgL; rw [if_neg hl100, if_neg hl10, if_neg hk33]; simp only [List.append_assoc, List.nil_append, List.append_nil]⟩⟩) (by show 4 - (mq + 1) < 4 - mq; omega) hO hR _ _ hP hD hS ls (lv_sub hl [0, 2, 3, 4, 5, 6, 7, 8, 9, 10, 11] rfl)
                  ·
                    have hk33 : mq < 3 := Classical.byContradiction (fun q => c_563 (by rw [sv_shv mq (by omega)]; exact (shv_le (by omega)).mpr q))
                    refine lv_aload_n hx hb dX15_macroValue_288 rfl (lv_at hl 6 rfl) ?_
                    refine pg_get (ci := 15) (v := .ref pe) (C := RX15) (T := TX15) (N := 59) hx hb hts it_15 hown hK hP hL_h0 hF_553 rfl 16 (by decide) (hts _ kt_1132) (fun _ h9 => h9) rfl dX15_macroValue_289 ?_
                    refine lv_bipush (v := 46) hx hb dX15_macroValue_292 (by decide) ?_
                    refine W.eq (g2 := F0 m 294 ls [.int (nI 46), .ref pe]) rfl ?_
                    have hFc := pg_free hD hS hA
                    refine va_callv (va_runV (As := [.int (nI 46)]) (rest := []) ⟨hx, hb, hml, hown, hts⟩ (s_X14_add_8 l dC dI cs ty gm L H.size F_549 pe (ρ + 7) rp 100 (zz2 + 3) 46 (upd (upd (upd fz2 zz2 (nI (48 + (ocN (nI fm) (shv mq)) / 100))) (zz2 + 1) (nI (48 + (ocN (nI fm) (shv mq)) / 10 % 10))) (zz2 + 2) (nI (48 + (ocN (nI fm) (shv mq)) % 10))) hW hL_pe hT_pe hq_550 hq_551 (by omega) (by omega)) ⟨callB_of 1 hts (gi kt_711) rfl rfl rfl (hts _ kt_676) (hts _ kt_712) (by decide +kernel) ⟨Nat.le_of_ble_eq_true rfl, Nat.le_of_ble_eq_true rfl⟩, (hts _ kt_713), (hts _ kt_714)⟩ ⟨fun a U g mk q => ⟨q.1, PTm.calling q.2⟩, pg_recv hK hP hL_pe hq_550 (q := (RX14, TX14, 2)) rfl, fun U hU hWm => ⟨rfl, PTm.mk hU hWm hP hK hD hE hO⟩⟩ rfl rfl hl.1 rfl (lv_room (Nat.le_of_ble_eq_true rfl)) dX15_macroValue_294 ⟨by show _ + 0 ≤ 0; omega, by show _ + 0 ≤ 0; omega⟩) hS (fun q _ h => hFc q h) hFc (fun u t H1 locs ht hvm hw hB hz1 hk1 hS => ?_)
                    obtain ⟨F_565, hB1, hq_566, hq_567⟩ := hB
                    obtain ⟨hP, hD, hO, hR⟩ := QTm.back hB1 ht hFc hR (fun q h => by simp only [List.mem_cons, List.not_mem_nil, or_false] at h ⊢; omega)
                    have hF_568 : F_565 g1 = .inl (cs 17, 700, .inl fv) := (hB1.2.2.2 g1 (by rw [hT_g1]; simp only [List.mem_cons, List.not_mem_nil, or_false]; omega)).trans hF_552
                    have hF_569 : F_565 h0 = .inr (15, (.ref ta) :: (.int (nI zt)) :: (.int (nI zo_28)) :: (.int (nI ze)) :: (.ref ou) :: (.ref so) :: (.ref ad) :: (.ref na) :: (.ref va) :: (.ref lc) :: (.ref dm) :: (.int (nI fm)) :: (.int (nI sn)) :: (.ref tg) :: (.int v14_29) :: (.int v15_30) :: (.ref pe) :: (.int v17_31) :: (.int v18_32) :: (.int v19_33) :: (.int v20_34) :: (.int v21_35) :: (.int v22_36) :: (.ref ml) :: (.ref bg) :: (.ref co) :: (.ref sp) :: (.ref nb0) :: (.ref nb1) :: (.ref nb2) :: (.int (nI nf)) :: (.int (nI bd)) :: (.int (nI mm)) :: (.int v33_37) :: (.ref pl) :: (.ref se) :: (.ref ke) :: (.ref wi) :: (.ref hs) :: (.ref mo) :: (.ref po) :: (.ref nu) :: (.ref pr) :: (.ref sq) :: (.ref xa) :: (.ref sa) :: (.ref n64) :: (.ref m64) :: (.ref ex) :: (.ref wh) :: (.ref sd) :: (.ref tk) :: (.int v52_38) :: (.int v53_39) :: (.int v54_40) :: (.ref hd) :: (.ref ak) :: (.ref ho) :: (.ref ot) :: []) := (hB1.2.2.2 h0 (by rw [hT_h0]; simp)).trans hF_553
                    have hF_570 : F_565 lc = .inr (14, [.ref r_1, .int (nI zl)]) := (hB1.2.2.2 lc (by rw [ht_59]; simp)).trans hF_554
                    have hF_571 : F_565 r_1 = .inl (cs 17, 30, .inl fcl) := (hB1.2.2.2 r_1 (by rw [ht_61]; simp)).trans hF_555
                    have hF_572 : F_565 dm = .inr (14, [.ref r_2, .int (nI zm)]) := (hB1.2.2.2 dm (by rw [ht_64]; simp)).trans hF_556
                    have hF_573 : F_565 r_2 = .inl (cs 17, 60, .inl fcm) := (hB1.2.2.2 r_2 (by rw [ht_66]; simp)).trans hF_557
                    have hF_574 : F_565 dd = .inr (14, [.ref rd, .int (nI zd)]) := (hB1.2.2.2 dd (by rw [hT_dd]; simp only [List.mem_cons, List.not_mem_nil, or_false]; omega)).trans hF_558
                    have hF_575 : F_565 rd = .inl (cs 17, nd, .inl fcd) := (hB1.2.2.2 rd (by rw [ht_56]; simp only [List.mem_cons, List.not_mem_nil, or_false]; omega)).trans hF_559
                    have hF_576 : F_565 g2 = .inr (14, [.ref r2, .int (nI y)]) := (hB1.2.2.2 g2 (by rw [hT_g2]; simp only [List.mem_cons, List.not_mem_nil, or_false]; omega)).trans hF_560
                    have hF_577 : F_565 r2 = .inl (cs 17, 61, .inl fi) := (hB1.2.2.2 r2 (by rw [ht_51]; simp only [List.mem_cons, List.not_mem_nil, or_false]; omega)).trans hF_561
                    generalize H1 = H at hP hS ⊢
                    have hW_578 := src_one hW_562 (show 46 < 128 by omega)
                    refine lv_iinc (v := (sv (mq + 1))) (lv' := [(10, .int (sv (mq + 1))), (11, .int (nI (ocN (nI fm) (shv mq)))), (9, .int (trW ((TC fv z) (tt - 1)))), (8, .int (nI nn)), (7, .int 0), (6, .int (nI ((TC fv z) a))), (0, .ref h0), (1, .ref g1), (2, .int (nI a)), (3, .int (nI tt)), (4, .ref dd), (5, .ref g2)]) hx hb dX15_macroValue_297 hl (k := 1) rfl (sv_n mq hm4) (by decide) rfl (fun ls hl => ?_)
                    refine lv_goto (tgt := 196) hx hb dX15_macroValue_300 (by decide) ?_
                    refine W.widen (k := 0) (n := 0) (by omega) (by omega) ?_
                    exact ih_360 ((mq + 1), (zz2 + 4), (upd (upd (upd (upd fz2 zz2 (nI (48 + (ocN (nI fm) (shv mq)) / 100))) (zz2 + 1) (nI (48 + (ocN (nI fm) (shv mq)) / 10 % 10))) (zz2 + 2) (nI (48 + (ocN (nI fm) (shv mq)) % 10))) (zz2 + 3) (nI 46)), ((((W2 ++ [48 + (ocN (nI fm) (shv mq)) / 100]) ++ [48 + (ocN (nI fm) (shv mq)) / 10 % 10]) ++ [48 + (ocN (nI fm) (shv mq)) % 10]) ++ [46])) F_565 (⟨by omega, ⟨hF_576, hF_577, hq_566, hq_567, hW_578⟩, Or.inl ⟨hl5, by rw [hw2]; show _ = qdP (nI fm) mq ++ (dgL (ocN (nI fm) (shv mq)) ++ (if mq < 3 then [46] else [])); unfold dgL; rw [if_neg hl100, if_neg hl10, if_pos hk33]; simp only [List.append_assoc, List.nil_append, List.append_nil]⟩⟩) (by show 4 - (mq + 1) < 4 - mq; omega) hO hR _ _ hP hD hS ls (lv_sub hl [0, 2, 3, 4, 5, 6, 7, 8, 9, 10, 11] rfl)
      ·
        obtain ⟨hq_579, hq_580⟩ := hW.octs hi_47 ht_48
        obtain ⟨f_581, hF_582, hq_583⟩ := hO.octs hi_47 ht_48
        rcases hmL with hlt | hlt | hlt | hlt | hlt
        ·
          refine lv_iload hx hb dX15_macroValue_79 (lv_at hl 4 rfl) ?_
          refine lv_bipush (v := 115) hx hb dX15_macroValue_81 (by decide) ?_
          refine lv_icmp_eq (tgt := 93) hx hb dX15_macroValue_83 (by decide) (fun c_584 => ?_) (fun c_584 => absurd ((by rw [hlt]; rfl)) c_584)
          refine lv_aload_n hx hb dX15_macroValue_93 rfl (lv_at hl 5 rfl) ?_
          refine pg_get (ci := 15) (v := .ref pe) (C := RX15) (T := TX15) (N := 59) hx hb hts it_15 hown hK hP hL_h0 hF_117 rfl 16 (by decide) (hts _ kt_1132) (fun _ h9 => h9) rfl dX15_macroValue_94 ?_
          refine lv_aload_n hx hb dX15_macroValue_97 rfl (lv_at hl 5 rfl) ?_
          refine pg_get (ci := 15) (v := .ref lc) (C := RX15) (T := TX15) (N := 59) hx hb hts it_15 hown hK hP hL_h0 hF_117 rfl 9 (by decide) (hts _ kt_1129) (fun _ h9 => h9) rfl dX15_macroValue_98 ?_
          refine pg_get (ci := 14) (v := .ref r_1) (C := RX14) (T := TX14) (N := 2) hx hb hts it_14 hown hK hP hi_58 hF_118 rfl 0 (by decide) (hts _ kt_710) (fun _ h9 => h9) rfl dX15_macroValue_101 ?_
          refine lv_iconst (v := 0) hx hb dX15_macroValue_104 (by decide) ?_
          refine lv_aload_n hx hb dX15_macroValue_105 rfl (lv_at hl 5 rfl) ?_
          refine pg_get (ci := 15) (v := .ref lc) (C := RX15) (T := TX15) (N := 59) hx hb hts it_15 hown hK hP hL_h0 hF_117 rfl 9 (by decide) (hts _ kt_1129) (fun _ h9 => h9) rfl dX15_macroValue_106 ?_
          refine pg_get (ci := 14) (v := .int (nI zl)) (C := RX14) (T := TX14) (N := 2) hx hb hts it_14 hown hK hP hi_58 hF_118 rfl 1 (by decide) (hts _ kt_709) (fun _ h9 => h9) rfl dX15_macroValue_109 ?_
          obtain ⟨hq_585, hq_586⟩ := hW.octs hi_60 ht_61
          have hFc := pg_free hD hS hA
          refine va_callv (va_runV (As := [.ref r_1, .int 0, .int (nI zl)]) (rest := []) ⟨hx, hb, hml, hown, hts⟩ (s_X14_add__8 l dC dI cs ty gm L H.size F_113 pe (ρ + 7) rp 100 r_1 (ρ + 5) 30 0 zl f_581 fcl LC ([]) hW hL_pe hT_pe hi_60 ht_61 hF_115 hF_582 hF_119 (by omega) (by first | omega | (have h9 := (src_nil).1; simp only [List.length_append, List.length_nil, List.length_cons] at h9; omega)) (by omega) (src_nil) (hxl3)) ⟨callB_of 3 hts (gi kt_675) rfl rfl rfl (hts _ kt_676) (hts _ kt_966) (by decide +kernel) ⟨Nat.le_of_ble_eq_true rfl, Nat.le_of_ble_eq_true rfl⟩, (hts _ kt_678), (hts _ kt_679)⟩ ⟨fun a U g mk q => ⟨q.1, PTm.calling q.2⟩, pg_recv hK hP hL_pe hF_115 (q := (RX14, TX14, 2)) rfl, fun U hU hWm => ⟨rfl, PTm.mk hU hWm hP hK hD hE hO⟩⟩ rfl rfl hl.1 rfl (lv_room (Nat.le_of_ble_eq_true rfl)) dX15_macroValue_112 ⟨by show _ + 0 ≤ 0; omega, by show _ + 0 ≤ 0; omega⟩) hS (fun q _ h => hFc q h) hFc (fun u t H1 locs ht hvm hw hB hz1 hk1 hS => ?_)
          obtain ⟨F_588, f2_589, hB1, hq_590, hq_591, hq_592⟩ := hB
          obtain ⟨hP, hD, hO, hR⟩ := QTm.back hB1 ht hFc hR (fun q h => by simp only [List.mem_cons, List.not_mem_nil, or_false] at h ⊢; omega)
          have hF_593 : F_588 g1 = .inl (cs 17, 700, .inl fv) := (hB1.2.2.2 g1 (by rw [hT_g1]; simp only [List.mem_cons, List.not_mem_nil, or_false]; omega)).trans hF_116
          have hF_594 : F_588 h0 = .inr (15, (.ref ta) :: (.int (nI zt)) :: (.int (nI zo_28)) :: (.int (nI ze)) :: (.ref ou) :: (.ref so) :: (.ref ad) :: (.ref na) :: (.ref va) :: (.ref lc) :: (.ref dm) :: (.int (nI fm)) :: (.int (nI sn)) :: (.ref tg) :: (.int v14_29) :: (.int v15_30) :: (.ref pe) :: (.int v17_31) :: (.int v18_32) :: (.int v19_33) :: (.int v20_34) :: (.int v21_35) :: (.int v22_36) :: (.ref ml) :: (.ref bg) :: (.ref co) :: (.ref sp) :: (.ref nb0) :: (.ref nb1) :: (.ref nb2) :: (.int (nI nf)) :: (.int (nI bd)) :: (.int (nI mm)) :: (.int v33_37) :: (.ref pl) :: (.ref se) :: (.ref ke) :: (.ref wi) :: (.ref hs) :: (.ref mo) :: (.ref po) :: (.ref nu) :: (.ref pr) :: (.ref sq) :: (.ref xa) :: (.ref sa) :: (.ref n64) :: (.ref m64) :: (.ref ex) :: (.ref wh) :: (.ref sd) :: (.ref tk) :: (.int v52_38) :: (.int v53_39) :: (.int v54_40) :: (.ref hd) :: (.ref ak) :: (.ref ho) :: (.ref ot) :: []) := (hB1.2.2.2 h0 (by rw [hT_h0]; simp)).trans hF_117
          have hF_595 : F_588 lc = .inr (14, [.ref r_1, .int (nI zl)]) := (hB1.2.2.2 lc (by rw [ht_59]; simp)).trans hF_118
          have hF_596 : F_588 r_1 = .inl (cs 17, 30, .inl fcl) := (hB1.2.2.2 r_1 (by rw [ht_61]; simp)).trans hF_119
          have hF_597 : F_588 dm = .inr (14, [.ref r_2, .int (nI zm)]) := (hB1.2.2.2 dm (by rw [ht_64]; simp)).trans hF_120
          have hF_598 : F_588 r_2 = .inl (cs 17, 60, .inl fcm) := (hB1.2.2.2 r_2 (by rw [ht_66]; simp)).trans hF_121
          have hF_599 : F_588 dd = .inr (14, [.ref rd, .int (nI zd)]) := (hB1.2.2.2 dd (by rw [hT_dd]; simp only [List.mem_cons, List.not_mem_nil, or_false]; omega)).trans hF_122
          have hF_600 : F_588 rd = .inl (cs 17, nd, .inl fcd) := (hB1.2.2.2 rd (by rw [ht_56]; simp only [List.mem_cons, List.not_mem_nil, or_false]; omega)).trans hF_123
          have hF_601 : F_588 g2 = .inr (14, [.ref r2, .int (nI y)]) := (hB1.2.2.2 g2 (by rw [hT_g2]; simp only [List.mem_cons, List.not_mem_nil, or_false]; omega)).trans hF_124
          have hF_602 : F_588 r2 = .inl (cs 17, 61, .inl fi) := (hB1.2.2.2 r2 (by rw [ht_51]; simp only [List.mem_cons, List.not_mem_nil, or_false]; omega)).trans hF_125
          generalize H1 = H at hP hS ⊢
          refine lv_iload hx hb dX15_macroValue_115 (lv_at hl 4 rfl) ?_
          refine lv_bipush (v := 115) hx hb dX15_macroValue_117 (by decide) ?_
          refine lv_icmp_ne (tgt := 131) hx hb dX15_macroValue_119 (by decide) (fun c_603 => absurd ((by rw [hlt]; rfl)) c_603) (fun c_603 => ?_)
          refine lv_aload_n hx hb dX15_macroValue_122 rfl (lv_at hl 5 rfl) ?_
          refine pg_get (ci := 15) (v := .ref pe) (C := RX15) (T := TX15) (N := 59) hx hb hts it_15 hown hK hP hL_h0 hF_594 rfl 16 (by decide) (hts _ kt_1132) (fun _ h9 => h9) rfl dX15_macroValue_123 ?_
          refine lv_bipush (v := 64) hx hb dX15_macroValue_126 (by decide) ?_
          refine W.eq (g2 := F0 m 128 ls [.int (nI 64), .ref pe]) rfl ?_
          have hFc := pg_free hD hS hA
          refine va_callv (va_runV (As := [.int (nI 64)]) (rest := []) ⟨hx, hb, hml, hown, hts⟩ (s_X14_add_8 l dC dI cs ty gm L H.size F_588 pe (ρ + 7) rp 100 (0 + zl) 64 f2_589 hW hL_pe hT_pe hq_590 hq_591 (by have h9 := (hq_592).1; omega) (by omega)) ⟨callB_of 1 hts (gi kt_711) rfl rfl rfl (hts _ kt_676) (hts _ kt_712) (by decide +kernel) ⟨Nat.le_of_ble_eq_true rfl, Nat.le_of_ble_eq_true rfl⟩, (hts _ kt_713), (hts _ kt_714)⟩ ⟨fun a U g mk q => ⟨q.1, PTm.calling q.2⟩, pg_recv hK hP hL_pe hq_590 (q := (RX14, TX14, 2)) rfl, fun U hU hWm => ⟨rfl, PTm.mk hU hWm hP hK hD hE hO⟩⟩ rfl rfl hl.1 rfl (lv_room (Nat.le_of_ble_eq_true rfl)) dX15_macroValue_128 ⟨by show _ + 0 ≤ 0; omega, by show _ + 0 ≤ 0; omega⟩) hS (fun q _ h => hFc q h) hFc (fun u t H1 locs ht hvm hw hB hz1 hk1 hS => ?_)
          obtain ⟨F_605, hB1, hq_606, hq_607⟩ := hB
          obtain ⟨hP, hD, hO, hR⟩ := QTm.back hB1 ht hFc hR (fun q h => by simp only [List.mem_cons, List.not_mem_nil, or_false] at h ⊢; omega)
          have hF_608 : F_605 g1 = .inl (cs 17, 700, .inl fv) := (hB1.2.2.2 g1 (by rw [hT_g1]; simp only [List.mem_cons, List.not_mem_nil, or_false]; omega)).trans hF_593
          have hF_609 : F_605 h0 = .inr (15, (.ref ta) :: (.int (nI zt)) :: (.int (nI zo_28)) :: (.int (nI ze)) :: (.ref ou) :: (.ref so) :: (.ref ad) :: (.ref na) :: (.ref va) :: (.ref lc) :: (.ref dm) :: (.int (nI fm)) :: (.int (nI sn)) :: (.ref tg) :: (.int v14_29) :: (.int v15_30) :: (.ref pe) :: (.int v17_31) :: (.int v18_32) :: (.int v19_33) :: (.int v20_34) :: (.int v21_35) :: (.int v22_36) :: (.ref ml) :: (.ref bg) :: (.ref co) :: (.ref sp) :: (.ref nb0) :: (.ref nb1) :: (.ref nb2) :: (.int (nI nf)) :: (.int (nI bd)) :: (.int (nI mm)) :: (.int v33_37) :: (.ref pl) :: (.ref se) :: (.ref ke) :: (.ref wi) :: (.ref hs) :: (.ref mo) :: (.ref po) :: (.ref nu) :: (.ref pr) :: (.ref sq) :: (.ref xa) :: (.ref sa) :: (.ref n64) :: (.ref m64) :: (.ref ex) :: (.ref wh) :: (.ref sd) :: (.ref tk) :: (.int v52_38) :: (.int v53_39) :: (.int v54_40) :: (.ref hd) :: (.ref ak) :: (.ref ho) :: (.ref ot) :: []) := (hB1.2.2.2 h0 (by rw [hT_h0]; simp)).trans hF_594
          have hF_610 : F_605 lc = .inr (14, [.ref r_1, .int (nI zl)]) := (hB1.2.2.2 lc (by rw [ht_59]; simp)).trans hF_595
          have hF_611 : F_605 r_1 = .inl (cs 17, 30, .inl fcl) := (hB1.2.2.2 r_1 (by rw [ht_61]; simp)).trans hF_596
          have hF_612 : F_605 dm = .inr (14, [.ref r_2, .int (nI zm)]) := (hB1.2.2.2 dm (by rw [ht_64]; simp)).trans hF_597
          have hF_613 : F_605 r_2 = .inl (cs 17, 60, .inl fcm) := (hB1.2.2.2 r_2 (by rw [ht_66]; simp)).trans hF_598
          have hF_614 : F_605 dd = .inr (14, [.ref rd, .int (nI zd)]) := (hB1.2.2.2 dd (by rw [hT_dd]; simp only [List.mem_cons, List.not_mem_nil, or_false]; omega)).trans hF_599
          have hF_615 : F_605 rd = .inl (cs 17, nd, .inl fcd) := (hB1.2.2.2 rd (by rw [ht_56]; simp only [List.mem_cons, List.not_mem_nil, or_false]; omega)).trans hF_600
          have hF_616 : F_605 g2 = .inr (14, [.ref r2, .int (nI y)]) := (hB1.2.2.2 g2 (by rw [hT_g2]; simp only [List.mem_cons, List.not_mem_nil, or_false]; omega)).trans hF_601
          have hF_617 : F_605 r2 = .inl (cs 17, 61, .inl fi) := (hB1.2.2.2 r2 (by rw [ht_51]; simp only [List.mem_cons, List.not_mem_nil, or_false]; omega)).trans hF_602
          generalize H1 = H at hP hS ⊢
          have hW_618 := src_one hq_592 (show 64 < 128 by omega)
          refine lv_iload hx hb dX15_macroValue_131 (lv_at hl 4 rfl) ?_
          refine lv_bipush (v := 115) hx hb dX15_macroValue_133 (by decide) ?_
          refine lv_icmp_eq (tgt := 145) hx hb dX15_macroValue_135 (by decide) (fun c_619 => ?_) (fun c_619 => absurd ((by rw [hlt]; rfl)) c_619)
          refine lv_aload_n hx hb dX15_macroValue_145 rfl (lv_at hl 5 rfl) ?_
          refine pg_get (ci := 15) (v := .ref pe) (C := RX15) (T := TX15) (N := 59) hx hb hts it_15 hown hK hP hL_h0 hF_609 rfl 16 (by decide) (hts _ kt_1132) (fun _ h9 => h9) rfl dX15_macroValue_146 ?_
          refine lv_aload_n hx hb dX15_macroValue_149 rfl (lv_at hl 5 rfl) ?_
          refine pg_get (ci := 15) (v := .ref dm) (C := RX15) (T := TX15) (N := 59) hx hb hts it_15 hown hK hP hL_h0 hF_609 rfl 10 (by decide) (hts _ kt_1130) (fun _ h9 => h9) rfl dX15_macroValue_150 ?_
          refine pg_get (ci := 14) (v := .ref r_2) (C := RX14) (T := TX14) (N := 2) hx hb hts it_14 hown hK hP hi_63 hF_612 rfl 0 (by decide) (hts _ kt_710) (fun _ h9 => h9) rfl dX15_macroValue_153 ?_
          refine lv_iconst (v := 0) hx hb dX15_macroValue_156 (by decide) ?_
          refine lv_aload_n hx hb dX15_macroValue_157 rfl (lv_at hl 5 rfl) ?_
          refine pg_get (ci := 15) (v := .ref dm) (C := RX15) (T := TX15) (N := 59) hx hb hts it_15 hown hK hP hL_h0 hF_609 rfl 10 (by decide) (hts _ kt_1130) (fun _ h9 => h9) rfl dX15_macroValue_158 ?_
          refine pg_get (ci := 14) (v := .int (nI zm)) (C := RX14) (T := TX14) (N := 2) hx hb hts it_14 hown hK hP hi_63 hF_612 rfl 1 (by decide) (hts _ kt_709) (fun _ h9 => h9) rfl dX15_macroValue_161 ?_
          obtain ⟨hq_620, hq_621⟩ := hW.octs hi_65 ht_66
          have hFc := pg_free hD hS hA
          refine va_callv (va_runV (As := [.ref r_2, .int 0, .int (nI zm)]) (rest := []) ⟨hx, hb, hml, hown, hts⟩ (s_X14_add__8 l dC dI cs ty gm L H.size F_605 pe (ρ + 7) rp 100 r_2 (ρ + 32) 60 ((0 + zl) + 1) zm (upd f2_589 (0 + zl) (nI 64)) fcm DM (([] ++ LC) ++ [64]) hW hL_pe hT_pe hi_65 ht_66 hq_606 hq_607 hF_613 (by omega) (by first | omega | (have h9 := (hW_618).1; simp only [List.length_append, List.length_nil, List.length_cons] at h9; omega)) (by omega) (hW_618) (hxm3)) ⟨callB_of 3 hts (gi kt_675) rfl rfl rfl (hts _ kt_676) (hts _ kt_966) (by decide +kernel) ⟨Nat.le_of_ble_eq_true rfl, Nat.le_of_ble_eq_true rfl⟩, (hts _ kt_678), (hts _ kt_679)⟩ ⟨fun a U g mk q => ⟨q.1, PTm.calling q.2⟩, pg_recv hK hP hL_pe hq_606 (q := (RX14, TX14, 2)) rfl, fun U hU hWm => ⟨rfl, PTm.mk hU hWm hP hK hD hE hO⟩⟩ rfl rfl hl.1 rfl (lv_room (Nat.le_of_ble_eq_true rfl)) dX15_macroValue_164 ⟨by show _ + 0 ≤ 0; omega, by show _ + 0 ≤ 0; omega⟩) hS (fun q _ h => hFc q h) hFc (fun u t H1 locs ht hvm hw hB hz1 hk1 hS => ?_)
          obtain ⟨F_623, f2_624, hB1, hq_625, hq_626, hq_627⟩ := hB
          obtain ⟨hP, hD, hO, hR⟩ := QTm.back hB1 ht hFc hR (fun q h => by simp only [List.mem_cons, List.not_mem_nil, or_false] at h ⊢; omega)
          have hF_628 : F_623 g1 = .inl (cs 17, 700, .inl fv) := (hB1.2.2.2 g1 (by rw [hT_g1]; simp only [List.mem_cons, List.not_mem_nil, or_false]; omega)).trans hF_608
          have hF_629 : F_623 h0 = .inr (15, (.ref ta) :: (.int (nI zt)) :: (.int (nI zo_28)) :: (.int (nI ze)) :: (.ref ou) :: (.ref so) :: (.ref ad) :: (.ref na) :: (.ref va) :: (.ref lc) :: (.ref dm) :: (.int (nI fm)) :: (.int (nI sn)) :: (.ref tg) :: (.int v14_29) :: (.int v15_30) :: (.ref pe) :: (.int v17_31) :: (.int v18_32) :: (.int v19_33) :: (.int v20_34) :: (.int v21_35) :: (.int v22_36) :: (.ref ml) :: (.ref bg) :: (.ref co) :: (.ref sp) :: (.ref nb0) :: (.ref nb1) :: (.ref nb2) :: (.int (nI nf)) :: (.int (nI bd)) :: (.int (nI mm)) :: (.int v33_37) :: (.ref pl) :: (.ref se) :: (.ref ke) :: (.ref wi) :: (.ref hs) :: (.ref mo) :: (.ref po) :: (.ref nu) :: (.ref pr) :: (.ref sq) :: (.ref xa) :: (.ref sa) :: (.ref n64) :: (.ref m64) :: (.ref ex) :: (.ref wh) :: (.ref sd) :: (.ref tk) :: (.int v52_38) :: (.int v53_39) :: (.int v54_40) :: (.ref hd) :: (.ref ak) :: (.ref ho) :: (.ref ot) :: []) := (hB1.2.2.2 h0 (by rw [hT_h0]; simp)).trans hF_609
          have hF_630 : F_623 lc = .inr (14, [.ref r_1, .int (nI zl)]) := (hB1.2.2.2 lc (by rw [ht_59]; simp)).trans hF_610
          have hF_631 : F_623 r_1 = .inl (cs 17, 30, .inl fcl) := (hB1.2.2.2 r_1 (by rw [ht_61]; simp)).trans hF_611
          have hF_632 : F_623 dm = .inr (14, [.ref r_2, .int (nI zm)]) := (hB1.2.2.2 dm (by rw [ht_64]; simp)).trans hF_612
          have hF_633 : F_623 r_2 = .inl (cs 17, 60, .inl fcm) := (hB1.2.2.2 r_2 (by rw [ht_66]; simp)).trans hF_613
          have hF_634 : F_623 dd = .inr (14, [.ref rd, .int (nI zd)]) := (hB1.2.2.2 dd (by rw [hT_dd]; simp only [List.mem_cons, List.not_mem_nil, or_false]; omega)).trans hF_614
          have hF_635 : F_623 rd = .inl (cs 17, nd, .inl fcd) := (hB1.2.2.2 rd (by rw [ht_56]; simp only [List.mem_cons, List.not_mem_nil, or_false]; omega)).trans hF_615
          have hF_636 : F_623 g2 = .inr (14, [.ref r2, .int (nI y)]) := (hB1.2.2.2 g2 (by rw [hT_g2]; simp only [List.mem_cons, List.not_mem_nil, or_false]; omega)).trans hF_616
          have hF_637 : F_623 r2 = .inl (cs 17, 61, .inl fi) := (hB1.2.2.2 r2 (by rw [ht_51]; simp only [List.mem_cons, List.not_mem_nil, or_false]; omega)).trans hF_617
          generalize H1 = H at hP hS ⊢
          refine lv_iload hx hb dX15_macroValue_167 (lv_at hl 4 rfl) ?_
          refine lv_bipush (v := 100) hx hb dX15_macroValue_169 (by decide) ?_
          refine lv_icmp_ne (tgt := 192) hx hb dX15_macroValue_171 (by decide) (fun c_638 => ?_) (fun c_638 => absurd c_638 ((fun q => absurd ((nI_eq (b := 100) (by omega) (by omega)).mp q) (by omega))))
          refine W.widen (k := 0) (n := 0) (by omega) (by omega) ?_
          exact jn_126 ((((0 + zl) + 1) + zm), f2_624, ((([] ++ LC) ++ [64]) ++ DM)) F_623 (⟨⟨hF_636, hF_637, hq_625, hq_626, hq_627⟩, Or.inr ⟨by omega, by rw [hlt]; rfl⟩⟩) hO hR _ _ hP hD hS ls (lv_sub hl [1, 2, 3, 4, 5, 6, 7, 8, 9, 10] rfl)
        ·
          refine lv_iload hx hb dX15_macroValue_79 (lv_at hl 4 rfl) ?_
          refine lv_bipush (v := 115) hx hb dX15_macroValue_81 (by decide) ?_
          refine lv_icmp_eq (tgt := 93) hx hb dX15_macroValue_83 (by decide) (fun c_639 => absurd c_639 ((fun q => absurd ((nI_eq (b := 115) (by omega) (by omega)).mp q) (by omega)))) (fun c_639 => ?_)
          refine lv_iload hx hb dX15_macroValue_86 (lv_at hl 4 rfl) ?_
          refine lv_bipush (v := 108) hx hb dX15_macroValue_88 (by decide) ?_
          refine lv_icmp_ne (tgt := 115) hx hb dX15_macroValue_90 (by decide) (fun c_640 => absurd ((by rw [hlt]; rfl)) c_640) (fun c_640 => ?_)
          refine lv_aload_n hx hb dX15_macroValue_93 rfl (lv_at hl 5 rfl) ?_
          refine pg_get (ci := 15) (v := .ref pe) (C := RX15) (T := TX15) (N := 59) hx hb hts it_15 hown hK hP hL_h0 hF_117 rfl 16 (by decide) (hts _ kt_1132) (fun _ h9 => h9) rfl dX15_macroValue_94 ?_
          refine lv_aload_n hx hb dX15_macroValue_97 rfl (lv_at hl 5 rfl) ?_
          refine pg_get (ci := 15) (v := .ref lc) (C := RX15) (T := TX15) (N := 59) hx hb hts it_15 hown hK hP hL_h0 hF_117 rfl 9 (by decide) (hts _ kt_1129) (fun _ h9 => h9) rfl dX15_macroValue_98 ?_
          refine pg_get (ci := 14) (v := .ref r_1) (C := RX14) (T := TX14) (N := 2) hx hb hts it_14 hown hK hP hi_58 hF_118 rfl 0 (by decide) (hts _ kt_710) (fun _ h9 => h9) rfl dX15_macroValue_101 ?_
          refine lv_iconst (v := 0) hx hb dX15_macroValue_104 (by decide) ?_
          refine lv_aload_n hx hb dX15_macroValue_105 rfl (lv_at hl 5 rfl) ?_
          refine pg_get (ci := 15) (v := .ref lc) (C := RX15) (T := TX15) (N := 59) hx hb hts it_15 hown hK hP hL_h0 hF_117 rfl 9 (by decide) (hts _ kt_1129) (fun _ h9 => h9) rfl dX15_macroValue_106 ?_
          refine pg_get (ci := 14) (v := .int (nI zl)) (C := RX14) (T := TX14) (N := 2) hx hb hts it_14 hown hK hP hi_58 hF_118 rfl 1 (by decide) (hts _ kt_709) (fun _ h9 => h9) rfl dX15_macroValue_109 ?_
          obtain ⟨hq_641, hq_642⟩ := hW.octs hi_60 ht_61
          have hFc := pg_free hD hS hA
          refine va_callv (va_runV (As := [.ref r_1, .int 0, .int (nI zl)]) (rest := []) ⟨hx, hb, hml, hown, hts⟩ (s_X14_add__8 l dC dI cs ty gm L H.size F_113 pe (ρ + 7) rp 100 r_1 (ρ + 5) 30 0 zl f_581 fcl LC ([]) hW hL_pe hT_pe hi_60 ht_61 hF_115 hF_582 hF_119 (by omega) (by first | omega | (have h9 := (src_nil).1; simp only [List.length_append, List.length_nil, List.length_cons] at h9; omega)) (by omega) (src_nil) (hxl3)) ⟨callB_of 3 hts (gi kt_675) rfl rfl rfl (hts _ kt_676) (hts _ kt_966) (by decide +kernel) ⟨Nat.le_of_ble_eq_true rfl, Nat.le_of_ble_eq_true rfl⟩, (hts _ kt_678), (hts _ kt_679)⟩ ⟨fun a U g mk q => ⟨q.1, PTm.calling q.2⟩, pg_recv hK hP hL_pe hF_115 (q := (RX14, TX14, 2)) rfl, fun U hU hWm => ⟨rfl, PTm.mk hU hWm hP hK hD hE hO⟩⟩ rfl rfl hl.1 rfl (lv_room (Nat.le_of_ble_eq_true rfl)) dX15_macroValue_112 ⟨by show _ + 0 ≤ 0; omega, by show _ + 0 ≤ 0; omega⟩) hS (fun q _ h => hFc q h) hFc (fun u t H1 locs ht hvm hw hB hz1 hk1 hS => ?_)
          obtain ⟨F_644, f2_645, hB1, hq_646, hq_647, hq_648⟩ := hB
          obtain ⟨hP, hD, hO, hR⟩ := QTm.back hB1 ht hFc hR (fun q h => by simp only [List.mem_cons, List.not_mem_nil, or_false] at h ⊢; omega)
          have hF_649 : F_644 g1 = .inl (cs 17, 700, .inl fv) := (hB1.2.2.2 g1 (by rw [hT_g1]; simp only [List.mem_cons, List.not_mem_nil, or_false]; omega)).trans hF_116
          have hF_650 : F_644 h0 = .inr (15, (.ref ta) :: (.int (nI zt)) :: (.int (nI zo_28)) :: (.int (nI ze)) :: (.ref ou) :: (.ref so) :: (.ref ad) :: (.ref na) :: (.ref va) :: (.ref lc) :: (.ref dm) :: (.int (nI fm)) :: (.int (nI sn)) :: (.ref tg) :: (.int v14_29) :: (.int v15_30) :: (.ref pe) :: (.int v17_31) :: (.int v18_32) :: (.int v19_33) :: (.int v20_34) :: (.int v21_35) :: (.int v22_36) :: (.ref ml) :: (.ref bg) :: (.ref co) :: (.ref sp) :: (.ref nb0) :: (.ref nb1) :: (.ref nb2) :: (.int (nI nf)) :: (.int (nI bd)) :: (.int (nI mm)) :: (.int v33_37) :: (.ref pl) :: (.ref se) :: (.ref ke) :: (.ref wi) :: (.ref hs) :: (.ref mo) :: (.ref po) :: (.ref nu) :: (.ref pr) :: (.ref sq) :: (.ref xa) :: (.ref sa) :: (.ref n64) :: (.ref m64) :: (.ref ex) :: (.ref wh) :: (.ref sd) :: (.ref tk) :: (.int v52_38) :: (.int v53_39) :: (.int v54_40) :: (.ref hd) :: (.ref ak) :: (.ref ho) :: (.ref ot) :: []) := (hB1.2.2.2 h0 (by rw [hT_h0]; simp)).trans hF_117
          have hF_651 : F_644 lc = .inr (14, [.ref r_1, .int (nI zl)]) := (hB1.2.2.2 lc (by rw [ht_59]; simp)).trans hF_118
          have hF_652 : F_644 r_1 = .inl (cs 17, 30, .inl fcl) := (hB1.2.2.2 r_1 (by rw [ht_61]; simp)).trans hF_119
          have hF_653 : F_644 dm = .inr (14, [.ref r_2, .int (nI zm)]) := (hB1.2.2.2 dm (by rw [ht_64]; simp)).trans hF_120
          have hF_654 : F_644 r_2 = .inl (cs 17, 60, .inl fcm) := (hB1.2.2.2 r_2 (by rw [ht_66]; simp)).trans hF_121
          have hF_655 : F_644 dd = .inr (14, [.ref rd, .int (nI zd)]) := (hB1.2.2.2 dd (by rw [hT_dd]; simp only [List.mem_cons, List.not_mem_nil, or_false]; omega)).trans hF_122
          have hF_656 : F_644 rd = .inl (cs 17, nd, .inl fcd) := (hB1.2.2.2 rd (by rw [ht_56]; simp only [List.mem_cons, List.not_mem_nil, or_false]; omega)).trans hF_123
          have hF_657 : F_644 g2 = .inr (14, [.ref r2, .int (nI y)]) := (hB1.2.2.2 g2 (by rw [hT_g2]; simp only [List.mem_cons, List.not_mem_nil, or_false]; omega)).trans hF_124
          have hF_658 : F_644 r2 = .inl (cs 17, 61, .inl fi) := (hB1.2.2.2 r2 (by rw [ht_51]; simp only [List.mem_cons, List.not_mem_nil, or_false]; omega)).trans hF_125
          generalize H1 = H at hP hS ⊢
          refine lv_iload hx hb dX15_macroValue_115 (lv_at hl 4 rfl) ?_
          refine lv_bipush (v := 115) hx hb dX15_macroValue_117 (by decide) ?_
          refine lv_icmp_ne (tgt := 131) hx hb dX15_macroValue_119 (by decide) (fun c_659 => ?_) (fun c_659 => absurd c_659 ((fun q => absurd ((nI_eq (b := 115) (by omega) (by omega)).mp q) (by omega))))
          refine lv_iload hx hb dX15_macroValue_131 (lv_at hl 4 rfl) ?_
          refine lv_bipush (v := 115) hx hb dX15_macroValue_133 (by decide) ?_
          refine lv_icmp_eq (tgt := 145) hx hb dX15_macroValue_135 (by decide) (fun c_660 => absurd c_660 ((fun q => absurd ((nI_eq (b := 115) (by omega) (by omega)).mp q) (by omega)))) (fun c_660 => ?_)
          refine lv_iload hx hb dX15_macroValue_138 (lv_at hl 4 rfl) ?_
          refine lv_bipush (v := 111) hx hb dX15_macroValue_140 (by decide) ?_
          refine lv_icmp_ne (tgt := 167) hx hb dX15_macroValue_142 (by decide) (fun c_661 => ?_) (fun c_661 => absurd c_661 ((fun q => absurd ((nI_eq (b := 111) (by omega) (by omega)).mp q) (by omega))))
          refine lv_iload hx hb dX15_macroValue_167 (lv_at hl 4 rfl) ?_
          refine lv_bipush (v := 100) hx hb dX15_macroValue_169 (by decide) ?_
          refine lv_icmp_ne (tgt := 192) hx hb dX15_macroValue_171 (by decide) (fun c_662 => ?_) (fun c_662 => absurd c_662 ((fun q => absurd ((nI_eq (b := 100) (by omega) (by omega)).mp q) (by omega))))
          refine W.widen (k := 0) (n := 0) (by omega) (by omega) ?_
          exact jn_126 ((0 + zl), f2_645, ([] ++ LC)) F_644 (⟨⟨hF_657, hF_658, hq_646, hq_647, hq_648⟩, Or.inr ⟨by omega, by rw [hlt]; rfl⟩⟩) hO hR _ _ hP hD hS ls (lv_sub hl [1, 2, 3, 4, 5, 6, 7, 8, 9, 10] rfl)
        ·
          refine lv_iload hx hb dX15_macroValue_79 (lv_at hl 4 rfl) ?_
          refine lv_bipush (v := 115) hx hb dX15_macroValue_81 (by decide) ?_
          refine lv_icmp_eq (tgt := 93) hx hb dX15_macroValue_83 (by decide) (fun c_663 => absurd c_663 ((fun q => absurd ((nI_eq (b := 115) (by omega) (by omega)).mp q) (by omega)))) (fun c_663 => ?_)
          refine lv_iload hx hb dX15_macroValue_86 (lv_at hl 4 rfl) ?_
          refine lv_bipush (v := 108) hx hb dX15_macroValue_88 (by decide) ?_
          refine lv_icmp_ne (tgt := 115) hx hb dX15_macroValue_90 (by decide) (fun c_664 => ?_) (fun c_664 => absurd c_664 ((fun q => absurd ((nI_eq (b := 108) (by omega) (by omega)).mp q) (by omega))))
          refine lv_iload hx hb dX15_macroValue_115 (lv_at hl 4 rfl) ?_
          refine lv_bipush (v := 115) hx hb dX15_macroValue_117 (by decide) ?_
          refine lv_icmp_ne (tgt := 131) hx hb dX15_macroValue_119 (by decide) (fun c_665 => ?_) (fun c_665 => absurd c_665 ((fun q => absurd ((nI_eq (b := 115) (by omega) (by omega)).mp q) (by omega))))
          refine lv_iload hx hb dX15_macroValue_131 (lv_at hl 4 rfl) ?_
          refine lv_bipush (v := 115) hx hb dX15_macroValue_133 (by decide) ?_
          refine lv_icmp_eq (tgt := 145) hx hb dX15_macroValue_135 (by decide) (fun c_666 => absurd c_666 ((fun q => absurd ((nI_eq (b := 115) (by omega) (by omega)).mp q) (by omega)))) (fun c_666 => ?_)
          refine lv_iload hx hb dX15_macroValue_138 (lv_at hl 4 rfl) ?_
          refine lv_bipush (v := 111) hx hb dX15_macroValue_140 (by decide) ?_
          refine lv_icmp_ne (tgt := 167) hx hb dX15_macroValue_142 (by decide) (fun c_667 => absurd ((by rw [hlt]; rfl)) c_667) (fun c_667 => ?_)
          refine lv_aload_n hx hb dX15_macroValue_145 rfl (lv_at hl 5 rfl) ?_
          refine pg_get (ci := 15) (v := .ref pe) (C := RX15) (T := TX15) (N := 59) hx hb hts it_15 hown hK hP hL_h0 hF_117 rfl 16 (by decide) (hts _ kt_1132) (fun _ h9 => h9) rfl dX15_macroValue_146 ?_
          refine lv_aload_n hx hb dX15_macroValue_149 rfl (lv_at hl 5 rfl) ?_
          refine pg_get (ci := 15) (v := .ref dm) (C := RX15) (T := TX15) (N := 59) hx hb hts it_15 hown hK hP hL_h0 hF_117 rfl 10 (by decide) (hts _ kt_1130) (fun _ h9 => h9) rfl dX15_macroValue_150 ?_
          refine pg_get (ci := 14) (v := .ref r_2) (C := RX14) (T := TX14) (N := 2) hx hb hts it_14 hown hK hP hi_63 hF_120 rfl 0 (by decide) (hts _ kt_710) (fun _ h9 => h9) rfl dX15_macroValue_153 ?_
          refine lv_iconst (v := 0) hx hb dX15_macroValue_156 (by decide) ?_
          refine lv_aload_n hx hb dX15_macroValue_157 rfl (lv_at hl 5 rfl) ?_
          refine pg_get (ci := 15) (v := .ref dm) (C := RX15) (T := TX15) (N := 59) hx hb hts it_15 hown hK hP hL_h0 hF_117 rfl 10 (by decide) (hts _ kt_1130) (fun _ h9 => h9) rfl dX15_macroValue_158 ?_
          refine pg_get (ci := 14) (v := .int (nI zm)) (C := RX14) (T := TX14) (N := 2) hx hb hts it_14 hown hK hP hi_63 hF_120 rfl 1 (by decide) (hts _ kt_709) (fun _ h9 => h9) rfl dX15_macroValue_161 ?_
          obtain ⟨hq_668, hq_669⟩ := hW.octs hi_65 ht_66
          have hFc := pg_free hD hS hA
          refine va_callv (va_runV (As := [.ref r_2, .int 0, .int (nI zm)]) (rest := []) ⟨hx, hb, hml, hown, hts⟩ (s_X14_add__8 l dC dI cs ty gm L H.size F_113 pe (ρ + 7) rp 100 r_2 (ρ + 32) 60 0 zm f_581 fcm DM ([]) hW hL_pe hT_pe hi_65 ht_66 hF_115 hF_582 hF_121 (by omega) (by first | omega | (have h9 := (src_nil).1; simp only [List.length_append, List.length_nil, List.length_cons] at h9; omega)) (by omega) (src_nil) (hxm3)) ⟨callB_of 3 hts (gi kt_675) rfl rfl rfl (hts _ kt_676) (hts _ kt_966) (by decide +kernel) ⟨Nat.le_of_ble_eq_true rfl, Nat.le_of_ble_eq_true rfl⟩, (hts _ kt_678), (hts _ kt_679)⟩ ⟨fun a U g mk q => ⟨q.1, PTm.calling q.2⟩, pg_recv hK hP hL_pe hF_115 (q := (RX14, TX14, 2)) rfl, fun U hU hWm => ⟨rfl, PTm.mk hU hWm hP hK hD hE hO⟩⟩ rfl rfl hl.1 rfl (lv_room (Nat.le_of_ble_eq_true rfl)) dX15_macroValue_164 ⟨by show _ + 0 ≤ 0; omega, by show _ + 0 ≤ 0; omega⟩) hS (fun q _ h => hFc q h) hFc (fun u t H1 locs ht hvm hw hB hz1 hk1 hS => ?_)
          obtain ⟨F_671, f2_672, hB1, hq_673, hq_674, hq_675⟩ := hB
          obtain ⟨hP, hD, hO, hR⟩ := QTm.back hB1 ht hFc hR (fun q h => by simp only [List.mem_cons, List.not_mem_nil, or_false] at h ⊢; omega)
          have hF_676 : F_671 g1 = .inl (cs 17, 700, .inl fv) := (hB1.2.2.2 g1 (by rw [hT_g1]; simp only [List.mem_cons, List.not_mem_nil, or_false]; omega)).trans hF_116
          have hF_677 : F_671 h0 = .inr (15, (.ref ta) :: (.int (nI zt)) :: (.int (nI zo_28)) :: (.int (nI ze)) :: (.ref ou) :: (.ref so) :: (.ref ad) :: (.ref na) :: (.ref va) :: (.ref lc) :: (.ref dm) :: (.int (nI fm)) :: (.int (nI sn)) :: (.ref tg) :: (.int v14_29) :: (.int v15_30) :: (.ref pe) :: (.int v17_31) :: (.int v18_32) :: (.int v19_33) :: (.int v20_34) :: (.int v21_35) :: (.int v22_36) :: (.ref ml) :: (.ref bg) :: (.ref co) :: (.ref sp) :: (.ref nb0) :: (.ref nb1) :: (.ref nb2) :: (.int (nI nf)) :: (.int (nI bd)) :: (.int (nI mm)) :: (.int v33_37) :: (.ref pl) :: (.ref se) :: (.ref ke) :: (.ref wi) :: (.ref hs) :: (.ref mo) :: (.ref po) :: (.ref nu) :: (.ref pr) :: (.ref sq) :: (.ref xa) :: (.ref sa) :: (.ref n64) :: (.ref m64) :: (.ref ex) :: (.ref wh) :: (.ref sd) :: (.ref tk) :: (.int v52_38) :: (.int v53_39) :: (.int v54_40) :: (.ref hd) :: (.ref ak) :: (.ref ho) :: (.ref ot) :: []) := (hB1.2.2.2 h0 (by rw [hT_h0]; simp)).trans hF_117
          have hF_678 : F_671 lc = .inr (14, [.ref r_1, .int (nI zl)]) := (hB1.2.2.2 lc (by rw [ht_59]; simp)).trans hF_118
          have hF_679 : F_671 r_1 = .inl (cs 17, 30, .inl fcl) := (hB1.2.2.2 r_1 (by rw [ht_61]; simp)).trans hF_119
          have hF_680 : F_671 dm = .inr (14, [.ref r_2, .int (nI zm)]) := (hB1.2.2.2 dm (by rw [ht_64]; simp)).trans hF_120
          have hF_681 : F_671 r_2 = .inl (cs 17, 60, .inl fcm) := (hB1.2.2.2 r_2 (by rw [ht_66]; simp)).trans hF_121
          have hF_682 : F_671 dd = .inr (14, [.ref rd, .int (nI zd)]) := (hB1.2.2.2 dd (by rw [hT_dd]; simp only [List.mem_cons, List.not_mem_nil, or_false]; omega)).trans hF_122
          have hF_683 : F_671 rd = .inl (cs 17, nd, .inl fcd) := (hB1.2.2.2 rd (by rw [ht_56]; simp only [List.mem_cons, List.not_mem_nil, or_false]; omega)).trans hF_123
          have hF_684 : F_671 g2 = .inr (14, [.ref r2, .int (nI y)]) := (hB1.2.2.2 g2 (by rw [hT_g2]; simp only [List.mem_cons, List.not_mem_nil, or_false]; omega)).trans hF_124
          have hF_685 : F_671 r2 = .inl (cs 17, 61, .inl fi) := (hB1.2.2.2 r2 (by rw [ht_51]; simp only [List.mem_cons, List.not_mem_nil, or_false]; omega)).trans hF_125
          generalize H1 = H at hP hS ⊢
          refine lv_iload hx hb dX15_macroValue_167 (lv_at hl 4 rfl) ?_
          refine lv_bipush (v := 100) hx hb dX15_macroValue_169 (by decide) ?_
          refine lv_icmp_ne (tgt := 192) hx hb dX15_macroValue_171 (by decide) (fun c_686 => ?_) (fun c_686 => absurd c_686 ((fun q => absurd ((nI_eq (b := 100) (by omega) (by omega)).mp q) (by omega))))
          refine W.widen (k := 0) (n := 0) (by omega) (by omega) ?_
          exact jn_126 ((0 + zm), f2_672, ([] ++ DM)) F_671 (⟨⟨hF_684, hF_685, hq_673, hq_674, hq_675⟩, Or.inr ⟨by omega, by rw [hlt]; rfl⟩⟩) hO hR _ _ hP hD hS ls (lv_sub hl [1, 2, 3, 4, 5, 6, 7, 8, 9, 10] rfl)
        ·
          refine lv_iload hx hb dX15_macroValue_79 (lv_at hl 4 rfl) ?_
          refine lv_bipush (v := 115) hx hb dX15_macroValue_81 (by decide) ?_
          refine lv_icmp_eq (tgt := 93) hx hb dX15_macroValue_83 (by decide) (fun c_687 => absurd c_687 ((fun q => absurd ((nI_eq (b := 115) (by omega) (by omega)).mp q) (by omega)))) (fun c_687 => ?_)
          refine lv_iload hx hb dX15_macroValue_86 (lv_at hl 4 rfl) ?_
          refine lv_bipush (v := 108) hx hb dX15_macroValue_88 (by decide) ?_
          refine lv_icmp_ne (tgt := 115) hx hb dX15_macroValue_90 (by decide) (fun c_688 => ?_) (fun c_688 => absurd c_688 ((fun q => absurd ((nI_eq (b := 108) (by omega) (by omega)).mp q) (by omega))))
          refine lv_iload hx hb dX15_macroValue_115 (lv_at hl 4 rfl) ?_
          refine lv_bipush (v := 115) hx hb dX15_macroValue_117 (by decide) ?_
          refine lv_icmp_ne (tgt := 131) hx hb dX15_macroValue_119 (by decide) (fun c_689 => ?_) (fun c_689 => absurd c_689 ((fun q => absurd ((nI_eq (b := 115) (by omega) (by omega)).mp q) (by omega))))
          refine lv_iload hx hb dX15_macroValue_131 (lv_at hl 4 rfl) ?_
          refine lv_bipush (v := 115) hx hb dX15_macroValue_133 (by decide) ?_
          refine lv_icmp_eq (tgt := 145) hx hb dX15_macroValue_135 (by decide) (fun c_690 => absurd c_690 ((fun q => absurd ((nI_eq (b := 115) (by omega) (by omega)).mp q) (by omega)))) (fun c_690 => ?_)
          refine lv_iload hx hb dX15_macroValue_138 (lv_at hl 4 rfl) ?_
          refine lv_bipush (v := 111) hx hb dX15_macroValue_140 (by decide) ?_
          refine lv_icmp_ne (tgt := 167) hx hb dX15_macroValue_142 (by decide) (fun c_691 => ?_) (fun c_691 => absurd c_691 ((fun q => absurd ((nI_eq (b := 111) (by omega) (by omega)).mp q) (by omega))))
          refine lv_iload hx hb dX15_macroValue_167 (lv_at hl 4 rfl) ?_
          refine lv_bipush (v := 100) hx hb dX15_macroValue_169 (by decide) ?_
          refine lv_icmp_ne (tgt := 192) hx hb dX15_macroValue_171 (by decide) (fun c_692 => absurd ((by rw [hlt]; rfl)) c_692) (fun c_692 => ?_)
          refine lv_aload_n hx hb dX15_macroValue_174 rfl (lv_at hl 5 rfl) ?_
          refine pg_get (ci := 15) (v := .ref pe) (C := RX15) (T := TX15) (N := 59) hx hb hts it_15 hown hK hP hL_h0 hF_117 rfl 16 (by decide) (hts _ kt_1132) (fun _ h9 => h9) rfl dX15_macroValue_175 ?_
          refine lv_aload hx hb dX15_macroValue_178 (lv_at hl 9 rfl) ?_
          refine pg_get (ci := 14) (v := .ref rd) (C := RX14) (T := TX14) (N := 2) hx hb hts it_14 hown hK hP hL_dd hF_122 rfl 0 (by decide) (hts _ kt_710) (fun _ h9 => h9) rfl dX15_macroValue_180 ?_
          refine lv_iconst (v := 0) hx hb dX15_macroValue_183 (by decide) ?_
          refine lv_aload hx hb dX15_macroValue_184 (lv_at hl 9 rfl) ?_
          refine pg_get (ci := 14) (v := .int (nI zd)) (C := RX14) (T := TX14) (N := 2) hx hb hts it_14 hown hK hP hL_dd hF_122 rfl 1 (by decide) (hts _ kt_709) (fun _ h9 => h9) rfl dX15_macroValue_186 ?_
          obtain ⟨hq_693, hq_694⟩ := hW.octs hi_55 ht_56
          have hFc := pg_free hD hS hA
          refine va_callv (va_runV (As := [.ref rd, .int 0, .int (nI zd)]) (rest := []) ⟨hx, hb, hml, hown, hts⟩ (s_X14_add__8 l dC dI cs ty gm L H.size F_113 pe (ρ + 7) rp 100 rd τ nd 0 zd f_581 fcd dn ([]) hW hL_pe hT_pe hi_55 ht_56 hF_115 hF_582 hF_123 (by omega) (by first | omega | (have h9 := (src_nil).1; simp only [List.length_append, List.length_nil, List.length_cons] at h9; omega)) (by omega) (src_nil) (hxd3)) ⟨callB_of 3 hts (gi kt_675) rfl rfl rfl (hts _ kt_676) (hts _ kt_966) (by decide +kernel) ⟨Nat.le_of_ble_eq_true rfl, Nat.le_of_ble_eq_true rfl⟩, (hts _ kt_678), (hts _ kt_679)⟩ ⟨fun a U g mk q => ⟨q.1, PTm.calling q.2⟩, pg_recv hK hP hL_pe hF_115 (q := (RX14, TX14, 2)) rfl, fun U hU hWm => ⟨rfl, PTm.mk hU hWm hP hK hD hE hO⟩⟩ rfl rfl hl.1 rfl (lv_room (Nat.le_of_ble_eq_true rfl)) dX15_macroValue_189 ⟨by show _ + 0 ≤ 0; omega, by show _ + 0 ≤ 0; omega⟩) hS (fun q _ h => hFc q h) hFc (fun u t H1 locs ht hvm hw hB hz1 hk1 hS => ?_)
          obtain ⟨F_696, f2_697, hB1, hq_698, hq_699, hq_700⟩ := hB
          obtain ⟨hP, hD, hO, hR⟩ := QTm.back hB1 ht hFc hR (fun q h => by simp only [List.mem_cons, List.not_mem_nil, or_false] at h ⊢; omega)
          have hF_701 : F_696 g1 = .inl (cs 17, 700, .inl fv) := (hB1.2.2.2 g1 (by rw [hT_g1]; simp only [List.mem_cons, List.not_mem_nil, or_false]; omega)).trans hF_116
          have hF_702 : F_696 h0 = .inr (15, (.ref ta) :: (.int (nI zt)) :: (.int (nI zo_28)) :: (.int (nI ze)) :: (.ref ou) :: (.ref so) :: (.ref ad) :: (.ref na) :: (.ref va) :: (.ref lc) :: (.ref dm) :: (.int (nI fm)) :: (.int (nI sn)) :: (.ref tg) :: (.int v14_29) :: (.int v15_30) :: (.ref pe) :: (.int v17_31) :: (.int v18_32) :: (.int v19_33) :: (.int v20_34) :: (.int v21_35) :: (.int v22_36) :: (.ref ml) :: (.ref bg) :: (.ref co) :: (.ref sp) :: (.ref nb0) :: (.ref nb1) :: (.ref nb2) :: (.int (nI nf)) :: (.int (nI bd)) :: (.int (nI mm)) :: (.int v33_37) :: (.ref pl) :: (.ref se) :: (.ref ke) :: (.ref wi) :: (.ref hs) :: (.ref mo) :: (.ref po) :: (.ref nu) :: (.ref pr) :: (.ref sq) :: (.ref xa) :: (.ref sa) :: (.ref n64) :: (.ref m64) :: (.ref ex) :: (.ref wh) :: (.ref sd) :: (.ref tk) :: (.int v52_38) :: (.int v53_39) :: (.int v54_40) :: (.ref hd) :: (.ref ak) :: (.ref ho) :: (.ref ot) :: []) := (hB1.2.2.2 h0 (by rw [hT_h0]; simp)).trans hF_117
          have hF_703 : F_696 lc = .inr (14, [.ref r_1, .int (nI zl)]) := (hB1.2.2.2 lc (by rw [ht_59]; simp)).trans hF_118
          have hF_704 : F_696 r_1 = .inl (cs 17, 30, .inl fcl) := (hB1.2.2.2 r_1 (by rw [ht_61]; simp)).trans hF_119
          have hF_705 : F_696 dm = .inr (14, [.ref r_2, .int (nI zm)]) := (hB1.2.2.2 dm (by rw [ht_64]; simp)).trans hF_120
          have hF_706 : F_696 r_2 = .inl (cs 17, 60, .inl fcm) := (hB1.2.2.2 r_2 (by rw [ht_66]; simp)).trans hF_121
          have hF_707 : F_696 dd = .inr (14, [.ref rd, .int (nI zd)]) := (hB1.2.2.2 dd (by rw [hT_dd]; simp only [List.mem_cons, List.not_mem_nil, or_false]; omega)).trans hF_122
          have hF_708 : F_696 rd = .inl (cs 17, nd, .inl fcd) := (hB1.2.2.2 rd (by rw [ht_56]; simp only [List.mem_cons, List.not_mem_nil, or_false]; omega)).trans hF_123
          have hF_709 : F_696 g2 = .inr (14, [.ref r2, .int (nI y)]) := (hB1.2.2.2 g2 (by rw [hT_g2]; simp only [List.mem_cons, List.not_mem_nil, or_false]; omega)).trans hF_124
          have hF_710 : F_696 r2 = .inl (cs 17, 61, .inl fi) := (hB1.2.2.2 r2 (by rw [ht_51]; simp only [List.mem_cons, List.not_mem_nil, or_false]; omega)).trans hF_125
          generalize H1 = H at hP hS ⊢
          refine W.widen (k := 0) (n := 0) (by omega) (by omega) ?_
          exact jn_126 ((0 + zd), f2_697, ([] ++ dn)) F_696 (⟨⟨hF_709, hF_710, hq_698, hq_699, hq_700⟩, Or.inr ⟨by omega, by rw [hlt]; rfl⟩⟩) hO hR _ _ hP hD hS ls (lv_sub hl [1, 2, 3, 4, 5, 6, 7, 8, 9, 10] rfl)
        ·
          refine lv_iload hx hb dX15_macroValue_79 (lv_at hl 4 rfl) ?_
          refine lv_bipush (v := 115) hx hb dX15_macroValue_81 (by decide) ?_
          refine lv_icmp_eq (tgt := 93) hx hb dX15_macroValue_83 (by decide) (fun c_711 => absurd c_711 ((fun q => absurd ((nI_eq (b := 115) (by omega) (by omega)).mp q) (by omega)))) (fun c_711 => ?_)
          refine lv_iload hx hb dX15_macroValue_86 (lv_at hl 4 rfl) ?_
          refine lv_bipush (v := 108) hx hb dX15_macroValue_88 (by decide) ?_
          refine lv_icmp_ne (tgt := 115) hx hb dX15_macroValue_90 (by decide) (fun c_712 => ?_) (fun c_712 => absurd c_712 ((fun q => absurd ((nI_eq (b := 108) (by omega) (by omega)).mp q) (by omega))))
          refine lv_iload hx hb dX15_macroValue_115 (lv_at hl 4 rfl) ?_
          refine lv_bipush (v := 115) hx hb dX15_macroValue_117 (by decide) ?_
          refine lv_icmp_ne (tgt := 131) hx hb dX15_macroValue_119 (by decide) (fun c_713 => ?_) (fun c_713 => absurd c_713 ((fun q => absurd ((nI_eq (b := 115) (by omega) (by omega)).mp q) (by omega))))
          refine lv_iload hx hb dX15_macroValue_131 (lv_at hl 4 rfl) ?_
          refine lv_bipush (v := 115) hx hb dX15_macroValue_133 (by decide) ?_
          refine lv_icmp_eq (tgt := 145) hx hb dX15_macroValue_135 (by decide) (fun c_714 => absurd c_714 ((fun q => absurd ((nI_eq (b := 115) (by omega) (by omega)).mp q) (by omega)))) (fun c_714 => ?_)
          refine lv_iload hx hb dX15_macroValue_138 (lv_at hl 4 rfl) ?_
          refine lv_bipush (v := 111) hx hb dX15_macroValue_140 (by decide) ?_
          refine lv_icmp_ne (tgt := 167) hx hb dX15_macroValue_142 (by decide) (fun c_715 => ?_) (fun c_715 => absurd c_715 ((fun q => absurd ((nI_eq (b := 111) (by omega) (by omega)).mp q) (by omega))))
          refine lv_iload hx hb dX15_macroValue_167 (lv_at hl 4 rfl) ?_
          refine lv_bipush (v := 100) hx hb dX15_macroValue_169 (by decide) ?_
          refine lv_icmp_ne (tgt := 192) hx hb dX15_macroValue_171 (by decide) (fun c_716 => ?_) (fun c_716 => absurd c_716 ((fun q => absurd ((nI_eq (b := 100) (by omega) (by omega)).mp q) (by omega))))
          refine W.widen (k := 0) (n := 0) (by omega) (by omega) ?_
          exact jn_126 (0, f_581, []) F_113 (⟨⟨hF_124, hF_125, hF_115, hF_582, src_nil⟩, Or.inl ⟨hlt, rfl⟩⟩) hO hR _ _ hP hD hS ls (lv_sub hl [1, 2, 3, 4, 5, 6, 7, 8, 9, 10] rfl)
    ·
      have hi_717 : j < tt := ltN (N := tt) c_108
      refine lv_aload_n hx hb dX15_macroValue_46 rfl (lv_at hl 6 rfl) ?_
      refine lv_iload hx hb dX15_macroValue_47 (lv_at hl 0 rfl) ?_
      refine pg_bald hx hb hK hP hL_g1 1 hF_100 rfl (vp_in_nI (by omega) (by omega)) dX15_macroValue_49 ?_
      refine lv_topi (fun x_718 ex_718 => ?_)
      obtain rfl : x_718 = fv j := ex_718.trans (congrArg fv (show ((nI j) : Int32).toNatClampNeg = j from nI_clamp (by omega)))
      have hFc := pg_free hD hS hA
      refine va_calli (va_runS (As := [.int (fv j)]) (rest := []) ⟨hx, hb, hml, hown, hts⟩ (s_X15_isDigit_e l dC dI cs ty gm L H.size F_89 (fv j) hW ) ⟨callB_of 1 hts (gi kt_687) rfl rfl rfl (hts _ kt_669) (hts _ kt_707) (by decide +kernel) ⟨Nat.le_of_ble_eq_true rfl, Nat.le_of_ble_eq_true rfl⟩, (hts _ kt_688)⟩ ⟨fun a U g mk q => ⟨q.1, PTm.calling q.2⟩, fun U hU hWm => ⟨rfl, PTm.mk hU hWm hP hK hD hE hO⟩⟩ rfl rfl hl.1 rfl (lv_room (Nat.le_of_ble_eq_true rfl)) dX15_macroValue_50 ⟨by show _ + 0 ≤ 0; omega, by show _ + 0 ≤ 0; omega⟩) hS (fun q _ h => hFc q h) hFc (fun r_719 u t H1 locs ht hvm hw hB hz1 hk1 hS => ?_)
      obtain ⟨F_720, hB1⟩ := hB
      obtain rfl : F_89 = F_720 := (funext (fun a => hB1.2.2.2 a List.not_mem_nil)).symm
      obtain ⟨hP, hD, hO, hR⟩ := QTm.back hB1 ht hFc hR (fun q h => absurd h List.not_mem_nil)
      generalize H1 = H at hP hS ⊢
      have hw : r_719 = (if 48 ≤ (fv j) ∧ (fv j) ≤ 57 then 1 else 0) := hw
      have hw_721 := hw
      refine lv_if_eq (tgt := 65) hx hb dX15_macroValue_53 (by decide) (fun c_722 => ?_) (fun c_722 => ?_)
      ·
        refine lv_iinc (v := (nI (j + 1))) (lv' := [(10, .int (nI (j + 1))), (9, .int (trW ((TC fv z) (tt - 1)))), (8, .int (nI nn)), (7, .int 0), (6, .int (nI ((TC fv z) a))), (0, .ref h0), (1, .ref g1), (2, .int (nI a)), (3, .int (nI tt)), (4, .ref dd), (5, .ref g2)]) hx hb dX15_macroValue_65 hl (k := 0) rfl (nI_1 _) (by decide) rfl (fun ls hl => ?_)
        refine lv_goto (tgt := 40) hx hb dX15_macroValue_68 (by decide) ?_
        refine W.widen (k := 0) (n := 0) (by omega) (by omega) ?_
        exact ih_99 ((j + 1), nn) F_89 (⟨by omega, by omega, hn9, fun q => absurd q (by omega), fun q => by by_cases e9 : j = a + 1; rw [hn5 e9]; exact (mg_n hto (fun q2 => absurd q2.2 (by rw [← e9, tc_at (show j < z by omega)]; exact sme_n hw_721 c_722))).symm; exact hn2 (by omega), hn3, hn4⟩) (by show tt - (j + 1) < tt - j; omega) hO hR _ _ hP hD hS ls (lv_sub hl [0, 1, 2, 3, 4, 5, 6, 7, 8, 9, 10] rfl)
      ·
        have hdg : 48 ≤ (TC fv z) j ∧ (TC fv z) j ≤ 57 := (by rw [tc_at (show j < z by omega)]; exact sme_d hw_721 c_722)
        have hcd : fv j = nI ((TC fv z) j) := tc_in (by omega) (by omega)
        refine lv_aload_n hx hb dX15_macroValue_56 rfl (lv_at hl 6 rfl) ?_
        refine lv_iload hx hb dX15_macroValue_57 (lv_at hl 0 rfl) ?_
        refine pg_bald hx hb hK hP hL_g1 1 hF_100 rfl (vp_in_nI (by omega) (by omega)) dX15_macroValue_59 ?_
        refine lv_topi (fun x_723 ex_723 => ?_)
        obtain rfl : x_723 = fv j := ex_723.trans (congrArg fv (show ((nI j) : Int32).toNatClampNeg = j from nI_clamp (by omega)))
        refine lv_bipush (v := 48) hx hb dX15_macroValue_60 (by decide) ?_
        refine lv_isub hx hb dX15_macroValue_62 ?_
        refine lv_topi (fun x_724 ex_724 => ?_)
        obtain rfl : x_724 = (nI ((TC fv z) j - 48)) := ex_724.trans ((congrArg (fun q => q - 48) hcd).trans (pk_sub (b := 48) (by omega)))
        refine lv_istore (lv' := [(8, .int (nI ((TC fv z) j - 48))), (10, .int (nI j)), (9, .int (trW ((TC fv z) (tt - 1)))), (7, .int 0), (6, .int (nI ((TC fv z) a))), (0, .ref h0), (1, .ref g1), (2, .int (nI a)), (3, .int (nI tt)), (4, .ref dd), (5, .ref g2)]) hx hb dX15_macroValue_63 hl (by decide) rfl (fun ls hl => ?_)
        refine lv_iinc (v := (nI (j + 1))) (lv' := [(10, .int (nI (j + 1))), (8, .int (nI ((TC fv z) j - 48))), (9, .int (trW ((TC fv z) (tt - 1)))), (7, .int 0), (6, .int (nI ((TC fv z) a))), (0, .ref h0), (1, .ref g1), (2, .int (nI a)), (3, .int (nI tt)), (4, .ref dd), (5, .ref g2)]) hx hb dX15_macroValue_65 hl (k := 1) rfl (nI_1 _) (by decide) rfl (fun ls hl => ?_)
        refine lv_goto (tgt := 40) hx hb dX15_macroValue_68 (by decide) ?_
        refine W.widen (k := 0) (n := 0) (by omega) (by omega) ?_
        exact ih_99 ((j + 1), ((TC fv z) j - 48)) F_89 (⟨by omega, by omega, by omega, fun q => absurd q (by omega), fun q => by by_cases e9 : j = a + 1; subst e9; exact mg_d hto (by omega) hdg; exact absurd hdg (by rw [show j = a + 2 by omega]; exact mg_2 hto (by omega)), hn3, hn4⟩) (by show tt - (j + 1) < tt - j; omega) hO hR _ _ hP hD hS ls (lv_sub hl [0, 2, 1, 3, 4, 5, 6, 7, 8, 9, 10] rfl)
  ·
    refine lv_aload_n hx hb dX15_macroValue_11 rfl (lv_at hl 4 rfl) ?_
    refine lv_iload_n hx hb dX15_macroValue_12 rfl (lv_at hl 6 rfl) ?_
    refine lv_iconst (v := 1) hx hb dX15_macroValue_13 (by decide) ?_
    refine lv_isub hx hb dX15_macroValue_14 ?_
    refine lv_topi (fun x_725 ex_725 => ?_)
    obtain rfl : x_725 = (nI (tt - 1)) := ex_725.trans (pk_sub (a := tt) (b := 1) (by omega))
    refine pg_bald hx hb hK hP hL_g1 1 hFg rfl (vp_in_nI (by omega) (by omega)) dX15_macroValue_15 ?_
    refine lv_topi (fun x_726 ex_726 => ?_)
    obtain rfl : x_726 = fv (tt - 1) := ex_726.trans (congrArg fv (show ((nI (tt - 1)) : Int32).toNatClampNeg = (tt - 1) from nI_clamp (by omega)))
    refine lv_bipush (v := 114) hx hb dX15_macroValue_16 (by decide) ?_
    refine lv_icmp_ne (tgt := 32) hx hb dX15_macroValue_18 (by decide) (fun c_727 => ?_) (fun c_727 => ?_)
    ·
      refine lv_iconst (v := 0) hx hb dX15_macroValue_32 (by decide) ?_
      refine W.widen (k := 0) (n := 0) (by omega) (by omega) ?_
      exact jn_69 0 F (⟨(if_neg (fun q => c_727 ((tc_eq (z := z) (by omega) (by first | decide | omega)).mp q))).symm, hFi, hFj⟩) hO hR _ _ hP hD hS ls (lv_sub hl [0, 1, 2, 3, 4, 5, 6, 7, 8] rfl)
    ·
      refine lv_iload_n hx hb dX15_macroValue_21 rfl (lv_at hl 6 rfl) ?_
      refine lv_iconst (v := 1) hx hb dX15_macroValue_22 (by decide) ?_
      refine lv_isub hx hb dX15_macroValue_23 ?_
      refine lv_topi (fun x_728 ex_728 => ?_)
      obtain rfl : x_728 = (nI (tt - 1)) := ex_728.trans (pk_sub (a := tt) (b := 1) (by omega))
      refine lv_iload_n hx hb dX15_macroValue_24 rfl (lv_at hl 5 rfl) ?_
      refine lv_icmp_le (tgt := 32) hx hb dX15_macroValue_25 (by decide) (fun c_729 => ?_) (fun c_729 => ?_)
      ·
        have hi_730 : (tt - 1) ≤ a := (nI_leI (a := (tt - 1)) (b := a) (by omega) (by omega)).mp c_729
        refine lv_iconst (v := 0) hx hb dX15_macroValue_32 (by decide) ?_
        refine W.widen (k := 0) (n := 0) (by omega) (by omega) ?_
        exact jn_69 0 F (⟨(if_neg (fun q => by rw [show tt - 1 = a by omega] at q; rcases hmL with h9 | h9 | h9 | h9 | h9 <;> omega)).symm, hFi, hFj⟩) hO hR _ _ hP hD hS ls (lv_sub hl [0, 1, 2, 3, 4, 5, 6, 7, 8] rfl)
      ·
        have hi_731 : a < (tt - 1) := Nat.not_le.mp (fun q => c_729 ((nI_leI (a := (tt - 1)) (b := a) (by omega) (by omega)).mpr q))
        refine lv_iconst (v := 1) hx hb dX15_macroValue_28 (by decide) ?_
        refine lv_goto (tgt := 33) hx hb dX15_macroValue_29 (by decide) ?_
        refine W.widen (k := 0) (n := 0) (by omega) (by omega) ?_
        exact jn_69 1 F (⟨(if_pos ((tc_eq (z := z) (by omega) (by first | decide | omega)).mpr c_727)).symm, hFi, hFj⟩) hO hR _ _ hP hD hS ls (lv_sub hl [0, 1, 2, 3, 4, 5, 6, 7, 8] rfl)
