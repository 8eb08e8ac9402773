theorem dX15_check_0 : decode cX15_check 0 = .ok (.aload_n 0, 1) := by decide +kernel
theorem dX15_check_1 : decode cX15_check 1 = .ok (.aload_n 1, 1) := by decide +kernel
theorem dX15_check_2 : decode cX15_check 2 = .ok (.invokevirtual 308, 3) := by decide +kernel
theorem dX15_check_5 : decode cX15_check 5 = .ok (.ifCond .eq 5, 3) := by decide +kernel
theorem dX15_check_8 : decode cX15_check 8 = .ok (.iconst 5, 1) := by decide +kernel
theorem dX15_check_9 : decode cX15_check 9 = .ok (.ireturn, 1) := by decide +kernel
theorem dX15_check_10 : decode cX15_check 10 = .ok (.aload_n 0, 1) := by decide +kernel
theorem dX15_check_11 : decode cX15_check 11 = .ok (.aload_n 1, 1) := by decide +kernel
theorem dX15_check_12 : decode cX15_check 12 = .ok (.invokevirtual 311, 3) := by decide +kernel
theorem dX15_check_15 : decode cX15_check 15 = .ok (.istore_n 3, 1) := by decide +kernel
theorem dX15_check_16 : decode cX15_check 16 = .ok (.iload_n 3, 1) := by decide +kernel
theorem dX15_check_17 : decode cX15_check 17 = .ok (.ifCond .ge 15, 3) := by decide +kernel
theorem dX15_check_20 : decode cX15_check 20 = .ok (.iload_n 3, 1) := by decide +kernel
theorem dX15_check_21 : decode cX15_check 21 = .ok (.iconst (-1), 1) := by decide +kernel
theorem dX15_check_22 : decode cX15_check 22 = .ok (.if_icmp .ne 7, 3) := by decide +kernel
theorem dX15_check_25 : decode cX15_check 25 = .ok (.iconst 0, 1) := by decide +kernel
theorem dX15_check_26 : decode cX15_check 26 = .ok (.goto 5, 3) := by decide +kernel
theorem dX15_check_29 : decode cX15_check 29 = .ok (.bipush 6, 2) := by decide +kernel
theorem dX15_check_31 : decode cX15_check 31 = .ok (.ireturn, 1) := by decide +kernel
theorem dX15_check_32 : decode cX15_check 32 = .ok (.aload_n 0, 1) := by decide +kernel
theorem dX15_check_33 : decode cX15_check 33 = .ok (.getfield 51, 3) := by decide +kernel
theorem dX15_check_36 : decode cX15_check 36 = .ok (.iload_n 3, 1) := by decide +kernel
theorem dX15_check_37 : decode cX15_check 37 = .ok (.aaload, 1) := by decide +kernel
theorem dX15_check_38 : decode cX15_check 38 = .ok (.astore 4, 2) := by decide +kernel
theorem dX15_check_40 : decode cX15_check 40 = .ok (.iconst 0, 1) := by decide +kernel
theorem dX15_check_41 : decode cX15_check 41 = .ok (.istore 5, 2) := by decide +kernel
theorem dX15_check_43 : decode cX15_check 43 = .ok (.iconst (-1), 1) := by decide +kernel
theorem dX15_check_44 : decode cX15_check 44 = .ok (.istore 6, 2) := by decide +kernel
theorem dX15_check_46 : decode cX15_check 46 = .ok (.aload 4, 2) := by decide +kernel
theorem dX15_check_48 : decode cX15_check 48 = .ok (.bipush 6, 2) := by decide +kernel
theorem dX15_check_50 : decode cX15_check 50 = .ok (.invokestatic 315, 3) := by decide +kernel
theorem dX15_check_53 : decode cX15_check 53 = .ok (.istore 7, 2) := by decide +kernel
theorem dX15_check_55 : decode cX15_check 55 = .ok (.iload 7, 2) := by decide +kernel
theorem dX15_check_57 : decode cX15_check 57 = .ok (.aload 4, 2) := by decide +kernel
theorem dX15_check_59 : decode cX15_check 59 = .ok (.getfield 190, 3) := by decide +kernel
theorem dX15_check_62 : decode cX15_check 62 = .ok (.if_icmp .ge 94, 3) := by decide +kernel
theorem dX15_check_65 : decode cX15_check 65 = .ok (.aload_n 0, 1) := by decide +kernel
theorem dX15_check_66 : decode cX15_check 66 = .ok (.aload 4, 2) := by decide +kernel
theorem dX15_check_68 : decode cX15_check 68 = .ok (.getfield 295, 3) := by decide +kernel
theorem dX15_check_71 : decode cX15_check 71 = .ok (.iload 7, 2) := by decide +kernel
theorem dX15_check_73 : decode cX15_check 73 = .ok (.aload 4, 2) := by decide +kernel
theorem dX15_check_75 : decode cX15_check 75 = .ok (.iload 7, 2) := by decide +kernel
theorem dX15_check_77 : decode cX15_check 77 = .ok (.invokestatic 318, 3) := by decide +kernel
theorem dX15_check_80 : decode cX15_check 80 = .ok (.invokevirtual 321, 3) := by decide +kernel
theorem dX15_check_83 : decode cX15_check 83 = .ok (.aload_n 0, 1) := by decide +kernel
theorem dX15_check_84 : decode cX15_check 84 = .ok (.getfield 238, 3) := by decide +kernel
theorem dX15_check_87 : decode cX15_check 87 = .ok (.bipush 8, 2) := by decide +kernel
theorem dX15_check_89 : decode cX15_check 89 = .ok (.if_icmp .eq 17, 3) := by decide +kernel
theorem dX15_check_92 : decode cX15_check 92 = .ok (.aload_n 0, 1) := by decide +kernel
theorem dX15_check_93 : decode cX15_check 93 = .ok (.getfield 238, 3) := by decide +kernel
theorem dX15_check_96 : decode cX15_check 96 = .ok (.bipush 6, 2) := by decide +kernel
theorem dX15_check_98 : decode cX15_check 98 = .ok (.if_icmp .ne 11, 3) := by decide +kernel
theorem dX15_check_101 : decode cX15_check 101 = .ok (.iload 6, 2) := by decide +kernel
theorem dX15_check_103 : decode cX15_check 103 = .ok (.ifCond .lt 6, 3) := by decide +kernel
theorem dX15_check_106 : decode cX15_check 106 = .ok (.bipush 6, 2) := by decide +kernel
theorem dX15_check_108 : decode cX15_check 108 = .ok (.ireturn, 1) := by decide +kernel
theorem dX15_check_109 : decode cX15_check 109 = .ok (.aload_n 0, 1) := by decide +kernel
theorem dX15_check_110 : decode cX15_check 110 = .ok (.getfield 238, 3) := by decide +kernel
theorem dX15_check_113 : decode cX15_check 113 = .ok (.bipush 6, 2) := by decide +kernel
theorem dX15_check_115 : decode cX15_check 115 = .ok (.if_icmp .ne 7, 3) := by decide +kernel
theorem dX15_check_118 : decode cX15_check 118 = .ok (.iload 7, 2) := by decide +kernel
theorem dX15_check_120 : decode cX15_check 120 = .ok (.istore 6, 2) := by decide +kernel
theorem dX15_check_122 : decode cX15_check 122 = .ok (.iload 5, 2) := by decide +kernel
theorem dX15_check_124 : decode cX15_check 124 = .ok (.aload_n 0, 1) := by decide +kernel
theorem dX15_check_125 : decode cX15_check 125 = .ok (.getfield 238, 3) := by decide +kernel
theorem dX15_check_128 : decode cX15_check 128 = .ok (.ifCond .ne 7, 3) := by decide +kernel
theorem dX15_check_131 : decode cX15_check 131 = .ok (.iconst 1, 1) := by decide +kernel
theorem dX15_check_132 : decode cX15_check 132 = .ok (.goto 4, 3) := by decide +kernel
theorem dX15_check_135 : decode cX15_check 135 = .ok (.iconst 0, 1) := by decide +kernel
theorem dX15_check_136 : decode cX15_check 136 = .ok (.ior, 1) := by decide +kernel
theorem dX15_check_137 : decode cX15_check 137 = .ok (.istore 5, 2) := by decide +kernel
theorem dX15_check_139 : decode cX15_check 139 = .ok (.aload 4, 2) := by decide +kernel
theorem dX15_check_141 : decode cX15_check 141 = .ok (.aload 4, 2) := by decide +kernel
theorem dX15_check_143 : decode cX15_check 143 = .ok (.iload 7, 2) := by decide +kernel
theorem dX15_check_145 : decode cX15_check 145 = .ok (.invokestatic 318, 3) := by decide +kernel
theorem dX15_check_148 : decode cX15_check 148 = .ok (.invokestatic 315, 3) := by decide +kernel
theorem dX15_check_151 : decode cX15_check 151 = .ok (.istore 7, 2) := by decide +kernel
theorem dX15_check_153 : decode cX15_check 153 = .ok (.goto (-98), 3) := by decide +kernel
theorem dX15_check_156 : decode cX15_check 156 = .ok (.aload 4, 2) := by decide +kernel
theorem dX15_check_158 : decode cX15_check 158 = .ok (.bipush 6, 2) := by decide +kernel
theorem dX15_check_160 : decode cX15_check 160 = .ok (.invokestatic 315, 3) := by decide +kernel
theorem dX15_check_163 : decode cX15_check 163 = .ok (.istore 7, 2) := by decide +kernel
theorem dX15_check_165 : decode cX15_check 165 = .ok (.iload 7, 2) := by decide +kernel
theorem dX15_check_167 : decode cX15_check 167 = .ok (.aload 4, 2) := by decide +kernel
theorem dX15_check_169 : decode cX15_check 169 = .ok (.getfield 190, 3) := by decide +kernel
theorem dX15_check_172 : decode cX15_check 172 = .ok (.if_icmp .ge 116, 3) := by decide +kernel
theorem dX15_check_175 : decode cX15_check 175 = .ok (.aload_n 0, 1) := by decide +kernel
theorem dX15_check_176 : decode cX15_check 176 = .ok (.aload 4, 2) := by decide +kernel
theorem dX15_check_178 : decode cX15_check 178 = .ok (.getfield 295, 3) := by decide +kernel
theorem dX15_check_181 : decode cX15_check 181 = .ok (.iload 7, 2) := by decide +kernel
theorem dX15_check_183 : decode cX15_check 183 = .ok (.aload 4, 2) := by decide +kernel
theorem dX15_check_185 : decode cX15_check 185 = .ok (.iload 7, 2) := by decide +kernel
theorem dX15_check_187 : decode cX15_check 187 = .ok (.invokestatic 318, 3) := by decide +kernel
theorem dX15_check_190 : decode cX15_check 190 = .ok (.invokevirtual 321, 3) := by decide +kernel
theorem dX15_check_193 : decode cX15_check 193 = .ok (.aload_n 0, 1) := by decide +kernel
theorem dX15_check_194 : decode cX15_check 194 = .ok (.getfield 238, 3) := by decide +kernel
theorem dX15_check_197 : decode cX15_check 197 = .ok (.bipush 6, 2) := by decide +kernel
theorem dX15_check_199 : decode cX15_check 199 = .ok (.if_icmp .lt 6, 3) := by decide +kernel
theorem dX15_check_202 : decode cX15_check 202 = .ok (.goto 69, 3) := by decide +kernel
theorem dX15_check_205 : decode cX15_check 205 = .ok (.aload_n 0, 1) := by decide +kernel
theorem dX15_check_206 : decode cX15_check 206 = .ok (.getfield 235, 3) := by decide +kernel
theorem dX15_check_209 : decode cX15_check 209 = .ok (.istore 8, 2) := by decide +kernel
theorem dX15_check_211 : decode cX15_check 211 = .ok (.aload_n 0, 1) := by decide +kernel
theorem dX15_check_212 : decode cX15_check 212 = .ok (.aload 4, 2) := by decide +kernel
theorem dX15_check_214 : decode cX15_check 214 = .ok (.aload_n 1, 1) := by decide +kernel
theorem dX15_check_215 : decode cX15_check 215 = .ok (.iload_n 2, 1) := by decide +kernel
theorem dX15_check_216 : decode cX15_check 216 = .ok (.invokevirtual 324, 3) := by decide +kernel
theorem dX15_check_219 : decode cX15_check 219 = .ok (.istore 9, 2) := by decide +kernel
theorem dX15_check_221 : decode cX15_check 221 = .ok (.iload 9, 2) := by decide +kernel
theorem dX15_check_223 : decode cX15_check 223 = .ok (.iconst 1, 1) := by decide +kernel
theorem dX15_check_224 : decode cX15_check 224 = .ok (.if_icmp .le 6, 3) := by decide +kernel
theorem dX15_check_227 : decode cX15_check 227 = .ok (.iload 9, 2) := by decide +kernel
theorem dX15_check_229 : decode cX15_check 229 = .ok (.ireturn, 1) := by decide +kernel
theorem dX15_check_230 : decode cX15_check 230 = .ok (.iload 9, 2) := by decide +kernel
theorem dX15_check_232 : decode cX15_check 232 = .ok (.iconst 1, 1) := by decide +kernel
theorem dX15_check_233 : decode cX15_check 233 = .ok (.if_icmp .ne 38, 3) := by decide +kernel
theorem dX15_check_236 : decode cX15_check 236 = .ok (.iload 8, 2) := by decide +kernel
theorem dX15_check_238 : decode cX15_check 238 = .ok (.bipush 43, 2) := by decide +kernel
theorem dX15_check_240 : decode cX15_check 240 = .ok (.if_icmp .ne 7, 3) := by decide +kernel
theorem dX15_check_243 : decode cX15_check 243 = .ok (.iconst 2, 1) := by decide +kernel
theorem dX15_check_244 : decode cX15_check 244 = .ok (.goto 26, 3) := by decide +kernel
theorem dX15_check_247 : decode cX15_check 247 = .ok (.iload 8, 2) := by decide +kernel
theorem dX15_check_249 : decode cX15_check 249 = .ok (.bipush 63, 2) := by decide +kernel
theorem dX15_check_251 : decode cX15_check 251 = .ok (.if_icmp .ne 7, 3) := by decide +kernel
theorem dX15_check_254 : decode cX15_check 254 = .ok (.iconst 1, 1) := by decide +kernel
theorem dX15_check_255 : decode cX15_check 255 = .ok (.goto 15, 3) := by decide +kernel
theorem dX15_check_258 : decode cX15_check 258 = .ok (.iload 8, 2) := by decide +kernel
theorem dX15_check_260 : decode cX15_check 260 = .ok (.bipush 126, 2) := by decide +kernel
theorem dX15_check_262 : decode cX15_check 262 = .ok (.if_icmp .ne 7, 3) := by decide +kernel
theorem dX15_check_265 : decode cX15_check 265 = .ok (.iconst 4, 1) := by decide +kernel
theorem dX15_check_266 : decode cX15_check 266 = .ok (.goto 4, 3) := by decide +kernel
theorem dX15_check_269 : decode cX15_check 269 = .ok (.iconst 3, 1) := by decide +kernel
theorem dX15_check_270 : decode cX15_check 270 = .ok (.ireturn, 1) := by decide +kernel
theorem dX15_check_271 : decode cX15_check 271 = .ok (.aload 4, 2) := by decide +kernel
theorem dX15_check_273 : decode cX15_check 273 = .ok (.aload 4, 2) := by decide +kernel
theorem dX15_check_275 : decode cX15_check 275 = .ok (.iload 7, 2) := by decide +kernel
theorem dX15_check_277 : decode cX15_check 277 = .ok (.invokestatic 318, 3) := by decide +kernel
theorem dX15_check_280 : decode cX15_check 280 = .ok (.invokestatic 315, 3) := by decide +kernel
theorem dX15_check_283 : decode cX15_check 283 = .ok (.istore 7, 2) := by decide +kernel
theorem dX15_check_285 : decode cX15_check 285 = .ok (.goto (-120), 3) := by decide +kernel
theorem dX15_check_288 : decode cX15_check 288 = .ok (.iload 6, 2) := by decide +kernel
theorem dX15_check_290 : decode cX15_check 290 = .ok (.ifCond .lt 8, 3) := by decide +kernel
theorem dX15_check_293 : decode cX15_check 293 = .ok (.iload 5, 2) := by decide +kernel
theorem dX15_check_295 : decode cX15_check 295 = .ok (.ifCond .eq 5, 3) := by decide +kernel
theorem dX15_check_298 : decode cX15_check 298 = .ok (.iconst 1, 1) := by decide +kernel
theorem dX15_check_299 : decode cX15_check 299 = .ok (.ireturn, 1) := by decide +kernel
theorem dX15_check_300 : decode cX15_check 300 = .ok (.aload_n 0, 1) := by decide +kernel
theorem dX15_check_301 : decode cX15_check 301 = .ok (.aload 4, 2) := by decide +kernel
theorem dX15_check_303 : decode cX15_check 303 = .ok (.getfield 295, 3) := by decide +kernel
theorem dX15_check_306 : decode cX15_check 306 = .ok (.iload 6, 2) := by decide +kernel
theorem dX15_check_308 : decode cX15_check 308 = .ok (.aload 4, 2) := by decide +kernel
theorem dX15_check_310 : decode cX15_check 310 = .ok (.iload 6, 2) := by decide +kernel
theorem dX15_check_312 : decode cX15_check 312 = .ok (.invokestatic 318, 3) := by decide +kernel
theorem dX15_check_315 : decode cX15_check 315 = .ok (.invokevirtual 321, 3) := by decide +kernel
theorem dX15_check_318 : decode cX15_check 318 = .ok (.aload_n 0, 1) := by decide +kernel
theorem dX15_check_319 : decode cX15_check 319 = .ok (.dup, 1) := by decide +kernel
theorem dX15_check_320 : decode cX15_check 320 = .ok (.getfield 212, 3) := by decide +kernel
theorem dX15_check_323 : decode cX15_check 323 = .ok (.iconst 1, 1) := by decide +kernel
theorem dX15_check_324 : decode cX15_check 324 = .ok (.iadd, 1) := by decide +kernel
theorem dX15_check_325 : decode cX15_check 325 = .ok (.putfield 212, 3) := by decide +kernel
theorem dX15_check_328 : decode cX15_check 328 = .ok (.aload_n 0, 1) := by decide +kernel
theorem dX15_check_329 : decode cX15_check 329 = .ok (.getfield 212, 3) := by decide +kernel
theorem dX15_check_332 : decode cX15_check 332 = .ok (.bipush 10, 2) := by decide +kernel
theorem dX15_check_334 : decode cX15_check 334 = .ok (.if_icmp .le 6, 3) := by decide +kernel
theorem dX15_check_337 : decode cX15_check 337 = .ok (.bipush 6, 2) := by decide +kernel
theorem dX15_check_339 : decode cX15_check 339 = .ok (.ireturn, 1) := by decide +kernel
theorem dX15_check_340 : decode cX15_check 340 = .ok (.aload_n 0, 1) := by decide +kernel
theorem dX15_check_341 : decode cX15_check 341 = .ok (.aload 4, 2) := by decide +kernel
theorem dX15_check_343 : decode cX15_check 343 = .ok (.getfield 295, 3) := by decide +kernel
theorem dX15_check_346 : decode cX15_check 346 = .ok (.aload_n 0, 1) := by decide +kernel
theorem dX15_check_347 : decode cX15_check 347 = .ok (.getfield 241, 3) := by decide +kernel
theorem dX15_check_350 : decode cX15_check 350 = .ok (.aload_n 0, 1) := by decide +kernel
theorem dX15_check_351 : decode cX15_check 351 = .ok (.getfield 244, 3) := by decide +kernel
theorem dX15_check_354 : decode cX15_check 354 = .ok (.aload_n 1, 1) := by decide +kernel
theorem dX15_check_355 : decode cX15_check 355 = .ok (.aload_n 0, 1) := by decide +kernel
theorem dX15_check_356 : decode cX15_check 356 = .ok (.getfield 64, 3) := by decide +kernel
theorem dX15_check_359 : decode cX15_check 359 = .ok (.iload_n 2, 1) := by decide +kernel
theorem dX15_check_360 : decode cX15_check 360 = .ok (.aaload, 1) := by decide +kernel
theorem dX15_check_361 : decode cX15_check 361 = .ok (.invokevirtual 328, 3) := by decide +kernel
theorem dX15_check_364 : decode cX15_check 364 = .ok (.aload_n 0, 1) := by decide +kernel
theorem dX15_check_365 : decode cX15_check 365 = .ok (.aload_n 0, 1) := by decide +kernel
theorem dX15_check_366 : decode cX15_check 366 = .ok (.getfield 64, 3) := by decide +kernel
theorem dX15_check_369 : decode cX15_check 369 = .ok (.iload_n 2, 1) := by decide +kernel
theorem dX15_check_370 : decode cX15_check 370 = .ok (.aaload, 1) := by decide +kernel
theorem dX15_check_371 : decode cX15_check 371 = .ok (.iload_n 2, 1) := by decide +kernel
theorem dX15_check_372 : decode cX15_check 372 = .ok (.iconst 1, 1) := by decide +kernel
theorem dX15_check_373 : decode cX15_check 373 = .ok (.iadd, 1) := by decide +kernel
theorem dX15_check_374 : decode cX15_check 374 = .ok (.invokevirtual 218, 3) := by decide +kernel
theorem dX15_check_377 : decode cX15_check 377 = .ok (.istore 7, 2) := by decide +kernel
theorem dX15_check_379 : decode cX15_check 379 = .ok (.iload 7, 2) := by decide +kernel
theorem dX15_check_381 : decode cX15_check 381 = .ok (.ifCond .ne 8, 3) := by decide +kernel
theorem dX15_check_384 : decode cX15_check 384 = .ok (.bipush 6, 2) := by decide +kernel
theorem dX15_check_386 : decode cX15_check 386 = .ok (.goto 5, 3) := by decide +kernel
theorem dX15_check_389 : decode cX15_check 389 = .ok (.iload 7, 2) := by decide +kernel
theorem dX15_check_391 : decode cX15_check 391 = .ok (.ireturn, 1) := by decide +kernel
theorem kt_983 : Cond.code yX15_recordOf cX15_recordOf 5 (some .int) ∈ tb := tb_at (i := 1545) (by decide +kernel) (by decide +kernel)
theorem kt_984 : Cond.methodLink RX15 311 yX15_recordOf ∈ tb := tb_at (i := 1542) (by decide +kernel) (by decide +kernel)
theorem kt_985 : Cond.instanceMethod yX15_recordOf ∈ tb := tb_at (i := 1544) (by decide +kernel) (by decide +kernel)
theorem kt_986 : Cond.selects RX15 yX15_recordOf yX15_recordOf ∈ tb := tb_at (i := 46) (by decide +kernel) (by decide +kernel)
theorem kt_987 : Cond.code yX15_blankFrom cX15_blankFrom 3 (some .int) ∈ tb := tb_at (i := 1558) (by decide +kernel) (by decide +kernel)
theorem kt_988 : Cond.methodLink RX15 315 yX15_blankFrom ∈ tb := tb_at (i := 1556) (by decide +kernel) (by decide +kernel)
theorem kt_989 : Cond.static yX15_blankFrom ∈ tb := tb_at (i := 1557) (by decide +kernel) (by decide +kernel)
theorem kt_990 : Cond.code yX15_wordEnd cX15_wordEnd 3 (some .int) ∈ tb := tb_at (i := 1561) (by decide +kernel) (by decide +kernel)
theorem kt_991 : Cond.methodLink RX15 318 yX15_wordEnd ∈ tb := tb_at (i := 1559) (by decide +kernel) (by decide +kernel)
theorem kt_992 : Cond.static yX15_wordEnd ∈ tb := tb_at (i := 1560) (by decide +kernel) (by decide +kernel)
theorem kt_993 : Cond.code yX15_readTerm cX15_readTerm 7 none ∈ tb := tb_at (i := 1565) (by decide +kernel) (by decide +kernel)
theorem kt_994 : Cond.methodLink RX15 321 yX15_readTerm ∈ tb := tb_at (i := 1562) (by decide +kernel) (by decide +kernel)
theorem kt_995 : Cond.instanceMethod yX15_readTerm ∈ tb := tb_at (i := 1564) (by decide +kernel) (by decide +kernel)
theorem kt_996 : Cond.selects RX15 yX15_readTerm yX15_readTerm ∈ tb := tb_at (i := 47) (by decide +kernel) (by decide +kernel)
theorem kt_997 : Cond.code yX15_matches cX15_matches 10 (some .int) ∈ tb := tb_at (i := 1599) (by decide +kernel) (by decide +kernel)
theorem kt_998 : Cond.methodLink RX15 324 yX15_matches ∈ tb := tb_at (i := 1596) (by decide +kernel) (by decide +kernel)
theorem kt_999 : Cond.instanceMethod yX15_matches ∈ tb := tb_at (i := 1598) (by decide +kernel) (by decide +kernel)
theorem kt_1000 : Cond.selects RX15 yX15_matches yX15_matches ∈ tb := tb_at (i := 50) (by decide +kernel) (by decide +kernel)
set_option maxHeartbeats 4000000 in
set_option maxRecDepth 100000 in
theorem s_X15_check (l : Launch) (dC : Nat → ClassId) (dI : Nat → Nat → Nat) (cs : Nat → ClassId) (ty : TyM) (gm : Nat → Nat → Nat) (L : List Nat) (sz : Nat) (F : Nat → va_E) (h0 : Nat) (ρ : Nat) (ta : Nat) (ou : Nat) (so : Nat) (ad : Nat) (na : Nat) (va : Nat) (lc : Nat) (dm : Nat) (tg : Nat) (pe : Nat) (ml : Nat) (bg : Nat) (co : Nat) (sp : Nat) (nb0 : Nat) (nb1 : Nat) (nb2 : Nat) (pl : Nat) (se : Nat) (ke : Nat) (wi : Nat) (hs : Nat) (mo : Nat) (po : Nat) (nu : Nat) (pr : Nat) (sq : Nat) (xa : Nat) (sa : Nat) (n64 : Nat) (m64 : Nat) (ex : Nat) (wh : Nat) (sd : Nat) (tk : Nat) (hd : Nat) (ak : Nat) (ho : Nat) (ot : Nat) (sx : Nat) (s0 : Nat) (s1 : Nat) (s2 : Nat) (nf : Nat) (bd : Nat) (mm : Nat) (zt : Nat) (rp : Nat) (zo : Nat) (ze : Nat) (v11 : Int32) (v12 : Int32) (v15 : Int32) (v17 : Int32) (v18 : Int32) (v19 : Int32) (v20 : Int32) (v21 : Int32) (v22 : Int32) (v33 : Int32) (v52 : Int32) (v53 : Int32) (v54 : Int32) (dd : Nat) (τ : Nat) (rd : Nat) (nd : Nat) (lv : Nat) (cn : Nat) (fr : Nat) (lo : Nat) (hW : WTm ty gm L) (hL_h0 : h0 ∈ L) (hT_h0 : ty h0 = (15, ρ, [ta, ou, so, ad, na, va, lc, dm, tg, pe, ml, bg, co, sp, nb0, nb1, nb2, pl, se, ke, wi, hs, mo, po, nu, pr, sq, xa, sa, n64, m64, ex, wh, sd, tk, hd, ak, ho, ot, sx, s0, s1, s2, nf, bd, mm, zt])) (hL_pe : pe ∈ L) (hT_pe : ty pe = (14, ρ + 7, [rp, 100])) (hL_dd : dd ∈ L) (hT_dd : ty dd = (14, τ, [rd, nd])) (hF0 : F h0 = .inr (15, (.ref ta) :: (.int (nI zt)) :: (.int (nI zo)) :: (.int (nI ze)) :: (.ref ou) :: (.ref so) :: (.ref ad) :: (.ref na) :: (.ref va) :: (.ref lc) :: (.ref dm) :: (.int v11) :: (.int v12) :: (.ref tg) :: (.int (nI cn)) :: (.int v15) :: (.ref pe) :: (.int v17) :: (.int v18) :: (.int v19) :: (.int v20) :: (.int v21) :: (.int v22) :: (.ref ml) :: (.ref bg) :: (.ref co) :: (.ref sp) :: (.ref nb0) :: (.ref nb1) :: (.ref nb2) :: (.int (nI nf)) :: (.int (nI bd)) :: (.int (nI mm)) :: (.int v33) :: (.ref pl) :: (.ref se) :: (.ref ke) :: (.ref wi) :: (.ref hs) :: (.ref mo) :: (.ref po) :: (.ref nu) :: (.ref pr) :: (.ref sq) :: (.ref xa) :: (.ref sa) :: (.ref n64) :: (.ref m64) :: (.ref ex) :: (.ref wh) :: (.ref sd) :: (.ref tk) :: (.int v52) :: (.int v53) :: (.int v54) :: (.ref hd) :: (.ref ak) :: (.ref ho) :: (.ref ot) :: [])) (hzo : zo ≤ 6000) (hze : ze ≤ 40) (h33 : (v33 = 0 ∨ 1 ≤ nf)) (h54 : (v54 = 0 ∨ v54 = 1)) (hlc : lv ≤ cn) (hc10 : cn ≤ 10) (hnd : nd ≤ 61) (hC : ∀ (c1 : Nat), cn < c1 → ∀ (sz : Nat) (F : Nat → va_E) (zo : Nat) (ze : Nat) (v11 : Int32) (v12 : Int32) (v15 : Int32) (v17 : Int32) (v18 : Int32) (v19 : Int32) (v20 : Int32) (v21 : Int32) (v22 : Int32) (v33 : Int32) (v52 : Int32) (v53 : Int32) (v54 : Int32) (dd : Nat) (τ : Nat) (rd : Nat) (nd : Nat) (lv : Nat), dd ∈ L → ty dd = (14, τ, [rd, nd]) → (F h0 = .inr (15, (.ref ta) :: (.int (nI zt)) :: (.int (nI zo)) :: (.int (nI ze)) :: (.ref ou) :: (.ref so) :: (.ref ad) :: (.ref na) :: (.ref va) :: (.ref lc) :: (.ref dm) :: (.int v11) :: (.int v12) :: (.ref tg) :: (.int (nI c1)) :: (.int v15) :: (.ref pe) :: (.int v17) :: (.int v18) :: (.int v19) :: (.int v20) :: (.int v21) :: (.int v22) :: (.ref ml) :: (.ref bg) :: (.ref co) :: (.ref sp) :: (.ref nb0) :: (.ref nb1) :: (.ref nb2) :: (.int (nI nf)) :: (.int (nI bd)) :: (.int (nI mm)) :: (.int v33) :: (.ref pl) :: (.ref se) :: (.ref ke) :: (.ref wi) :: (.ref hs) :: (.ref mo) :: (.ref po) :: (.ref nu) :: (.ref pr) :: (.ref sq) :: (.ref xa) :: (.ref sa) :: (.ref n64) :: (.ref m64) :: (.ref ex) :: (.ref wh) :: (.ref sd) :: (.ref tk) :: (.int v52) :: (.int v53) :: (.int v54) :: (.ref hd) :: (.ref ak) :: (.ref ho) :: (.ref ot) :: [])) → (zo ≤ 6000) → (ze ≤ 40) → ((v33 = 0 ∨ 1 ≤ nf)) → ((v54 = 0 ∨ v54 = 1)) → (lv ≤ c1) → (c1 ≤ 10) → (nd ≤ 61) → Met l yX15_check (.code yX15_check cX15_check 10 (some .int) :: tb) ({ frames := fr + 0, cells := 0, slots := 0, locals := lo + 0 }) (va_Pc [.ref h0, .ref dd, .int (nI lv)] (PTEm (dC, dI) cs ty gm L F sz [])) (va_Qi (fun (r : Int32) (cu : Nat) => (cu = 11 → r = 6)) (fun (cu : Nat) T9 => ∃ F2 : Nat → va_E, ∃ u15 : Int32, ∃ u17 : Int32, ∃ u18 : Int32, ∃ u19 : Int32, ∃ u20 : Int32, ∃ u21 : Int32, ∃ u22 : Int32, QTm (dC, dI) cs ty gm L [ρ, ρ + 6, ρ + 7] F F2 (va_A (va_pl L F) sz) T9 ∧ F2 h0 = .inr (15, (.ref ta) :: (.int (nI zt)) :: (.int (nI zo)) :: (.int (nI ze)) :: (.ref ou) :: (.ref so) :: (.ref ad) :: (.ref na) :: (.ref va) :: (.ref lc) :: (.ref dm) :: (.int v11) :: (.int v12) :: (.ref tg) :: (.int (nI cu)) :: (.int u15) :: (.ref pe) :: (.int u17) :: (.int u18) :: (.int u19) :: (.int u20) :: (.int u21) :: (.int u22) :: (.ref ml) :: (.ref bg) :: (.ref co) :: (.ref sp) :: (.ref nb0) :: (.ref nb1) :: (.ref nb2) :: (.int (nI nf)) :: (.int (nI bd)) :: (.int (nI mm)) :: (.int v33) :: (.ref pl) :: (.ref se) :: (.ref ke) :: (.ref wi) :: (.ref hs) :: (.ref mo) :: (.ref po) :: (.ref nu) :: (.ref pr) :: (.ref sq) :: (.ref xa) :: (.ref sa) :: (.ref n64) :: (.ref m64) :: (.ref ex) :: (.ref wh) :: (.ref sd) :: (.ref tk) :: (.int v52) :: (.int v53) :: (.int v54) :: (.ref hd) :: (.ref ak) :: (.ref ho) :: (.ref ot) :: []) ∧ c1 ≤ cu ∧ cu ≤ 11) (va_A (va_pl L F) sz)) 0 0 (va_A (va_pl L F) sz)) : Met l yX15_check (.code yX15_check cX15_check 10 (some .int) :: tb) ({ frames := fr + 7, cells := 0, slots := 0, locals := lo + 158 }) (va_Pc [.ref h0, .ref dd, .int (nI lv)] (PTEm (dC, dI) cs ty gm L F sz [])) (va_Qi (fun (r : Int32) (cu : Nat) => (cu = 11 → r = 6)) (fun (cu : Nat) T9 => ∃ F2 : Nat → va_E, ∃ u15 : Int32, ∃ u17 : Int32, ∃ u18 : Int32, ∃ u19 : Int32, ∃ u20 : Int32, ∃ u21 : Int32, ∃ u22 : Int32, QTm (dC, dI) cs ty gm L [ρ, ρ + 6, ρ + 7] F F2 (va_A (va_pl L F) sz) T9 ∧ F2 h0 = .inr (15, (.ref ta) :: (.int (nI zt)) :: (.int (nI zo)) :: (.int (nI ze)) :: (.ref ou) :: (.ref so) :: (.ref ad) :: (.ref na) :: (.ref va) :: (.ref lc) :: (.ref dm) :: (.int v11) :: (.int v12) :: (.ref tg) :: (.int (nI cu)) :: (.int u15) :: (.ref pe) :: (.int u17) :: (.int u18) :: (.int u19) :: (.int u20) :: (.int u21) :: (.int u22) :: (.ref ml) :: (.ref bg) :: (.ref co) :: (.ref sp) :: (.ref nb0) :: (.ref nb1) :: (.ref nb2) :: (.int (nI nf)) :: (.int (nI bd)) :: (.int (nI mm)) :: (.int v33) :: (.ref pl) :: (.ref se) :: (.ref ke) :: (.ref wi) :: (.ref hs) :: (.ref mo) :: (.ref po) :: (.ref nu) :: (.ref pr) :: (.ref sq) :: (.ref xa) :: (.ref sa) :: (.ref n64) :: (.ref m64) :: (.ref ex) :: (.ref wh) :: (.ref sd) :: (.ref tk) :: (.int v52) :: (.int v53) :: (.int v54) :: (.ref hd) :: (.ref ak) :: (.ref ho) :: (.ref ot) :: []) ∧ cn ≤ cu ∧ cu ≤ 11) (va_A (va_pl L F) sz)) 0 0 (va_A (va_pl L F) sz) := by
  refine Met.ofW (cc := cX15_check) (maxL := 10) (ret := (some .int)) (by decide) rfl ?_
  intro p e s m args below meth c s₁ B hml hv
  obtain ⟨rfl, ⟨hsz, hP, hK, hD0, hE, hO⟩, hG, hX⟩ := hv
  have hx := B.exec
  have hb := B.bytes
  have hr := B.returns
  have hts : ∀ w ∈ tb, w.before _ s = true := fun w h => atoms_spec (ws := .code yX15_check cX15_check 10 (some .int) :: tb) B.pre w (List.mem_cons_of_mem _ h)
  have hown : s.vm.findClass RX15 = some m.cls := findClass_of_methodNamed B.named
  have hlocks := B.notSynchronized
  subst hsz
  have hD := hD0.self (sz := s.heap.size)
  generalize hAe : va_A (va_pl L F) s.heap.size = A at hD hG hX ⊢
  have hA : ∀ q : Nat, s.heap.size ≤ q → A q := fun q h => by rw [← hAe]; exact Or.inr h
  have hS : va_S A s.heap s.heap [] := va_S.rf
  have hR : FR ty [ρ, ρ + 6, ρ + 7] F F := FR.refl
  have hl := lv_entry ([.ref h0, .ref dd, .int (nI lv)]) (n := 10) (Nat.le_of_ble_eq_true rfl)
  rw [lg_entry_eq]
  generalize (lg_sl ([.ref h0, .ref dd, .int (nI lv)]) ++ List.replicate (10 - (lg_sl ([.ref h0, .ref dd, .int (nI lv)])).length) Slot.unset).toArray = ls at hl ⊢
  have hl : lv_has ls 10 [(0, .ref h0), (1, .ref dd), (2, .int (nI lv))] := hl
  refine lv_aload_n hx hb dX15_check_0 rfl (lv_at hl 0 rfl) ?_
  refine lv_aload_n hx hb dX15_check_1 rfl (lv_at hl 1 rfl) ?_
  obtain ⟨hi_1, ht_2, hi_3, ht_4, hi_5, ht_6, hi_7, ht_8, hi_9, ht_10, hi_11, ht_12, hi_13, ⟨r_14, ht_15⟩, hi_16, ⟨r_17, ht_18⟩, hi_19, ht_20, _, _, hi_21, ht_22, hi_23, ht_24, hi_25, ht_26, hi_27, ht_28, hi_29, ht_30, hi_31, ht_32, hi_33, ht_34, hi_35, ⟨r_36, ht_37⟩, hi_38, ht_39, hi_40, ⟨x_41, y0_42, y1_43, y2_44, ht_45⟩, hi_46, ⟨x_47, y0_48, y1_49, y2_50, ht_51⟩, hi_52, ⟨x_53, y_54, w_55, u_56, bl_57, ht_58⟩, hi_59, ht_60, hi_61, ht_62, hi_63, ht_64, hi_65, ht_66, hi_67, ht_68, hi_69, ht_70, hi_71, ht_72, hi_73, ht_74, hi_75, ht_76, hi_77, ht_78, hi_79, ⟨r_80, ht_81⟩, hi_82, ⟨r_83, ht_84⟩, hi_85, ht_86, hi_87, ht_88, hi_89, ⟨r_90, ht_91⟩, hi_92, ⟨r_93, ht_94⟩, hi_95, ⟨r_96, ht_97⟩, hq_98, hq_99, hq_100, hq_101, hq_102, hgO, hgA, hgB⟩ := hW.mod hL_h0 hT_h0
  obtain ⟨hi_103, ht_104, hq_105⟩ := hW.txt hL_dd hT_dd
  have hFc := pg_free hD hS hA
  refine va_calli (va_runV (As := [.ref dd]) (rest := []) ⟨hx, hb, hml, hown, hts⟩ (s_X15_isTrouble l dC dI cs ty gm L s.heap.size F h0 ρ ta ou so ad na va lc dm tg pe ml bg co sp nb0 nb1 nb2 pl se ke wi hs mo po nu pr sq xa sa n64 m64 ex wh sd tk hd ak ho ot sx s0 s1 s2 nf bd mm zt dd τ rd nd hW hL_h0 hT_h0 hL_dd hT_dd) ⟨callB_of 1 hts (gi kt_736) rfl rfl rfl (hts _ kt_669) (hts _ kt_737) (by decide +kernel) ⟨by show 3 + 1 ≤ fr + 7; omega, by show 8 + (3 + 11) + 68 ≤ lo + 158; omega⟩, (hts _ kt_738), (hts _ kt_739)⟩ ⟨fun a U g mk q => ⟨q.1, PTm.calling q.2⟩, pg_recv hK hP hL_h0 hF0 (q := (RX15, TX15, 59)) rfl, fun U hU hWm => ⟨rfl, PTm.mk hU hWm hP hK hD hE hO⟩⟩ rfl rfl hl.1 rfl (lv_room (Nat.le_of_ble_eq_true rfl)) dX15_check_2 ⟨by show _ + 0 ≤ 0; omega, by show _ + 0 ≤ 0; omega⟩) hS (fun q _ h => hFc q h) hFc (fun r_106 u t H1 locs ht hvm hw hB hz1 hk1 hS => ?_)
  obtain ⟨F_107, hB1⟩ := hB
  obtain rfl : F = F_107 := (funext (fun a => hB1.2.2.2 a List.not_mem_nil)).symm
  obtain ⟨hP, hD, hO, hR⟩ := QTm.back hB1 ht hFc hR (fun q h => absurd h List.not_mem_nil)
  generalize H1 = H at hP hS ⊢
  have hw : (r_106 = 0 ∨ r_106 = 1) := hw
  have hw_108 := hw
  refine lv_if_eq (tgt := 10) hx hb dX15_check_5 (by decide) (fun c_109 => ?_) (fun c_109 => ?_)
  ·
    refine lv_aload_n hx hb dX15_check_10 rfl (lv_at hl 0 rfl) ?_
    refine lv_aload_n hx hb dX15_check_11 rfl (lv_at hl 1 rfl) ?_
    have hFc := pg_free hD hS hA
    refine va_calli (va_runV (As := [.ref dd]) (rest := []) ⟨hx, hb, hml, hown, hts⟩ (s_X15_recordOf l dC dI cs ty gm L H.size F h0 ρ ta ou so ad na va lc dm tg pe ml bg co sp nb0 nb1 nb2 pl se ke wi hs mo po nu pr sq xa sa n64 m64 ex wh sd tk hd ak ho ot sx s0 s1 s2 nf bd mm zt dd τ rd nd hW hL_h0 hT_h0 hL_dd hT_dd) ⟨callB_of 1 hts (gi kt_983) rfl rfl rfl (hts _ kt_669) (hts _ kt_984) (by decide +kernel) ⟨by show 6 + 1 ≤ fr + 7; omega, by show 8 + (5 + 11) + 132 ≤ lo + 158; omega⟩, (hts _ kt_985), (hts _ kt_986)⟩ ⟨fun a U g mk q => ⟨q.1, PTEm.calling q.2⟩, pg_recv hK hP hL_h0 hF0 (q := (RX15, TX15, 59)) rfl, fun U hU hWm => ⟨rfl, PTEm.mk hU hWm hP hK hD hE hO hG (fun x hx => absurd hx List.not_mem_nil) hS hFc⟩⟩ rfl rfl hl.1 rfl (lv_room (Nat.le_of_ble_eq_true rfl)) dX15_check_12 ⟨by show _ + 0 ≤ 0; omega, by show _ + 0 ≤ 0; omega⟩) hS (fun q _ h => hFc q h) hFc (fun r_110 u t H1 locs ht hvm hw hB hz1 hk1 hS => ?_)
    obtain ⟨F_111, hB1⟩ := hB
    obtain rfl : F = F_111 := (funext (fun a => hB1.2.2.2 a List.not_mem_nil)).symm
    obtain ⟨hP, hD, hO, hR⟩ := QTm.back hB1 ht hFc hR (fun q h => absurd h List.not_mem_nil)
    generalize H1 = H at hP hS ⊢
    have hw : (r_110 = (-1) ∨ r_110 = (-2) ∨ ∃ j : Nat, j < 40 ∧ r_110 = nI j) := hw
    have hw_112 := hw
    refine lv_istore_n (lv' := [(3, .int r_110), (0, .ref h0), (1, .ref dd), (2, .int (nI lv))]) hx hb dX15_check_15 rfl hl (by decide) rfl (fun ls hl => ?_)
    refine lv_iload_n hx hb dX15_check_16 rfl (lv_at hl 0 rfl) ?_
    refine lv_if_ge (tgt := 32) hx hb dX15_check_17 (by decide) (fun c_113 => ?_) (fun c_113 => ?_)
    ·
      obtain ⟨jr, hjr, ejr⟩ := rec0 hw_112 c_113
      subst ejr
      refine lv_aload_n hx hb dX15_check_32 rfl (lv_at hl 1 rfl) ?_
      refine pg_get (ci := 15) (v := .ref va) (C := RX15) (T := TX15) (N := 59) hx hb hts it_15 hown hK hP hL_h0 hF0 rfl 8 (by decide) (hts _ kt_732) (fun _ h9 => h9) rfl dX15_check_33 ?_
      refine lv_iload_n hx hb dX15_check_36 rfl (lv_at hl 0 rfl) ?_
      obtain ⟨f_114, hF_115, hq_116⟩ := hO.rtxt hi_11 ht_12
      obtain ⟨b_117, r_118, hbf_119, hi_120, ht_121⟩ := hq_116 jr (by omega)
      refine pg_aald (r := b_117) hx hb hK hP hi_11 7 hF_115 rfl (vp_in_nI (by omega) (by omega)) (show f_114 ((nI jr) : Int32).toNatClampNeg = _ from by rw [show ((nI jr) : Int32) = nI jr from rfl, nI_clamp (by omega)]; exact hbf_119) dX15_check_37 ?_
      refine lv_astore (lv' := [(4, .ref b_117), (3, .int (nI jr)), (0, .ref h0), (1, .ref dd), (2, .int (nI lv))]) hx hb dX15_check_38 hl (by decide) rfl (fun ls hl => ?_)
      obtain ⟨hi_122, ht_123, hq_124⟩ := hW.txt hi_120 ht_121
      obtain ⟨z_125, hF_126, hq_127⟩ := hO.txt hi_120 ht_121
      obtain ⟨hq_128, hq_129⟩ := hW.octs hi_122 ht_123
      obtain ⟨f_130, hF_131, hq_132⟩ := hO.octs hi_122 ht_123
      refine lv_iconst (v := 0) hx hb dX15_check_40 (by decide) ?_
      refine lv_istore (lv' := [(5, .int 0), (4, .ref b_117), (3, .int (nI jr)), (0, .ref h0), (1, .ref dd), (2, .int (nI lv))]) hx hb dX15_check_41 hl (by decide) rfl (fun ls hl => ?_)
      refine lv_iconst (v := (-1)) hx hb dX15_check_43 (by decide) ?_
      refine lv_istore (lv' := [(6, .int (-1)), (5, .int 0), (4, .ref b_117), (3, .int (nI jr)), (0, .ref h0), (1, .ref dd), (2, .int (nI lv))]) hx hb dX15_check_44 hl (by decide) rfl (fun ls hl => ?_)
      refine lv_aload hx hb dX15_check_46 (lv_at hl 2 rfl) ?_
      refine lv_bipush (v := 6) hx hb dX15_check_48 (by decide) ?_
      refine W.eq (g2 := F0 m 50 ls [.int (nI 6), .ref b_117]) rfl ?_
      have hFc := pg_free hD hS hA
      refine va_calli (va_runS (As := [.ref b_117, .int (nI 6)]) (rest := []) ⟨hx, hb, hml, hown, hts⟩ (s_X15_blankFrom l dC dI cs ty gm L H.size F b_117 (ρ + 31) r_118 700 z_125 6 hW hi_120 ht_121 hF_126 (by first | omega | assumption) (by first | omega | assumption)) ⟨callB_of 2 hts (gi kt_987) rfl rfl rfl (hts _ kt_669) (hts _ kt_988) (by decide +kernel) ⟨by show 0 + 1 ≤ fr + 7; omega, by show 8 + (3 + 11) + 0 ≤ lo + 158; omega⟩, (hts _ kt_989)⟩ ⟨fun a U g mk q => ⟨q.1, PTm.calling q.2⟩, fun U hU hWm => ⟨rfl, PTm.mk hU hWm hP hK hD hE hO⟩⟩ rfl rfl hl.1 rfl (lv_room (Nat.le_of_ble_eq_true rfl)) dX15_check_50 ⟨by show _ + 0 ≤ 0; omega, by show _ + 0 ≤ 0; omega⟩) hS (fun q _ h => hFc q h) hFc (fun r_133 u t H1 locs ht hvm hw hB hz1 hk1 hS => ?_)
      obtain ⟨F_134, hB1⟩ := hB
      obtain rfl : F = F_134 := (funext (fun a => hB1.2.2.2 a List.not_mem_nil)).symm
      obtain ⟨hP, hD, hO, hR⟩ := QTm.back hB1 ht hFc hR (fun q h => absurd h List.not_mem_nil)
      generalize H1 = H at hP hS ⊢
      have hw : (∃ k : Nat, 6 ≤ k ∧ k ≤ max 6 z_125 ∧ r_133 = nI k ∧ (k < z_125 → gA (F r_118) k ≠ 32)) := hw
      have hw_135 := hw
      obtain ⟨k_136, hk_136a, hk_136b, ek_136, hk_136c⟩ := hw_135
      subst ek_136
      rw [gA_fun hF_131] at hk_136c
      refine lv_istore (lv' := [(7, .int (nI k_136)), (6, .int (-1)), (5, .int 0), (4, .ref b_117), (3, .int (nI jr)), (0, .ref h0), (1, .ref dd), (2, .int (nI lv))]) hx hb dX15_check_53 hl (by decide) rfl (fun ls hl => ?_)
      refine W.widen (k := 0) (n := 0) (by omega) (by omega) ?_
      have hF_138 : F va = .inl (cs 23, 40, .inr (.inr (.inr (.inr f_114)))) := (hR va (by rw [ht_12]; simp)).symm.trans hF_115
      have hF_139 : F b_117 = .inr (14, [.ref r_118, .int (nI z_125)]) := (hR b_117 (by rw [ht_121]; simp)).symm.trans hF_126
      have hF_140 : F r_118 = .inl (cs 17, 700, .inl f_130) := (hR r_118 (by rw [ht_123]; simp)).symm.trans hF_131
      refine pl_loopm (σ := Nat × Int32 × Int32 × Int32 × Int32 × Int32 × Int32 × Int32 × Int32) A (dC, dI) cs ty gm L [ρ, ρ + 6, ρ + 7] F 55 10 (fun (j, w5, w6, q17, q18, q19, q20, q21, q22) => [(7, .int (nI j)), (6, .int w6), (5, .int w5), (4, .ref b_117), (3, .int (nI jr)), (0, .ref h0), (1, .ref dd), (2, .int (nI lv))]) (fun (j, w5, w6, q17, q18, q19, q20, q21, q22) => []) (fun (j, w5, w6, q17, q18, q19, q20, q21, q22) FF => j ≤ 700 ∧ (j < z_125 → f_130 j ≠ 32) ∧ TRN f_130 z_125 w6 ∧ FF h0 = .inr (15, (.ref ta) :: (.int (nI zt)) :: (.int (nI zo)) :: (.int (nI ze)) :: (.ref ou) :: (.ref so) :: (.ref ad) :: (.ref na) :: (.ref va) :: (.ref lc) :: (.ref dm) :: (.int v11) :: (.int v12) :: (.ref tg) :: (.int (nI cn)) :: (.int v15) :: (.ref pe) :: (.int q17) :: (.int q18) :: (.int q19) :: (.int q20) :: (.int q21) :: (.int q22) :: (.ref ml) :: (.ref bg) :: (.ref co) :: (.ref sp) :: (.ref nb0) :: (.ref nb1) :: (.ref nb2) :: (.int (nI nf)) :: (.int (nI bd)) :: (.int (nI mm)) :: (.int v33) :: (.ref pl) :: (.ref se) :: (.ref ke) :: (.ref wi) :: (.ref hs) :: (.ref mo) :: (.ref po) :: (.ref nu) :: (.ref pr) :: (.ref sq) :: (.ref xa) :: (.ref sa) :: (.ref n64) :: (.ref m64) :: (.ref ex) :: (.ref wh) :: (.ref sd) :: (.ref tk) :: (.int v52) :: (.int v53) :: (.int v54) :: (.ref hd) :: (.ref ak) :: (.ref ho) :: (.ref ot) :: [])) (fun (j, w5, w6, q17, q18, q19, q20, q21, q22) => 701 - j) ?_ (k_136, 0, (-1), v17, v18, v19, v20, v21, v22) F (⟨by omega, hk_136c, Or.inl rfl, hF0⟩) hO hR _ _ hP hD hS ls (lv_sub hl [0, 1, 2, 3, 4, 5, 6, 7] rfl)
      rintro ⟨j, w5, w6, q17, q18, q19, q20, q21, q22⟩ F_137 hv_141 hO hR ih_142 H locs hP hD hS ls hl
      have hl : lv_has ls 10 [(7, .int (nI j)), (6, .int w6), (5, .int w5), (4, .ref b_117), (3, .int (nI jr)), (0, .ref h0), (1, .ref dd), (2, .int (nI lv))] := hl
      have hv_141 : j ≤ 700 ∧ (j < z_125 → f_130 j ≠ 32) ∧ TRN f_130 z_125 w6 ∧ F_137 h0 = .inr (15, (.ref ta) :: (.int (nI zt)) :: (.int (nI zo)) :: (.int (nI ze)) :: (.ref ou) :: (.ref so) :: (.ref ad) :: (.ref na) :: (.ref va) :: (.ref lc) :: (.ref dm) :: (.int v11) :: (.int v12) :: (.ref tg) :: (.int (nI cn)) :: (.int v15) :: (.ref pe) :: (.int q17) :: (.int q18) :: (.int q19) :: (.int q20) :: (.int q21) :: (.int q22) :: (.ref ml) :: (.ref bg) :: (.ref co) :: (.ref sp) :: (.ref nb0) :: (.ref nb1) :: (.ref nb2) :: (.int (nI nf)) :: (.int (nI bd)) :: (.int (nI mm)) :: (.int v33) :: (.ref pl) :: (.ref se) :: (.ref ke) :: (.ref wi) :: (.ref hs) :: (.ref mo) :: (.ref po) :: (.ref nu) :: (.ref pr) :: (.ref sq) :: (.ref xa) :: (.ref sa) :: (.ref n64) :: (.ref m64) :: (.ref ex) :: (.ref wh) :: (.ref sd) :: (.ref tk) :: (.int v52) :: (.int v53) :: (.int v54) :: (.ref hd) :: (.ref ak) :: (.ref ho) :: (.ref ot) :: []) := hv_141
      refine W.eq (g2 := F0 m 55 ls []) rfl ?_
      have hF_143 : F_137 va = .inl (cs 23, 40, .inr (.inr (.inr (.inr f_114)))) := (hR va (by rw [ht_12]; simp)).trans hF_138
      have hF_144 : F_137 b_117 = .inr (14, [.ref r_118, .int (nI z_125)]) := (hR b_117 (by rw [ht_121]; simp)).trans hF_139
      have hF_145 : F_137 r_118 = .inl (cs 17, 700, .inl f_130) := (hR r_118 (by rw [ht_123]; simp)).trans hF_140
      obtain ⟨hv1, hv2, hv3, hv4⟩ := hv_141
      refine lv_iload hx hb dX15_check_55 (lv_at hl 0 rfl) ?_
      refine lv_aload hx hb dX15_check_57 (lv_at hl 3 rfl) ?_
      refine pg_get (ci := 14) (v := .int (nI z_125)) (C := RX14) (T := TX14) (N := 2) hx hb hts it_14 hown hK hP hi_120 hF_144 rfl 1 (by decide) (hts _ kt_709) (fun _ h9 => h9) rfl dX15_check_59 ?_
      refine lv_icmp_ge (tgt := 156) hx hb dX15_check_62 (by decide) (fun c_146 => ?_) (fun c_146 => ?_)
      ·
        have hi_147 : z_125 ≤ j := leN (N := z_125) c_146
        refine lv_aload hx hb dX15_check_156 (lv_at hl 3 rfl) ?_
        refine lv_bipush (v := 6) hx hb dX15_check_158 (by decide) ?_
        refine W.eq (g2 := F0 m 160 ls [.int (nI 6), .ref b_117]) rfl ?_
        have hFc := pg_free hD hS hA
        refine va_calli (va_runS (As := [.ref b_117, .int (nI 6)]) (rest := []) ⟨hx, hb, hml, hown, hts⟩ (s_X15_blankFrom l dC dI cs ty gm L H.size F_137 b_117 (ρ + 31) r_118 700 z_125 6 hW hi_120 ht_121 hF_144 (by first | omega | assumption) (by first | omega | assumption)) ⟨callB_of 2 hts (gi kt_987) rfl rfl rfl (hts _ kt_669) (hts _ kt_988) (by decide +kernel) ⟨by show 0 + 1 ≤ fr + 7; omega, by show 8 + (3 + 11) + 0 ≤ lo + 158; omega⟩, (hts _ kt_989)⟩ ⟨fun a U g mk q => ⟨q.1, PTm.calling q.2⟩, fun U hU hWm => ⟨rfl, PTm.mk hU hWm hP hK hD hE hO⟩⟩ rfl rfl hl.1 rfl (lv_room (Nat.le_of_ble_eq_true rfl)) dX15_check_160 ⟨by show _ + 0 ≤ 0; omega, by show _ + 0 ≤ 0; omega⟩) hS (fun q _ h => hFc q h) hFc (fun r_148 u t H1 locs ht hvm hw hB hz1 hk1 hS => ?_)
        obtain ⟨F_149, hB1⟩ := hB
        obtain rfl : F_137 = F_149 := (funext (fun a => hB1.2.2.2 a List.not_mem_nil)).symm
        obtain ⟨hP, hD, hO, hR⟩ := QTm.back hB1 ht hFc hR (fun q h => absurd h List.not_mem_nil)
        generalize H1 = H at hP hS ⊢
        have hw : (∃ k : Nat, 6 ≤ k ∧ k ≤ max 6 z_125 ∧ r_148 = nI k ∧ (k < z_125 → gA (F_137 r_118) k ≠ 32)) := hw
        have hw_150 := hw
        obtain ⟨k_151, hk_151a, hk_151b, ek_151, hk_151c⟩ := hw_150
        subst ek_151
        rw [gA_fun hF_145] at hk_151c
        refine lv_istore (lv' := [(7, .int (nI k_151)), (6, .int w6), (5, .int w5), (4, .ref b_117), (3, .int (nI jr)), (0, .ref h0), (1, .ref dd), (2, .int (nI lv))]) hx hb dX15_check_163 hl (by decide) rfl (fun ls hl => ?_)
        refine W.widen (k := 0) (n := 0) (by omega) (by omega) ?_
        have hF_153 : F va = .inl (cs 23, 40, .inr (.inr (.inr (.inr f_114)))) := (hR va (by rw [ht_12]; simp)).symm.trans hF_143
        have hF_154 : F b_117 = .inr (14, [.ref r_118, .int (nI z_125)]) := (hR b_117 (by rw [ht_121]; simp)).symm.trans hF_144
        have hF_155 : F r_118 = .inl (cs 17, 700, .inl f_130) := (hR r_118 (by rw [ht_123]; simp)).symm.trans hF_145
        refine pl_loopm (σ := Nat × Nat × Int32 × Int32 × Int32 × Int32 × Int32 × Int32 × Int32) A (dC, dI) cs ty gm L [ρ, ρ + 6, ρ + 7] F 165 10 (fun (i, cc, q15, q17, q18, q19, q20, q21, q22) => [(7, .int (nI i)), (6, .int w6), (5, .int w5), (4, .ref b_117), (3, .int (nI jr)), (0, .ref h0), (1, .ref dd), (2, .int (nI lv))]) (fun (i, cc, q15, q17, q18, q19, q20, q21, q22) => []) (fun (i, cc, q15, q17, q18, q19, q20, q21, q22) FF => i ≤ 700 ∧ (i < z_125 → f_130 i ≠ 32) ∧ cn ≤ cc ∧ cc ≤ 10 ∧ FF h0 = .inr (15, (.ref ta) :: (.int (nI zt)) :: (.int (nI zo)) :: (.int (nI ze)) :: (.ref ou) :: (.ref so) :: (.ref ad) :: (.ref na) :: (.ref va) :: (.ref lc) :: (.ref dm) :: (.int v11) :: (.int v12) :: (.ref tg) :: (.int (nI cc)) :: (.int q15) :: (.ref pe) :: (.int q17) :: (.int q18) :: (.int q19) :: (.int q20) :: (.int q21) :: (.int q22) :: (.ref ml) :: (.ref bg) :: (.ref co) :: (.ref sp) :: (.ref nb0) :: (.ref nb1) :: (.ref nb2) :: (.int (nI nf)) :: (.int (nI bd)) :: (.int (nI mm)) :: (.int v33) :: (.ref pl) :: (.ref se) :: (.ref ke) :: (.ref wi) :: (.ref hs) :: (.ref mo) :: (.ref po) :: (.ref nu) :: (.ref pr) :: (.ref sq) :: (.ref xa) :: (.ref sa) :: (.ref n64) :: (.ref m64) :: (.ref ex) :: (.ref wh) :: (.ref sd) :: (.ref tk) :: (.int v52) :: (.int v53) :: (.int v54) :: (.ref hd) :: (.ref ak) :: (.ref ho) :: (.ref ot) :: [])) (fun (i, cc, q15, q17, q18, q19, q20, q21, q22) => 701 - i) ?_ (k_151, cn, v15, q17, q18, q19, q20, q21, q22) F_137 (⟨by omega, hk_151c, by omega, by omega, hv4⟩) hO hR _ _ hP hD hS ls (lv_sub hl [0, 1, 2, 3, 4, 5, 6, 7] rfl)
        rintro ⟨i, cc, q15, q17, q18, q19, q20, q21, q22⟩ F_152 hv_156 hO hR ih_157 H locs hP hD hS ls hl
        have hl : lv_has ls 10 [(7, .int (nI i)), (6, .int w6), (5, .int w5), (4, .ref b_117), (3, .int (nI jr)), (0, .ref h0), (1, .ref dd), (2, .int (nI lv))] := hl
        have hv_156 : i ≤ 700 ∧ (i < z_125 → f_130 i ≠ 32) ∧ cn ≤ cc ∧ cc ≤ 10 ∧ F_152 h0 = .inr (15, (.ref ta) :: (.int (nI zt)) :: (.int (nI zo)) :: (.int (nI ze)) :: (.ref ou) :: (.ref so) :: (.ref ad) :: (.ref na) :: (.ref va) :: (.ref lc) :: (.ref dm) :: (.int v11) :: (.int v12) :: (.ref tg) :: (.int (nI cc)) :: (.int q15) :: (.ref pe) :: (.int q17) :: (.int q18) :: (.int q19) :: (.int q20) :: (.int q21) :: (.int q22) :: (.ref ml) :: (.ref bg) :: (.ref co) :: (.ref sp) :: (.ref nb0) :: (.ref nb1) :: (.ref nb2) :: (.int (nI nf)) :: (.int (nI bd)) :: (.int (nI mm)) :: (.int v33) :: (.ref pl) :: (.ref se) :: (.ref ke) :: (.ref wi) :: (.ref hs) :: (.ref mo) :: (.ref po) :: (.ref nu) :: (.ref pr) :: (.ref sq) :: (.ref xa) :: (.ref sa) :: (.ref n64) :: (.ref m64) :: (.ref ex) :: (.ref wh) :: (.ref sd) :: (.ref tk) :: (.int v52) :: (.int v53) :: (.int v54) :: (.ref hd) :: (.ref ak) :: (.ref ho) :: (.ref ot) :: []) := hv_156
        refine W.eq (g2 := F0 m 165 ls []) rfl ?_
        have hF_158 : F_152 va = .inl (cs 23, 40, .inr (.inr (.inr (.inr f_114)))) := (hR va (by rw [ht_12]; simp)).trans hF_153
        have hF_159 : F_152 b_117 = .inr (14, [.ref r_118, .int (nI z_125)]) := (hR b_117 (by rw [ht_121]; simp)).trans hF_154
        have hF_160 : F_152 r_118 = .inl (cs 17, 700, .inl f_130) := (hR r_118 (by rw [ht_123]; simp)).trans hF_155
        obtain ⟨hu1, hu2, hu3, hu4, hu5⟩ := hv_156
        refine lv_iload hx hb dX15_check_165 (lv_at hl 0 rfl) ?_
        refine lv_aload hx hb dX15_check_167 (lv_at hl 3 rfl) ?_
        refine pg_get (ci := 14) (v := .int (nI z_125)) (C := RX14) (T := TX14) (N := 2) hx hb hts it_14 hown hK hP hi_120 hF_159 rfl 1 (by decide) (hts _ kt_709) (fun _ h9 => h9) rfl dX15_check_169 ?_
        refine lv_icmp_ge (tgt := 288) hx hb dX15_check_172 (by decide) (fun c_161 => ?_) (fun c_161 => ?_)
        ·
          have hi_162 : z_125 ≤ i := leN (N := z_125) c_161
          refine lv_iload hx hb dX15_check_288 (lv_at hl 1 rfl) ?_
          refine lv_if_lt (tgt := 298) hx hb dX15_check_290 (by decide) (fun c_163 => ?_) (fun c_163 => ?_)
          ·
            refine lv_iconst (v := 1) hx hb dX15_check_298 (by decide) ?_
            refine W.widen (k := 0) (n := 0) (by omega) (by omega) ?_
            exact W.iret (v := 1) hx hb hr (fun t ht hWm => ⟨⟨1, cc, rfl, (fun h => by omega), ⟨F_152, q15, q17, q18, q19, q20, q21, q22, QTm.mk ht hP hD hO hR, hu5, by omega, by omega⟩⟩, hS.F ht⟩) hS.2.2 dX15_check_299
          ·
            obtain ⟨tu, te, ew, ht1, ht2, ht3, ht4, ht5⟩ := hv3.resolve_left (fun h => absurd (h ▸ c_163) (by decide))
            subst ew
            refine lv_iload hx hb dX15_check_293 (lv_at hl 2 rfl) ?_
            refine lv_if_eq (tgt := 300) hx hb dX15_check_295 (by decide) (fun c_164 => ?_) (fun c_164 => ?_)
            ·
              refine lv_aload_n hx hb dX15_check_300 rfl (lv_at hl 5 rfl) ?_
              refine lv_aload hx hb dX15_check_301 (lv_at hl 3 rfl) ?_
              refine pg_get (ci := 14) (v := .ref r_118) (C := RX14) (T := TX14) (N := 2) hx hb hts it_14 hown hK hP hi_120 hF_159 rfl 0 (by decide) (hts _ kt_710) (fun _ h9 => h9) rfl dX15_check_303 ?_
              refine lv_iload hx hb dX15_check_306 (lv_at hl 1 rfl) ?_
              refine lv_aload hx hb dX15_check_308 (lv_at hl 3 rfl) ?_
              refine lv_iload hx hb dX15_check_310 (lv_at hl 1 rfl) ?_
              have hFc := pg_free hD hS hA
              refine va_calli (va_runS (As := [.ref b_117, .int (nI tu)]) (rest := [.int (nI tu), .ref r_118, .ref h0]) ⟨hx, hb, hml, hown, hts⟩ (s_X15_wordEnd l dC dI cs ty gm L H.size F_152 b_117 (ρ + 31) r_118 700 z_125 tu hW hi_120 ht_121 hF_159 (by first | omega | assumption) (by first | omega | assumption)) ⟨callB_of 2 hts (gi kt_990) rfl rfl rfl (hts _ kt_669) (hts _ kt_991) (by decide +kernel) ⟨by show 0 + 1 ≤ fr + 7; omega, by show 8 + (3 + 11) + 0 ≤ lo + 158; omega⟩, (hts _ kt_992)⟩ ⟨fun a U g mk q => ⟨q.1, PTm.calling q.2⟩, fun U hU hWm => ⟨rfl, PTm.mk hU hWm hP hK hD hE hO⟩⟩ rfl rfl hl.1 rfl (lv_room (Nat.le_of_ble_eq_true rfl)) dX15_check_312 ⟨by show _ + 0 ≤ 0; omega, by show _ + 0 ≤ 0; omega⟩) hS (fun q _ h => hFc q h) hFc (fun r_165 u t H1 locs ht hvm hw hB hz1 hk1 hS => ?_)
              obtain ⟨F_166, hB1⟩ := hB
              obtain rfl : F_152 = F_166 := (funext (fun a => hB1.2.2.2 a List.not_mem_nil)).symm
              obtain ⟨hP, hD, hO, hR⟩ := QTm.back hB1 ht hFc hR (fun q h => absurd h List.not_mem_nil)
              generalize H1 = H at hP hS ⊢
              have hw : (∃ k : Nat, tu ≤ k ∧ k ≤ max tu z_125 ∧ r_165 = nI k ∧ WE (gA (F_152 r_118)) z_125 tu k) := hw
              have hw_167 := hw
              obtain ⟨k_168, hk_168a, hk_168b, ek_168, hk_168c⟩ := hw_167
              subst ek_168
              rw [gA_fun hF_160] at hk_168c
              obtain rfl : k_168 = te := WE.uniq hk_168c ht4 (by omega) ht2 (by omega) (by omega)
              have hFc := pg_free hD hS hA
              refine va_callv (va_runV (As := [.ref r_118, .int (nI tu), .int (nI k_168)]) (rest := []) ⟨hx, hb, hml, hown, hts⟩ (s_X15_readTerm l dC dI cs ty gm L H.size F_152 h0 ρ ta ou so ad na va lc dm tg pe ml bg co sp nb0 nb1 nb2 pl se ke wi hs mo po nu pr sq xa sa n64 m64 ex wh sd tk hd ak ho ot sx s0 s1 s2 nf bd mm zt zo ze v11 v12 (nI cc) q15 q17 q18 q19 q20 q21 q22 v33 v52 v53 v54 r_118 f_130 tu k_168 hW hL_h0 hT_h0 hi_122 ht_123 hu5 (by first | omega | assumption) (by first | omega | assumption) (by first | omega | assumption) (by first | omega | assumption) hF_160 (by first | omega | assumption) (by have h9 := ht5.1.1; omega)) ⟨callB_of 3 hts (gi kt_993) rfl rfl rfl (hts _ kt_669) (hts _ kt_994) (by decide +kernel) ⟨by show 6 + 1 ≤ fr + 7; omega, by show 8 + (7 + 11) + 132 ≤ lo + 158; omega⟩, (hts _ kt_995), (hts _ kt_996)⟩ ⟨fun a U g mk q => ⟨q.1, PTEm.calling q.2⟩, pg_recv hK hP hL_h0 hu5 (q := (RX15, TX15, 59)) rfl, fun U hU hWm => ⟨rfl, PTEm.mk hU hWm hP hK hD hE hO hG (fun x hx => absurd hx List.not_mem_nil) hS hFc⟩⟩ rfl rfl hl.1 rfl (lv_room (Nat.le_of_ble_eq_true rfl)) dX15_check_315 ⟨by show _ + 0 ≤ 0; omega, by show _ + 0 ≤ 0; omega⟩) hS (fun q _ h => hFc q h) hFc (fun u t H1 locs ht hvm hw hB hz1 hk1 hS => ?_)
              obtain ⟨F_170, u17_171, u18_172, u19_173, u20_174, u21_175, u22_176, hB1, hq_177, hq_178⟩ := hB
              obtain ⟨hP, hD, hO, hR⟩ := QTm.back hB1 ht hFc hR (fun q h => by simp only [List.mem_cons, List.not_mem_nil, or_false] at h ⊢; omega)
              have hF_179 : F_170 va = .inl (cs 23, 40, .inr (.inr (.inr (.inr f_114)))) := (hB1.2.2.2 va (by rw [ht_12]; simp)).trans hF_158
              have hF_180 : F_170 b_117 = .inr (14, [.ref r_118, .int (nI z_125)]) := (hB1.2.2.2 b_117 (by rw [ht_121]; simp)).trans hF_159
              have hF_181 : F_170 r_118 = .inl (cs 17, 700, .inl f_130) := (hB1.2.2.2 r_118 (by rw [ht_123]; simp)).trans hF_160
              generalize H1 = H at hP hS ⊢
              obtain ⟨e19, e20⟩ := (hq_178).2.2 ht5
              refine lv_aload_n hx hb dX15_check_318 rfl (lv_at hl 5 rfl) ?_
              refine lv_dup hx hb dX15_check_319 rfl ?_
              refine pg_get (ci := 15) (v := .int (nI cc)) (C := RX15) (T := TX15) (N := 59) hx hb hts it_15 hown hK hP hL_h0 hq_177 rfl 14 (by decide) (hts _ kt_731) (fun _ h9 => h9) rfl dX15_check_320 ?_
              refine lv_iconst (v := 1) hx hb dX15_check_323 (by decide) ?_
              refine lv_iadd hx hb dX15_check_324 ?_
              refine lv_topi (fun x_182 ex_182 => ?_)
              obtain rfl : x_182 = (nI (cc + 1)) := ex_182.trans (nI_1 cc)
              refine pg_put (ci := 15) (v := .int (nI (cc + 1))) (ty := .int) (C := RX15) (T := TX15) (N := 59) hx hb hts it_15 tyX15 tyX15_ok nmX15 hown hK hP hD hS hL_h0 hq_177 rfl 14 (by decide) (hts _ kt_731) (fun _ h9 => h9) rfl (by decide +kernel) (rfl) (rfl) (Nat.le_of_ble_eq_true rfl) dX15_check_325 (fun H locs hP hD hS => ?_)
              obtain ⟨F_183, he_184, hP, hD, hO, hR⟩ : ∃ G, G = va_up F_170 h0 (.inr (15, (.ref ta) :: (.int (nI zt)) :: (.int (nI zo)) :: (.int (nI ze)) :: (.ref ou) :: (.ref so) :: (.ref ad) :: (.ref na) :: (.ref va) :: (.ref lc) :: (.ref dm) :: (.int v11) :: (.int v12) :: (.ref tg) :: (.int (nI (cc + 1))) :: (.int q15) :: (.ref pe) :: (.int u17_171) :: (.int u18_172) :: (.int u19_173) :: (.int u20_174) :: (.int u21_175) :: (.int u22_176) :: (.ref ml) :: (.ref bg) :: (.ref co) :: (.ref sp) :: (.ref nb0) :: (.ref nb1) :: (.ref nb2) :: (.int (nI nf)) :: (.int (nI bd)) :: (.int (nI mm)) :: (.int v33) :: (.ref pl) :: (.ref se) :: (.ref ke) :: (.ref wi) :: (.ref hs) :: (.ref mo) :: (.ref po) :: (.ref nu) :: (.ref pr) :: (.ref sq) :: (.ref xa) :: (.ref sa) :: (.ref n64) :: (.ref m64) :: (.ref ex) :: (.ref wh) :: (.ref sd) :: (.ref tk) :: (.int v52) :: (.int v53) :: (.int v54) :: (.ref hd) :: (.ref ak) :: (.ref ho) :: (.ref ot) :: [])) ∧ va_P (dC, dI) vwCl (va_pl L G) H ∧ va_D A (va_pl L G) ∧ OKm cs ty gm L G ∧ FR ty [ρ, ρ + 6, ρ + 7] F G := ⟨_, rfl, hP, hD, hO.up (shm.mod hT_h0 ⟨zo, ze, v11, v12, (nI (cc + 1)), q15, u17_171, u18_172, u19_173, u20_174, u21_175, u22_176, v33, v52, v53, v54, rfl, (by first | omega | assumption | exact Or.inl rfl | exact Or.inr rfl), (by first | omega | assumption | exact Or.inl rfl | exact Or.inr rfl), (by first | omega | assumption | exact Or.inl rfl | exact Or.inr rfl), (by first | omega | assumption | exact Or.inl rfl | exact Or.inr rfl)⟩), hR.up hT_h0 (by simp)⟩
              have hF_185 : F_183 h0 = .inr (15, (.ref ta) :: (.int (nI zt)) :: (.int (nI zo)) :: (.int (nI ze)) :: (.ref ou) :: (.ref so) :: (.ref ad) :: (.ref na) :: (.ref va) :: (.ref lc) :: (.ref dm) :: (.int v11) :: (.int v12) :: (.ref tg) :: (.int (nI (cc + 1))) :: (.int q15) :: (.ref pe) :: (.int u17_171) :: (.int u18_172) :: (.int u19_173) :: (.int u20_174) :: (.int u21_175) :: (.int u22_176) :: (.ref ml) :: (.ref bg) :: (.ref co) :: (.ref sp) :: (.ref nb0) :: (.ref nb1) :: (.ref nb2) :: (.int (nI nf)) :: (.int (nI bd)) :: (.int (nI mm)) :: (.int v33) :: (.ref pl) :: (.ref se) :: (.ref ke) :: (.ref wi) :: (.ref hs) :: (.ref mo) :: (.ref po) :: (.ref nu) :: (.ref pr) :: (.ref sq) :: (.ref xa) :: (.ref sa) :: (.ref n64) :: (.ref m64) :: (.ref ex) :: (.ref wh) :: (.ref sd) :: (.ref tk) :: (.int v52) :: (.int v53) :: (.int v54) :: (.ref hd) :: (.ref ak) :: (.ref ho) :: (.ref ot) :: []) := by rw [he_184]; exact up_self
              have hF_186 : F_183 va = .inl (cs 23, 40, .inr (.inr (.inr (.inr f_114)))) := by rw [he_184, up_ne (ne_ty ht_12 hT_h0 (by simp))]; exact hF_179
              have hF_187 : F_183 b_117 = .inr (14, [.ref r_118, .int (nI z_125)]) := by rw [he_184, up_ne (ne_ty ht_121 hT_h0 (by simp))]; exact hF_180
              have hF_188 : F_183 r_118 = .inl (cs 17, 700, .inl f_130) := by rw [he_184, up_ne (ne_ty ht_123 hT_h0 (by simp))]; exact hF_181
              refine lv_aload_n hx hb dX15_check_328 rfl (lv_at hl 5 rfl) ?_
              refine pg_get (ci := 15) (v := .int (nI (cc + 1))) (C := RX15) (T := TX15) (N := 59) hx hb hts it_15 hown hK hP hL_h0 hF_185 rfl 14 (by decide) (hts _ kt_731) (fun _ h9 => h9) rfl dX15_check_329 ?_
              refine lv_bipush (v := 10) hx hb dX15_check_332 (by decide) ?_
              refine lv_icmp_le (tgt := 340) hx hb dX15_check_334 (by decide) (fun c_189 => ?_) (fun c_189 => ?_)
              ·
                have hi_190 : (cc + 1) ≤ 10 := (nI_leI (a := (cc + 1)) (b := 10) (by omega) (by omega)).mp c_189
                refine lv_aload_n hx hb dX15_check_340 rfl (lv_at hl 5 rfl) ?_
                refine lv_aload hx hb dX15_check_341 (lv_at hl 3 rfl) ?_
                refine pg_get (ci := 14) (v := .ref r_118) (C := RX14) (T := TX14) (N := 2) hx hb hts it_14 hown hK hP hi_120 hF_187 rfl 0 (by decide) (hts _ kt_710) (fun _ h9 => h9) rfl dX15_check_343 ?_
                refine lv_aload_n hx hb dX15_check_346 rfl (lv_at hl 5 rfl) ?_
                refine pg_get (ci := 15) (v := .int u19_173) (C := RX15) (T := TX15) (N := 59) hx hb hts it_15 hown hK hP hL_h0 hF_185 rfl 19 (by decide) (hts _ kt_751) (fun _ h9 => h9) rfl dX15_check_347 ?_
                refine lv_topi (fun x9 ex9 => ?_)
                obtain rfl : x9 = nI (tu + 9) := ex9.trans e19
                refine lv_aload_n hx hb dX15_check_350 rfl (lv_at hl 5 rfl) ?_
                refine pg_get (ci := 15) (v := .int u20_174) (C := RX15) (T := TX15) (N := 59) hx hb hts it_15 hown hK hP hL_h0 hF_185 rfl 20 (by decide) (hts _ kt_752) (fun _ h9 => h9) rfl dX15_check_351 ?_
                refine lv_topi (fun x9 ex9 => ?_)
                obtain rfl : x9 = nI k_168 := ex9.trans e20
                refine lv_aload_n hx hb dX15_check_354 rfl (lv_at hl 6 rfl) ?_
                refine lv_aload_n hx hb dX15_check_355 rfl (lv_at hl 5 rfl) ?_
                refine pg_get (ci := 15) (v := .ref tg) (C := RX15) (T := TX15) (N := 59) hx hb hts it_15 hown hK hP hL_h0 hF_185 rfl 13 (by decide) (hts _ kt_966) (fun _ h9 => h9) rfl dX15_check_356 ?_
                refine lv_iload_n hx hb dX15_check_359 rfl (lv_at hl 7 rfl) ?_
                obtain ⟨f_191, hF_192, hq_193⟩ := hO.rtxt hi_19 ht_20
                obtain ⟨b_194, r_195, hbf_196, hi_197, ht_198⟩ := hq_193 lv (by omega)
                refine pg_aald (r := b_194) hx hb hK hP hi_19 7 hF_192 rfl (vp_in_nI (by omega) (by omega)) (show f_191 ((nI lv) : Int32).toNatClampNeg = _ from by rw [show ((nI lv) : Int32) = nI lv from rfl, nI_clamp (by omega)]; exact hbf_196) dX15_check_360 ?_
                obtain ⟨hi_199, ht_200, hq_201⟩ := hW.txt hL_pe hT_pe
                obtain ⟨hi_202, ht_203, hq_204⟩ := hW.txt hi_197 ht_198
                have hFc := pg_free hD hS hA
                refine va_callv (va_runV (As := [.ref r_118, .int (nI (tu + 9)), .int (nI k_168), .ref dd, .ref b_194]) (rest := []) ⟨hx, hb, hml, hown, hts⟩ (s_X15_expand l dC dI cs ty gm L H.size F_183 h0 ρ ta ou so ad na va lc dm tg pe ml bg co sp nb0 nb1 nb2 pl se ke wi hs mo po nu pr sq xa sa n64 m64 ex wh sd tk hd ak ho ot sx s0 s1 s2 nf bd mm zt rp b_194 r_195 r_118 f_130 dd τ rd nd (tu + 9) k_168 hW hL_h0 hT_h0 hL_pe hT_pe hi_197 ht_198 hi_122 ht_123 hL_dd hT_dd hF_188 (by have h9 := ht5.1.1; omega) (by omega) (by first | omega | assumption) (ht5.2)) ⟨callB_of 5 hts (gi kt_975) rfl rfl rfl (hts _ kt_669) (hts _ kt_976) (by decide +kernel) ⟨by show 4 + 1 ≤ fr + 7; omega, by show 8 + (8 + 11) + 102 ≤ lo + 158; omega⟩, (hts _ kt_977), (hts _ kt_978)⟩ ⟨fun a U g mk q => ⟨q.1, PTm.calling q.2⟩, pg_recv hK hP hL_h0 hF_185 (q := (RX15, TX15, 59)) rfl, fun U hU hWm => ⟨rfl, PTm.mk hU hWm hP hK hD hE hO⟩⟩ rfl rfl hl.1 rfl (lv_room (Nat.le_of_ble_eq_true rfl)) dX15_check_361 ⟨by show _ + 0 ≤ 0; omega, by show _ + 0 ≤ 0; omega⟩) hS (fun q _ h => hFc q h) hFc (fun u t H1 locs ht hvm hw hB hz1 hk1 hS => ?_)
                obtain ⟨F_206, hB1⟩ := hB
                obtain ⟨hP, hD, hO, hR⟩ := QTm.back hB1 ht hFc hR (fun q h => by simp only [List.mem_cons, List.not_mem_nil, or_false] at h ⊢; omega)
                have hF_207 : F_206 h0 = .inr (15, (.ref ta) :: (.int (nI zt)) :: (.int (nI zo)) :: (.int (nI ze)) :: (.ref ou) :: (.ref so) :: (.ref ad) :: (.ref na) :: (.ref va) :: (.ref lc) :: (.ref dm) :: (.int v11) :: (.int v12) :: (.ref tg) :: (.int (nI (cc + 1))) :: (.int q15) :: (.ref pe) :: (.int u17_171) :: (.int u18_172) :: (.int u19_173) :: (.int u20_174) :: (.int u21_175) :: (.int u22_176) :: (.ref ml) :: (.ref bg) :: (.ref co) :: (.ref sp) :: (.ref nb0) :: (.ref nb1) :: (.ref nb2) :: (.int (nI nf)) :: (.int (nI bd)) :: (.int (nI mm)) :: (.int v33) :: (.ref pl) :: (.ref se) :: (.ref ke) :: (.ref wi) :: (.ref hs) :: (.ref mo) :: (.ref po) :: (.ref nu) :: (.ref pr) :: (.ref sq) :: (.ref xa) :: (.ref sa) :: (.ref n64) :: (.ref m64) :: (.ref ex) :: (.ref wh) :: (.ref sd) :: (.ref tk) :: (.int v52) :: (.int v53) :: (.int v54) :: (.ref hd) :: (.ref ak) :: (.ref ho) :: (.ref ot) :: []) := (hB1.2.2.2 h0 (by rw [hT_h0]; simp)).trans hF_185
                have hF_208 : F_206 va = .inl (cs 23, 40, .inr (.inr (.inr (.inr f_114)))) := (hB1.2.2.2 va (by rw [ht_12]; simp)).trans hF_186
                have hF_209 : F_206 b_117 = .inr (14, [.ref r_118, .int (nI z_125)]) := (hB1.2.2.2 b_117 (by rw [ht_121]; simp)).trans hF_187
                have hF_210 : F_206 r_118 = .inl (cs 17, 700, .inl f_130) := (hB1.2.2.2 r_118 (by rw [ht_123]; simp)).trans hF_188
                generalize H1 = H at hP hS ⊢
                refine lv_aload_n hx hb dX15_check_364 rfl (lv_at hl 5 rfl) ?_
                refine lv_aload_n hx hb dX15_check_365 rfl (lv_at hl 5 rfl) ?_
                refine pg_get (ci := 15) (v := .ref tg) (C := RX15) (T := TX15) (N := 59) hx hb hts it_15 hown hK hP hL_h0 hF_207 rfl 13 (by decide) (hts _ kt_966) (fun _ h9 => h9) rfl dX15_check_366 ?_
                refine lv_iload_n hx hb dX15_check_369 rfl (lv_at hl 7 rfl) ?_
                obtain ⟨f_211, hF_212, hq_213⟩ := hO.rtxt hi_19 ht_20
                obtain ⟨b_214, r_215, hbf_216, hi_217, ht_218⟩ := hq_213 lv (by omega)
                refine pg_aald (r := b_214) hx hb hK hP hi_19 7 hF_212 rfl (vp_in_nI (by omega) (by omega)) (show f_211 ((nI lv) : Int32).toNatClampNeg = _ from by rw [show ((nI lv) : Int32) = nI lv from rfl, nI_clamp (by omega)]; exact hbf_216) dX15_check_370 ?_
                refine lv_iload_n hx hb dX15_check_371 rfl (lv_at hl 7 rfl) ?_
                refine lv_iconst (v := 1) hx hb dX15_check_372 (by decide) ?_
                refine lv_iadd hx hb dX15_check_373 ?_
                refine lv_topi (fun x_219 ex_219 => ?_)
                obtain rfl : x_219 = (nI (lv + 1)) := ex_219.trans (nI_1 lv)
                obtain ⟨hi_220, ht_221, hq_222⟩ := hW.txt hi_217 ht_218
                have hFc := pg_free hD hS hA
                refine va_calli (va_runV (As := [.ref b_214, .int (nI (lv + 1))]) (rest := []) ⟨hx, hb, hml, hown, hts⟩ (hC (cc + 1) (by omega) H.size F_206 zo ze v11 v12 q15 u17_171 u18_172 u19_173 u20_174 u21_175 u22_176 v33 v52 v53 v54 b_214 (ρ + 6) r_215 61 (lv + 1) hi_217 ht_218 hF_207 (by omega) (by omega) (by assumption) (by assumption) (by omega) (by omega) (by omega)) ⟨callB_of 2 hts (gi kt_971) rfl rfl rfl (hts _ kt_669) (hts _ kt_972) (by decide +kernel) ⟨by show fr + 0 + 1 ≤ fr + 7; omega, by show 8 + (10 + 11) + (lo + 0) ≤ lo + 158; omega⟩, (hts _ kt_973), (hts _ kt_974)⟩ ⟨fun a U g mk q => ⟨q.1, PTEm.calling q.2⟩, pg_recv hK hP hL_h0 hF_207 (q := (RX15, TX15, 59)) rfl, fun U hU hWm => ⟨rfl, PTEm.mk hU hWm hP hK hD hE hO hG (fun x hx => absurd hx List.not_mem_nil) hS hFc⟩⟩ rfl rfl hl.1 rfl (lv_room (Nat.le_of_ble_eq_true rfl)) dX15_check_374 ⟨by show _ + 0 ≤ 0; omega, by show _ + 0 ≤ 0; omega⟩) hS (fun q _ h => hFc q h) hFc (fun r_224 cu_223 t H1 locs ht hvm hw hB hz1 hk1 hS => ?_)
                obtain ⟨F_225, u15_226, u17_227, u18_228, u19_229, u20_230, u21_231, u22_232, hB1, hq_233, hq_234, hq_235⟩ := hB
                obtain ⟨hP, hD, hO, hR⟩ := QTm.back hB1 ht hFc hR (fun q h => by simp only [List.mem_cons, List.not_mem_nil, or_false] at h ⊢; omega)
                have hF_236 : F_225 va = .inl (cs 23, 40, .inr (.inr (.inr (.inr f_114)))) := (hB1.2.2.2 va (by rw [ht_12]; simp)).trans hF_208
                have hF_237 : F_225 b_117 = .inr (14, [.ref r_118, .int (nI z_125)]) := (hB1.2.2.2 b_117 (by rw [ht_121]; simp)).trans hF_209
                have hF_238 : F_225 r_118 = .inl (cs 17, 700, .inl f_130) := (hB1.2.2.2 r_118 (by rw [ht_123]; simp)).trans hF_210
                generalize H1 = H at hP hS ⊢
                have hw : (cu_223 = 11 → r_224 = 6) := hw
                have hw_239 := hw
                refine lv_istore (lv' := [(7, .int r_224), (6, .int (nI tu)), (5, .int w5), (4, .ref b_117), (3, .int (nI jr)), (0, .ref h0), (1, .ref dd), (2, .int (nI lv))]) hx hb dX15_check_377 hl (by decide) rfl (fun ls hl => ?_)
                refine lv_iload hx hb dX15_check_379 (lv_at hl 0 rfl) ?_
                refine lv_if_ne (tgt := 389) hx hb dX15_check_381 (by decide) (fun c_240 => ?_) (fun c_240 => ?_)
                ·
                  refine lv_iload hx hb dX15_check_389 (lv_at hl 0 rfl) ?_
                  refine W.widen (k := 0) (n := 0) (by omega) (by omega) ?_
                  exact W.iret (v := r_224) hx hb hr (fun t ht hWm => ⟨⟨r_224, cu_223, rfl, hw_239, ⟨F_225, u15_226, u17_227, u18_228, u19_229, u20_230, u21_231, u22_232, QTm.mk ht hP hD hO hR, hq_233, by omega, by omega⟩⟩, hS.F ht⟩) hS.2.2 dX15_check_391
                ·
                  refine lv_bipush (v := 6) hx hb dX15_check_384 (by decide) ?_
                  refine lv_goto (tgt := 391) hx hb dX15_check_386 (by decide) ?_
                  refine W.widen (k := 0) (n := 0) (by omega) (by omega) ?_
                  exact W.iret (v := 6) hx hb hr (fun t ht hWm => ⟨⟨6, cu_223, rfl, (fun _ => rfl), ⟨F_225, u15_226, u17_227, u18_228, u19_229, u20_230, u21_231, u22_232, QTm.mk ht hP hD hO hR, hq_233, by omega, by omega⟩⟩, hS.F ht⟩) hS.2.2 dX15_check_391
              ·
                have hi_241 : 10 < (cc + 1) := Nat.not_le.mp (fun q => c_189 ((nI_leI (a := (cc + 1)) (b := 10) (by omega) (by omega)).mpr q))
                refine lv_bipush (v := 6) hx hb dX15_check_337 (by decide) ?_
                refine W.widen (k := 0) (n := 0) (by omega) (by omega) ?_
                exact W.iret (v := 6) hx hb hr (fun t ht hWm => ⟨⟨6, (cc + 1), rfl, (fun _ => rfl), ⟨F_183, q15, u17_171, u18_172, u19_173, u20_174, u21_175, u22_176, QTm.mk ht hP hD hO hR, hF_185, by omega, by omega⟩⟩, hS.F ht⟩) hS.2.2 dX15_check_339
            ·
              refine lv_iconst (v := 1) hx hb dX15_check_298 (by decide) ?_
              refine W.widen (k := 0) (n := 0) (by omega) (by omega) ?_
              exact W.iret (v := 1) hx hb hr (fun t ht hWm => ⟨⟨1, cc, rfl, (fun h => by omega), ⟨F_152, q15, q17, q18, q19, q20, q21, q22, QTm.mk ht hP hD hO hR, hu5, by omega, by omega⟩⟩, hS.F ht⟩) hS.2.2 dX15_check_299
        ·
          have hi_242 : i < z_125 := ltN (N := z_125) c_161
          refine lv_aload_n hx hb dX15_check_175 rfl (lv_at hl 5 rfl) ?_
          refine lv_aload hx hb dX15_check_176 (lv_at hl 3 rfl) ?_
          refine pg_get (ci := 14) (v := .ref r_118) (C := RX14) (T := TX14) (N := 2) hx hb hts it_14 hown hK hP hi_120 hF_159 rfl 0 (by decide) (hts _ kt_710) (fun _ h9 => h9) rfl dX15_check_178 ?_
          refine lv_iload hx hb dX15_check_181 (lv_at hl 0 rfl) ?_
          refine lv_aload hx hb dX15_check_183 (lv_at hl 3 rfl) ?_
          refine lv_iload hx hb dX15_check_185 (lv_at hl 0 rfl) ?_
          have hFc := pg_free hD hS hA
          refine va_calli (va_runS (As := [.ref b_117, .int (nI i)]) (rest := [.int (nI i), .ref r_118, .ref h0]) ⟨hx, hb, hml, hown, hts⟩ (s_X15_wordEnd l dC dI cs ty gm L H.size F_152 b_117 (ρ + 31) r_118 700 z_125 i hW hi_120 ht_121 hF_159 (by first | omega | assumption) (by first | omega | assumption)) ⟨callB_of 2 hts (gi kt_990) rfl rfl rfl (hts _ kt_669) (hts _ kt_991) (by decide +kernel) ⟨by show 0 + 1 ≤ fr + 7; omega, by show 8 + (3 + 11) + 0 ≤ lo + 158; omega⟩, (hts _ kt_992)⟩ ⟨fun a U g mk q => ⟨q.1, PTm.calling q.2⟩, fun U hU hWm => ⟨rfl, PTm.mk hU hWm hP hK hD hE hO⟩⟩ rfl rfl hl.1 rfl (lv_room (Nat.le_of_ble_eq_true rfl)) dX15_check_187 ⟨by show _ + 0 ≤ 0; omega, by show _ + 0 ≤ 0; omega⟩) hS (fun q _ h => hFc q h) hFc (fun r_243 u t H1 locs ht hvm hw hB hz1 hk1 hS => ?_)
          obtain ⟨F_244, hB1⟩ := hB
          obtain rfl : F_152 = F_244 := (funext (fun a => hB1.2.2.2 a List.not_mem_nil)).symm
          obtain ⟨hP, hD, hO, hR⟩ := QTm.back hB1 ht hFc hR (fun q h => absurd h List.not_mem_nil)
          generalize H1 = H at hP hS ⊢
          have hw : (∃ k : Nat, i ≤ k ∧ k ≤ max i z_125 ∧ r_243 = nI k ∧ WE (gA (F_152 r_118)) z_125 i k) := hw
          have hw_245 := hw
          obtain ⟨k_246, hk_246a, hk_246b, ek_246, hk_246c⟩ := hw_245
          subst ek_246
          rw [gA_fun hF_160] at hk_246c
          have hlt := WE.lt hk_246c (by omega) (by omega) (hu2 (by omega))
          have hFc := pg_free hD hS hA
          refine va_callv (va_runV (As := [.ref r_118, .int (nI i), .int (nI k_246)]) (rest := []) ⟨hx, hb, hml, hown, hts⟩ (s_X15_readTerm l dC dI cs ty gm L H.size F_152 h0 ρ ta ou so ad na va lc dm tg pe ml bg co sp nb0 nb1 nb2 pl se ke wi hs mo po nu pr sq xa sa n64 m64 ex wh sd tk hd ak ho ot sx s0 s1 s2 nf bd mm zt zo ze v11 v12 (nI cc) q15 q17 q18 q19 q20 q21 q22 v33 v52 v53 v54 r_118 f_130 i k_246 hW hL_h0 hT_h0 hi_122 ht_123 hu5 (by first | omega | assumption) (by first | omega | assumption) (by first | omega | assumption) (by first | omega | assumption) hF_160 (by first | omega | assumption) (hlt)) ⟨callB_of 3 hts (gi kt_993) rfl rfl rfl (hts _ kt_669) (hts _ kt_994) (by decide +kernel) ⟨by show 6 + 1 ≤ fr + 7; omega, by show 8 + (7 + 11) + 132 ≤ lo + 158; omega⟩, (hts _ kt_995), (hts _ kt_996)⟩ ⟨fun a U g mk q => ⟨q.1, PTEm.calling q.2⟩, pg_recv hK hP hL_h0 hu5 (q := (RX15, TX15, 59)) rfl, fun U hU hWm => ⟨rfl, PTEm.mk hU hWm hP hK hD hE hO hG (fun x hx => absurd hx List.not_mem_nil) hS hFc⟩⟩ rfl rfl hl.1 rfl (lv_room (Nat.le_of_ble_eq_true rfl)) dX15_check_190 ⟨by show _ + 0 ≤ 0; omega, by show _ + 0 ≤ 0; omega⟩) hS (fun q _ h => hFc q h) hFc (fun u t H1 locs ht hvm hw hB hz1 hk1 hS => ?_)
          obtain ⟨F_248, u17_249, u18_250, u19_251, u20_252, u21_253, u22_254, hB1, hq_255, hq_256⟩ := hB
          obtain ⟨hP, hD, hO, hR⟩ := QTm.back hB1 ht hFc hR (fun q h => by simp only [List.mem_cons, List.not_mem_nil, or_false] at h ⊢; omega)
          have hF_257 : F_248 va = .inl (cs 23, 40, .inr (.inr (.inr (.inr f_114)))) := (hB1.2.2.2 va (by rw [ht_12]; simp)).trans hF_158
          have hF_258 : F_248 b_117 = .inr (14, [.ref r_118, .int (nI z_125)]) := (hB1.2.2.2 b_117 (by rw [ht_121]; simp)).trans hF_159
          have hF_259 : F_248 r_118 = .inl (cs 17, 700, .inl f_130) := (hB1.2.2.2 r_118 (by rw [ht_123]; simp)).trans hF_160
          generalize H1 = H at hP hS ⊢
          refine lv_aload_n hx hb dX15_check_193 rfl (lv_at hl 5 rfl) ?_
          refine pg_get (ci := 15) (v := .int u17_249) (C := RX15) (T := TX15) (N := 59) hx hb hts it_15 hown hK hP hL_h0 hq_255 rfl 17 (by decide) (hts _ kt_750) (fun _ h9 => h9) rfl dX15_check_194 ?_
          refine lv_bipush (v := 6) hx hb dX15_check_197 (by decide) ?_
          refine lv_icmp_lt (tgt := 205) hx hb dX15_check_199 (by decide) (fun c_260 => ?_) (fun c_260 => ?_)
          ·
            refine lv_aload_n hx hb dX15_check_205 rfl (lv_at hl 5 rfl) ?_
            refine pg_get (ci := 15) (v := .int u18_250) (C := RX15) (T := TX15) (N := 59) hx hb hts it_15 hown hK hP hL_h0 hq_255 rfl 18 (by decide) (hts _ kt_759) (fun _ h9 => h9) rfl dX15_check_206 ?_
            refine lv_istore (lv' := [(8, .int u18_250), (7, .int (nI i)), (6, .int w6), (5, .int w5), (4, .ref b_117), (3, .int (nI jr)), (0, .ref h0), (1, .ref dd), (2, .int (nI lv))]) hx hb dX15_check_209 hl (by decide) rfl (fun ls hl => ?_)
            refine lv_aload_n hx hb dX15_check_211 rfl (lv_at hl 6 rfl) ?_
            refine lv_aload hx hb dX15_check_212 (lv_at hl 4 rfl) ?_
            refine lv_aload_n hx hb dX15_check_214 rfl (lv_at hl 7 rfl) ?_
            refine lv_iload_n hx hb dX15_check_215 rfl (lv_at hl 8 rfl) ?_
            obtain ⟨hi_261, ht_262, hq_263⟩ := hW.txt hL_pe hT_pe
            have hFc := pg_free hD hS hA
            refine va_calli (va_runV (As := [.ref b_117, .ref dd, .int (nI lv)]) (rest := []) ⟨hx, hb, hml, hown, hts⟩ (s_X15_matches l dC dI cs ty gm L H.size F_248 h0 ρ ta ou so ad na va lc dm tg pe ml bg co sp nb0 nb1 nb2 pl se ke wi hs mo po nu pr sq xa sa n64 m64 ex wh sd tk hd ak ho ot sx s0 s1 s2 nf bd mm zt rp zo ze v11 v12 q15 u17_249 u18_250 u19_251 u20_252 u21_253 u22_254 v33 v52 v53 v54 dd τ rd nd b_117 r_118 f_130 lv cc cn fr lo hW hL_h0 hT_h0 hL_pe hT_pe hL_dd hT_dd hi_120 ht_121 hq_255 (by first | omega | assumption) (by first | omega | assumption) (by first | omega | assumption) (by first | omega | assumption) hF_259 (by first | omega | assumption) (by first | omega | assumption) (by omega) (by first | omega | assumption) (rtp_dok hq_256 c_260 (by omega)) (hC)) ⟨callB_of 3 hts (gi kt_997) rfl rfl rfl (hts _ kt_669) (hts _ kt_998) (by decide +kernel) ⟨by show fr + 5 + 1 ≤ fr + 7; omega, by show 8 + (10 + 11) + (lo + 129) ≤ lo + 158; omega⟩, (hts _ kt_999), (hts _ kt_1000)⟩ ⟨fun a U g mk q => ⟨q.1, PTEm.calling q.2⟩, pg_recv hK hP hL_h0 hq_255 (q := (RX15, TX15, 59)) rfl, fun U hU hWm => ⟨rfl, PTEm.mk hU hWm hP hK hD hE hO hG (fun x hx => absurd hx List.not_mem_nil) hS hFc⟩⟩ rfl rfl hl.1 rfl (lv_room (Nat.le_of_ble_eq_true rfl)) dX15_check_216 ⟨by show _ + 0 ≤ 0; omega, by show _ + 0 ≤ 0; omega⟩) hS (fun q _ h => hFc q h) hFc (fun r_265 cu_264 t H1 locs ht hvm hw hB hz1 hk1 hS => ?_)
            obtain ⟨F_266, u15_267, u17_268, u18_269, u19_270, u20_271, u21_272, u22_273, hB1, hq_274, hq_275, hq_276⟩ := hB
            obtain ⟨hP, hD, hO, hR⟩ := QTm.back hB1 ht hFc hR (fun q h => by simp only [List.mem_cons, List.not_mem_nil, or_false] at h ⊢; omega)
            have hF_277 : F_266 va = .inl (cs 23, 40, .inr (.inr (.inr (.inr f_114)))) := (hB1.2.2.2 va (by rw [ht_12]; simp)).trans hF_257
            have hF_278 : F_266 b_117 = .inr (14, [.ref r_118, .int (nI z_125)]) := (hB1.2.2.2 b_117 (by rw [ht_121]; simp)).trans hF_258
            have hF_279 : F_266 r_118 = .inl (cs 17, 700, .inl f_130) := (hB1.2.2.2 r_118 (by rw [ht_123]; simp)).trans hF_259
            generalize H1 = H at hP hS ⊢
            have hw : (cu_264 = 11 → r_265 = 6) := hw
            have hw_280 := hw
            refine lv_istore (lv' := [(9, .int r_265), (8, .int u18_250), (7, .int (nI i)), (6, .int w6), (5, .int w5), (4, .ref b_117), (3, .int (nI jr)), (0, .ref h0), (1, .ref dd), (2, .int (nI lv))]) hx hb dX15_check_219 hl (by decide) rfl (fun ls hl => ?_)
            refine lv_iload hx hb dX15_check_221 (lv_at hl 0 rfl) ?_
            refine lv_iconst (v := 1) hx hb dX15_check_223 (by decide) ?_
            refine lv_icmp_le (tgt := 230) hx hb dX15_check_224 (by decide) (fun c_281 => ?_) (fun c_281 => ?_)
            ·
              have hle := le1_6 hw_280 c_281 (by omega)
              refine lv_iload hx hb dX15_check_230 (lv_at hl 0 rfl) ?_
              refine lv_iconst (v := 1) hx hb dX15_check_232 (by decide) ?_
              refine lv_icmp_ne (tgt := 271) hx hb dX15_check_233 (by decide) (fun c_282 => ?_) (fun c_282 => ?_)
              ·
                refine lv_aload hx hb dX15_check_271 (lv_at hl 5 rfl) ?_
                refine lv_aload hx hb dX15_check_273 (lv_at hl 5 rfl) ?_
                refine lv_iload hx hb dX15_check_275 (lv_at hl 2 rfl) ?_
                have hFc := pg_free hD hS hA
                refine va_calli (va_runS (As := [.ref b_117, .int (nI i)]) (rest := [.ref b_117]) ⟨hx, hb, hml, hown, hts⟩ (s_X15_wordEnd l dC dI cs ty gm L H.size F_266 b_117 (ρ + 31) r_118 700 z_125 i hW hi_120 ht_121 hF_278 (by first | omega | assumption) (by first | omega | assumption)) ⟨callB_of 2 hts (gi kt_990) rfl rfl rfl (hts _ kt_669) (hts _ kt_991) (by decide +kernel) ⟨by show 0 + 1 ≤ fr + 7; omega, by show 8 + (3 + 11) + 0 ≤ lo + 158; omega⟩, (hts _ kt_992)⟩ ⟨fun a U g mk q => ⟨q.1, PTm.calling q.2⟩, fun U hU hWm => ⟨rfl, PTm.mk hU hWm hP hK hD hE hO⟩⟩ rfl rfl hl.1 rfl (lv_room (Nat.le_of_ble_eq_true rfl)) dX15_check_277 ⟨by show _ + 0 ≤ 0; omega, by show _ + 0 ≤ 0; omega⟩) hS (fun q _ h => hFc q h) hFc (fun r_283 u t H1 locs ht hvm hw hB hz1 hk1 hS => ?_)
                obtain ⟨F_284, hB1⟩ := hB
                obtain rfl : F_266 = F_284 := (funext (fun a => hB1.2.2.2 a List.not_mem_nil)).symm
                obtain ⟨hP, hD, hO, hR⟩ := QTm.back hB1 ht hFc hR (fun q h => absurd h List.not_mem_nil)
                generalize H1 = H at hP hS ⊢
                have hw : (∃ k : Nat, i ≤ k ∧ k ≤ max i z_125 ∧ r_283 = nI k ∧ WE (gA (F_266 r_118)) z_125 i k) := hw
                have hw_285 := hw
                obtain ⟨k_286, hk_286a, hk_286b, ek_286, hk_286c⟩ := hw_285
                subst ek_286
                rw [gA_fun hF_279] at hk_286c
                have hlt2 := WE.lt hk_286c (by omega) (by omega) (hu2 (by omega))
                have hFc := pg_free hD hS hA
                refine va_calli (va_runS (As := [.ref b_117, .int (nI k_286)]) (rest := []) ⟨hx, hb, hml, hown, hts⟩ (s_X15_blankFrom l dC dI cs ty gm L H.size F_266 b_117 (ρ + 31) r_118 700 z_125 k_286 hW hi_120 ht_121 hF_278 (by first | omega | assumption) (by first | omega | assumption)) ⟨callB_of 2 hts (gi kt_987) rfl rfl rfl (hts _ kt_669) (hts _ kt_988) (by decide +kernel) ⟨by show 0 + 1 ≤ fr + 7; omega, by show 8 + (3 + 11) + 0 ≤ lo + 158; omega⟩, (hts _ kt_989)⟩ ⟨fun a U g mk q => ⟨q.1, PTm.calling q.2⟩, fun U hU hWm => ⟨rfl, PTm.mk hU hWm hP hK hD hE hO⟩⟩ rfl rfl hl.1 rfl (lv_room (Nat.le_of_ble_eq_true rfl)) dX15_check_280 ⟨by show _ + 0 ≤ 0; omega, by show _ + 0 ≤ 0; omega⟩) hS (fun q _ h => hFc q h) hFc (fun r_287 u t H1 locs ht hvm hw hB hz1 hk1 hS => ?_)
                obtain ⟨F_288, hB1⟩ := hB
                obtain rfl : F_266 = F_288 := (funext (fun a => hB1.2.2.2 a List.not_mem_nil)).symm
                obtain ⟨hP, hD, hO, hR⟩ := QTm.back hB1 ht hFc hR (fun q h => absurd h List.not_mem_nil)
                generalize H1 = H at hP hS ⊢
                have hw : (∃ k : Nat, k_286 ≤ k ∧ k ≤ max k_286 z_125 ∧ r_287 = nI k ∧ (k < z_125 → gA (F_266 r_118) k ≠ 32)) := hw
                have hw_289 := hw
                obtain ⟨k_290, hk_290a, hk_290b, ek_290, hk_290c⟩ := hw_289
                subst ek_290
                rw [gA_fun hF_279] at hk_290c
                refine lv_istore (lv' := [(7, .int (nI k_290)), (9, .int r_265), (8, .int u18_250), (6, .int w6), (5, .int w5), (4, .ref b_117), (3, .int (nI jr)), (0, .ref h0), (1, .ref dd), (2, .int (nI lv))]) hx hb dX15_check_283 hl (by decide) rfl (fun ls hl => ?_)
                refine lv_goto (tgt := 165) hx hb dX15_check_285 (by decide) ?_
                refine W.widen (k := 0) (n := 0) (by omega) (by omega) ?_
                exact ih_157 (k_290, cu_264, u15_267, u17_268, u18_269, u19_270, u20_271, u21_272, u22_273) F_266 (⟨by omega, hk_290c, by omega, by omega, hq_274⟩) (by show 701 - k_290 < 701 - i; omega) hO hR _ _ hP hD hS ls (lv_sub hl [0, 3, 4, 5, 6, 7, 8, 9] rfl)
              ·
                refine lv_iload hx hb dX15_check_236 (lv_at hl 1 rfl) ?_
                refine lv_bipush (v := 43) hx hb dX15_check_238 (by decide) ?_
                refine lv_icmp_ne (tgt := 247) hx hb dX15_check_240 (by decide) (fun c_291 => ?_) (fun c_291 => ?_)
                ·
                  refine lv_iload hx hb dX15_check_247 (lv_at hl 1 rfl) ?_
                  refine lv_bipush (v := 63) hx hb dX15_check_249 (by decide) ?_
                  refine lv_icmp_ne (tgt := 258) hx hb dX15_check_251 (by decide) (fun c_292 => ?_) (fun c_292 => ?_)
                  ·
                    refine lv_iload hx hb dX15_check_258 (lv_at hl 1 rfl) ?_
                    refine lv_bipush (v := 126) hx hb dX15_check_260 (by decide) ?_
                    refine lv_icmp_ne (tgt := 269) hx hb dX15_check_262 (by decide) (fun c_293 => ?_) (fun c_293 => ?_)
                    ·
                      refine lv_iconst (v := 3) hx hb dX15_check_269 (by decide) ?_
                      refine W.widen (k := 0) (n := 0) (by omega) (by omega) ?_
                      exact W.iret (v := 3) hx hb hr (fun t ht hWm => ⟨⟨3, cu_264, rfl, (fun h => by omega), ⟨F_266, u15_267, u17_268, u18_269, u19_270, u20_271, u21_272, u22_273, QTm.mk ht hP hD hO hR, hq_274, by omega, by omega⟩⟩, hS.F ht⟩) hS.2.2 dX15_check_270
                    ·
                      refine lv_iconst (v := 4) hx hb dX15_check_265 (by decide) ?_
                      refine lv_goto (tgt := 270) hx hb dX15_check_266 (by decide) ?_
                      refine W.widen (k := 0) (n := 0) (by omega) (by omega) ?_
                      exact W.iret (v := 4) hx hb hr (fun t ht hWm => ⟨⟨4, cu_264, rfl, (fun h => by omega), ⟨F_266, u15_267, u17_268, u18_269, u19_270, u20_271, u21_272, u22_273, QTm.mk ht hP hD hO hR, hq_274, by omega, by omega⟩⟩, hS.F ht⟩) hS.2.2 dX15_check_270
                  ·
                    refine lv_iconst (v := 1) hx hb dX15_check_254 (by decide) ?_
                    refine lv_goto (tgt := 270) hx hb dX15_check_255 (by decide) ?_
                    refine W.widen (k := 0) (n := 0) (by omega) (by omega) ?_
                    exact W.iret (v := 1) hx hb hr (fun t ht hWm => ⟨⟨1, cu_264, rfl, (fun h => by omega), ⟨F_266, u15_267, u17_268, u18_269, u19_270, u20_271, u21_272, u22_273, QTm.mk ht hP hD hO hR, hq_274, by omega, by omega⟩⟩, hS.F ht⟩) hS.2.2 dX15_check_270
                ·
                  refine lv_iconst (v := 2) hx hb dX15_check_243 (by decide) ?_
                  refine lv_goto (tgt := 270) hx hb dX15_check_244 (by decide) ?_
                  refine W.widen (k := 0) (n := 0) (by omega) (by omega) ?_
                  exact W.iret (v := 2) hx hb hr (fun t ht hWm => ⟨⟨2, cu_264, rfl, (fun h => by omega), ⟨F_266, u15_267, u17_268, u18_269, u19_270, u20_271, u21_272, u22_273, QTm.mk ht hP hD hO hR, hq_274, by omega, by omega⟩⟩, hS.F ht⟩) hS.2.2 dX15_check_270
            ·
              refine lv_iload hx hb dX15_check_227 (lv_at hl 0 rfl) ?_
              refine W.widen (k := 0) (n := 0) (by omega) (by omega) ?_
              exact W.iret (v := r_265) hx hb hr (fun t ht hWm => ⟨⟨r_265, cu_264, rfl, hw_280, ⟨F_266, u15_267, u17_268, u18_269, u19_270, u20_271, u21_272, u22_273, QTm.mk ht hP hD hO hR, hq_274, by omega, by omega⟩⟩, hS.F ht⟩) hS.2.2 dX15_check_229
          ·
            refine lv_goto (tgt := 271) hx hb dX15_check_202 (by decide) ?_
            refine lv_aload hx hb dX15_check_271 (lv_at hl 3 rfl) ?_
            refine lv_aload hx hb dX15_check_273 (lv_at hl 3 rfl) ?_
            refine lv_iload hx hb dX15_check_275 (lv_at hl 0 rfl) ?_
            have hFc := pg_free hD hS hA
            refine va_calli (va_runS (As := [.ref b_117, .int (nI i)]) (rest := [.ref b_117]) ⟨hx, hb, hml, hown, hts⟩ (s_X15_wordEnd l dC dI cs ty gm L H.size F_248 b_117 (ρ + 31) r_118 700 z_125 i hW hi_120 ht_121 hF_258 (by first | omega | assumption) (by first | omega | assumption)) ⟨callB_of 2 hts (gi kt_990) rfl rfl rfl (hts _ kt_669) (hts _ kt_991) (by decide +kernel) ⟨by show 0 + 1 ≤ fr + 7; omega, by show 8 + (3 + 11) + 0 ≤ lo + 158; omega⟩, (hts _ kt_992)⟩ ⟨fun a U g mk q => ⟨q.1, PTm.calling q.2⟩, fun U hU hWm => ⟨rfl, PTm.mk hU hWm hP hK hD hE hO⟩⟩ rfl rfl hl.1 rfl (lv_room (Nat.le_of_ble_eq_true rfl)) dX15_check_277 ⟨by show _ + 0 ≤ 0; omega, by show _ + 0 ≤ 0; omega⟩) hS (fun q _ h => hFc q h) hFc (fun r_294 u t H1 locs ht hvm hw hB hz1 hk1 hS => ?_)
            obtain ⟨F_295, hB1⟩ := hB
            obtain rfl : F_248 = F_295 := (funext (fun a => hB1.2.2.2 a List.not_mem_nil)).symm
            obtain ⟨hP, hD, hO, hR⟩ := QTm.back hB1 ht hFc hR (fun q h => absurd h List.not_mem_nil)
            generalize H1 = H at hP hS ⊢
            have hw : (∃ k : Nat, i ≤ k ∧ k ≤ max i z_125 ∧ r_294 = nI k ∧ WE (gA (F_248 r_118)) z_125 i k) := hw
            have hw_296 := hw
            obtain ⟨k_297, hk_297a, hk_297b, ek_297, hk_297c⟩ := hw_296
            subst ek_297
            rw [gA_fun hF_259] at hk_297c
            have hlt2 := WE.lt hk_297c (by omega) (by omega) (hu2 (by omega))
            have hFc := pg_free hD hS hA
            refine va_calli (va_runS (As := [.ref b_117, .int (nI k_297)]) (rest := []) ⟨hx, hb, hml, hown, hts⟩ (s_X15_blankFrom l dC dI cs ty gm L H.size F_248 b_117 (ρ + 31) r_118 700 z_125 k_297 hW hi_120 ht_121 hF_258 (by first | omega | assumption) (by first | omega | assumption)) ⟨callB_of 2 hts (gi kt_987) rfl rfl rfl (hts _ kt_669) (hts _ kt_988) (by decide +kernel) ⟨by show 0 + 1 ≤ fr + 7; omega, by show 8 + (3 + 11) + 0 ≤ lo + 158; omega⟩, (hts _ kt_989)⟩ ⟨fun a U g mk q => ⟨q.1, PTm.calling q.2⟩, fun U hU hWm => ⟨rfl, PTm.mk hU hWm hP hK hD hE hO⟩⟩ rfl rfl hl.1 rfl (lv_room (Nat.le_of_ble_eq_true rfl)) dX15_check_280 ⟨by show _ + 0 ≤ 0; omega, by show _ + 0 ≤ 0; omega⟩) hS (fun q _ h => hFc q h) hFc (fun r_298 u t H1 locs ht hvm hw hB hz1 hk1 hS => ?_)
            obtain ⟨F_299, hB1⟩ := hB
            obtain rfl : F_248 = F_299 := (funext (fun a => hB1.2.2.2 a List.not_mem_nil)).symm
            obtain ⟨hP, hD, hO, hR⟩ := QTm.back hB1 ht hFc hR (fun q h => absurd h List.not_mem_nil)
            generalize H1 = H at hP hS ⊢
            have hw : (∃ k : Nat, k_297 ≤ k ∧ k ≤ max k_297 z_125 ∧ r_298 = nI k ∧ (k < z_125 → gA (F_248 r_118) k ≠ 32)) := hw
            have hw_300 := hw
            obtain ⟨k_301, hk_301a, hk_301b, ek_301, hk_301c⟩ := hw_300
            subst ek_301
            rw [gA_fun hF_259] at hk_301c
            refine lv_istore (lv' := [(7, .int (nI k_301)), (6, .int w6), (5, .int w5), (4, .ref b_117), (3, .int (nI jr)), (0, .ref h0), (1, .ref dd), (2, .int (nI lv))]) hx hb dX15_check_283 hl (by decide) rfl (fun ls hl => ?_)
            refine lv_goto (tgt := 165) hx hb dX15_check_285 (by decide) ?_
            refine W.widen (k := 0) (n := 0) (by omega) (by omega) ?_
            exact ih_157 (k_301, cc, q15, u17_249, u18_250, u19_251, u20_252, u21_253, u22_254) F_248 (⟨by omega, hk_301c, by omega, by omega, hq_255⟩) (by show 701 - k_301 < 701 - i; omega) hO hR _ _ hP hD hS ls (lv_sub hl [0, 1, 2, 3, 4, 5, 6, 7] rfl)
      ·
        have hi_302 : j < z_125 := ltN (N := z_125) c_146
        refine lv_aload_n hx hb dX15_check_65 rfl (lv_at hl 5 rfl) ?_
        refine lv_aload hx hb dX15_check_66 (lv_at hl 3 rfl) ?_
        refine pg_get (ci := 14) (v := .ref r_118) (C := RX14) (T := TX14) (N := 2) hx hb hts it_14 hown hK hP hi_120 hF_144 rfl 0 (by decide) (hts _ kt_710) (fun _ h9 => h9) rfl dX15_check_68 ?_
        refine lv_iload hx hb dX15_check_71 (lv_at hl 0 rfl) ?_
        refine lv_aload hx hb dX15_check_73 (lv_at hl 3 rfl) ?_
        refine lv_iload hx hb dX15_check_75 (lv_at hl 0 rfl) ?_
        have hFc := pg_free hD hS hA
        refine va_calli (va_runS (As := [.ref b_117, .int (nI j)]) (rest := [.int (nI j), .ref r_118, .ref h0]) ⟨hx, hb, hml, hown, hts⟩ (s_X15_wordEnd l dC dI cs ty gm L H.size F_137 b_117 (ρ + 31) r_118 700 z_125 j hW hi_120 ht_121 hF_144 (by first | omega | assumption) (by first | omega | assumption)) ⟨callB_of 2 hts (gi kt_990) rfl rfl rfl (hts _ kt_669) (hts _ kt_991) (by decide +kernel) ⟨by show 0 + 1 ≤ fr + 7; omega, by show 8 + (3 + 11) + 0 ≤ lo + 158; omega⟩, (hts _ kt_992)⟩ ⟨fun a U g mk q => ⟨q.1, PTm.calling q.2⟩, fun U hU hWm => ⟨rfl, PTm.mk hU hWm hP hK hD hE hO⟩⟩ rfl rfl hl.1 rfl (lv_room (Nat.le_of_ble_eq_true rfl)) dX15_check_77 ⟨by show _ + 0 ≤ 0; omega, by show _ + 0 ≤ 0; omega⟩) hS (fun q _ h => hFc q h) hFc (fun r_303 u t H1 locs ht hvm hw hB hz1 hk1 hS => ?_)
        obtain ⟨F_304, hB1⟩ := hB
        obtain rfl : F_137 = F_304 := (funext (fun a => hB1.2.2.2 a List.not_mem_nil)).symm
        obtain ⟨hP, hD, hO, hR⟩ := QTm.back hB1 ht hFc hR (fun q h => absurd h List.not_mem_nil)
        generalize H1 = H at hP hS ⊢
        have hw : (∃ k : Nat, j ≤ k ∧ k ≤ max j z_125 ∧ r_303 = nI k ∧ WE (gA (F_137 r_118)) z_125 j k) := hw
        have hw_305 := hw
        obtain ⟨k_306, hk_306a, hk_306b, ek_306, hk_306c⟩ := hw_305
        subst ek_306
        rw [gA_fun hF_145] at hk_306c
        have hlt := WE.lt hk_306c (by omega) (by omega) (hv2 (by omega))
        have hFc := pg_free hD hS hA
        refine va_callv (va_runV (As := [.ref r_118, .int (nI j), .int (nI k_306)]) (rest := []) ⟨hx, hb, hml, hown, hts⟩ (s_X15_readTerm l dC dI cs ty gm L H.size F_137 h0 ρ ta ou so ad na va lc dm tg pe ml bg co sp nb0 nb1 nb2 pl se ke wi hs mo po nu pr sq xa sa n64 m64 ex wh sd tk hd ak ho ot sx s0 s1 s2 nf bd mm zt zo ze v11 v12 (nI cn) v15 q17 q18 q19 q20 q21 q22 v33 v52 v53 v54 r_118 f_130 j k_306 hW hL_h0 hT_h0 hi_122 ht_123 hv4 (by first | omega | assumption) (by first | omega | assumption) (by first | omega | assumption) (by first | omega | assumption) hF_145 (by first | omega | assumption) (hlt)) ⟨callB_of 3 hts (gi kt_993) rfl rfl rfl (hts _ kt_669) (hts _ kt_994) (by decide +kernel) ⟨by show 6 + 1 ≤ fr + 7; omega, by show 8 + (7 + 11) + 132 ≤ lo + 158; omega⟩, (hts _ kt_995), (hts _ kt_996)⟩ ⟨fun a U g mk q => ⟨q.1, PTEm.calling q.2⟩, pg_recv hK hP hL_h0 hv4 (q := (RX15, TX15, 59)) rfl, fun U hU hWm => ⟨rfl, PTEm.mk hU hWm hP hK hD hE hO hG (fun x hx => absurd hx List.not_mem_nil) hS hFc⟩⟩ rfl rfl hl.1 rfl (lv_room (Nat.le_of_ble_eq_true rfl)) dX15_check_80 ⟨by show _ + 0 ≤ 0; omega, by show _ + 0 ≤ 0; omega⟩) hS (fun q _ h => hFc q h) hFc (fun u t H1 locs ht hvm hw hB hz1 hk1 hS => ?_)
        obtain ⟨F_308, u17_309, u18_310, u19_311, u20_312, u21_313, u22_314, hB1, hq_315, hq_316⟩ := hB
        obtain ⟨hP, hD, hO, hR⟩ := QTm.back hB1 ht hFc hR (fun q h => by simp only [List.mem_cons, List.not_mem_nil, or_false] at h ⊢; omega)
        have hF_317 : F_308 va = .inl (cs 23, 40, .inr (.inr (.inr (.inr f_114)))) := (hB1.2.2.2 va (by rw [ht_12]; simp)).trans hF_143
        have hF_318 : F_308 b_117 = .inr (14, [.ref r_118, .int (nI z_125)]) := (hB1.2.2.2 b_117 (by rw [ht_121]; simp)).trans hF_144
        have hF_319 : F_308 r_118 = .inl (cs 17, 700, .inl f_130) := (hB1.2.2.2 r_118 (by rw [ht_123]; simp)).trans hF_145
        generalize H1 = H at hP hS ⊢
        refine lv_aload_n hx hb dX15_check_83 rfl (lv_at hl 5 rfl) ?_
        refine pg_get (ci := 15) (v := .int u17_309) (C := RX15) (T := TX15) (N := 59) hx hb hts it_15 hown hK hP hL_h0 hq_315 rfl 17 (by decide) (hts _ kt_750) (fun _ h9 => h9) rfl dX15_check_84 ?_
        refine lv_bipush (v := 8) hx hb dX15_check_87 (by decide) ?_
        refine lv_icmp_eq (tgt := 106) hx hb dX15_check_89 (by decide) (fun c_320 => ?_) (fun c_320 => ?_)
        ·
          refine lv_bipush (v := 6) hx hb dX15_check_106 (by decide) ?_
          refine W.widen (k := 0) (n := 0) (by omega) (by omega) ?_
          exact W.iret (v := 6) hx hb hr (fun t ht hWm => ⟨⟨6, cn, rfl, (fun _ => rfl), ⟨F_308, v15, u17_309, u18_310, u19_311, u20_312, u21_313, u22_314, QTm.mk ht hP hD hO hR, hq_315, by omega, by omega⟩⟩, hS.F ht⟩) hS.2.2 dX15_check_108
        ·
          refine lv_aload_n hx hb dX15_check_92 rfl (lv_at hl 5 rfl) ?_
          refine pg_get (ci := 15) (v := .int u17_309) (C := RX15) (T := TX15) (N := 59) hx hb hts it_15 hown hK hP hL_h0 hq_315 rfl 17 (by decide) (hts _ kt_750) (fun _ h9 => h9) rfl dX15_check_93 ?_
          refine lv_bipush (v := 6) hx hb dX15_check_96 (by decide) ?_
          refine lv_icmp_ne (tgt := 109) hx hb dX15_check_98 (by decide) (fun c_321 => ?_) (fun c_321 => ?_)
          ·
            refine lv_aload_n hx hb dX15_check_109 rfl (lv_at hl 5 rfl) ?_
            refine pg_get (ci := 15) (v := .int u17_309) (C := RX15) (T := TX15) (N := 59) hx hb hts it_15 hown hK hP hL_h0 hq_315 rfl 17 (by decide) (hts _ kt_750) (fun _ h9 => h9) rfl dX15_check_110 ?_
            refine lv_bipush (v := 6) hx hb dX15_check_113 (by decide) ?_
            refine lv_icmp_ne (tgt := 122) hx hb dX15_check_115 (by decide) (fun c_322 => ?_) (fun c_322 => ?_)
            ·
              refine lv_iload hx hb dX15_check_122 (lv_at hl 2 rfl) ?_
              refine lv_aload_n hx hb dX15_check_124 rfl (lv_at hl 5 rfl) ?_
              refine pg_get (ci := 15) (v := .int u17_309) (C := RX15) (T := TX15) (N := 59) hx hb hts it_15 hown hK hP hL_h0 hq_315 rfl 17 (by decide) (hts _ kt_750) (fun _ h9 => h9) rfl dX15_check_125 ?_
              refine lv_if_ne (tgt := 135) hx hb dX15_check_128 (by decide) (fun c_323 => ?_) (fun c_323 => ?_)
              ·
                refine lv_iconst (v := 0) hx hb dX15_check_135 (by decide) ?_
                refine lv_ior hx hb dX15_check_136 ?_
                refine lv_topi (fun x_324 _ => ?_)
                refine lv_istore (lv' := [(5, .int x_324), (7, .int (nI j)), (6, .int w6), (4, .ref b_117), (3, .int (nI jr)), (0, .ref h0), (1, .ref dd), (2, .int (nI lv))]) hx hb dX15_check_137 hl (by decide) rfl (fun ls hl => ?_)
                refine lv_aload hx hb dX15_check_139 (lv_at hl 3 rfl) ?_
                refine lv_aload hx hb dX15_check_141 (lv_at hl 3 rfl) ?_
                refine lv_iload hx hb dX15_check_143 (lv_at hl 1 rfl) ?_
                have hFc := pg_free hD hS hA
                refine va_calli (va_runS (As := [.ref b_117, .int (nI j)]) (rest := [.ref b_117]) ⟨hx, hb, hml, hown, hts⟩ (s_X15_wordEnd l dC dI cs ty gm L H.size F_308 b_117 (ρ + 31) r_118 700 z_125 j hW hi_120 ht_121 hF_318 (by first | omega | assumption) (by first | omega | assumption)) ⟨callB_of 2 hts (gi kt_990) rfl rfl rfl (hts _ kt_669) (hts _ kt_991) (by decide +kernel) ⟨by show 0 + 1 ≤ fr + 7; omega, by show 8 + (3 + 11) + 0 ≤ lo + 158; omega⟩, (hts _ kt_992)⟩ ⟨fun a U g mk q => ⟨q.1, PTm.calling q.2⟩, fun U hU hWm => ⟨rfl, PTm.mk hU hWm hP hK hD hE hO⟩⟩ rfl rfl hl.1 rfl (lv_room (Nat.le_of_ble_eq_true rfl)) dX15_check_145 ⟨by show _ + 0 ≤ 0; omega, by show _ + 0 ≤ 0; omega⟩) hS (fun q _ h => hFc q h) hFc (fun r_325 u t H1 locs ht hvm hw hB hz1 hk1 hS => ?_)
                obtain ⟨F_326, hB1⟩ := hB
                obtain rfl : F_308 = F_326 := (funext (fun a => hB1.2.2.2 a List.not_mem_nil)).symm
                obtain ⟨hP, hD, hO, hR⟩ := QTm.back hB1 ht hFc hR (fun q h => absurd h List.not_mem_nil)
                generalize H1 = H at hP hS ⊢
                have hw : (∃ k : Nat, j ≤ k ∧ k ≤ max j z_125 ∧ r_325 = nI k ∧ WE (gA (F_308 r_118)) z_125 j k) := hw
                have hw_327 := hw
                obtain ⟨k_328, hk_328a, hk_328b, ek_328, hk_328c⟩ := hw_327
                subst ek_328
                rw [gA_fun hF_319] at hk_328c
                have hlt2 := WE.lt hk_328c (by omega) (by omega) (hv2 (by omega))
                have hFc := pg_free hD hS hA
                refine va_calli (va_runS (As := [.ref b_117, .int (nI k_328)]) (rest := []) ⟨hx, hb, hml, hown, hts⟩ (s_X15_blankFrom l dC dI cs ty gm L H.size F_308 b_117 (ρ + 31) r_118 700 z_125 k_328 hW hi_120 ht_121 hF_318 (by first | omega | assumption) (by first | omega | assumption)) ⟨callB_of 2 hts (gi kt_987) rfl rfl rfl (hts _ kt_669) (hts _ kt_988) (by decide +kernel) ⟨by show 0 + 1 ≤ fr + 7; omega, by show 8 + (3 + 11) + 0 ≤ lo + 158; omega⟩, (hts _ kt_989)⟩ ⟨fun a U g mk q => ⟨q.1, PTm.calling q.2⟩, fun U hU hWm => ⟨rfl, PTm.mk hU hWm hP hK hD hE hO⟩⟩ rfl rfl hl.1 rfl (lv_room (Nat.le_of_ble_eq_true rfl)) dX15_check_148 ⟨by show _ + 0 ≤ 0; omega, by show _ + 0 ≤ 0; omega⟩) hS (fun q _ h => hFc q h) hFc (fun r_329 u t H1 locs ht hvm hw hB hz1 hk1 hS => ?_)
                obtain ⟨F_330, hB1⟩ := hB
                obtain rfl : F_308 = F_330 := (funext (fun a => hB1.2.2.2 a List.not_mem_nil)).symm
                obtain ⟨hP, hD, hO, hR⟩ := QTm.back hB1 ht hFc hR (fun q h => absurd h List.not_mem_nil)
                generalize H1 = H at hP hS ⊢
                have hw : (∃ k : Nat, k_328 ≤ k ∧ k ≤ max k_328 z_125 ∧ r_329 = nI k ∧ (k < z_125 → gA (F_308 r_118) k ≠ 32)) := hw
                have hw_331 := hw
                obtain ⟨k_332, hk_332a, hk_332b, ek_332, hk_332c⟩ := hw_331
                subst ek_332
                rw [gA_fun hF_319] at hk_332c
                refine lv_istore (lv' := [(7, .int (nI k_332)), (5, .int x_324), (6, .int w6), (4, .ref b_117), (3, .int (nI jr)), (0, .ref h0), (1, .ref dd), (2, .int (nI lv))]) hx hb dX15_check_151 hl (by decide) rfl (fun ls hl => ?_)
                refine lv_goto (tgt := 55) hx hb dX15_check_153 (by decide) ?_
                refine W.widen (k := 0) (n := 0) (by omega) (by omega) ?_
                exact ih_142 (k_332, x_324, w6, u17_309, u18_310, u19_311, u20_312, u21_313, u22_314) F_308 (⟨by omega, hk_332c, hv3, hq_315⟩) (by show 701 - k_332 < 701 - j; omega) hO hR _ _ hP hD hS ls (lv_sub hl [0, 2, 1, 3, 4, 5, 6, 7] rfl)
              ·
                refine lv_iconst (v := 1) hx hb dX15_check_131 (by decide) ?_
                refine lv_goto (tgt := 136) hx hb dX15_check_132 (by decide) ?_
                refine lv_ior hx hb dX15_check_136 ?_
                refine lv_topi (fun x_333 _ => ?_)
                refine lv_istore (lv' := [(5, .int x_333), (7, .int (nI j)), (6, .int w6), (4, .ref b_117), (3, .int (nI jr)), (0, .ref h0), (1, .ref dd), (2, .int (nI lv))]) hx hb dX15_check_137 hl (by decide) rfl (fun ls hl => ?_)
                refine lv_aload hx hb dX15_check_139 (lv_at hl 3 rfl) ?_
                refine lv_aload hx hb dX15_check_141 (lv_at hl 3 rfl) ?_
                refine lv_iload hx hb dX15_check_143 (lv_at hl 1 rfl) ?_
                have hFc := pg_free hD hS hA
                refine va_calli (va_runS (As := [.ref b_117, .int (nI j)]) (rest := [.ref b_117]) ⟨hx, hb, hml, hown, hts⟩ (s_X15_wordEnd l dC dI cs ty gm L H.size F_308 b_117 (ρ + 31) r_118 700 z_125 j hW hi_120 ht_121 hF_318 (by first | omega | assumption) (by first | omega | assumption)) ⟨callB_of 2 hts (gi kt_990) rfl rfl rfl (hts _ kt_669) (hts _ kt_991) (by decide +kernel) ⟨by show 0 + 1 ≤ fr + 7; omega, by show 8 + (3 + 11) + 0 ≤ lo + 158; omega⟩, (hts _ kt_992)⟩ ⟨fun a U g mk q => ⟨q.1, PTm.calling q.2⟩, fun U hU hWm => ⟨rfl, PTm.mk hU hWm hP hK hD hE hO⟩⟩ rfl rfl hl.1 rfl (lv_room (Nat.le_of_ble_eq_true rfl)) dX15_check_145 ⟨by show _ + 0 ≤ 0; omega, by show _ + 0 ≤ 0; omega⟩) hS (fun q _ h => hFc q h) hFc (fun r_334 u t H1 locs ht hvm hw hB hz1 hk1 hS => ?_)
                obtain ⟨F_335, hB1⟩ := hB
                obtain rfl : F_308 = F_335 := (funext (fun a => hB1.2.2.2 a List.not_mem_nil)).symm
                obtain ⟨hP, hD, hO, hR⟩ := QTm.back hB1 ht hFc hR (fun q h => absurd h List.not_mem_nil)
                generalize H1 = H at hP hS ⊢
                have hw : (∃ k : Nat, j ≤ k ∧ k ≤ max j z_125 ∧ r_334 = nI k ∧ WE (gA (F_308 r_118)) z_125 j k) := hw
                have hw_336 := hw
                obtain ⟨k_337, hk_337a, hk_337b, ek_337, hk_337c⟩ := hw_336
                subst ek_337
                rw [gA_fun hF_319] at hk_337c
                have hlt2 := WE.lt hk_337c (by omega) (by omega) (hv2 (by omega))
                have hFc := pg_free hD hS hA
                refine va_calli (va_runS (As := [.ref b_117, .int (nI k_337)]) (rest := []) ⟨hx, hb, hml, hown, hts⟩ (s_X15_blankFrom l dC dI cs ty gm L H.size F_308 b_117 (ρ + 31) r_118 700 z_125 k_337 hW hi_120 ht_121 hF_318 (by first | omega | assumption) (by first | omega | assumption)) ⟨callB_of 2 hts (gi kt_987) rfl rfl rfl (hts _ kt_669) (hts _ kt_988) (by decide +kernel) ⟨by show 0 + 1 ≤ fr + 7; omega, by show 8 + (3 + 11) + 0 ≤ lo + 158; omega⟩, (hts _ kt_989)⟩ ⟨fun a U g mk q => ⟨q.1, PTm.calling q.2⟩, fun U hU hWm => ⟨rfl, PTm.mk hU hWm hP hK hD hE hO⟩⟩ rfl rfl hl.1 rfl (lv_room (Nat.le_of_ble_eq_true rfl)) dX15_check_148 ⟨by show _ + 0 ≤ 0; omega, by show _ + 0 ≤ 0; omega⟩) hS (fun q _ h => hFc q h) hFc (fun r_338 u t H1 locs ht hvm hw hB hz1 hk1 hS => ?_)
                obtain ⟨F_339, hB1⟩ := hB
                obtain rfl : F_308 = F_339 := (funext (fun a => hB1.2.2.2 a List.not_mem_nil)).symm
                obtain ⟨hP, hD, hO, hR⟩ := QTm.back hB1 ht hFc hR (fun q h => absurd h List.not_mem_nil)
                generalize H1 = H at hP hS ⊢
                have hw : (∃ k : Nat, k_337 ≤ k ∧ k ≤ max k_337 z_125 ∧ r_338 = nI k ∧ (k < z_125 → gA (F_308 r_118) k ≠ 32)) := hw
                have hw_340 := hw
                obtain ⟨k_341, hk_341a, hk_341b, ek_341, hk_341c⟩ := hw_340
                subst ek_341
                rw [gA_fun hF_319] at hk_341c
                refine lv_istore (lv' := [(7, .int (nI k_341)), (5, .int x_333), (6, .int w6), (4, .ref b_117), (3, .int (nI jr)), (0, .ref h0), (1, .ref dd), (2, .int (nI lv))]) hx hb dX15_check_151 hl (by decide) rfl (fun ls hl => ?_)
                refine lv_goto (tgt := 55) hx hb dX15_check_153 (by decide) ?_
                refine W.widen (k := 0) (n := 0) (by omega) (by omega) ?_
                exact ih_142 (k_341, x_333, w6, u17_309, u18_310, u19_311, u20_312, u21_313, u22_314) F_308 (⟨by omega, hk_341c, hv3, hq_315⟩) (by show 701 - k_341 < 701 - j; omega) hO hR _ _ hP hD hS ls (lv_sub hl [0, 2, 1, 3, 4, 5, 6, 7] rfl)
            ·
              refine lv_iload hx hb dX15_check_118 (lv_at hl 0 rfl) ?_
              refine lv_istore (lv' := [(6, .int (nI j)), (7, .int (nI j)), (5, .int w5), (4, .ref b_117), (3, .int (nI jr)), (0, .ref h0), (1, .ref dd), (2, .int (nI lv))]) hx hb dX15_check_120 hl (by decide) rfl (fun ls hl => ?_)
              refine lv_iload hx hb dX15_check_122 (lv_at hl 2 rfl) ?_
              refine lv_aload_n hx hb dX15_check_124 rfl (lv_at hl 5 rfl) ?_
              refine pg_get (ci := 15) (v := .int u17_309) (C := RX15) (T := TX15) (N := 59) hx hb hts it_15 hown hK hP hL_h0 hq_315 rfl 17 (by decide) (hts _ kt_750) (fun _ h9 => h9) rfl dX15_check_125 ?_
              refine lv_if_ne (tgt := 135) hx hb dX15_check_128 (by decide) (fun c_342 => ?_) (fun c_342 => ?_)
              ·
                refine lv_iconst (v := 0) hx hb dX15_check_135 (by decide) ?_
                refine lv_ior hx hb dX15_check_136 ?_
                refine lv_topi (fun x_343 _ => ?_)
                refine lv_istore (lv' := [(5, .int x_343), (6, .int (nI j)), (7, .int (nI j)), (4, .ref b_117), (3, .int (nI jr)), (0, .ref h0), (1, .ref dd), (2, .int (nI lv))]) hx hb dX15_check_137 hl (by decide) rfl (fun ls hl => ?_)
                refine lv_aload hx hb dX15_check_139 (lv_at hl 3 rfl) ?_
                refine lv_aload hx hb dX15_check_141 (lv_at hl 3 rfl) ?_
                refine lv_iload hx hb dX15_check_143 (lv_at hl 2 rfl) ?_
                have hFc := pg_free hD hS hA
                refine va_calli (va_runS (As := [.ref b_117, .int (nI j)]) (rest := [.ref b_117]) ⟨hx, hb, hml, hown, hts⟩ (s_X15_wordEnd l dC dI cs ty gm L H.size F_308 b_117 (ρ + 31) r_118 700 z_125 j hW hi_120 ht_121 hF_318 (by first | omega | assumption) (by first | omega | assumption)) ⟨callB_of 2 hts (gi kt_990) rfl rfl rfl (hts _ kt_669) (hts _ kt_991) (by decide +kernel) ⟨by show 0 + 1 ≤ fr + 7; omega, by show 8 + (3 + 11) + 0 ≤ lo + 158; omega⟩, (hts _ kt_992)⟩ ⟨fun a U g mk q => ⟨q.1, PTm.calling q.2⟩, fun U hU hWm => ⟨rfl, PTm.mk hU hWm hP hK hD hE hO⟩⟩ rfl rfl hl.1 rfl (lv_room (Nat.le_of_ble_eq_true rfl)) dX15_check_145 ⟨by show _ + 0 ≤ 0; omega, by show _ + 0 ≤ 0; omega⟩) hS (fun q _ h => hFc q h) hFc (fun r_344 u t H1 locs ht hvm hw hB hz1 hk1 hS => ?_)
                obtain ⟨F_345, hB1⟩ := hB
                obtain rfl : F_308 = F_345 := (funext (fun a => hB1.2.2.2 a List.not_mem_nil)).symm
                obtain ⟨hP, hD, hO, hR⟩ := QTm.back hB1 ht hFc hR (fun q h => absurd h List.not_mem_nil)
                generalize H1 = H at hP hS ⊢
                have hw : (∃ k : Nat, j ≤ k ∧ k ≤ max j z_125 ∧ r_344 = nI k ∧ WE (gA (F_308 r_118)) z_125 j k) := hw
                have hw_346 := hw
                obtain ⟨k_347, hk_347a, hk_347b, ek_347, hk_347c⟩ := hw_346
                subst ek_347
                rw [gA_fun hF_319] at hk_347c
                have hlt2 := WE.lt hk_347c (by omega) (by omega) (hv2 (by omega))
                have hFc := pg_free hD hS hA
                refine va_calli (va_runS (As := [.ref b_117, .int (nI k_347)]) (rest := []) ⟨hx, hb, hml, hown, hts⟩ (s_X15_blankFrom l dC dI cs ty gm L H.size F_308 b_117 (ρ + 31) r_118 700 z_125 k_347 hW hi_120 ht_121 hF_318 (by first | omega | assumption) (by first | omega | assumption)) ⟨callB_of 2 hts (gi kt_987) rfl rfl rfl (hts _ kt_669) (hts _ kt_988) (by decide +kernel) ⟨by show 0 + 1 ≤ fr + 7; omega, by show 8 + (3 + 11) + 0 ≤ lo + 158; omega⟩, (hts _ kt_989)⟩ ⟨fun a U g mk q => ⟨q.1, PTm.calling q.2⟩, fun U hU hWm => ⟨rfl, PTm.mk hU hWm hP hK hD hE hO⟩⟩ rfl rfl hl.1 rfl (lv_room (Nat.le_of_ble_eq_true rfl)) dX15_check_148 ⟨by show _ + 0 ≤ 0; omega, by show _ + 0 ≤ 0; omega⟩) hS (fun q _ h => hFc q h) hFc (fun r_348 u t H1 locs ht hvm hw hB hz1 hk1 hS => ?_)
                obtain ⟨F_349, hB1⟩ := hB
                obtain rfl : F_308 = F_349 := (funext (fun a => hB1.2.2.2 a List.not_mem_nil)).symm
                obtain ⟨hP, hD, hO, hR⟩ := QTm.back hB1 ht hFc hR (fun q h => absurd h List.not_mem_nil)
                generalize H1 = H at hP hS ⊢
                have hw : (∃ k : Nat, k_347 ≤ k ∧ k ≤ max k_347 z_125 ∧ r_348 = nI k ∧ (k < z_125 → gA (F_308 r_118) k ≠ 32)) := hw
                have hw_350 := hw
                obtain ⟨k_351, hk_351a, hk_351b, ek_351, hk_351c⟩ := hw_350
                subst ek_351
                rw [gA_fun hF_319] at hk_351c
                refine lv_istore (lv' := [(7, .int (nI k_351)), (5, .int x_343), (6, .int (nI j)), (4, .ref b_117), (3, .int (nI jr)), (0, .ref h0), (1, .ref dd), (2, .int (nI lv))]) hx hb dX15_check_151 hl (by decide) rfl (fun ls hl => ?_)
                refine lv_goto (tgt := 55) hx hb dX15_check_153 (by decide) ?_
                refine W.widen (k := 0) (n := 0) (by omega) (by omega) ?_
                exact ih_142 (k_351, x_343, (nI j), u17_309, u18_310, u19_311, u20_312, u21_313, u22_314) F_308 (⟨by omega, hk_351c, (Or.inr ⟨j, k_306, rfl, by omega, by omega, by omega, hk_306c, (hq_316).2.1 c_322⟩), hq_315⟩) (by show 701 - k_351 < 701 - j; omega) hO hR _ _ hP hD hS ls (lv_sub hl [0, 2, 1, 3, 4, 5, 6, 7] rfl)
              ·
                refine lv_iconst (v := 1) hx hb dX15_check_131 (by decide) ?_
                refine lv_goto (tgt := 136) hx hb dX15_check_132 (by decide) ?_
                refine lv_ior hx hb dX15_check_136 ?_
                refine lv_topi (fun x_352 _ => ?_)
                refine lv_istore (lv' := [(5, .int x_352), (6, .int (nI j)), (7, .int (nI j)), (4, .ref b_117), (3, .int (nI jr)), (0, .ref h0), (1, .ref dd), (2, .int (nI lv))]) hx hb dX15_check_137 hl (by decide) rfl (fun ls hl => ?_)
                refine lv_aload hx hb dX15_check_139 (lv_at hl 3 rfl) ?_
                refine lv_aload hx hb dX15_check_141 (lv_at hl 3 rfl) ?_
                refine lv_iload hx hb dX15_check_143 (lv_at hl 2 rfl) ?_
                have hFc := pg_free hD hS hA
                refine va_calli (va_runS (As := [.ref b_117, .int (nI j)]) (rest := [.ref b_117]) ⟨hx, hb, hml, hown, hts⟩ (s_X15_wordEnd l dC dI cs ty gm L H.size F_308 b_117 (ρ + 31) r_118 700 z_125 j hW hi_120 ht_121 hF_318 (by first | omega | assumption) (by first | omega | assumption)) ⟨callB_of 2 hts (gi kt_990) rfl rfl rfl (hts _ kt_669) (hts _ kt_991) (by decide +kernel) ⟨by show 0 + 1 ≤ fr + 7; omega, by show 8 + (3 + 11) + 0 ≤ lo + 158; omega⟩, (hts _ kt_992)⟩ ⟨fun a U g mk q => ⟨q.1, PTm.calling q.2⟩, fun U hU hWm => ⟨rfl, PTm.mk hU hWm hP hK hD hE hO⟩⟩ rfl rfl hl.1 rfl (lv_room (Nat.le_of_ble_eq_true rfl)) dX15_check_145 ⟨by show _ + 0 ≤ 0; omega, by show _ + 0 ≤ 0; omega⟩) hS (fun q _ h => hFc q h) hFc (fun r_353 u t H1 locs ht hvm hw hB hz1 hk1 hS => ?_)
                obtain ⟨F_354, hB1⟩ := hB
                obtain rfl : F_308 = F_354 := (funext (fun a => hB1.2.2.2 a List.not_mem_nil)).symm
                obtain ⟨hP, hD, hO, hR⟩ := QTm.back hB1 ht hFc hR (fun q h => absurd h List.not_mem_nil)
                generalize H1 = H at hP hS ⊢
                have hw : (∃ k : Nat, j ≤ k ∧ k ≤ max j z_125 ∧ r_353 = nI k ∧ WE (gA (F_308 r_118)) z_125 j k) := hw
                have hw_355 := hw
                obtain ⟨k_356, hk_356a, hk_356b, ek_356, hk_356c⟩ := hw_355
                subst ek_356
                rw [gA_fun hF_319] at hk_356c
                have hlt2 := WE.lt hk_356c (by omega) (by omega) (hv2 (by omega))
                have hFc := pg_free hD hS hA
                refine va_calli (va_runS (As := [.ref b_117, .int (nI k_356)]) (rest := []) ⟨hx, hb, hml, hown, hts⟩ (s_X15_blankFrom l dC dI cs ty gm L H.size F_308 b_117 (ρ + 31) r_118 700 z_125 k_356 hW hi_120 ht_121 hF_318 (by first | omega | assumption) (by first | omega | assumption)) ⟨callB_of 2 hts (gi kt_987) rfl rfl rfl (hts _ kt_669) (hts _ kt_988) (by decide +kernel) ⟨by show 0 + 1 ≤ fr + 7; omega, by show 8 + (3 + 11) + 0 ≤ lo + 158; omega⟩, (hts _ kt_989)⟩ ⟨fun a U g mk q => ⟨q.1, PTm.calling q.2⟩, fun U hU hWm => ⟨rfl, PTm.mk hU hWm hP hK hD hE hO⟩⟩ rfl rfl hl.1 rfl (lv_room (Nat.le_of_ble_eq_true rfl)) dX15_check_148 ⟨by show _ + 0 ≤ 0; omega, by show _ + 0 ≤ 0; omega⟩) hS (fun q _ h => hFc q h) hFc (fun r_357 u t H1 locs ht hvm hw hB hz1 hk1 hS => ?_)
                obtain ⟨F_358, hB1⟩ := hB
                obtain rfl : F_308 = F_358 := (funext (fun a => hB1.2.2.2 a List.not_mem_nil)).symm
                obtain ⟨hP, hD, hO, hR⟩ := QTm.back hB1 ht hFc hR (fun q h => absurd h List.not_mem_nil)
                generalize H1 = H at hP hS ⊢
                have hw : (∃ k : Nat, k_356 ≤ k ∧ k ≤ max k_356 z_125 ∧ r_357 = nI k ∧ (k < z_125 → gA (F_308 r_118) k ≠ 32)) := hw
                have hw_359 := hw
                obtain ⟨k_360, hk_360a, hk_360b, ek_360, hk_360c⟩ := hw_359
                subst ek_360
                rw [gA_fun hF_319] at hk_360c
                refine lv_istore (lv' := [(7, .int (nI k_360)), (5, .int x_352), (6, .int (nI j)), (4, .ref b_117), (3, .int (nI jr)), (0, .ref h0), (1, .ref dd), (2, .int (nI lv))]) hx hb dX15_check_151 hl (by decide) rfl (fun ls hl => ?_)
                refine lv_goto (tgt := 55) hx hb dX15_check_153 (by decide) ?_
                refine W.widen (k := 0) (n := 0) (by omega) (by omega) ?_
                exact ih_142 (k_360, x_352, (nI j), u17_309, u18_310, u19_311, u20_312, u21_313, u22_314) F_308 (⟨by omega, hk_360c, (Or.inr ⟨j, k_306, rfl, by omega, by omega, by omega, hk_306c, (hq_316).2.1 c_322⟩), hq_315⟩) (by show 701 - k_360 < 701 - j; omega) hO hR _ _ hP hD hS ls (lv_sub hl [0, 2, 1, 3, 4, 5, 6, 7] rfl)
          ·
            refine lv_iload hx hb dX15_check_101 (lv_at hl 1 rfl) ?_
            refine lv_if_lt (tgt := 109) hx hb dX15_check_103 (by decide) (fun c_361 => ?_) (fun c_361 => ?_)
            ·
              refine lv_aload_n hx hb dX15_check_109 rfl (lv_at hl 5 rfl) ?_
              refine pg_get (ci := 15) (v := .int u17_309) (C := RX15) (T := TX15) (N := 59) hx hb hts it_15 hown hK hP hL_h0 hq_315 rfl 17 (by decide) (hts _ kt_750) (fun _ h9 => h9) rfl dX15_check_110 ?_
              refine lv_bipush (v := 6) hx hb dX15_check_113 (by decide) ?_
              refine lv_icmp_ne (tgt := 122) hx hb dX15_check_115 (by decide) (fun c_362 => ?_) (fun c_362 => ?_)
              ·
                refine lv_iload hx hb dX15_check_122 (lv_at hl 2 rfl) ?_
                refine lv_aload_n hx hb dX15_check_124 rfl (lv_at hl 5 rfl) ?_
                refine pg_get (ci := 15) (v := .int u17_309) (C := RX15) (T := TX15) (N := 59) hx hb hts it_15 hown hK hP hL_h0 hq_315 rfl 17 (by decide) (hts _ kt_750) (fun _ h9 => h9) rfl dX15_check_125 ?_
                refine lv_if_ne (tgt := 135) hx hb dX15_check_128 (by decide) (fun c_363 => ?_) (fun c_363 => ?_)
                ·
                  refine lv_iconst (v := 0) hx hb dX15_check_135 (by decide) ?_
                  refine lv_ior hx hb dX15_check_136 ?_
                  refine lv_topi (fun x_364 _ => ?_)
                  refine lv_istore (lv' := [(5, .int x_364), (7, .int (nI j)), (6, .int w6), (4, .ref b_117), (3, .int (nI jr)), (0, .ref h0), (1, .ref dd), (2, .int (nI lv))]) hx hb dX15_check_137 hl (by decide) rfl (fun ls hl => ?_)
                  refine lv_aload hx hb dX15_check_139 (lv_at hl 3 rfl) ?_
                  refine lv_aload hx hb dX15_check_141 (lv_at hl 3 rfl) ?_
                  refine lv_iload hx hb dX15_check_143 (lv_at hl 1 rfl) ?_
                  have hFc := pg_free hD hS hA
                  refine va_calli (va_runS (As := [.ref b_117, .int (nI j)]) (rest := [.ref b_117]) ⟨hx, hb, hml, hown, hts⟩ (s_X15_wordEnd l dC dI cs ty gm L H.size F_308 b_117 (ρ + 31) r_118 700 z_125 j hW hi_120 ht_121 hF_318 (by first | omega | assumption) (by first | omega | assumption)) ⟨callB_of 2 hts (gi kt_990) rfl rfl rfl (hts _ kt_669) (hts _ kt_991) (by decide +kernel) ⟨by show 0 + 1 ≤ fr + 7; omega, by show 8 + (3 + 11) + 0 ≤ lo + 158; omega⟩, (hts _ kt_992)⟩ ⟨fun a U g mk q => ⟨q.1, PTm.calling q.2⟩, fun U hU hWm => ⟨rfl, PTm.mk hU hWm hP hK hD hE hO⟩⟩ rfl rfl hl.1 rfl (lv_room (Nat.le_of_ble_eq_true rfl)) dX15_check_145 ⟨by show _ + 0 ≤ 0; omega, by show _ + 0 ≤ 0; omega⟩) hS (fun q _ h => hFc q h) hFc (fun r_365 u t H1 locs ht hvm hw hB hz1 hk1 hS => ?_)
                  obtain ⟨F_366, hB1⟩ := hB
                  obtain rfl : F_308 = F_366 := (funext (fun a => hB1.2.2.2 a List.not_mem_nil)).symm
                  obtain ⟨hP, hD, hO, hR⟩ := QTm.back hB1 ht hFc hR (fun q h => absurd h List.not_mem_nil)
                  generalize H1 = H at hP hS ⊢
                  have hw : (∃ k : Nat, j ≤ k ∧ k ≤ max j z_125 ∧ r_365 = nI k ∧ WE (gA (F_308 r_118)) z_125 j k) := hw
                  have hw_367 := hw
                  obtain ⟨k_368, hk_368a, hk_368b, ek_368, hk_368c⟩ := hw_367
                  subst ek_368
                  rw [gA_fun hF_319] at hk_368c
                  have hlt2 := WE.lt hk_368c (by omega) (by omega) (hv2 (by omega))
                  have hFc := pg_free hD hS hA
                  refine va_calli (va_runS (As := [.ref b_117, .int (nI k_368)]) (rest := []) ⟨hx, hb, hml, hown, hts⟩ (s_X15_blankFrom l dC dI cs ty gm L H.size F_308 b_117 (ρ + 31) r_118 700 z_125 k_368 hW hi_120 ht_121 hF_318 (by first | omega | assumption) (by first | omega | assumption)) ⟨callB_of 2 hts (gi kt_987) rfl rfl rfl (hts _ kt_669) (hts _ kt_988) (by decide +kernel) ⟨by show 0 + 1 ≤ fr + 7; omega, by show 8 + (3 + 11) + 0 ≤ lo + 158; omega⟩, (hts _ kt_989)⟩ ⟨fun a U g mk q => ⟨q.1, PTm.calling q.2⟩, fun U hU hWm => ⟨rfl, PTm.mk hU hWm hP hK hD hE hO⟩⟩ rfl rfl hl.1 rfl (lv_room (Nat.le_of_ble_eq_true rfl)) dX15_check_148 ⟨by show _ + 0 ≤ 0; omega, by show _ + 0 ≤ 0; omega⟩) hS (fun q _ h => hFc q h) hFc (fun r_369 u t H1 locs ht hvm hw hB hz1 hk1 hS => ?_)
                  obtain ⟨F_370, hB1⟩ := hB
                  obtain rfl : F_308 = F_370 := (funext (fun a => hB1.2.2.2 a List.not_mem_nil)).symm
                  obtain ⟨hP, hD, hO, hR⟩ := QTm.back hB1 ht hFc hR (fun q h => absurd h List.not_mem_nil)
                  generalize H1 = H at hP hS ⊢
                  have hw : (∃ k : Nat, k_368 ≤ k ∧ k ≤ max k_368 z_125 ∧ r_369 = nI k ∧ (k < z_125 → gA (F_308 r_118) k ≠ 32)) := hw
                  have hw_371 := hw
                  obtain ⟨k_372, hk_372a, hk_372b, ek_372, hk_372c⟩ := hw_371
                  subst ek_372
                  rw [gA_fun hF_319] at hk_372c
                  refine lv_istore (lv' := [(7, .int (nI k_372)), (5, .int x_364), (6, .int w6), (4, .ref b_117), (3, .int (nI jr)), (0, .ref h0), (1, .ref dd), (2, .int (nI lv))]) hx hb dX15_check_151 hl (by decide) rfl (fun ls hl => ?_)
                  refine lv_goto (tgt := 55) hx hb dX15_check_153 (by decide) ?_
                  refine W.widen (k := 0) (n := 0) (by omega) (by omega) ?_
                  exact ih_142 (k_372, x_364, w6, u17_309, u18_310, u19_311, u20_312, u21_313, u22_314) F_308 (⟨by omega, hk_372c, hv3, hq_315⟩) (by show 701 - k_372 < 701 - j; omega) hO hR _ _ hP hD hS ls (lv_sub hl [0, 2, 1, 3, 4, 5, 6, 7] rfl)
                ·
                  refine lv_iconst (v := 1) hx hb dX15_check_131 (by decide) ?_
                  refine lv_goto (tgt := 136) hx hb dX15_check_132 (by decide) ?_
                  refine lv_ior hx hb dX15_check_136 ?_
                  refine lv_topi (fun x_373 _ => ?_)
                  refine lv_istore (lv' := [(5, .int x_373), (7, .int (nI j)), (6, .int w6), (4, .ref b_117), (3, .int (nI jr)), (0, .ref h0), (1, .ref dd), (2, .int (nI lv))]) hx hb dX15_check_137 hl (by decide) rfl (fun ls hl => ?_)
                  refine lv_aload hx hb dX15_check_139 (lv_at hl 3 rfl) ?_
                  refine lv_aload hx hb dX15_check_141 (lv_at hl 3 rfl) ?_
                  refine lv_iload hx hb dX15_check_143 (lv_at hl 1 rfl) ?_
                  have hFc := pg_free hD hS hA
                  refine va_calli (va_runS (As := [.ref b_117, .int (nI j)]) (rest := [.ref b_117]) ⟨hx, hb, hml, hown, hts⟩ (s_X15_wordEnd l dC dI cs ty gm L H.size F_308 b_117 (ρ + 31) r_118 700 z_125 j hW hi_120 ht_121 hF_318 (by first | omega | assumption) (by first | omega | assumption)) ⟨callB_of 2 hts (gi kt_990) rfl rfl rfl (hts _ kt_669) (hts _ kt_991) (by decide +kernel) ⟨by show 0 + 1 ≤ fr + 7; omega, by show 8 + (3 + 11) + 0 ≤ lo + 158; omega⟩, (hts _ kt_992)⟩ ⟨fun a U g mk q => ⟨q.1, PTm.calling q.2⟩, fun U hU hWm => ⟨rfl, PTm.mk hU hWm hP hK hD hE hO⟩⟩ rfl rfl hl.1 rfl (lv_room (Nat.le_of_ble_eq_true rfl)) dX15_check_145 ⟨by show _ + 0 ≤ 0; omega, by show _ + 0 ≤ 0; omega⟩) hS (fun q _ h => hFc q h) hFc (fun r_374 u t H1 locs ht hvm hw hB hz1 hk1 hS => ?_)
                  obtain ⟨F_375, hB1⟩ := hB
                  obtain rfl : F_308 = F_375 := (funext (fun a => hB1.2.2.2 a List.not_mem_nil)).symm
                  obtain ⟨hP, hD, hO, hR⟩ := QTm.back hB1 ht hFc hR (fun q h => absurd h List.not_mem_nil)
                  generalize H1 = H at hP hS ⊢
                  have hw : (∃ k : Nat, j ≤ k ∧ k ≤ max j z_125 ∧ r_374 = nI k ∧ WE (gA (F_308 r_118)) z_125 j k) := hw
                  have hw_376 := hw
                  obtain ⟨k_377, hk_377a, hk_377b, ek_377, hk_377c⟩ := hw_376
                  subst ek_377
                  rw [gA_fun hF_319] at hk_377c
                  have hlt2 := WE.lt hk_377c (by omega) (by omega) (hv2 (by omega))
                  have hFc := pg_free hD hS hA
                  refine va_calli (va_runS (As := [.ref b_117, .int (nI k_377)]) (rest := []) ⟨hx, hb, hml, hown, hts⟩ (s_X15_blankFrom l dC dI cs ty gm L H.size F_308 b_117 (ρ + 31) r_118 700 z_125 k_377 hW hi_120 ht_121 hF_318 (by first | omega | assumption) (by first | omega | assumption)) ⟨callB_of 2 hts (gi kt_987) rfl rfl rfl (hts _ kt_669) (hts _ kt_988) (by decide +kernel) ⟨by show 0 + 1 ≤ fr + 7; omega, by show 8 + (3 + 11) + 0 ≤ lo + 158; omega⟩, (hts _ kt_989)⟩ ⟨fun a U g mk q => ⟨q.1, PTm.calling q.2⟩, fun U hU hWm => ⟨rfl, PTm.mk hU hWm hP hK hD hE hO⟩⟩ rfl rfl hl.1 rfl (lv_room (Nat.le_of_ble_eq_true rfl)) dX15_check_148 ⟨by show _ + 0 ≤ 0; omega, by show _ + 0 ≤ 0; omega⟩) hS (fun q _ h => hFc q h) hFc (fun r_378 u t H1 locs ht hvm hw hB hz1 hk1 hS => ?_)
                  obtain ⟨F_379, hB1⟩ := hB
                  obtain rfl : F_308 = F_379 := (funext (fun a => hB1.2.2.2 a List.not_mem_nil)).symm
                  obtain ⟨hP, hD, hO, hR⟩ := QTm.back hB1 ht hFc hR (fun q h => absurd h List.not_mem_nil)
                  generalize H1 = H at hP hS ⊢
                  have hw : (∃ k : Nat, k_377 ≤ k ∧ k ≤ max k_377 z_125 ∧ r_378 = nI k ∧ (k < z_125 → gA (F_308 r_118) k ≠ 32)) := hw
                  have hw_380 := hw
                  obtain ⟨k_381, hk_381a, hk_381b, ek_381, hk_381c⟩ := hw_380
                  subst ek_381
                  rw [gA_fun hF_319] at hk_381c
                  refine lv_istore (lv' := [(7, .int (nI k_381)), (5, .int x_373), (6, .int w6), (4, .ref b_117), (3, .int (nI jr)), (0, .ref h0), (1, .ref dd), (2, .int (nI lv))]) hx hb dX15_check_151 hl (by decide) rfl (fun ls hl => ?_)
                  refine lv_goto (tgt := 55) hx hb dX15_check_153 (by decide) ?_
                  refine W.widen (k := 0) (n := 0) (by omega) (by omega) ?_
                  exact ih_142 (k_381, x_373, w6, u17_309, u18_310, u19_311, u20_312, u21_313, u22_314) F_308 (⟨by omega, hk_381c, hv3, hq_315⟩) (by show 701 - k_381 < 701 - j; omega) hO hR _ _ hP hD hS ls (lv_sub hl [0, 2, 1, 3, 4, 5, 6, 7] rfl)
              ·
                refine lv_iload hx hb dX15_check_118 (lv_at hl 0 rfl) ?_
                refine lv_istore (lv' := [(6, .int (nI j)), (7, .int (nI j)), (5, .int w5), (4, .ref b_117), (3, .int (nI jr)), (0, .ref h0), (1, .ref dd), (2, .int (nI lv))]) hx hb dX15_check_120 hl (by decide) rfl (fun ls hl => ?_)
                refine lv_iload hx hb dX15_check_122 (lv_at hl 2 rfl) ?_
                refine lv_aload_n hx hb dX15_check_124 rfl (lv_at hl 5 rfl) ?_
                refine pg_get (ci := 15) (v := .int u17_309) (C := RX15) (T := TX15) (N := 59) hx hb hts it_15 hown hK hP hL_h0 hq_315 rfl 17 (by decide) (hts _ kt_750) (fun _ h9 => h9) rfl dX15_check_125 ?_
                refine lv_if_ne (tgt := 135) hx hb dX15_check_128 (by decide) (fun c_382 => ?_) (fun c_382 => ?_)
                ·
                  refine lv_iconst (v := 0) hx hb dX15_check_135 (by decide) ?_
                  refine lv_ior hx hb dX15_check_136 ?_
                  refine lv_topi (fun x_383 _ => ?_)
                  refine lv_istore (lv' := [(5, .int x_383), (6, .int (nI j)), (7, .int (nI j)), (4, .ref b_117), (3, .int (nI jr)), (0, .ref h0), (1, .ref dd), (2, .int (nI lv))]) hx hb dX15_check_137 hl (by decide) rfl (fun ls hl => ?_)
                  refine lv_aload hx hb dX15_check_139 (lv_at hl 3 rfl) ?_
                  refine lv_aload hx hb dX15_check_141 (lv_at hl 3 rfl) ?_
                  refine lv_iload hx hb dX15_check_143 (lv_at hl 2 rfl) ?_
                  have hFc := pg_free hD hS hA
                  refine va_calli (va_runS (As := [.ref b_117, .int (nI j)]) (rest := [.ref b_117]) ⟨hx, hb, hml, hown, hts⟩ (s_X15_wordEnd l dC dI cs ty gm L H.size F_308 b_117 (ρ + 31) r_118 700 z_125 j hW hi_120 ht_121 hF_318 (by first | omega | assumption) (by first | omega | assumption)) ⟨callB_of 2 hts (gi kt_990) rfl rfl rfl (hts _ kt_669) (hts _ kt_991) (by decide +kernel) ⟨by show 0 + 1 ≤ fr + 7; omega, by show 8 + (3 + 11) + 0 ≤ lo + 158; omega⟩, (hts _ kt_992)⟩ ⟨fun a U g mk q => ⟨q.1, PTm.calling q.2⟩, fun U hU hWm => ⟨rfl, PTm.mk hU hWm hP hK hD hE hO⟩⟩ rfl rfl hl.1 rfl (lv_room (Nat.le_of_ble_eq_true rfl)) dX15_check_145 ⟨by show _ + 0 ≤ 0; omega, by show _ + 0 ≤ 0; omega⟩) hS (fun q _ h => hFc q h) hFc (fun r_384 u t H1 locs ht hvm hw hB hz1 hk1 hS => ?_)
                  obtain ⟨F_385, hB1⟩ := hB
                  obtain rfl : F_308 = F_385 := (funext (fun a => hB1.2.2.2 a List.not_mem_nil)).symm
                  obtain ⟨hP, hD, hO, hR⟩ := QTm.back hB1 ht hFc hR (fun q h => absurd h List.not_mem_nil)
                  generalize H1 = H at hP hS ⊢
                  have hw : (∃ k : Nat, j ≤ k ∧ k ≤ max j z_125 ∧ r_384 = nI k ∧ WE (gA (F_308 r_118)) z_125 j k) := hw
                  have hw_386 := hw
                  obtain ⟨k_387, hk_387a, hk_387b, ek_387, hk_387c⟩ := hw_386
                  subst ek_387
                  rw [gA_fun hF_319] at hk_387c
                  have hlt2 := WE.lt hk_387c (by omega) (by omega) (hv2 (by omega))
                  have hFc := pg_free hD hS hA
                  refine va_calli (va_runS (As := [.ref b_117, .int (nI k_387)]) (rest := []) ⟨hx, hb, hml, hown, hts⟩ (s_X15_blankFrom l dC dI cs ty gm L H.size F_308 b_117 (ρ + 31) r_118 700 z_125 k_387 hW hi_120 ht_121 hF_318 (by first | omega | assumption) (by first | omega | assumption)) ⟨callB_of 2 hts (gi kt_987) rfl rfl rfl (hts _ kt_669) (hts _ kt_988) (by decide +kernel) ⟨by show 0 + 1 ≤ fr + 7; omega, by show 8 + (3 + 11) + 0 ≤ lo + 158; omega⟩, (hts _ kt_989)⟩ ⟨fun a U g mk q => ⟨q.1, PTm.calling q.2⟩, fun U hU hWm => ⟨rfl, PTm.mk hU hWm hP hK hD hE hO⟩⟩ rfl rfl hl.1 rfl (lv_room (Nat.le_of_ble_eq_true rfl)) dX15_check_148 ⟨by show _ + 0 ≤ 0; omega, by show _ + 0 ≤ 0; omega⟩) hS (fun q _ h => hFc q h) hFc (fun r_388 u t H1 locs ht hvm hw hB hz1 hk1 hS => ?_)
                  obtain ⟨F_389, hB1⟩ := hB
                  obtain rfl : F_308 = F_389 := (funext (fun a => hB1.2.2.2 a List.not_mem_nil)).symm
                  obtain ⟨hP, hD, hO, hR⟩ := QTm.back hB1 ht hFc hR (fun q h => absurd h List.not_mem_nil)
                  generalize H1 = H at hP hS ⊢
                  have hw : (∃ k : Nat, k_387 ≤ k ∧ k ≤ max k_387 z_125 ∧ r_388 = nI k ∧ (k < z_125 → gA (F_308 r_118) k ≠ 32)) := hw
                  have hw_390 := hw
                  obtain ⟨k_391, hk_391a, hk_391b, ek_391, hk_391c⟩ := hw_390
                  subst ek_391
                  rw [gA_fun hF_319] at hk_391c
                  refine lv_istore (lv' := [(7, .int (nI k_391)), (5, .int x_383), (6, .int (nI j)), (4, .ref b_117), (3, .int (nI jr)), (0, .ref h0), (1, .ref dd), (2, .int (nI lv))]) hx hb dX15_check_151 hl (by decide) rfl (fun ls hl => ?_)
                  refine lv_goto (tgt := 55) hx hb dX15_check_153 (by decide) ?_
                  refine W.widen (k := 0) (n := 0) (by omega) (by omega) ?_
                  exact ih_142 (k_391, x_383, (nI j), u17_309, u18_310, u19_311, u20_312, u21_313, u22_314) F_308 (⟨by omega, hk_391c, (Or.inr ⟨j, k_306, rfl, by omega, by omega, by omega, hk_306c, (hq_316).2.1 c_362⟩), hq_315⟩) (by show 701 - k_391 < 701 - j; omega) hO hR _ _ hP hD hS ls (lv_sub hl [0, 2, 1, 3, 4, 5, 6, 7] rfl)
                ·
                  refine lv_iconst (v := 1) hx hb dX15_check_131 (by decide) ?_
                  refine lv_goto (tgt := 136) hx hb dX15_check_132 (by decide) ?_
                  refine lv_ior hx hb dX15_check_136 ?_
                  refine lv_topi (fun x_392 _ => ?_)
                  refine lv_istore (lv' := [(5, .int x_392), (6, .int (nI j)), (7, .int (nI j)), (4, .ref b_117), (3, .int (nI jr)), (0, .ref h0), (1, .ref dd), (2, .int (nI lv))]) hx hb dX15_check_137 hl (by decide) rfl (fun ls hl => ?_)
                  refine lv_aload hx hb dX15_check_139 (lv_at hl 3 rfl) ?_
                  refine lv_aload hx hb dX15_check_141 (lv_at hl 3 rfl) ?_
                  refine lv_iload hx hb dX15_check_143 (lv_at hl 2 rfl) ?_
                  have hFc := pg_free hD hS hA
                  refine va_calli (va_runS (As := [.ref b_117, .int (nI j)]) (rest := [.ref b_117]) ⟨hx, hb, hml, hown, hts⟩ (s_X15_wordEnd l dC dI cs ty gm L H.size F_308 b_117 (ρ + 31) r_118 700 z_125 j hW hi_120 ht_121 hF_318 (by first | omega | assumption) (by first | omega | assumption)) ⟨callB_of 2 hts (gi kt_990) rfl rfl rfl (hts _ kt_669) (hts _ kt_991) (by decide +kernel) ⟨by show 0 + 1 ≤ fr + 7; omega, by show 8 + (3 + 11) + 0 ≤ lo + 158; omega⟩, (hts _ kt_992)⟩ ⟨fun a U g mk q => ⟨q.1, PTm.calling q.2⟩, fun U hU hWm => ⟨rfl, PTm.mk hU hWm hP hK hD hE hO⟩⟩ rfl rfl hl.1 rfl (lv_room (Nat.le_of_ble_eq_true rfl)) dX15_check_145 ⟨by show _ + 0 ≤ 0; omega, by show _ + 0 ≤ 0; omega⟩) hS (fun q _ h => hFc q h) hFc (fun r_393 u t H1 locs ht hvm hw hB hz1 hk1 hS => ?_)
                  obtain ⟨F_394, hB1⟩ := hB
                  obtain rfl : F_308 = F_394 := (funext (fun a => hB1.2.2.2 a List.not_mem_nil)).symm
                  obtain ⟨hP, hD, hO, hR⟩ := QTm.back hB1 ht hFc hR (fun q h => absurd h List.not_mem_nil)
                  generalize H1 = H at hP hS ⊢
                  have hw : (∃ k : Nat, j ≤ k ∧ k ≤ max j z_125 ∧ r_393 = nI k ∧ WE (gA (F_308 r_118)) z_125 j k) := hw
                  have hw_395 := hw
                  obtain ⟨k_396, hk_396a, hk_396b, ek_396, hk_396c⟩ := hw_395
                  subst ek_396
                  rw [gA_fun hF_319] at hk_396c
                  have hlt2 := WE.lt hk_396c (by omega) (by omega) (hv2 (by omega))
                  have hFc := pg_free hD hS hA
                  refine va_calli (va_runS (As := [.ref b_117, .int (nI k_396)]) (rest := []) ⟨hx, hb, hml, hown, hts⟩ (s_X15_blankFrom l dC dI cs ty gm L H.size F_308 b_117 (ρ + 31) r_118 700 z_125 k_396 hW hi_120 ht_121 hF_318 (by first | omega | assumption) (by first | omega | assumption)) ⟨callB_of 2 hts (gi kt_987) rfl rfl rfl (hts _ kt_669) (hts _ kt_988) (by decide +kernel) ⟨by show 0 + 1 ≤ fr + 7; omega, by show 8 + (3 + 11) + 0 ≤ lo + 158; omega⟩, (hts _ kt_989)⟩ ⟨fun a U g mk q => ⟨q.1, PTm.calling q.2⟩, fun U hU hWm => ⟨rfl, PTm.mk hU hWm hP hK hD hE hO⟩⟩ rfl rfl hl.1 rfl (lv_room (Nat.le_of_ble_eq_true rfl)) dX15_check_148 ⟨by show _ + 0 ≤ 0; omega, by show _ + 0 ≤ 0; omega⟩) hS (fun q _ h => hFc q h) hFc (fun r_397 u t H1 locs ht hvm hw hB hz1 hk1 hS => ?_)
                  obtain ⟨F_398, hB1⟩ := hB
                  obtain rfl : F_308 = F_398 := (funext (fun a => hB1.2.2.2 a List.not_mem_nil)).symm
                  obtain ⟨hP, hD, hO, hR⟩ := QTm.back hB1 ht hFc hR (fun q h => absurd h List.not_mem_nil)
                  generalize H1 = H at hP hS ⊢
                  have hw : (∃ k : Nat, k_396 ≤ k ∧ k ≤ max k_396 z_125 ∧ r_397 = nI k ∧ (k < z_125 → gA (F_308 r_118) k ≠ 32)) := hw
                  have hw_399 := hw
                  obtain ⟨k_400, hk_400a, hk_400b, ek_400, hk_400c⟩ := hw_399
                  subst ek_400
                  rw [gA_fun hF_319] at hk_400c
                  refine lv_istore (lv' := [(7, .int (nI k_400)), (5, .int x_392), (6, .int (nI j)), (4, .ref b_117), (3, .int (nI jr)), (0, .ref h0), (1, .ref dd), (2, .int (nI lv))]) hx hb dX15_check_151 hl (by decide) rfl (fun ls hl => ?_)
                  refine lv_goto (tgt := 55) hx hb dX15_check_153 (by decide) ?_
                  refine W.widen (k := 0) (n := 0) (by omega) (by omega) ?_
                  exact ih_142 (k_400, x_392, (nI j), u17_309, u18_310, u19_311, u20_312, u21_313, u22_314) F_308 (⟨by omega, hk_400c, (Or.inr ⟨j, k_306, rfl, by omega, by omega, by omega, hk_306c, (hq_316).2.1 c_362⟩), hq_315⟩) (by show 701 - k_400 < 701 - j; omega) hO hR _ _ hP hD hS ls (lv_sub hl [0, 2, 1, 3, 4, 5, 6, 7] rfl)
            ·
              refine lv_bipush (v := 6) hx hb dX15_check_106 (by decide) ?_
              refine W.widen (k := 0) (n := 0) (by omega) (by omega) ?_
              exact W.iret (v := 6) hx hb hr (fun t ht hWm => ⟨⟨6, cn, rfl, (fun _ => rfl), ⟨F_308, v15, u17_309, u18_310, u19_311, u20_312, u21_313, u22_314, QTm.mk ht hP hD hO hR, hq_315, by omega, by omega⟩⟩, hS.F ht⟩) hS.2.2 dX15_check_108
    ·
      refine lv_iload_n hx hb dX15_check_20 rfl (lv_at hl 0 rfl) ?_
      refine lv_iconst (v := (-1)) hx hb dX15_check_21 (by decide) ?_
      refine lv_icmp_ne (tgt := 29) hx hb dX15_check_22 (by decide) (fun c_401 => ?_) (fun c_401 => ?_)
      ·
        refine lv_bipush (v := 6) hx hb dX15_check_29 (by decide) ?_
        refine W.widen (k := 0) (n := 0) (by omega) (by omega) ?_
        exact W.iret (v := 6) hx hb hr (fun t ht hWm => ⟨⟨6, cn, rfl, (fun _ => rfl), ⟨F, v15, v17, v18, v19, v20, v21, v22, QTm.mk ht hP hD hO hR, hF0, by omega, by omega⟩⟩, hS.F ht⟩) hS.2.2 dX15_check_31
      ·
        refine lv_iconst (v := 0) hx hb dX15_check_25 (by decide) ?_
        refine lv_goto (tgt := 31) hx hb dX15_check_26 (by decide) ?_
        refine W.widen (k := 0) (n := 0) (by omega) (by omega) ?_
        exact W.iret (v := 0) hx hb hr (fun t ht hWm => ⟨⟨0, cn, rfl, (fun h => by omega), ⟨F, v15, v17, v18, v19, v20, v21, v22, QTm.mk ht hP hD hO hR, hF0, by omega, by omega⟩⟩, hS.F ht⟩) hS.2.2 dX15_check_31
  ·
    refine lv_iconst (v := 5) hx hb dX15_check_8 (by decide) ?_
    refine W.widen (k := 0) (n := 0) (by omega) (by omega) ?_
    exact W.iret (v := 5) hx hb hr (fun t ht hWm => ⟨⟨5, cn, rfl, (fun h => by omega), ⟨F, v15, v17, v18, v19, v20, v21, v22, QTm.mk ht hP hD hO hR, hF0, by omega, by omega⟩⟩, hS.F ht⟩) hS.2.2 dX15_check_9
