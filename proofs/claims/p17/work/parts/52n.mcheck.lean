theorem dX15_check_0 : decode cX15_check 0 = .ok (.aload_n 0, 1) := by decide +kernel
theorem dX15_check_1 : decode cX15_check 1 = .ok (.aload_n 1, 1) := by decide +kernel
theorem dX15_check_2 : decode cX15_check 2 = .ok (.invokevirtual 308, 3) := by decide +kernel
theorem dX15_check_5 : decode cX15_check 5 = .ok (.ifCond .eq 5, 3) := by decide +kernel
theorem dX15_check_8 : decode cX15_check 8 = .ok (.iconst 5, 1) := by decide +kernel
theorem dX15_check_9 : decode cX15_check 9 = .ok (.ireturn, 1) := by decide +kernel
theorem dX15_check_10 : decode cX15_check 10 = .ok (.aload_n 0, 1) := by decide +kernel
theorem dX15_check_11 : decode cX15_check 11 = .ok (.aload_n 1, 1) := by decide +kernel
theorem dX15_check_12 : decode cX15_check 12 = .ok (.invokevirtual 311, 3) := by decide +kernel
theorem dX15_check_15 : decode cX15_check 15 = .ok (.istore_n 3, 1) := by decide +kernel
theorem dX15_check_16 : decode cX15_check 16 = .ok (.iload_n 3, 1) := by decide +kernel
theorem dX15_check_17 : decode cX15_check 17 = .ok (.ifCond .ge 15, 3) := by decide +kernel
theorem dX15_check_20 : decode cX15_check 20 = .ok (.iload_n 3, 1) := by decide +kernel
theorem dX15_check_21 : decode cX15_check 21 = .ok (.iconst (-1), 1) := by decide +kernel
theorem dX15_check_22 : decode cX15_check 22 = .ok (.if_icmp .ne 7, 3) := by decide +kernel
theorem dX15_check_25 : decode cX15_check 25 = .ok (.iconst 0, 1) := by decide +kernel
theorem dX15_check_26 : decode cX15_check 26 = .ok (.goto 5, 3) := by decide +kernel
theorem dX15_check_29 : decode cX15_check 29 = .ok (.bipush 6, 2) := by decide +kernel
theorem dX15_check_31 : decode cX15_check 31 = .ok (.ireturn, 1) := by decide +kernel
theorem dX15_check_32 : decode cX15_check 32 = .ok (.aload_n 0, 1) := by decide +kernel
theorem dX15_check_33 : decode cX15_check 33 = .ok (.getfield 51, 3) := by decide +kernel
theorem dX15_check_36 : decode cX15_check 36 = .ok (.iload_n 3, 1) := by decide +kernel
theorem dX15_check_37 : decode cX15_check 37 = .ok (.aaload, 1) := by decide +kernel
theorem dX15_check_38 : decode cX15_check 38 = .ok (.astore 4, 2) := by decide +kernel
theorem dX15_check_40 : decode cX15_check 40 = .ok (.iconst 0, 1) := by decide +kernel
theorem dX15_check_41 : decode cX15_check 41 = .ok (.istore 5, 2) := by decide +kernel
theorem dX15_check_43 : decode cX15_check 43 = .ok (.iconst (-1), 1) := by decide +kernel
theorem dX15_check_44 : decode cX15_check 44 = .ok (.istore 6, 2) := by decide +kernel
theorem dX15_check_46 : decode cX15_check 46 = .ok (.aload 4, 2) := by decide +kernel
theorem dX15_check_48 : decode cX15_check 48 = .ok (.bipush 6, 2) := by decide +kernel
theorem dX15_check_50 : decode cX15_check 50 = .ok (.invokestatic 315, 3) := by decide +kernel
theorem dX15_check_53 : decode cX15_check 53 = .ok (.istore 7, 2) := by decide +kernel
theorem dX15_check_55 : decode cX15_check 55 = .ok (.iload 7, 2) := by decide +kernel
theorem dX15_check_57 : decode cX15_check 57 = .ok (.aload 4, 2) := by decide +kernel
theorem dX15_check_59 : decode cX15_check 59 = .ok (.getfield 190, 3) := by decide +kernel
theorem dX15_check_62 : decode cX15_check 62 = .ok (.if_icmp .ge 94, 3) := by decide +kernel
theorem dX15_check_65 : decode cX15_check 65 = .ok (.aload_n 0, 1) := by decide +kernel
theorem dX15_check_66 : decode cX15_check 66 = .ok (.aload 4, 2) := by decide +kernel
theorem dX15_check_68 : decode cX15_check 68 = .ok (.getfield 295, 3) := by decide +kernel
theorem dX15_check_71 : decode cX15_check 71 = .ok (.iload 7, 2) := by decide +kernel
theorem dX15_check_73 : decode cX15_check 73 = .ok (.aload 4, 2) := by decide +kernel
theorem dX15_check_75 : decode cX15_check 75 = .ok (.iload 7, 2) := by decide +kernel
theorem dX15_check_77 : decode cX15_check 77 = .ok (.invokestatic 318, 3) := by decide +kernel
theorem dX15_check_80 : decode cX15_check 80 = .ok (.invokevirtual 321, 3) := by decide +kernel
theorem dX15_check_83 : decode cX15_check 83 = .ok (.aload_n 0, 1) := by decide +kernel
theorem dX15_check_84 : decode cX15_check 84 = .ok (.getfield 238, 3) := by decide +kernel
theorem dX15_check_87 : decode cX15_check 87 = .ok (.bipush 8, 2) := by decide +kernel
theorem dX15_check_89 : decode cX15_check 89 = .ok (.if_icmp .eq 17, 3) := by decide +kernel
theorem dX15_check_92 : decode cX15_check 92 = .ok (.aload_n 0, 1) := by decide +kernel
theorem dX15_check_93 : decode cX15_check 93 = .ok (.getfield 238, 3) := by decide +kernel
theorem dX15_check_96 : decode cX15_check 96 = .ok (.bipush 6, 2) := by decide +kernel
theorem dX15_check_98 : decode cX15_check 98 = .ok (.if_icmp .ne 11, 3) := by decide +kernel
theorem dX15_check_101 : decode cX15_check 101 = .ok (.iload 6, 2) := by decide +kernel
theorem dX15_check_103 : decode cX15_check 103 = .ok (.ifCond .lt 6, 3) := by decide +kernel
theorem dX15_check_106 : decode cX15_check 106 = .ok (.bipush 6, 2) := by decide +kernel
theorem dX15_check_108 : decode cX15_check 108 = .ok (.ireturn, 1) := by decide +kernel
theorem dX15_check_109 : decode cX15_check 109 = .ok (.aload_n 0, 1) := by decide +kernel
theorem dX15_check_110 : decode cX15_check 110 = .ok (.getfield 238, 3) := by decide +kernel
theorem dX15_check_113 : decode cX15_check 113 = .ok (.bipush 6, 2) := by decide +kernel
theorem dX15_check_115 : decode cX15_check 115 = .ok (.if_icmp .ne 7, 3) := by decide +kernel
theorem dX15_check_118 : decode cX15_check 118 = .ok (.iload 7, 2) := by decide +kernel
theorem dX15_check_120 : decode cX15_check 120 = .ok (.istore 6, 2) := by decide +kernel
theorem dX15_check_122 : decode cX15_check 122 = .ok (.iload 5, 2) := by decide +kernel
theorem dX15_check_124 : decode cX15_check 124 = .ok (.aload_n 0, 1) := by decide +kernel
theorem dX15_check_125 : decode cX15_check 125 = .ok (.getfield 238, 3) := by decide +kernel
theorem dX15_check_128 : decode cX15_check 128 = .ok (.ifCond .ne 7, 3) := by decide +kernel
theorem dX15_check_131 : decode cX15_check 131 = .ok (.iconst 1, 1) := by decide +kernel
theorem dX15_check_132 : decode cX15_check 132 = .ok (.goto 4, 3) := by decide +kernel
theorem dX15_check_135 : decode cX15_check 135 = .ok (.iconst 0, 1) := by decide +kernel
theorem dX15_check_136 : decode cX15_check 136 = .ok (.ior, 1) := by decide +kernel
theorem dX15_check_137 : decode cX15_check 137 = .ok (.istore 5, 2) := by decide +kernel
theorem dX15_check_139 : decode cX15_check 139 = .ok (.aload 4, 2) := by decide +kernel
theorem dX15_check_141 : decode cX15_check 141 = .ok (.aload 4, 2) := by decide +kernel
theorem dX15_check_143 : decode cX15_check 143 = .ok (.iload 7, 2) := by decide +kernel
theorem dX15_check_145 : decode cX15_check 145 = .ok (.invokestatic 318, 3) := by decide +kernel
theorem dX15_check_148 : decode cX15_check 148 = .ok (.invokestatic 315, 3) := by decide +kernel
theorem dX15_check_151 : decode cX15_check 151 = .ok (.istore 7, 2) := by decide +kernel
theorem dX15_check_153 : decode cX15_check 153 = .ok (.goto (-98), 3) := by decide +kernel
theorem dX15_check_156 : decode cX15_check 156 = .ok (.aload 4, 2) := by decide +kernel
theorem dX15_check_158 : decode cX15_check 158 = .ok (.bipush 6, 2) := by decide +kernel
theorem dX15_check_160 : decode cX15_check 160 = .ok (.invokestatic 315, 3) := by decide +kernel
theorem dX15_check_163 : decode cX15_check 163 = .ok (.istore 7, 2) := by decide +kernel
theorem dX15_check_165 : decode cX15_check 165 = .ok (.iload 7, 2) := by decide +kernel
theorem dX15_check_167 : decode cX15_check 167 = .ok (.aload 4, 2) := by decide +kernel
theorem dX15_check_169 : decode cX15_check 169 = .ok (.getfield 190, 3) := by decide +kernel
theorem dX15_check_172 : decode cX15_check 172 = .ok (.if_icmp .ge 116, 3) := by decide +kernel
theorem dX15_check_175 : decode cX15_check 175 = .ok (.aload_n 0, 1) := by decide +kernel
theorem dX15_check_176 : decode cX15_check 176 = .ok (.aload 4, 2) := by decide +kernel
theorem dX15_check_178 : decode cX15_check 178 = .ok (.getfield 295, 3) := by decide +kernel
theorem dX15_check_181 : decode cX15_check 181 = .ok (.iload 7, 2) := by decide +kernel
theorem dX15_check_183 : decode cX15_check 183 = .ok (.aload 4, 2) := by decide +kernel
theorem dX15_check_185 : decode cX15_check 185 = .ok (.iload 7, 2) := by decide +kernel
theorem dX15_check_187 : decode cX15_check 187 = .ok (.invokestatic 318, 3) := by decide +kernel
theorem dX15_check_190 : decode cX15_check 190 = .ok (.invokevirtual 321, 3) := by decide +kernel
theorem dX15_check_193 : decode cX15_check 193 = .ok (.aload_n 0, 1) := by decide +kernel
theorem dX15_check_194 : decode cX15_check 194 = .ok (.getfield 238, 3) := by decide +kernel
theorem dX15_check_197 : decode cX15_check 197 = .ok (.bipush 6, 2) := by decide +kernel
theorem dX15_check_199 : decode cX15_check 199 = .ok (.if_icmp .lt 6, 3) := by decide +kernel
theorem dX15_check_202 : decode cX15_check 202 = .ok (.goto 69, 3) := by decide +kernel
theorem dX15_check_205 : decode cX15_check 205 = .ok (.aload_n 0, 1) := by decide +kernel
theorem dX15_check_206 : decode cX15_check 206 = .ok (.getfield 235, 3) := by decide +kernel
theorem dX15_check_209 : decode cX15_check 209 = .ok (.istore 8, 2) := by decide +kernel
theorem dX15_check_211 : decode cX15_check 211 = .ok (.aload_n 0, 1) := by decide +kernel
theorem dX15_check_212 : decode cX15_check 212 = .ok (.aload 4, 2) := by decide +kernel
theorem dX15_check_214 : decode cX15_check 214 = .ok (.aload_n 1, 1) := by decide +kernel
theorem dX15_check_215 : decode cX15_check 215 = .ok (.iload_n 2, 1) := by decide +kernel
theorem dX15_check_216 : decode cX15_check 216 = .ok (.invokevirtual 324, 3) := by decide +kernel
theorem dX15_check_219 : decode cX15_check 219 = .ok (.istore 9, 2) := by decide +kernel
theorem dX15_check_221 : decode cX15_check 221 = .ok (.iload 9, 2) := by decide +kernel
theorem dX15_check_223 : decode cX15_check 223 = .ok (.iconst 1, 1) := by decide +kernel
theorem dX15_check_224 : decode cX15_check 224 = .ok (.if_icmp .le 6, 3) := by decide +kernel
theorem dX15_check_227 : decode cX15_check 227 = .ok (.iload 9, 2) := by decide +kernel
theorem dX15_check_229 : decode cX15_check 229 = .ok (.ireturn, 1) := by decide +kernel
theorem dX15_check_230 : decode cX15_check 230 = .ok (.iload 9, 2) := by decide +kernel
theorem dX15_check_232 : decode cX15_check 232 = .ok (.iconst 1, 1) := by decide +kernel
theorem dX15_check_233 : decode cX15_check 233 = .ok (.if_icmp .ne 38, 3) := by decide +kernel
theorem dX15_check_236 : decode cX15_check 236 = .ok (.iload 8, 2) := by decide +kernel
theorem dX15_check_238 : decode cX15_check 238 = .ok (.bipush 43, 2) := by decide +kernel
theorem dX15_check_240 : decode cX15_check 240 = .ok (.if_icmp .ne 7, 3) := by decide +kernel
theorem dX15_check_243 : decode cX15_check 243 = .ok (.iconst 2, 1) := by decide +kernel
theorem dX15_check_244 : decode cX15_check 244 = .ok (.goto 26, 3) := by decide +kernel
theorem dX15_check_247 : decode cX15_check 247 = .ok (.iload 8, 2) := by decide +kernel
theorem dX15_check_249 : decode cX15_check 249 = .ok (.bipush 63, 2) := by decide +kernel
theorem dX15_check_251 : decode cX15_check 251 = .ok (.if_icmp .ne 7, 3) := by decide +kernel
theorem dX15_check_254 : decode cX15_check 254 = .ok (.iconst 1, 1) := by decide +kernel
theorem dX15_check_255 : decode cX15_check 255 = .ok (.goto 15, 3) := by decide +kernel
theorem dX15_check_258 : decode cX15_check 258 = .ok (.iload 8, 2) := by decide +kernel
theorem dX15_check_260 : decode cX15_check 260 = .ok (.bipush 126, 2) := by decide +kernel
theorem dX15_check_262 : decode cX15_check 262 = .ok (.if_icmp .ne 7, 3) := by decide +kernel
theorem dX15_check_265 : decode cX15_check 265 = .ok (.iconst 4, 1) := by decide +kernel
theorem dX15_check_266 : decode cX15_check 266 = .ok (.goto 4, 3) := by decide +kernel
theorem dX15_check_269 : decode cX15_check 269 = .ok (.iconst 3, 1) := by decide +kernel
theorem dX15_check_270 : decode cX15_check 270 = .ok (.ireturn, 1) := by decide +kernel
theorem dX15_check_271 : decode cX15_check 271 = .ok (.aload 4, 2) := by decide +kernel
theorem dX15_check_273 : decode cX15_check 273 = .ok (.aload 4, 2) := by decide +kernel
theorem dX15_check_275 : decode cX15_check 275 = .ok (.iload 7, 2) := by decide +kernel
theorem dX15_check_277 : decode cX15_check 277 = .ok (.invokestatic 318, 3) := by decide +kernel
theorem dX15_check_280 : decode cX15_check 280 = .ok (.invokestatic 315, 3) := by decide +kernel
theorem dX15_check_283 : decode cX15_check 283 = .ok (.istore 7, 2) := by decide +kernel
theorem dX15_check_285 : decode cX15_check 285 = .ok (.goto (-120), 3) := by decide +kernel
theorem dX15_check_288 : decode cX15_check 288 = .ok (.iload 6, 2) := by decide +kernel
theorem dX15_check_290 : decode cX15_check 290 = .ok (.ifCond .lt 8, 3) := by decide +kernel
theorem dX15_check_293 : decode cX15_check 293 = .ok (.iload 5, 2) := by decide +kernel
theorem dX15_check_295 : decode cX15_check 295 = .ok (.ifCond .eq 5, 3) := by decide +kernel
theorem dX15_check_298 : decode cX15_check 298 = .ok (.iconst 1, 1) := by decide +kernel
theorem dX15_check_299 : decode cX15_check 299 = .ok (.ireturn, 1) := by decide +kernel
theorem dX15_check_300 : decode cX15_check 300 = .ok (.aload_n 0, 1) := by decide +kernel
theorem dX15_check_301 : decode cX15_check 301 = .ok (.aload 4, 2) := by decide +kernel
theorem dX15_check_303 : decode cX15_check 303 = .ok (.getfield 295, 3) := by decide +kernel
theorem dX15_check_306 : decode cX15_check 306 = .ok (.iload 6, 2) := by decide +kernel
theorem dX15_check_308 : decode cX15_check 308 = .ok (.aload 4, 2) := by decide +kernel
theorem dX15_check_310 : decode cX15_check 310 = .ok (.iload 6, 2) := by decide +kernel
theorem dX15_check_312 : decode cX15_check 312 = .ok (.invokestatic 318, 3) := by decide +kernel
theorem dX15_check_315 : decode cX15_check 315 = .ok (.invokevirtual 321, 3) := by decide +kernel
theorem dX15_check_318 : decode cX15_check 318 = .ok (.aload_n 0, 1) := by decide +kernel
theorem dX15_check_319 : decode cX15_check 319 = .ok (.dup, 1) := by decide +kernel
theorem dX15_check_320 : decode cX15_check 320 = .ok (.getfield 212, 3) := by decide +kernel
theorem dX15_check_323 : decode cX15_check 323 = .ok (.iconst 1, 1) := by decide +kernel
theorem dX15_check_324 : decode cX15_check 324 = .ok (.iadd, 1) := by decide +kernel
theorem dX15_check_325 : decode cX15_check 325 = .ok (.putfield 212, 3) := by decide +kernel
theorem dX15_check_328 : decode cX15_check 328 = .ok (.aload_n 0, 1) := by decide +kernel
theorem dX15_check_329 : decode cX15_check 329 = .ok (.getfield 212, 3) := by decide +kernel
theorem dX15_check_332 : decode cX15_check 332 = .ok (.bipush 10, 2) := by decide +kernel
theorem dX15_check_334 : decode cX15_check 334 = .ok (.if_icmp .le 6, 3) := by decide +kernel
theorem dX15_check_337 : decode cX15_check 337 = .ok (.bipush 6, 2) := by decide +kernel
theorem dX15_check_339 : decode cX15_check 339 = .ok (.ireturn, 1) := by decide +kernel
theorem dX15_check_340 : decode cX15_check 340 = .ok (.aload_n 0, 1) := by decide +kernel
theorem dX15_check_341 : decode cX15_check 341 = .ok (.aload 4, 2) := by decide +kernel
theorem dX15_check_343 : decode cX15_check 343 = .ok (.getfield 295, 3) := by decide +kernel
theorem dX15_check_346 : decode cX15_check 346 = .ok (.aload_n 0, 1) := by decide +kernel
theorem dX15_check_347 : decode cX15_check 347 = .ok (.getfield 241, 3) := by decide +kernel
theorem dX15_check_350 : decode cX15_check 350 = .ok (.aload_n 0, 1) := by decide +kernel
theorem dX15_check_351 : decode cX15_check 351 = .ok (.getfield 244, 3) := by decide +kernel
theorem dX15_check_354 : decode cX15_check 354 = .ok (.aload_n 1, 1) := by decide +kernel
theorem dX15_check_355 : decode cX15_check 355 = .ok (.aload_n 0, 1) := by decide +kernel
theorem dX15_check_356 : decode cX15_check 356 = .ok (.getfield 64, 3) := by decide +kernel
theorem dX15_check_359 : decode cX15_check 359 = .ok (.iload_n 2, 1) := by decide +kernel
theorem dX15_check_360 : decode cX15_check 360 = .ok (.aaload, 1) := by decide +kernel
theorem dX15_check_361 : decode cX15_check 361 = .ok (.invokevirtual 328, 3) := by decide +kernel
theorem dX15_check_364 : decode cX15_check 364 = .ok (.aload_n 0, 1) := by decide +kernel
theorem dX15_check_365 : decode cX15_check 365 = .ok (.aload_n 0, 1) := by decide +kernel
theorem dX15_check_366 : decode cX15_check 366 = .ok (.getfield 64, 3) := by decide +kernel
theorem dX15_check_369 : decode cX15_check 369 = .ok (.iload_n 2, 1) := by decide +kernel
theorem dX15_check_370 : decode cX15_check 370 = .ok (.aaload, 1) := by decide +kernel
theorem dX15_check_371 : decode cX15_check 371 = .ok (.iload_n 2, 1) := by decide +kernel
theorem dX15_check_372 : decode cX15_check 372 = .ok (.iconst 1, 1) := by decide +kernel
theorem dX15_check_373 : decode cX15_check 373 = .ok (.iadd, 1) := by decide +kernel
theorem dX15_check_374 : decode cX15_check 374 = .ok (.invokevirtual 218, 3) := by decide +kernel
theorem dX15_check_377 : decode cX15_check 377 = .ok (.istore 7, 2) := by decide +kernel
theorem dX15_check_379 : decode cX15_check 379 = .ok (.iload 7, 2) := by decide +kernel
theorem dX15_check_381 : decode cX15_check 381 = .ok (.ifCond .ne 8, 3) := by decide +kernel
theorem dX15_check_384 : decode cX15_check 384 = .ok (.bipush 6, 2) := by decide +kernel
theorem dX15_check_386 : decode cX15_check 386 = .ok (.goto 5, 3) := by decide +kernel
theorem dX15_check_389 : decode cX15_check 389 = .ok (.iload 7, 2) := by decide +kernel
theorem dX15_check_391 : decode cX15_check 391 = .ok (.ireturn, 1) := by decide +kernel
theorem kt_963 : Cond.code yX15_recordOf cX15_recordOf 5 (some .int) ∈ tb := tb_at (i := 1545) (by decide +kernel) (by decide +kernel)
theorem kt_964 : Cond.methodLink RX15 311 yX15_recordOf ∈ tb := tb_at (i := 1542) (by decide +kernel) (by decide +kernel)
theorem kt_965 : Cond.instanceMethod yX15_recordOf ∈ tb := tb_at (i := 1544) (by decide +kernel) (by decide +kernel)
theorem kt_966 : Cond.selects RX15 yX15_recordOf yX15_recordOf ∈ tb := tb_at (i := 46) (by decide +kernel) (by decide +kernel)
theorem kt_967 : Cond.code yX15_blankFrom cX15_blankFrom 3 (some .int) ∈ tb := tb_at (i := 1558) (by decide +kernel) (by decide +kernel)
theorem kt_968 : Cond.methodLink RX15 315 yX15_blankFrom ∈ tb := tb_at (i := 1556) (by decide +kernel) (by decide +kernel)
theorem kt_969 : Cond.static yX15_blankFrom ∈ tb := tb_at (i := 1557) (by decide +kernel) (by decide +kernel)
theorem kt_970 : Cond.code yX15_wordEnd cX15_wordEnd 3 (some .int) ∈ tb := tb_at (i := 1561) (by decide +kernel) (by decide +kernel)
theorem kt_971 : Cond.methodLink RX15 318 yX15_wordEnd ∈ tb := tb_at (i := 1559) (by decide +kernel) (by decide +kernel)
theorem kt_972 : Cond.static yX15_wordEnd ∈ tb := tb_at (i := 1560) (by decide +kernel) (by decide +kernel)
theorem kt_973 : Cond.code yX15_readTerm cX15_readTerm 7 none ∈ tb := tb_at (i := 1565) (by decide +kernel) (by decide +kernel)
theorem kt_974 : Cond.methodLink RX15 321 yX15_readTerm ∈ tb := tb_at (i := 1562) (by decide +kernel) (by decide +kernel)
theorem kt_975 : Cond.instanceMethod yX15_readTerm ∈ tb := tb_at (i := 1564) (by decide +kernel) (by decide +kernel)
theorem kt_976 : Cond.selects RX15 yX15_readTerm yX15_readTerm ∈ tb := tb_at (i := 47) (by decide +kernel) (by decide +kernel)
theorem kt_977 : Cond.code yX15_matches cX15_matches 10 (some .int) ∈ tb := tb_at (i := 1599) (by decide +kernel) (by decide +kernel)
theorem kt_978 : Cond.methodLink RX15 324 yX15_matches ∈ tb := tb_at (i := 1596) (by decide +kernel) (by decide +kernel)
theorem kt_979 : Cond.instanceMethod yX15_matches ∈ tb := tb_at (i := 1598) (by decide +kernel) (by decide +kernel)
theorem kt_980 : Cond.selects RX15 yX15_matches yX15_matches ∈ tb := tb_at (i := 50) (by decide +kernel) (by decide +kernel)
set_option maxHeartbeats 4000000 in
set_option maxRecDepth 100000 in
theorem s_X15_check (l : Launch) (dC : Nat → ClassId) (dI : Nat → Nat → Nat) (cs : Nat → ClassId) (ty : TyM) (gm : Nat → Nat → Nat) (L : List Nat) (sz : Nat) (F : Nat → va_E) (h0 : Nat) (ρ : Nat) (ta : Nat) (ou : Nat) (so : Nat) (ad : Nat) (na : Nat) (va : Nat) (lc : Nat) (dm : Nat) (tg : Nat) (pe : Nat) (ml : Nat) (bg : Nat) (co : Nat) (sp : Nat) (nb0 : Nat) (nb1 : Nat) (nb2 : Nat) (pl : Nat) (se : Nat) (ke : Nat) (wi : Nat) (hs : Nat) (mo : Nat) (po : Nat) (nu : Nat) (pr : Nat) (sq : Nat) (xa : Nat) (sa : Nat) (n64 : Nat) (m64 : Nat) (ex : Nat) (wh : Nat) (sd : Nat) (tk : Nat) (hd : Nat) (ak : Nat) (ho : Nat) (ot : Nat) (sx : Nat) (s0 : Nat) (s1 : Nat) (s2 : Nat) (nf : Nat) (bd : Nat) (mm : Nat) (zo : Nat) (ze : Nat) (zt : Nat) (rp : Nat) (v11 : Int32) (v12 : Int32) (v15 : Int32) (v17 : Int32) (v18 : Int32) (v19 : Int32) (v20 : Int32) (v21 : Int32) (v22 : Int32) (v33 : Int32) (v52 : Int32) (v53 : Int32) (v54 : Int32) (dd : Nat) (τ : Nat) (rd : Nat) (nd : Nat) (lv : Nat) (cn : Nat) (fr : Nat) (lo : Nat) (hW : WTm ty gm L) (hL_h0 : h0 ∈ L) (hT_h0 : ty h0 = (15, ρ, [ta, ou, so, ad, na, va, lc, dm, tg, pe, ml, bg, co, sp, nb0, nb1, nb2, pl, se, ke, wi, hs, mo, po, nu, pr, sq, xa, sa, n64, m64, ex, wh, sd, tk, hd, ak, ho, ot, sx, s0, s1, s2, nf, bd, mm, zo, ze, zt])) (hL_pe : pe ∈ L) (hT_pe : ty pe = (14, ρ + 7, [rp, 100])) (hL_dd : dd ∈ L) (hT_dd : ty dd = (14, τ, [rd, nd])) (hF0 : F h0 = .inr (15, (.ref ta) :: (.int (nI zt)) :: (.int (nI zo)) :: (.int (nI ze)) :: (.ref ou) :: (.ref so) :: (.ref ad) :: (.ref na) :: (.ref va) :: (.ref lc) :: (.ref dm) :: (.int v11) :: (.int v12) :: (.ref tg) :: (.int (nI cn)) :: (.int v15) :: (.ref pe) :: (.int v17) :: (.int v18) :: (.int v19) :: (.int v20) :: (.int v21) :: (.int v22) :: (.ref ml) :: (.ref bg) :: (.ref co) :: (.ref sp) :: (.ref nb0) :: (.ref nb1) :: (.ref nb2) :: (.int (nI nf)) :: (.int (nI bd)) :: (.int (nI mm)) :: (.int v33) :: (.ref pl) :: (.ref se) :: (.ref ke) :: (.ref wi) :: (.ref hs) :: (.ref mo) :: (.ref po) :: (.ref nu) :: (.ref pr) :: (.ref sq) :: (.ref xa) :: (.ref sa) :: (.ref n64) :: (.ref m64) :: (.ref ex) :: (.ref wh) :: (.ref sd) :: (.ref tk) :: (.int v52) :: (.int v53) :: (.int v54) :: (.ref hd) :: (.ref ak) :: (.ref ho) :: (.ref ot) :: [])) (hzo : zo ≤ 6000) (hze : ze ≤ 40) (h33 : ((v33 = 0 ∧ nf = 0) ∨ (v33 = 1 ∧ 1 ≤ nf))) (h54 : (v54 = 0 ∨ v54 = 1)) (hlc : lv ≤ cn) (hc10 : cn ≤ 10) (hnd : nd ≤ 61) (hC : ∀ (c1 : Nat), cn < c1 → ∀ (sz : Nat) (F : Nat → va_E) (v11 : Int32) (v12 : Int32) (v15 : Int32) (v17 : Int32) (v18 : Int32) (v19 : Int32) (v20 : Int32) (v21 : Int32) (v22 : Int32) (v33 : Int32) (v52 : Int32) (v53 : Int32) (v54 : Int32) (dd : Nat) (τ : Nat) (rd : Nat) (nd : Nat) (lv : Nat), dd ∈ L → ty dd = (14, τ, [rd, nd]) → (F h0 = .inr (15, (.ref ta) :: (.int (nI zt)) :: (.int (nI zo)) :: (.int (nI ze)) :: (.ref ou) :: (.ref so) :: (.ref ad) :: (.ref na) :: (.ref va) :: (.ref lc) :: (.ref dm) :: (.int v11) :: (.int v12) :: (.ref tg) :: (.int (nI c1)) :: (.int v15) :: (.ref pe) :: (.int v17) :: (.int v18) :: (.int v19) :: (.int v20) :: (.int v21) :: (.int v22) :: (.ref ml) :: (.ref bg) :: (.ref co) :: (.ref sp) :: (.ref nb0) :: (.ref nb1) :: (.ref nb2) :: (.int (nI nf)) :: (.int (nI bd)) :: (.int (nI mm)) :: (.int v33) :: (.ref pl) :: (.ref se) :: (.ref ke) :: (.ref wi) :: (.ref hs) :: (.ref mo) :: (.ref po) :: (.ref nu) :: (.ref pr) :: (.ref sq) :: (.ref xa) :: (.ref sa) :: (.ref n64) :: (.ref m64) :: (.ref ex) :: (.ref wh) :: (.ref sd) :: (.ref tk) :: (.int v52) :: (.int v53) :: (.int v54) :: (.ref hd) :: (.ref ak) :: (.ref ho) :: (.ref ot) :: [])) → (zo ≤ 6000) → (ze ≤ 40) → (((v33 = 0 ∧ nf = 0) ∨ (v33 = 1 ∧ 1 ≤ nf))) → ((v54 = 0 ∨ v54 = 1)) → (lv ≤ c1) → (c1 ≤ 10) → (nd ≤ 61) → Met l yX15_check (.code yX15_check cX15_check 10 (some .int) :: tb) ({ frames := fr + 0, cells := 0, slots := 0, locals := lo + 0 }) (va_Pc [.ref h0, .ref dd, .int (nI lv)] (PTEm (dC, dI) cs ty gm L F sz [])) (va_Qi (fun (r : Int32) (cu : Nat) => (cu = 11 → r = 6)) (fun (cu : Nat) T9 => ∃ F2 : Nat → va_E, ∃ u15 : Int32, ∃ u17 : Int32, ∃ u18 : Int32, ∃ u19 : Int32, ∃ u20 : Int32, ∃ u21 : Int32, ∃ u22 : Int32, QTm (dC, dI) cs ty gm L [ρ, ρ + 6, ρ + 7] F F2 (va_A (va_pl L F) sz) T9 ∧ F2 h0 = .inr (15, (.ref ta) :: (.int (nI zt)) :: (.int (nI zo)) :: (.int (nI ze)) :: (.ref ou) :: (.ref so) :: (.ref ad) :: (.ref na) :: (.ref va) :: (.ref lc) :: (.ref dm) :: (.int v11) :: (.int v12) :: (.ref tg) :: (.int (nI cu)) :: (.int u15) :: (.ref pe) :: (.int u17) :: (.int u18) :: (.int u19) :: (.int u20) :: (.int u21) :: (.int u22) :: (.ref ml) :: (.ref bg) :: (.ref co) :: (.ref sp) :: (.ref nb0) :: (.ref nb1) :: (.ref nb2) :: (.int (nI nf)) :: (.int (nI bd)) :: (.int (nI mm)) :: (.int v33) :: (.ref pl) :: (.ref se) :: (.ref ke) :: (.ref wi) :: (.ref hs) :: (.ref mo) :: (.ref po) :: (.ref nu) :: (.ref pr) :: (.ref sq) :: (.ref xa) :: (.ref sa) :: (.ref n64) :: (.ref m64) :: (.ref ex) :: (.ref wh) :: (.ref sd) :: (.ref tk) :: (.int v52) :: (.int v53) :: (.int v54) :: (.ref hd) :: (.ref ak) :: (.ref ho) :: (.ref ot) :: []) ∧ c1 ≤ cu ∧ cu ≤ 11) (va_A (va_pl L F) sz)) 0 0 (va_A (va_pl L F) sz)) : Met l yX15_check (.code yX15_check cX15_check 10 (some .int) :: tb) ({ frames := fr + 7, cells := 0, slots := 0, locals := lo + 158 }) (va_Pc [.ref h0, .ref dd, .int (nI lv)] (PTEm (dC, dI) cs ty gm L F sz [])) (va_Qi (fun (r : Int32) (cu : Nat) => (cu = 11 → r = 6)) (fun (cu : Nat) T9 => ∃ F2 : Nat → va_E, ∃ u15 : Int32, ∃ u17 : Int32, ∃ u18 : Int32, ∃ u19 : Int32, ∃ u20 : Int32, ∃ u21 : Int32, ∃ u22 : Int32, QTm (dC, dI) cs ty gm L [ρ, ρ + 6, ρ + 7] F F2 (va_A (va_pl L F) sz) T9 ∧ F2 h0 = .inr (15, (.ref ta) :: (.int (nI zt)) :: (.int (nI zo)) :: (.int (nI ze)) :: (.ref ou) :: (.ref so) :: (.ref ad) :: (.ref na) :: (.ref va) :: (.ref lc) :: (.ref dm) :: (.int v11) :: (.int v12) :: (.ref tg) :: (.int (nI cu)) :: (.int u15) :: (.ref pe) :: (.int u17) :: (.int u18) :: (.int u19) :: (.int u20) :: (.int u21) :: (.int u22) :: (.ref ml) :: (.ref bg) :: (.ref co) :: (.ref sp) :: (.ref nb0) :: (.ref nb1) :: (.ref nb2) :: (.int (nI nf)) :: (.int (nI bd)) :: (.int (nI mm)) :: (.int v33) :: (.ref pl) :: (.ref se) :: (.ref ke) :: (.ref wi) :: (.ref hs) :: (.ref mo) :: (.ref po) :: (.ref nu) :: (.ref pr) :: (.ref sq) :: (.ref xa) :: (.ref sa) :: (.ref n64) :: (.ref m64) :: (.ref ex) :: (.ref wh) :: (.ref sd) :: (.ref tk) :: (.int v52) :: (.int v53) :: (.int v54) :: (.ref hd) :: (.ref ak) :: (.ref ho) :: (.ref ot) :: []) ∧ cn ≤ cu ∧ cu ≤ 11) (va_A (va_pl L F) sz)) 0 0 (va_A (va_pl L F) sz) := by
  refine Met.ofW (cc := cX15_check) (maxL := 10) (ret := (some .int)) (by decide) rfl ?_
  intro p e s m args below meth c s₁ B hml hv
  obtain ⟨rfl, ⟨hsz, hP, hK, hD0, hE, hO⟩, hG, hX⟩ := hv
  have hx := B.exec
  have hb := B.bytes
  have hr := B.returns
  have hts : ∀ w ∈ tb, w.before _ s = true := fun w h => atoms_spec (ws := .code yX15_check cX15_check 10 (some .int) :: tb) B.pre w (List.mem_cons_of_mem _ h)
  have hown : s.vm.findClass RX15 = some m.cls := findClass_of_methodNamed B.named
  have hlocks := B.notSynchronized
  subst hsz
  have hD := hD0.self (sz := s.heap.size)
  generalize hAe : va_A (va_pl L F) s.heap.size = A at hD hG hX ⊢
  have hA : ∀ q : Nat, s.heap.size ≤ q → A q := fun q h => by rw [← hAe]; exact Or.inr h
  have hS : va_S A s.heap s.heap [] := va_S.rf
  have hR : FR ty [ρ, ρ + 6, ρ + 7] F F := FR.refl
  have hl := lv_entry ([.ref h0, .ref dd, .int (nI lv)]) (n := 10) (Nat.le_of_ble_eq_true rfl)
  rw [lg_entry_eq]
  generalize (lg_sl ([.ref h0, .ref dd, .int (nI lv)]) ++ List.replicate (10 - (lg_sl ([.ref h0, .ref dd, .int (nI lv)])).length) Slot.unset).toArray = ls at hl ⊢
  have hl : lv_has ls 10 [(0, .ref h0), (1, .ref dd), (2, .int (nI lv))] := hl
  refine lv_aload_n hx hb dX15_check_0 rfl (lv_at hl 0 rfl) ?_
  refine lv_aload_n hx hb dX15_check_1 rfl (lv_at hl 1 rfl) ?_
  obtain ⟨hq_22, hq_23, hq_24, hq_25, hq_26, hgO, hgA, hgB⟩ := hW.sc hL_h0 hT_h0
  obtain ⟨hi_27, ht_28, hq_29⟩ := hW.txt hL_dd hT_dd
  have hFc := pg_free hD hS hA
  refine va_calli (va_runV (As := [.ref dd]) (rest := []) ⟨hx, hb, hml, hown, hts⟩ (s_X15_isTrouble l dC dI cs ty gm L s.heap.size F h0 ρ ta ou so ad na va lc dm tg pe ml bg co sp nb0 nb1 nb2 pl se ke wi hs mo po nu pr sq xa sa n64 m64 ex wh sd tk hd ak ho ot sx s0 s1 s2 nf bd mm zo ze zt dd τ rd nd hW hL_h0 hT_h0 hL_dd hT_dd) ⟨callB_of 1 hts (gi kt_726) rfl rfl rfl (hts _ kt_659) (hts _ kt_727) (by decide +kernel) ⟨by show 3 + 1 ≤ fr + 7; omega, by show 8 + (3 + 11) + 68 ≤ lo + 158; omega⟩, (hts _ kt_728), (hts _ kt_729)⟩ ⟨fun a U g mk q => ⟨q.1, PTm.calling q.2⟩, pg_recv hK hP hL_h0 hF0 (q := (RX15, TX15, 59)) rfl, fun U hU hWm => ⟨rfl, PTm.mk hU hWm hP hK hD hE hO⟩⟩ rfl rfl hl.1 rfl (lv_room (Nat.le_of_ble_eq_true rfl)) dX15_check_2 ⟨by show _ + 0 ≤ 0; omega, by show _ + 0 ≤ 0; omega⟩) hS (fun q _ h => hFc q h) hFc (fun r_30 u t H1 locs ht hvm hw hB hz1 hk1 hS => ?_)
  obtain ⟨F_31, hB1⟩ := hB
  obtain rfl : F = F_31 := (funext (fun a => hB1.2.2.2 a List.not_mem_nil)).symm
  obtain ⟨hP, hD, hO, hR⟩ := QTm.back hB1 ht hFc hR (fun q h => absurd h List.not_mem_nil)
  generalize H1 = H at hP hS ⊢
  have hw : (r_30 = 0 ∨ r_30 = 1) := hw
  have hw_32 := hw
  refine lv_if_eq (tgt := 10) hx hb dX15_check_5 (by decide) (fun c_33 => ?_) (fun c_33 => ?_)
  ·
    refine lv_aload_n hx hb dX15_check_10 rfl (lv_at hl 0 rfl) ?_
    refine lv_aload_n hx hb dX15_check_11 rfl (lv_at hl 1 rfl) ?_
    have hFc := pg_free hD hS hA
    refine va_calli (va_runV (As := [.ref dd]) (rest := []) ⟨hx, hb, hml, hown, hts⟩ (s_X15_recordOf l dC dI cs ty gm L H.size F h0 ρ ta ou so ad na va lc dm tg pe ml bg co sp nb0 nb1 nb2 pl se ke wi hs mo po nu pr sq xa sa n64 m64 ex wh sd tk hd ak ho ot sx s0 s1 s2 nf bd mm zo ze zt dd τ rd nd hW hL_h0 hT_h0 hL_dd hT_dd) ⟨callB_of 1 hts (gi kt_963) rfl rfl rfl (hts _ kt_659) (hts _ kt_964) (by decide +kernel) ⟨by show 6 + 1 ≤ fr + 7; omega, by show 8 + (5 + 11) + 132 ≤ lo + 158; omega⟩, (hts _ kt_965), (hts _ kt_966)⟩ ⟨fun a U g mk q => ⟨q.1, PTEm.calling q.2⟩, pg_recv hK hP hL_h0 hF0 (q := (RX15, TX15, 59)) rfl, fun U hU hWm => ⟨rfl, PTEm.mk hU hWm hP hK hD hE hO hG (fun x hx => absurd hx List.not_mem_nil) hS hFc⟩⟩ rfl rfl hl.1 rfl (lv_room (Nat.le_of_ble_eq_true rfl)) dX15_check_12 ⟨by show _ + 0 ≤ 0; omega, by show _ + 0 ≤ 0; omega⟩) hS (fun q _ h => hFc q h) hFc (fun r_34 u t H1 locs ht hvm hw hB hz1 hk1 hS => ?_)
    obtain ⟨F_35, hB1⟩ := hB
    obtain rfl : F = F_35 := (funext (fun a => hB1.2.2.2 a List.not_mem_nil)).symm
    obtain ⟨hP, hD, hO, hR⟩ := QTm.back hB1 ht hFc hR (fun q h => absurd h List.not_mem_nil)
    generalize H1 = H at hP hS ⊢
    have hw : (r_34 = (-1) ∨ r_34 = (-2) ∨ ∃ j : Nat, j < 40 ∧ r_34 = nI j) := hw
    have hw_36 := hw
    refine lv_istore_n (lv' := [(3, .int r_34), (0, .ref h0), (1, .ref dd), (2, .int (nI lv))]) hx hb dX15_check_15 rfl hl (by decide) rfl (fun ls hl => ?_)
    refine lv_iload_n hx hb dX15_check_16 rfl (lv_at hl 0 rfl) ?_
    refine lv_if_ge (tgt := 32) hx hb dX15_check_17 (by decide) (fun c_37 => ?_) (fun c_37 => ?_)
    ·
      obtain ⟨jr, hjr, ejr⟩ := rec0 hw_36 c_37
      subst ejr
      refine lv_aload_n hx hb dX15_check_32 rfl (lv_at hl 1 rfl) ?_
      refine pg_get (ci := 15) (v := .ref va) (C := RX15) (T := TX15) (N := 59) hx hb hts it_15 hown hK hP hL_h0 hF0 rfl 8 (by decide) (hts _ kt_722) (fun _ h9 => h9) rfl dX15_check_33 ?_
      refine lv_iload_n hx hb dX15_check_36 rfl (lv_at hl 0 rfl) ?_
      obtain ⟨hi_38, ht_39⟩ := hW.f_va hL_h0 hT_h0
      obtain ⟨f_40, hF_41, hq_42⟩ := hO.rtxj hi_38 ht_39
      obtain ⟨b_43, r_44, hbf_45, hi_46, ht_47⟩ := hq_42 jr (by omega)
      refine pg_aald (r := b_43) hx hb hK hP hi_38 7 hF_41 rfl (vp_in_nI (by omega) (by omega)) (show f_40 ((nI jr) : Int32).toNatClampNeg = _ from by rw [show ((nI jr) : Int32) = nI jr from rfl, nI_clamp (by omega)]; exact hbf_45) dX15_check_37 ?_
      refine lv_astore (lv' := [(4, .ref b_43), (3, .int (nI jr)), (0, .ref h0), (1, .ref dd), (2, .int (nI lv))]) hx hb dX15_check_38 hl (by decide) rfl (fun ls hl => ?_)
      obtain ⟨hi_48, ht_49, hq_50⟩ := hW.txt hi_46 ht_47
      obtain ⟨z_51, hF_52, hq_53⟩ := hO.txt hi_46 ht_47
      obtain ⟨hq_54, hq_55⟩ := hW.octs hi_48 ht_49
      obtain ⟨f_56, hF_57, hq_58⟩ := hO.octs hi_48 ht_49
      refine lv_iconst (v := 0) hx hb dX15_check_40 (by decide) ?_
      refine lv_istore (lv' := [(5, .int 0), (4, .ref b_43), (3, .int (nI jr)), (0, .ref h0), (1, .ref dd), (2, .int (nI lv))]) hx hb dX15_check_41 hl (by decide) rfl (fun ls hl => ?_)
      refine lv_iconst (v := (-1)) hx hb dX15_check_43 (by decide) ?_
      refine lv_istore (lv' := [(6, .int (-1)), (5, .int 0), (4, .ref b_43), (3, .int (nI jr)), (0, .ref h0), (1, .ref dd), (2, .int (nI lv))]) hx hb dX15_check_44 hl (by decide) rfl (fun ls hl => ?_)
      refine lv_aload hx hb dX15_check_46 (lv_at hl 2 rfl) ?_
      refine lv_bipush (v := 6) hx hb dX15_check_48 (by decide) ?_
      refine W.eq (g2 := F0 m 50 ls [.int (nI 6), .ref b_43]) rfl ?_
      have hFc := pg_free hD hS hA
      refine va_calli (va_runS (As := [.ref b_43, .int (nI 6)]) (rest := []) ⟨hx, hb, hml, hown, hts⟩ (s_X15_blankFrom l dC dI cs ty gm L H.size F b_43 (ρ + 50 + jr + 100) r_44 700 z_51 6 hW hi_46 ht_47 hF_52 (by first | omega | assumption) (by first | omega | assumption)) ⟨callB_of 2 hts (gi kt_967) rfl rfl rfl (hts _ kt_659) (hts _ kt_968) (by decide +kernel) ⟨by show 0 + 1 ≤ fr + 7; omega, by show 8 + (3 + 11) + 0 ≤ lo + 158; omega⟩, (hts _ kt_969)⟩ ⟨fun a U g mk q => ⟨q.1, PTm.calling q.2⟩, fun U hU hWm => ⟨rfl, PTm.mk hU hWm hP hK hD hE hO⟩⟩ rfl rfl hl.1 rfl (lv_room (Nat.le_of_ble_eq_true rfl)) dX15_check_50 ⟨by show _ + 0 ≤ 0; omega, by show _ + 0 ≤ 0; omega⟩) hS (fun q _ h => hFc q h) hFc (fun r_59 u t H1 locs ht hvm hw hB hz1 hk1 hS => ?_)
      obtain ⟨F_60, hB1⟩ := hB
      obtain rfl : F = F_60 := (funext (fun a => hB1.2.2.2 a List.not_mem_nil)).symm
      obtain ⟨hP, hD, hO, hR⟩ := QTm.back hB1 ht hFc hR (fun q h => absurd h List.not_mem_nil)
      generalize H1 = H at hP hS ⊢
      have hw : (∃ k : Nat, 6 ≤ k ∧ k ≤ max 6 z_51 ∧ r_59 = nI k ∧ (k < z_51 → gA (F r_44) k ≠ 32)) := hw
      have hw_61 := hw
      obtain ⟨k_62, hk_62a, hk_62b, ek_62, hk_62c⟩ := hw_61
      subst ek_62
      rw [gA_fun hF_57] at hk_62c
      refine lv_istore (lv' := [(7, .int (nI k_62)), (6, .int (-1)), (5, .int 0), (4, .ref b_43), (3, .int (nI jr)), (0, .ref h0), (1, .ref dd), (2, .int (nI lv))]) hx hb dX15_check_53 hl (by decide) rfl (fun ls hl => ?_)
      refine W.widen (k := 0) (n := 0) (by omega) (by omega) ?_
      have hF_64 : F va = .inl (cs 23, 40, .inr (.inr (.inr (.inr f_40)))) := (hR va (by rw [ht_39]; simp)).symm.trans hF_41
      have hF_65 : F b_43 = .inr (14, [.ref r_44, .int (nI z_51)]) := (hR b_43 (by rw [ht_47]; simp only [List.mem_cons, List.not_mem_nil, or_false]; omega)).symm.trans hF_52
      have hF_66 : F r_44 = .inl (cs 17, 700, .inl f_56) := (hR r_44 (by rw [ht_49]; simp only [List.mem_cons, List.not_mem_nil, or_false]; omega)).symm.trans hF_57
      refine pl_loopm (σ := Nat × Int32 × Int32 × Int32 × Int32 × Int32 × Int32 × Int32 × Int32) A (dC, dI) cs ty gm L [ρ, ρ + 6, ρ + 7] F 55 10 (fun (j, w5, w6, q17, q18, q19, q20, q21, q22) => [(7, .int (nI j)), (6, .int w6), (5, .int w5), (4, .ref b_43), (3, .int (nI jr)), (0, .ref h0), (1, .ref dd), (2, .int (nI lv))]) (fun (j, w5, w6, q17, q18, q19, q20, q21, q22) => []) (fun (j, w5, w6, q17, q18, q19, q20, q21, q22) FF => j ≤ 700 ∧ (j < z_51 → f_56 j ≠ 32) ∧ TRN f_56 z_51 w6 ∧ FF h0 = .inr (15, (.ref ta) :: (.int (nI zt)) :: (.int (nI zo)) :: (.int (nI ze)) :: (.ref ou) :: (.ref so) :: (.ref ad) :: (.ref na) :: (.ref va) :: (.ref lc) :: (.ref dm) :: (.int v11) :: (.int v12) :: (.ref tg) :: (.int (nI cn)) :: (.int v15) :: (.ref pe) :: (.int q17) :: (.int q18) :: (.int q19) :: (.int q20) :: (.int q21) :: (.int q22) :: (.ref ml) :: (.ref bg) :: (.ref co) :: (.ref sp) :: (.ref nb0) :: (.ref nb1) :: (.ref nb2) :: (.int (nI nf)) :: (.int (nI bd)) :: (.int (nI mm)) :: (.int v33) :: (.ref pl) :: (.ref se) :: (.ref ke) :: (.ref wi) :: (.ref hs) :: (.ref mo) :: (.ref po) :: (.ref nu) :: (.ref pr) :: (.ref sq) :: (.ref xa) :: (.ref sa) :: (.ref n64) :: (.ref m64) :: (.ref ex) :: (.ref wh) :: (.ref sd) :: (.ref tk) :: (.int v52) :: (.int v53) :: (.int v54) :: (.ref hd) :: (.ref ak) :: (.ref ho) :: (.ref ot) :: [])) (fun (j, w5, w6, q17, q18, q19, q20, q21, q22) => 701 - j) ?_ (k_62, 0, (-1), v17, v18, v19, v20, v21, v22) F (⟨by omega, hk_62c, Or.inl rfl, hF0⟩) hO hR _ _ hP hD hS ls (lv_sub hl [0, 1, 2, 3, 4, 5, 6, 7] rfl)
      rintro ⟨j, w5, w6, q17, q18, q19, q20, q21, q22⟩ F_63 hv_67 hO hR ih_68 H locs hP hD hS ls hl
      have hl : lv_has ls 10 [(7, .int (nI j)), (6, .int w6), (5, .int w5), (4, .ref b_43), (3, .int (nI jr)), (0, .ref h0), (1, .ref dd), (2, .int (nI lv))] := hl
      have hv_67 : j ≤ 700 ∧ (j < z_51 → f_56 j ≠ 32) ∧ TRN f_56 z_51 w6 ∧ F_63 h0 = .inr (15, (.ref ta) :: (.int (nI zt)) :: (.int (nI zo)) :: (.int (nI ze)) :: (.ref ou) :: (.ref so) :: (.ref ad) :: (.ref na) :: (.ref va) :: (.ref lc) :: (.ref dm) :: (.int v11) :: (.int v12) :: (.ref tg) :: (.int (nI cn)) :: (.int v15) :: (.ref pe) :: (.int q17) :: (.int q18) :: (.int q19) :: (.int q20) :: (.int q21) :: (.int q22) :: (.ref ml) :: (.ref bg) :: (.ref co) :: (.ref sp) :: (.ref nb0) :: (.ref nb1) :: (.ref nb2) :: (.int (nI nf)) :: (.int (nI bd)) :: (.int (nI mm)) :: (.int v33) :: (.ref pl) :: (.ref se) :: (.ref ke) :: (.ref wi) :: (.ref hs) :: (.ref mo) :: (.ref po) :: (.ref nu) :: (.ref pr) :: (.ref sq) :: (.ref xa) :: (.ref sa) :: (.ref n64) :: (.ref m64) :: (.ref ex) :: (.ref wh) :: (.ref sd) :: (.ref tk) :: (.int v52) :: (.int v53) :: (.int v54) :: (.ref hd) :: (.ref ak) :: (.ref ho) :: (.ref ot) :: []) := hv_67
      refine W.eq (g2 := F0 m 55 ls []) rfl ?_
      have hF_69 : F_63 va = .inl (cs 23, 40, .inr (.inr (.inr (.inr f_40)))) := (hR va (by rw [ht_39]; simp)).trans hF_64
      have hF_70 : F_63 b_43 = .inr (14, [.ref r_44, .int (nI z_51)]) := (hR b_43 (by rw [ht_47]; simp only [List.mem_cons, List.not_mem_nil, or_false]; omega)).trans hF_65
      have hF_71 : F_63 r_44 = .inl (cs 17, 700, .inl f_56) := (hR r_44 (by rw [ht_49]; simp only [List.mem_cons, List.not_mem_nil, or_false]; omega)).trans hF_66
      obtain ⟨hv1, hv2, hv3, hv4⟩ := hv_67
      refine lv_iload hx hb dX15_check_55 (lv_at hl 0 rfl) ?_
      refine lv_aload hx hb dX15_check_57 (lv_at hl 3 rfl) ?_
      refine pg_get (ci := 14) (v := .int (nI z_51)) (C := RX14) (T := TX14) (N := 2) hx hb hts it_14 hown hK hP hi_46 hF_70 rfl 1 (by decide) (hts _ kt_699) (fun _ h9 => h9) rfl dX15_check_59 ?_
      refine lv_icmp_ge (tgt := 156) hx hb dX15_check_62 (by decide) (fun c_72 => ?_) (fun c_72 => ?_)
      ·
        have hi_73 : z_51 ≤ j := leN (N := z_51) c_72
        refine lv_aload hx hb dX15_check_156 (lv_at hl 3 rfl) ?_
        refine lv_bipush (v := 6) hx hb dX15_check_158 (by decide) ?_
        refine W.eq (g2 := F0 m 160 ls [.int (nI 6), .ref b_43]) rfl ?_
        have hFc := pg_free hD hS hA
        refine va_calli (va_runS (As := [.ref b_43, .int (nI 6)]) (rest := []) ⟨hx, hb, hml, hown, hts⟩ (s_X15_blankFrom l dC dI cs ty gm L H.size F_63 b_43 (ρ + 50 + jr + 100) r_44 700 z_51 6 hW hi_46 ht_47 hF_70 (by first | omega | assumption) (by first | omega | assumption)) ⟨callB_of 2 hts (gi kt_967) rfl rfl rfl (hts _ kt_659) (hts _ kt_968) (by decide +kernel) ⟨by show 0 + 1 ≤ fr + 7; omega, by show 8 + (3 + 11) + 0 ≤ lo + 158; omega⟩, (hts _ kt_969)⟩ ⟨fun a U g mk q => ⟨q.1, PTm.calling q.2⟩, fun U hU hWm => ⟨rfl, PTm.mk hU hWm hP hK hD hE hO⟩⟩ rfl rfl hl.1 rfl (lv_room (Nat.le_of_ble_eq_true rfl)) dX15_check_160 ⟨by show _ + 0 ≤ 0; omega, by show _ + 0 ≤ 0; omega⟩) hS (fun q _ h => hFc q h) hFc (fun r_74 u t H1 locs ht hvm hw hB hz1 hk1 hS => ?_)
        obtain ⟨F_75, hB1⟩ := hB
        obtain rfl : F_63 = F_75 := (funext (fun a => hB1.2.2.2 a List.not_mem_nil)).symm
        obtain ⟨hP, hD, hO, hR⟩ := QTm.back hB1 ht hFc hR (fun q h => absurd h List.not_mem_nil)
        generalize H1 = H at hP hS ⊢
        have hw : (∃ k : Nat, 6 ≤ k ∧ k ≤ max 6 z_51 ∧ r_74 = nI k ∧ (k < z_51 → gA (F_63 r_44) k ≠ 32)) := hw
        have hw_76 := hw
        obtain ⟨k_77, hk_77a, hk_77b, ek_77, hk_77c⟩ := hw_76
        subst ek_77
        rw [gA_fun hF_71] at hk_77c
        refine lv_istore (lv' := [(7, .int (nI k_77)), (6, .int w6), (5, .int w5), (4, .ref b_43), (3, .int (nI jr)), (0, .ref h0), (1, .ref dd), (2, .int (nI lv))]) hx hb dX15_check_163 hl (by decide) rfl (fun ls hl => ?_)
        refine W.widen (k := 0) (n := 0) (by omega) (by omega) ?_
        have hF_79 : F va = .inl (cs 23, 40, .inr (.inr (.inr (.inr f_40)))) := (hR va (by rw [ht_39]; simp)).symm.trans hF_69
        have hF_80 : F b_43 = .inr (14, [.ref r_44, .int (nI z_51)]) := (hR b_43 (by rw [ht_47]; simp only [List.mem_cons, List.not_mem_nil, or_false]; omega)).symm.trans hF_70
        have hF_81 : F r_44 = .inl (cs 17, 700, .inl f_56) := (hR r_44 (by rw [ht_49]; simp only [List.mem_cons, List.not_mem_nil, or_false]; omega)).symm.trans hF_71
        refine pl_loopm (σ := Nat × Nat × Int32 × Int32 × Int32 × Int32 × Int32 × Int32 × Int32) A (dC, dI) cs ty gm L [ρ, ρ + 6, ρ + 7] F 165 10 (fun (i, cc, q15, q17, q18, q19, q20, q21, q22) => [(7, .int (nI i)), (6, .int w6), (5, .int w5), (4, .ref b_43), (3, .int (nI jr)), (0, .ref h0), (1, .ref dd), (2, .int (nI lv))]) (fun (i, cc, q15, q17, q18, q19, q20, q21, q22) => []) (fun (i, cc, q15, q17, q18, q19, q20, q21, q22) FF => i ≤ 700 ∧ (i < z_51 → f_56 i ≠ 32) ∧ cn ≤ cc ∧ cc ≤ 10 ∧ FF h0 = .inr (15, (.ref ta) :: (.int (nI zt)) :: (.int (nI zo)) :: (.int (nI ze)) :: (.ref ou) :: (.ref so) :: (.ref ad) :: (.ref na) :: (.ref va) :: (.ref lc) :: (.ref dm) :: (.int v11) :: (.int v12) :: (.ref tg) :: (.int (nI cc)) :: (.int q15) :: (.ref pe) :: (.int q17) :: (.int q18) :: (.int q19) :: (.int q20) :: (.int q21) :: (.int q22) :: (.ref ml) :: (.ref bg) :: (.ref co) :: (.ref sp) :: (.ref nb0) :: (.ref nb1) :: (.ref nb2) :: (.int (nI nf)) :: (.int (nI bd)) :: (.int (nI mm)) :: (.int v33) :: (.ref pl) :: (.ref se) :: (.ref ke) :: (.ref wi) :: (.ref hs) :: (.ref mo) :: (.ref po) :: (.ref nu) :: (.ref pr) :: (.ref sq) :: (.ref xa) :: (.ref sa) :: (.ref n64) :: (.ref m64) :: (.ref ex) :: (.ref wh) :: (.ref sd) :: (.ref tk) :: (.int v52) :: (.int v53) :: (.int v54) :: (.ref hd) :: (.ref ak) :: (.ref ho) :: (.ref ot) :: [])) (fun (i, cc, q15, q17, q18, q19, q20, q21, q22) => 701 - i) ?_ (k_77, cn, v15, q17, q18, q19, q20, q21, q22) F_63 (⟨by omega, hk_77c, by omega, by omega, hv4⟩) hO hR _ _ hP hD hS ls (lv_sub hl [0, 1, 2, 3, 4, 5, 6, 7] rfl)
        rintro ⟨i, cc, q15, q17, q18, q19, q20, q21, q22⟩ F_78 hv_82 hO hR ih_83 H locs hP hD hS ls hl
        have hl : lv_has ls 10 [(7, .int (nI i)), (6, .int w6), (5, .int w5), (4, .ref b_43), (3, .int (nI jr)), (0, .ref h0), (1, .ref dd), (2, .int (nI lv))] := hl
        have hv_82 : i ≤ 700 ∧ (i < z_51 → f_56 i ≠ 32) ∧ cn ≤ cc ∧ cc ≤ 10 ∧ F_78 h0 = .inr (15, (.ref ta) :: (.int (nI zt)) :: (.int (nI zo)) :: (.int (nI ze)) :: (.ref ou) :: (.ref so) :: (.ref ad) :: (.ref na) :: (.ref va) :: (.ref lc) :: (.ref dm) :: (.int v11) :: (.int v12) :: (.ref tg) :: (.int (nI cc)) :: (.int q15) :: (.ref pe) :: (.int q17) :: (.int q18) :: (.int q19) :: (.int q20) :: (.int q21) :: (.int q22) :: (.ref ml) :: (.ref bg) :: (.ref co) :: (.ref sp) :: (.ref nb0) :: (.ref nb1) :: (.ref nb2) :: (.int (nI nf)) :: (.int (nI bd)) :: (.int (nI mm)) :: (.int v33) :: (.ref pl) :: (.ref se) :: (.ref ke) :: (.ref wi) :: (.ref hs) :: (.ref mo) :: (.ref po) :: (.ref nu) :: (.ref pr) :: (.ref sq) :: (.ref xa) :: (.ref sa) :: (.ref n64) :: (.ref m64) :: (.ref ex) :: (.ref wh) :: (.ref sd) :: (.ref tk) :: (.int v52) :: (.int v53) :: (.int v54) :: (.ref hd) :: (.ref ak) :: (.ref ho) :: (.ref ot) :: []) := hv_82
        refine W.eq (g2 := F0 m 165 ls []) rfl ?_
        have hF_84 : F_78 va = .inl (cs 23, 40, .inr (.inr (.inr (.inr f_40)))) := (hR va (by rw [ht_39]; simp)).trans hF_79
        have hF_85 : F_78 b_43 = .inr (14, [.ref r_44, .int (nI z_51)]) := (hR b_43 (by rw [ht_47]; simp only [List.mem_cons, List.not_mem_nil, or_false]; omega)).trans hF_80
        have hF_86 : F_78 r_44 = .inl (cs 17, 700, .inl f_56) := (hR r_44 (by rw [ht_49]; simp only [List.mem_cons, List.not_mem_nil, or_false]; omega)).trans hF_81
        obtain ⟨hu1, hu2, hu3, hu4, hu5⟩ := hv_82
        refine lv_iload hx hb dX15_check_165 (lv_at hl 0 rfl) ?_
        refine lv_aload hx hb dX15_check_167 (lv_at hl 3 rfl) ?_
        refine pg_get (ci := 14) (v := .int (nI z_51)) (C := RX14) (T := TX14) (N := 2) hx hb hts it_14 hown hK hP hi_46 hF_85 rfl 1 (by decide) (hts _ kt_699) (fun _ h9 => h9) rfl dX15_check_169 ?_
        refine lv_icmp_ge (tgt := 288) hx hb dX15_check_172 (by decide) (fun c_87 => ?_) (fun c_87 => ?_)
        ·
          have hi_88 : z_51 ≤ i := leN (N := z_51) c_87
          refine lv_iload hx hb dX15_check_288 (lv_at hl 1 rfl) ?_
          refine lv_if_lt (tgt := 298) hx hb dX15_check_290 (by decide) (fun c_89 => ?_) (fun c_89 => ?_)
          ·
            refine lv_iconst (v := 1) hx hb dX15_check_298 (by decide) ?_
            refine W.widen (k := 0) (n := 0) (by omega) (by omega) ?_
            exact W.iret (v := 1) hx hb hr (fun t ht hWm => ⟨⟨1, cc, rfl, (fun h => by omega), ⟨F_78, q15, q17, q18, q19, q20, q21, q22, QTm.mk ht hP hD hO hR, hu5, by omega, by omega⟩⟩, hS.F ht⟩) hS.2.2 dX15_check_299
          ·
            obtain ⟨tu, te, ew, ht1, ht2, ht3, ht4, ht5⟩ := hv3.resolve_left (fun h => absurd (h ▸ c_89) (by decide))
            subst ew
            refine lv_iload hx hb dX15_check_293 (lv_at hl 2 rfl) ?_
            refine lv_if_eq (tgt := 300) hx hb dX15_check_295 (by decide) (fun c_90 => ?_) (fun c_90 => ?_)
            ·
              refine lv_aload_n hx hb dX15_check_300 rfl (lv_at hl 5 rfl) ?_
              refine lv_aload hx hb dX15_check_301 (lv_at hl 3 rfl) ?_
              refine pg_get (ci := 14) (v := .ref r_44) (C := RX14) (T := TX14) (N := 2) hx hb hts it_14 hown hK hP hi_46 hF_85 rfl 0 (by decide) (hts _ kt_700) (fun _ h9 => h9) rfl dX15_check_303 ?_
              refine lv_iload hx hb dX15_check_306 (lv_at hl 1 rfl) ?_
              refine lv_aload hx hb dX15_check_308 (lv_at hl 3 rfl) ?_
              refine lv_iload hx hb dX15_check_310 (lv_at hl 1 rfl) ?_
              have hFc := pg_free hD hS hA
              refine va_calli (va_runS (As := [.ref b_43, .int (nI tu)]) (rest := [.int (nI tu), .ref r_44, .ref h0]) ⟨hx, hb, hml, hown, hts⟩ (s_X15_wordEnd l dC dI cs ty gm L H.size F_78 b_43 (ρ + 50 + jr + 100) r_44 700 z_51 tu hW hi_46 ht_47 hF_85 (by first | omega | assumption) (by first | omega | assumption)) ⟨callB_of 2 hts (gi kt_970) rfl rfl rfl (hts _ kt_659) (hts _ kt_971) (by decide +kernel) ⟨by show 0 + 1 ≤ fr + 7; omega, by show 8 + (3 + 11) + 0 ≤ lo + 158; omega⟩, (hts _ kt_972)⟩ ⟨fun a U g mk q => ⟨q.1, PTm.calling q.2⟩, fun U hU hWm => ⟨rfl, PTm.mk hU hWm hP hK hD hE hO⟩⟩ rfl rfl hl.1 rfl (lv_room (Nat.le_of_ble_eq_true rfl)) dX15_check_312 ⟨by show _ + 0 ≤ 0; omega, by show _ + 0 ≤ 0; omega⟩) hS (fun q _ h => hFc q h) hFc (fun r_91 u t H1 locs ht hvm hw hB hz1 hk1 hS => ?_)
              obtain ⟨F_92, hB1⟩ := hB
              obtain rfl : F_78 = F_92 := (funext (fun a => hB1.2.2.2 a List.not_mem_nil)).symm
              obtain ⟨hP, hD, hO, hR⟩ := QTm.back hB1 ht hFc hR (fun q h => absurd h List.not_mem_nil)
              generalize H1 = H at hP hS ⊢
              have hw : (∃ k : Nat, tu ≤ k ∧ k ≤ max tu z_51 ∧ r_91 = nI k ∧ WE (gA (F_78 r_44)) z_51 tu k) := hw
              have hw_93 := hw
              obtain ⟨k_94, hk_94a, hk_94b, ek_94, hk_94c⟩ := hw_93
              subst ek_94
              rw [gA_fun hF_86] at hk_94c
              obtain rfl : k_94 = te := WE.uniq hk_94c ht4 (by omega) ht2 (by omega) (by omega)
              have hFc := pg_free hD hS hA
              refine va_callv (va_runV (As := [.ref r_44, .int (nI tu), .int (nI k_94)]) (rest := []) ⟨hx, hb, hml, hown, hts⟩ (s_X15_readTerm l dC dI cs ty gm L H.size F_78 h0 ρ ta ou so ad na va lc dm tg pe ml bg co sp nb0 nb1 nb2 pl se ke wi hs mo po nu pr sq xa sa n64 m64 ex wh sd tk hd ak ho ot sx s0 s1 s2 nf bd mm zo ze zt v11 v12 (nI cc) q15 q17 q18 q19 q20 q21 q22 v33 v52 v53 v54 r_44 (ρ + 50 + jr + 100) f_56 tu k_94 hW hL_h0 hT_h0 hi_48 ht_49 hu5 (by first | omega | assumption) (by first | omega | assumption) (by first | omega | assumption) (by first | omega | assumption) hF_86 (by first | omega | assumption) (by first | omega | assumption) (by have h9 := ht5.1.1; omega)) ⟨callB_of 3 hts (gi kt_973) rfl rfl rfl (hts _ kt_659) (hts _ kt_974) (by decide +kernel) ⟨by show 6 + 1 ≤ fr + 7; omega, by show 8 + (7 + 11) + 132 ≤ lo + 158; omega⟩, (hts _ kt_975), (hts _ kt_976)⟩ ⟨fun a U g mk q => ⟨q.1, PTEm.calling q.2⟩, pg_recv hK hP hL_h0 hu5 (q := (RX15, TX15, 59)) rfl, fun U hU hWm => ⟨rfl, PTEm.mk hU hWm hP hK hD hE hO hG (fun x hx => absurd hx List.not_mem_nil) hS hFc⟩⟩ rfl rfl hl.1 rfl (lv_room (Nat.le_of_ble_eq_true rfl)) dX15_check_315 ⟨by show _ + 0 ≤ 0; omega, by show _ + 0 ≤ 0; omega⟩) hS (fun q _ h => hFc q h) hFc (fun u t H1 locs ht hvm hw hB hz1 hk1 hS => ?_)
              obtain ⟨F_96, u17_97, u18_98, u19_99, u20_100, u21_101, u22_102, hB1, hq_103, hq_104⟩ := hB
              obtain ⟨hP, hD, hO, hR⟩ := QTm.back hB1 ht hFc hR (fun q h => by simp only [List.mem_cons, List.not_mem_nil, or_false] at h ⊢; omega)
              have hF_105 : F_96 va = .inl (cs 23, 40, .inr (.inr (.inr (.inr f_40)))) := (hB1.2.2.2 va (by rw [ht_39]; simp)).trans hF_84
              have hF_106 : F_96 b_43 = .inr (14, [.ref r_44, .int (nI z_51)]) := (hB1.2.2.2 b_43 (by rw [ht_47]; simp only [List.mem_cons, List.not_mem_nil, or_false]; omega)).trans hF_85
              have hF_107 : F_96 r_44 = .inl (cs 17, 700, .inl f_56) := (hB1.2.2.2 r_44 (by rw [ht_49]; simp only [List.mem_cons, List.not_mem_nil, or_false]; omega)).trans hF_86
              generalize H1 = H at hP hS ⊢
              obtain ⟨e19, e20⟩ := (hq_104).2.2 ht5
              refine lv_aload_n hx hb dX15_check_318 rfl (lv_at hl 5 rfl) ?_
              refine lv_dup hx hb dX15_check_319 rfl ?_
              refine pg_get (ci := 15) (v := .int (nI cc)) (C := RX15) (T := TX15) (N := 59) hx hb hts it_15 hown hK hP hL_h0 hq_103 rfl 14 (by decide) (hts _ kt_721) (fun _ h9 => h9) rfl dX15_check_320 ?_
              refine lv_iconst (v := 1) hx hb dX15_check_323 (by decide) ?_
              refine lv_iadd hx hb dX15_check_324 ?_
              refine lv_topi (fun x_108 ex_108 => ?_)
              obtain rfl : x_108 = (nI (cc + 1)) := ex_108.trans (nI_1 cc)
              refine pg_put (ci := 15) (v := .int (nI (cc + 1))) (ty := .int) (C := RX15) (T := TX15) (N := 59) hx hb hts it_15 tyX15 tyX15_ok nmX15 hown hK hP hD hS hL_h0 hq_103 rfl 14 (by decide) (hts _ kt_721) (fun _ h9 => h9) rfl (by decide +kernel) (rfl) (rfl) (Nat.le_of_ble_eq_true rfl) dX15_check_325 (fun H locs hP hD hS => ?_)
              obtain ⟨F_109, he_110, hP, hD, hO, hR⟩ : ∃ G, G = va_up F_96 h0 (.inr (15, (.ref ta) :: (.int (nI zt)) :: (.int (nI zo)) :: (.int (nI ze)) :: (.ref ou) :: (.ref so) :: (.ref ad) :: (.ref na) :: (.ref va) :: (.ref lc) :: (.ref dm) :: (.int v11) :: (.int v12) :: (.ref tg) :: (.int (nI (cc + 1))) :: (.int q15) :: (.ref pe) :: (.int u17_97) :: (.int u18_98) :: (.int u19_99) :: (.int u20_100) :: (.int u21_101) :: (.int u22_102) :: (.ref ml) :: (.ref bg) :: (.ref co) :: (.ref sp) :: (.ref nb0) :: (.ref nb1) :: (.ref nb2) :: (.int (nI nf)) :: (.int (nI bd)) :: (.int (nI mm)) :: (.int v33) :: (.ref pl) :: (.ref se) :: (.ref ke) :: (.ref wi) :: (.ref hs) :: (.ref mo) :: (.ref po) :: (.ref nu) :: (.ref pr) :: (.ref sq) :: (.ref xa) :: (.ref sa) :: (.ref n64) :: (.ref m64) :: (.ref ex) :: (.ref wh) :: (.ref sd) :: (.ref tk) :: (.int v52) :: (.int v53) :: (.int v54) :: (.ref hd) :: (.ref ak) :: (.ref ho) :: (.ref ot) :: [])) ∧ va_P (dC, dI) vwCl (va_pl L G) H ∧ va_D A (va_pl L G) ∧ OKm cs ty gm L G ∧ FR ty [ρ, ρ + 6, ρ + 7] F G := ⟨_, rfl, hP, hD, hO.up (shm.mod hT_h0 ⟨v11, v12, (nI (cc + 1)), q15, u17_97, u18_98, u19_99, u20_100, u21_101, u22_102, v33, v52, v53, v54, rfl, (by first | omega | assumption | exact Or.inl rfl | exact Or.inr rfl), (by first | omega | assumption | exact Or.inl rfl | exact Or.inr rfl), (by first | omega | assumption | exact Or.inl rfl | exact Or.inr rfl), (by first | omega | assumption | exact Or.inl rfl | exact Or.inr rfl)⟩), hR.up hT_h0 (by simp)⟩
              have hF_111 : F_109 h0 = .inr (15, (.ref ta) :: (.int (nI zt)) :: (.int (nI zo)) :: (.int (nI ze)) :: (.ref ou) :: (.ref so) :: (.ref ad) :: (.ref na) :: (.ref va) :: (.ref lc) :: (.ref dm) :: (.int v11) :: (.int v12) :: (.ref tg) :: (.int (nI (cc + 1))) :: (.int q15) :: (.ref pe) :: (.int u17_97) :: (.int u18_98) :: (.int u19_99) :: (.int u20_100) :: (.int u21_101) :: (.int u22_102) :: (.ref ml) :: (.ref bg) :: (.ref co) :: (.ref sp) :: (.ref nb0) :: (.ref nb1) :: (.ref nb2) :: (.int (nI nf)) :: (.int (nI bd)) :: (.int (nI mm)) :: (.int v33) :: (.ref pl) :: (.ref se) :: (.ref ke) :: (.ref wi) :: (.ref hs) :: (.ref mo) :: (.ref po) :: (.ref nu) :: (.ref pr) :: (.ref sq) :: (.ref xa) :: (.ref sa) :: (.ref n64) :: (.ref m64) :: (.ref ex) :: (.ref wh) :: (.ref sd) :: (.ref tk) :: (.int v52) :: (.int v53) :: (.int v54) :: (.ref hd) :: (.ref ak) :: (.ref ho) :: (.ref ot) :: []) := by rw [he_110]; exact up_self
              have hF_112 : F_109 va = .inl (cs 23, 40, .inr (.inr (.inr (.inr f_40)))) := by rw [he_110, up_ne (ne_ty ht_39 hT_h0 (by simp))]; exact hF_105
              have hF_113 : F_109 b_43 = .inr (14, [.ref r_44, .int (nI z_51)]) := by rw [he_110, up_ne (ne_ty ht_47 hT_h0 (by simp))]; exact hF_106
              have hF_114 : F_109 r_44 = .inl (cs 17, 700, .inl f_56) := by rw [he_110, up_ne (ne_ty ht_49 hT_h0 (by simp))]; exact hF_107
              refine lv_aload_n hx hb dX15_check_328 rfl (lv_at hl 5 rfl) ?_
              refine pg_get (ci := 15) (v := .int (nI (cc + 1))) (C := RX15) (T := TX15) (N := 59) hx hb hts it_15 hown hK hP hL_h0 hF_111 rfl 14 (by decide) (hts _ kt_721) (fun _ h9 => h9) rfl dX15_check_329 ?_
              refine lv_bipush (v := 10) hx hb dX15_check_332 (by decide) ?_
              refine lv_icmp_le (tgt := 340) hx hb dX15_check_334 (by decide) (fun c_115 => ?_) (fun c_115 => ?_)
              ·
                have hi_116 : (cc + 1) ≤ 10 := (nI_leI (a := (cc + 1)) (b := 10) (by omega) (by omega)).mp c_115
                refine lv_aload_n hx hb dX15_check_340 rfl (lv_at hl 5 rfl) ?_
                refine lv_aload hx hb dX15_check_341 (lv_at hl 3 rfl) ?_
                refine pg_get (ci := 14) (v := .ref r_44) (C := RX14) (T := TX14) (N := 2) hx hb hts it_14 hown hK hP hi_46 hF_113 rfl 0 (by decide) (hts _ kt_700) (fun _ h9 => h9) rfl dX15_check_343 ?_
                refine lv_aload_n hx hb dX15_check_346 rfl (lv_at hl 5 rfl) ?_
                refine pg_get (ci := 15) (v := .int u19_99) (C := RX15) (T := TX15) (N := 59) hx hb hts it_15 hown hK hP hL_h0 hF_111 rfl 19 (by decide) (hts _ kt_741) (fun _ h9 => h9) rfl dX15_check_347 ?_
                refine lv_topi (fun x9 ex9 => ?_)
                obtain rfl : x9 = nI (tu + 9) := ex9.trans e19
                refine lv_aload_n hx hb dX15_check_350 rfl (lv_at hl 5 rfl) ?_
                refine pg_get (ci := 15) (v := .int u20_100) (C := RX15) (T := TX15) (N := 59) hx hb hts it_15 hown hK hP hL_h0 hF_111 rfl 20 (by decide) (hts _ kt_742) (fun _ h9 => h9) rfl dX15_check_351 ?_
                refine lv_topi (fun x9 ex9 => ?_)
                obtain rfl : x9 = nI k_94 := ex9.trans e20
                refine lv_aload_n hx hb dX15_check_354 rfl (lv_at hl 6 rfl) ?_
                refine lv_aload_n hx hb dX15_check_355 rfl (lv_at hl 5 rfl) ?_
                refine pg_get (ci := 15) (v := .ref tg) (C := RX15) (T := TX15) (N := 59) hx hb hts it_15 hown hK hP hL_h0 hF_111 rfl 13 (by decide) (hts _ kt_946) (fun _ h9 => h9) rfl dX15_check_356 ?_
                refine lv_iload_n hx hb dX15_check_359 rfl (lv_at hl 7 rfl) ?_
                obtain ⟨hi_117, ht_118⟩ := hW.f_tg hL_h0 hT_h0
                obtain ⟨f_119, hF_120, hq_121⟩ := hO.rtxt hi_117 ht_118
                obtain ⟨b_122, r_123, hbf_124, hi_125, ht_126⟩ := hq_121 lv (by omega)
                refine pg_aald (r := b_122) hx hb hK hP hi_117 7 hF_120 rfl (vp_in_nI (by omega) (by omega)) (show f_119 ((nI lv) : Int32).toNatClampNeg = _ from by rw [show ((nI lv) : Int32) = nI lv from rfl, nI_clamp (by omega)]; exact hbf_124) dX15_check_360 ?_
                obtain ⟨hi_127, ht_128, hq_129⟩ := hW.txt hL_pe hT_pe
                obtain ⟨hi_130, ht_131, hq_132⟩ := hW.txt hi_125 ht_126
                have hFc := pg_free hD hS hA
                refine va_callv (va_runV (As := [.ref r_44, .int (nI (tu + 9)), .int (nI k_94), .ref dd, .ref b_122]) (rest := []) ⟨hx, hb, hml, hown, hts⟩ (s_X15_expand l dC dI cs ty gm L H.size F_109 h0 ρ ta ou so ad na va lc dm tg pe ml bg co sp nb0 nb1 nb2 pl se ke wi hs mo po nu pr sq xa sa n64 m64 ex wh sd tk hd ak ho ot sx s0 s1 s2 nf bd mm zo ze zt rp b_122 r_123 r_44 (ρ + 50 + jr + 100) f_56 dd τ rd nd (tu + 9) k_94 hW hL_h0 hT_h0 hL_pe hT_pe hi_125 ht_126 hi_48 ht_49 hL_dd hT_dd hF_114 (by first | omega | assumption) (by have h9 := ht5.1.1; omega) (by omega) (by first | omega | assumption) (ht5.2)) ⟨callB_of 5 hts (gi kt_955) rfl rfl rfl (hts _ kt_659) (hts _ kt_956) (by decide +kernel) ⟨by show 4 + 1 ≤ fr + 7; omega, by show 8 + (8 + 11) + 102 ≤ lo + 158; omega⟩, (hts _ kt_957), (hts _ kt_958)⟩ ⟨fun a U g mk q => ⟨q.1, PTm.calling q.2⟩, pg_recv hK hP hL_h0 hF_111 (q := (RX15, TX15, 59)) rfl, fun U hU hWm => ⟨rfl, PTm.mk hU hWm hP hK hD hE hO⟩⟩ rfl rfl hl.1 rfl (lv_room (Nat.le_of_ble_eq_true rfl)) dX15_check_361 ⟨by show _ + 0 ≤ 0; omega, by show _ + 0 ≤ 0; omega⟩) hS (fun q _ h => hFc q h) hFc (fun u t H1 locs ht hvm hw hB hz1 hk1 hS => ?_)
                obtain ⟨F_134, hB1⟩ := hB
                obtain ⟨hP, hD, hO, hR⟩ := QTm.back hB1 ht hFc hR (fun q h => by simp only [List.mem_cons, List.not_mem_nil, or_false] at h ⊢; omega)
                have hF_135 : F_134 h0 = .inr (15, (.ref ta) :: (.int (nI zt)) :: (.int (nI zo)) :: (.int (nI ze)) :: (.ref ou) :: (.ref so) :: (.ref ad) :: (.ref na) :: (.ref va) :: (.ref lc) :: (.ref dm) :: (.int v11) :: (.int v12) :: (.ref tg) :: (.int (nI (cc + 1))) :: (.int q15) :: (.ref pe) :: (.int u17_97) :: (.int u18_98) :: (.int u19_99) :: (.int u20_100) :: (.int u21_101) :: (.int u22_102) :: (.ref ml) :: (.ref bg) :: (.ref co) :: (.ref sp) :: (.ref nb0) :: (.ref nb1) :: (.ref nb2) :: (.int (nI nf)) :: (.int (nI bd)) :: (.int (nI mm)) :: (.int v33) :: (.ref pl) :: (.ref se) :: (.ref ke) :: (.ref wi) :: (.ref hs) :: (.ref mo) :: (.ref po) :: (.ref nu) :: (.ref pr) :: (.ref sq) :: (.ref xa) :: (.ref sa) :: (.ref n64) :: (.ref m64) :: (.ref ex) :: (.ref wh) :: (.ref sd) :: (.ref tk) :: (.int v52) :: (.int v53) :: (.int v54) :: (.ref hd) :: (.ref ak) :: (.ref ho) :: (.ref ot) :: []) := (hB1.2.2.2 h0 (by rw [hT_h0]; simp)).trans hF_111
                have hF_136 : F_134 va = .inl (cs 23, 40, .inr (.inr (.inr (.inr f_40)))) := (hB1.2.2.2 va (by rw [ht_39]; simp)).trans hF_112
                have hF_137 : F_134 b_43 = .inr (14, [.ref r_44, .int (nI z_51)]) := (hB1.2.2.2 b_43 (by rw [ht_47]; simp only [List.mem_cons, List.not_mem_nil, or_false]; omega)).trans hF_113
                have hF_138 : F_134 r_44 = .inl (cs 17, 700, .inl f_56) := (hB1.2.2.2 r_44 (by rw [ht_49]; simp only [List.mem_cons, List.not_mem_nil, or_false]; omega)).trans hF_114
                generalize H1 = H at hP hS ⊢
                refine lv_aload_n hx hb dX15_check_364 rfl (lv_at hl 5 rfl) ?_
                refine lv_aload_n hx hb dX15_check_365 rfl (lv_at hl 5 rfl) ?_
                refine pg_get (ci := 15) (v := .ref tg) (C := RX15) (T := TX15) (N := 59) hx hb hts it_15 hown hK hP hL_h0 hF_135 rfl 13 (by decide) (hts _ kt_946) (fun _ h9 => h9) rfl dX15_check_366 ?_
                refine lv_iload_n hx hb dX15_check_369 rfl (lv_at hl 7 rfl) ?_
                obtain ⟨f_139, hF_140, hq_141⟩ := hO.rtxt hi_117 ht_118
                obtain ⟨b_142, r_143, hbf_144, hi_145, ht_146⟩ := hq_141 lv (by omega)
                refine pg_aald (r := b_142) hx hb hK hP hi_117 7 hF_140 rfl (vp_in_nI (by omega) (by omega)) (show f_139 ((nI lv) : Int32).toNatClampNeg = _ from by rw [show ((nI lv) : Int32) = nI lv from rfl, nI_clamp (by omega)]; exact hbf_144) dX15_check_370 ?_
                refine lv_iload_n hx hb dX15_check_371 rfl (lv_at hl 7 rfl) ?_
                refine lv_iconst (v := 1) hx hb dX15_check_372 (by decide) ?_
                refine lv_iadd hx hb dX15_check_373 ?_
                refine lv_topi (fun x_147 ex_147 => ?_)
                obtain rfl : x_147 = (nI (lv + 1)) := ex_147.trans (nI_1 lv)
                obtain ⟨hi_148, ht_149, hq_150⟩ := hW.txt hi_145 ht_146
                have hFc := pg_free hD hS hA
                refine va_calli (va_runV (As := [.ref b_142, .int (nI (lv + 1))]) (rest := []) ⟨hx, hb, hml, hown, hts⟩ (hC (cc + 1) (by omega) H.size F_134 v11 v12 q15 u17_97 u18_98 u19_99 u20_100 u21_101 u22_102 v33 v52 v53 v54 b_142 (ρ + 6) r_143 61 (lv + 1) hi_145 ht_146 hF_135 (by omega) (by omega) (by assumption) (by assumption) (by omega) (by omega) (by omega)) ⟨callB_of 2 hts (gi kt_951) rfl rfl rfl (hts _ kt_659) (hts _ kt_952) (by decide +kernel) ⟨by show fr + 0 + 1 ≤ fr + 7; omega, by show 8 + (10 + 11) + (lo + 0) ≤ lo + 158; omega⟩, (hts _ kt_953), (hts _ kt_954)⟩ ⟨fun a U g mk q => ⟨q.1, PTEm.calling q.2⟩, pg_recv hK hP hL_h0 hF_135 (q := (RX15, TX15, 59)) rfl, fun U hU hWm => ⟨rfl, PTEm.mk hU hWm hP hK hD hE hO hG (fun x hx => absurd hx List.not_mem_nil) hS hFc⟩⟩ rfl rfl hl.1 rfl (lv_room (Nat.le_of_ble_eq_true rfl)) dX15_check_374 ⟨by show _ + 0 ≤ 0; omega, by show _ + 0 ≤ 0; omega⟩) hS (fun q _ h => hFc q h) hFc (fun r_152 cu_151 t H1 locs ht hvm hw hB hz1 hk1 hS => ?_)
                obtain ⟨F_153, u15_154, u17_155, u18_156, u19_157, u20_158, u21_159, u22_160, hB1, hq_161, hq_162, hq_163⟩ := hB
                obtain ⟨hP, hD, hO, hR⟩ := QTm.back hB1 ht hFc hR (fun q h => by simp only [List.mem_cons, List.not_mem_nil, or_false] at h ⊢; omega)
                have hF_164 : F_153 va = .inl (cs 23, 40, .inr (.inr (.inr (.inr f_40)))) := (hB1.2.2.2 va (by rw [ht_39]; simp)).trans hF_136
                have hF_165 : F_153 b_43 = .inr (14, [.ref r_44, .int (nI z_51)]) := (hB1.2.2.2 b_43 (by rw [ht_47]; simp only [List.mem_cons, List.not_mem_nil, or_false]; omega)).trans hF_137
                have hF_166 : F_153 r_44 = .inl (cs 17, 700, .inl f_56) := (hB1.2.2.2 r_44 (by rw [ht_49]; simp only [List.mem_cons, List.not_mem_nil, or_false]; omega)).trans hF_138
                generalize H1 = H at hP hS ⊢
                have hw : (cu_151 = 11 → r_152 = 6) := hw
                have hw_167 := hw
                refine lv_istore (lv' := [(7, .int r_152), (6, .int (nI tu)), (5, .int w5), (4, .ref b_43), (3, .int (nI jr)), (0, .ref h0), (1, .ref dd), (2, .int (nI lv))]) hx hb dX15_check_377 hl (by decide) rfl (fun ls hl => ?_)
                refine lv_iload hx hb dX15_check_379 (lv_at hl 0 rfl) ?_
                refine lv_if_ne (tgt := 389) hx hb dX15_check_381 (by decide) (fun c_168 => ?_) (fun c_168 => ?_)
                ·
                  refine lv_iload hx hb dX15_check_389 (lv_at hl 0 rfl) ?_
                  refine W.widen (k := 0) (n := 0) (by omega) (by omega) ?_
                  exact W.iret (v := r_152) hx hb hr (fun t ht hWm => ⟨⟨r_152, cu_151, rfl, hw_167, ⟨F_153, u15_154, u17_155, u18_156, u19_157, u20_158, u21_159, u22_160, QTm.mk ht hP hD hO hR, hq_161, by omega, by omega⟩⟩, hS.F ht⟩) hS.2.2 dX15_check_391
                ·
                  refine lv_bipush (v := 6) hx hb dX15_check_384 (by decide) ?_
                  refine lv_goto (tgt := 391) hx hb dX15_check_386 (by decide) ?_
                  refine W.widen (k := 0) (n := 0) (by omega) (by omega) ?_
                  exact W.iret (v := 6) hx hb hr (fun t ht hWm => ⟨⟨6, cu_151, rfl, (fun _ => rfl), ⟨F_153, u15_154, u17_155, u18_156, u19_157, u20_158, u21_159, u22_160, QTm.mk ht hP hD hO hR, hq_161, by omega, by omega⟩⟩, hS.F ht⟩) hS.2.2 dX15_check_391
              ·
                have hi_169 : 10 < (cc + 1) := Nat.not_le.mp (fun q => c_115 ((nI_leI (a := (cc + 1)) (b := 10) (by omega) (by omega)).mpr q))
                refine lv_bipush (v := 6) hx hb dX15_check_337 (by decide) ?_
                refine W.widen (k := 0) (n := 0) (by omega) (by omega) ?_
                exact W.iret (v := 6) hx hb hr (fun t ht hWm => ⟨⟨6, (cc + 1), rfl, (fun _ => rfl), ⟨F_109, q15, u17_97, u18_98, u19_99, u20_100, u21_101, u22_102, QTm.mk ht hP hD hO hR, hF_111, by omega, by omega⟩⟩, hS.F ht⟩) hS.2.2 dX15_check_339
            ·
              refine lv_iconst (v := 1) hx hb dX15_check_298 (by decide) ?_
              refine W.widen (k := 0) (n := 0) (by omega) (by omega) ?_
              exact W.iret (v := 1) hx hb hr (fun t ht hWm => ⟨⟨1, cc, rfl, (fun h => by omega), ⟨F_78, q15, q17, q18, q19, q20, q21, q22, QTm.mk ht hP hD hO hR, hu5, by omega, by omega⟩⟩, hS.F ht⟩) hS.2.2 dX15_check_299
        ·
          have hi_170 : i < z_51 := ltN (N := z_51) c_87
          refine lv_aload_n hx hb dX15_check_175 rfl (lv_at hl 5 rfl) ?_
          refine lv_aload hx hb dX15_check_176 (lv_at hl 3 rfl) ?_
          refine pg_get (ci := 14) (v := .ref r_44) (C := RX14) (T := TX14) (N := 2) hx hb hts it_14 hown hK hP hi_46 hF_85 rfl 0 (by decide) (hts _ kt_700) (fun _ h9 => h9) rfl dX15_check_178 ?_
          refine lv_iload hx hb dX15_check_181 (lv_at hl 0 rfl) ?_
          refine lv_aload hx hb dX15_check_183 (lv_at hl 3 rfl) ?_
          refine lv_iload hx hb dX15_check_185 (lv_at hl 0 rfl) ?_
          have hFc := pg_free hD hS hA
          refine va_calli (va_runS (As := [.ref b_43, .int (nI i)]) (rest := [.int (nI i), .ref r_44, .ref h0]) ⟨hx, hb, hml, hown, hts⟩ (s_X15_wordEnd l dC dI cs ty gm L H.size F_78 b_43 (ρ + 50 + jr + 100) r_44 700 z_51 i hW hi_46 ht_47 hF_85 (by first | omega | assumption) (by first | omega | assumption)) ⟨callB_of 2 hts (gi kt_970) rfl rfl rfl (hts _ kt_659) (hts _ kt_971) (by decide +kernel) ⟨by show 0 + 1 ≤ fr + 7; omega, by show 8 + (3 + 11) + 0 ≤ lo + 158; omega⟩, (hts _ kt_972)⟩ ⟨fun a U g mk q => ⟨q.1, PTm.calling q.2⟩, fun U hU hWm => ⟨rfl, PTm.mk hU hWm hP hK hD hE hO⟩⟩ rfl rfl hl.1 rfl (lv_room (Nat.le_of_ble_eq_true rfl)) dX15_check_187 ⟨by show _ + 0 ≤ 0; omega, by show _ + 0 ≤ 0; omega⟩) hS (fun q _ h => hFc q h) hFc (fun r_171 u t H1 locs ht hvm hw hB hz1 hk1 hS => ?_)
          obtain ⟨F_172, hB1⟩ := hB
          obtain rfl : F_78 = F_172 := (funext (fun a => hB1.2.2.2 a List.not_mem_nil)).symm
          obtain ⟨hP, hD, hO, hR⟩ := QTm.back hB1 ht hFc hR (fun q h => absurd h List.not_mem_nil)
          generalize H1 = H at hP hS ⊢
          have hw : (∃ k : Nat, i ≤ k ∧ k ≤ max i z_51 ∧ r_171 = nI k ∧ WE (gA (F_78 r_44)) z_51 i k) := hw
          have hw_173 := hw
          obtain ⟨k_174, hk_174a, hk_174b, ek_174, hk_174c⟩ := hw_173
          subst ek_174
          rw [gA_fun hF_86] at hk_174c
          have hlt := WE.lt hk_174c (by omega) (by omega) (hu2 (by omega))
          have hFc := pg_free hD hS hA
          refine va_callv (va_runV (As := [.ref r_44, .int (nI i), .int (nI k_174)]) (rest := []) ⟨hx, hb, hml, hown, hts⟩ (s_X15_readTerm l dC dI cs ty gm L H.size F_78 h0 ρ ta ou so ad na va lc dm tg pe ml bg co sp nb0 nb1 nb2 pl se ke wi hs mo po nu pr sq xa sa n64 m64 ex wh sd tk hd ak ho ot sx s0 s1 s2 nf bd mm zo ze zt v11 v12 (nI cc) q15 q17 q18 q19 q20 q21 q22 v33 v52 v53 v54 r_44 (ρ + 50 + jr + 100) f_56 i k_174 hW hL_h0 hT_h0 hi_48 ht_49 hu5 (by first | omega | assumption) (by first | omega | assumption) (by first | omega | assumption) (by first | omega | assumption) hF_86 (by first | omega | assumption) (by first | omega | assumption) (hlt)) ⟨callB_of 3 hts (gi kt_973) rfl rfl rfl (hts _ kt_659) (hts _ kt_974) (by decide +kernel) ⟨by show 6 + 1 ≤ fr + 7; omega, by show 8 + (7 + 11) + 132 ≤ lo + 158; omega⟩, (hts _ kt_975), (hts _ kt_976)⟩ ⟨fun a U g mk q => ⟨q.1, PTEm.calling q.2⟩, pg_recv hK hP hL_h0 hu5 (q := (RX15, TX15, 59)) rfl, fun U hU hWm => ⟨rfl, PTEm.mk hU hWm hP hK hD hE hO hG (fun x hx => absurd hx List.not_mem_nil) hS hFc⟩⟩ rfl rfl hl.1 rfl (lv_room (Nat.le_of_ble_eq_true rfl)) dX15_check_190 ⟨by show _ + 0 ≤ 0; omega, by show _ + 0 ≤ 0; omega⟩) hS (fun q _ h => hFc q h) hFc (fun u t H1 locs ht hvm hw hB hz1 hk1 hS => ?_)
          obtain ⟨F_176, u17_177, u18_178, u19_179, u20_180, u21_181, u22_182, hB1, hq_183, hq_184⟩ := hB
          obtain ⟨hP, hD, hO, hR⟩ := QTm.back hB1 ht hFc hR (fun q h => by simp only [List.mem_cons, List.not_mem_nil, or_false] at h ⊢; omega)
          have hF_185 : F_176 va = .inl (cs 23, 40, .inr (.inr (.inr (.inr f_40)))) := (hB1.2.2.2 va (by rw [ht_39]; simp)).trans hF_84
          have hF_186 : F_176 b_43 = .inr (14, [.ref r_44, .int (nI z_51)]) := (hB1.2.2.2 b_43 (by rw [ht_47]; simp only [List.mem_cons, List.not_mem_nil, or_false]; omega)).trans hF_85
          have hF_187 : F_176 r_44 = .inl (cs 17, 700, .inl f_56) := (hB1.2.2.2 r_44 (by rw [ht_49]; simp only [List.mem_cons, List.not_mem_nil, or_false]; omega)).trans hF_86
          generalize H1 = H at hP hS ⊢
          refine lv_aload_n hx hb dX15_check_193 rfl (lv_at hl 5 rfl) ?_
          refine pg_get (ci := 15) (v := .int u17_177) (C := RX15) (T := TX15) (N := 59) hx hb hts it_15 hown hK hP hL_h0 hq_183 rfl 17 (by decide) (hts _ kt_740) (fun _ h9 => h9) rfl dX15_check_194 ?_
          refine lv_bipush (v := 6) hx hb dX15_check_197 (by decide) ?_
          refine lv_icmp_lt (tgt := 205) hx hb dX15_check_199 (by decide) (fun c_188 => ?_) (fun c_188 => ?_)
          ·
            refine lv_aload_n hx hb dX15_check_205 rfl (lv_at hl 5 rfl) ?_
            refine pg_get (ci := 15) (v := .int u18_178) (C := RX15) (T := TX15) (N := 59) hx hb hts it_15 hown hK hP hL_h0 hq_183 rfl 18 (by decide) (hts _ kt_749) (fun _ h9 => h9) rfl dX15_check_206 ?_
            refine lv_istore (lv' := [(8, .int u18_178), (7, .int (nI i)), (6, .int w6), (5, .int w5), (4, .ref b_43), (3, .int (nI jr)), (0, .ref h0), (1, .ref dd), (2, .int (nI lv))]) hx hb dX15_check_209 hl (by decide) rfl (fun ls hl => ?_)
            refine lv_aload_n hx hb dX15_check_211 rfl (lv_at hl 6 rfl) ?_
            refine lv_aload hx hb dX15_check_212 (lv_at hl 4 rfl) ?_
            refine lv_aload_n hx hb dX15_check_214 rfl (lv_at hl 7 rfl) ?_
            refine lv_iload_n hx hb dX15_check_215 rfl (lv_at hl 8 rfl) ?_
            obtain ⟨hi_189, ht_190, hq_191⟩ := hW.txt hL_pe hT_pe
            have hFc := pg_free hD hS hA
            refine va_calli (va_runV (As := [.ref b_43, .ref dd, .int (nI lv)]) (rest := []) ⟨hx, hb, hml, hown, hts⟩ (s_X15_matches l dC dI cs ty gm L H.size F_176 h0 ρ ta ou so ad na va lc dm tg pe ml bg co sp nb0 nb1 nb2 pl se ke wi hs mo po nu pr sq xa sa n64 m64 ex wh sd tk hd ak ho ot sx s0 s1 s2 nf bd mm zo ze zt rp v11 v12 q15 u17_177 u18_178 u19_179 u20_180 u21_181 u22_182 v33 v52 v53 v54 dd τ rd nd b_43 r_44 (ρ + 50 + jr + 100) f_56 lv cc cn fr lo hW hL_h0 hT_h0 hL_pe hT_pe hL_dd hT_dd hi_46 ht_47 hq_183 (by first | omega | assumption) (by first | omega | assumption) (by first | omega | assumption) (by first | omega | assumption) hF_187 (by first | omega | assumption) (by first | omega | assumption) (by first | omega | assumption) (by omega) (by first | omega | assumption) (rtp_dok hq_184 c_188 (by omega)) (hC)) ⟨callB_of 3 hts (gi kt_977) rfl rfl rfl (hts _ kt_659) (hts _ kt_978) (by decide +kernel) ⟨by show fr + 5 + 1 ≤ fr + 7; omega, by show 8 + (10 + 11) + (lo + 129) ≤ lo + 158; omega⟩, (hts _ kt_979), (hts _ kt_980)⟩ ⟨fun a U g mk q => ⟨q.1, PTEm.calling q.2⟩, pg_recv hK hP hL_h0 hq_183 (q := (RX15, TX15, 59)) rfl, fun U hU hWm => ⟨rfl, PTEm.mk hU hWm hP hK hD hE hO hG (fun x hx => absurd hx List.not_mem_nil) hS hFc⟩⟩ rfl rfl hl.1 rfl (lv_room (Nat.le_of_ble_eq_true rfl)) dX15_check_216 ⟨by show _ + 0 ≤ 0; omega, by show _ + 0 ≤ 0; omega⟩) hS (fun q _ h => hFc q h) hFc (fun r_193 cu_192 t H1 locs ht hvm hw hB hz1 hk1 hS => ?_)
            obtain ⟨F_194, u15_195, u17_196, u18_197, u19_198, u20_199, u21_200, u22_201, hB1, hq_202, hq_203, hq_204⟩ := hB
            obtain ⟨hP, hD, hO, hR⟩ := QTm.back hB1 ht hFc hR (fun q h => by simp only [List.mem_cons, List.not_mem_nil, or_false] at h ⊢; omega)
            have hF_205 : F_194 va = .inl (cs 23, 40, .inr (.inr (.inr (.inr f_40)))) := (hB1.2.2.2 va (by rw [ht_39]; simp)).trans hF_185
            have hF_206 : F_194 b_43 = .inr (14, [.ref r_44, .int (nI z_51)]) := (hB1.2.2.2 b_43 (by rw [ht_47]; simp only [List.mem_cons, List.not_mem_nil, or_false]; omega)).trans hF_186
            have hF_207 : F_194 r_44 = .inl (cs 17, 700, .inl f_56) := (hB1.2.2.2 r_44 (by rw [ht_49]; simp only [List.mem_cons, List.not_mem_nil, or_false]; omega)).trans hF_187
            generalize H1 = H at hP hS ⊢
            have hw : (cu_192 = 11 → r_193 = 6) := hw
            have hw_208 := hw
            refine lv_istore (lv' := [(9, .int r_193), (8, .int u18_178), (7, .int (nI i)), (6, .int w6), (5, .int w5), (4, .ref b_43), (3, .int (nI jr)), (0, .ref h0), (1, .ref dd), (2, .int (nI lv))]) hx hb dX15_check_219 hl (by decide) rfl (fun ls hl => ?_)
            refine lv_iload hx hb dX15_check_221 (lv_at hl 0 rfl) ?_
            refine lv_iconst (v := 1) hx hb dX15_check_223 (by decide) ?_
            refine lv_icmp_le (tgt := 230) hx hb dX15_check_224 (by decide) (fun c_209 => ?_) (fun c_209 => ?_)
            ·
              have hle := le1_6 hw_208 c_209 (by omega)
              refine lv_iload hx hb dX15_check_230 (lv_at hl 0 rfl) ?_
              refine lv_iconst (v := 1) hx hb dX15_check_232 (by decide) ?_
              refine lv_icmp_ne (tgt := 271) hx hb dX15_check_233 (by decide) (fun c_210 => ?_) (fun c_210 => ?_)
              ·
                refine lv_aload hx hb dX15_check_271 (lv_at hl 5 rfl) ?_
                refine lv_aload hx hb dX15_check_273 (lv_at hl 5 rfl) ?_
                refine lv_iload hx hb dX15_check_275 (lv_at hl 2 rfl) ?_
                have hFc := pg_free hD hS hA
                refine va_calli (va_runS (As := [.ref b_43, .int (nI i)]) (rest := [.ref b_43]) ⟨hx, hb, hml, hown, hts⟩ (s_X15_wordEnd l dC dI cs ty gm L H.size F_194 b_43 (ρ + 50 + jr + 100) r_44 700 z_51 i hW hi_46 ht_47 hF_206 (by first | omega | assumption) (by first | omega | assumption)) ⟨callB_of 2 hts (gi kt_970) rfl rfl rfl (hts _ kt_659) (hts _ kt_971) (by decide +kernel) ⟨by show 0 + 1 ≤ fr + 7; omega, by show 8 + (3 + 11) + 0 ≤ lo + 158; omega⟩, (hts _ kt_972)⟩ ⟨fun a U g mk q => ⟨q.1, PTm.calling q.2⟩, fun U hU hWm => ⟨rfl, PTm.mk hU hWm hP hK hD hE hO⟩⟩ rfl rfl hl.1 rfl (lv_room (Nat.le_of_ble_eq_true rfl)) dX15_check_277 ⟨by show _ + 0 ≤ 0; omega, by show _ + 0 ≤ 0; omega⟩) hS (fun q _ h => hFc q h) hFc (fun r_211 u t H1 locs ht hvm hw hB hz1 hk1 hS => ?_)
                obtain ⟨F_212, hB1⟩ := hB
                obtain rfl : F_194 = F_212 := (funext (fun a => hB1.2.2.2 a List.not_mem_nil)).symm
                obtain ⟨hP, hD, hO, hR⟩ := QTm.back hB1 ht hFc hR (fun q h => absurd h List.not_mem_nil)
                generalize H1 = H at hP hS ⊢
                have hw : (∃ k : Nat, i ≤ k ∧ k ≤ max i z_51 ∧ r_211 = nI k ∧ WE (gA (F_194 r_44)) z_51 i k) := hw
                have hw_213 := hw
                obtain ⟨k_214, hk_214a, hk_214b, ek_214, hk_214c⟩ := hw_213
                subst ek_214
                rw [gA_fun hF_207] at hk_214c
                have hlt2 := WE.lt hk_214c (by omega) (by omega) (hu2 (by omega))
                have hFc := pg_free hD hS hA
                refine va_calli (va_runS (As := [.ref b_43, .int (nI k_214)]) (rest := []) ⟨hx, hb, hml, hown, hts⟩ (s_X15_blankFrom l dC dI cs ty gm L H.size F_194 b_43 (ρ + 50 + jr + 100) r_44 700 z_51 k_214 hW hi_46 ht_47 hF_206 (by first | omega | assumption) (by first | omega | assumption)) ⟨callB_of 2 hts (gi kt_967) rfl rfl rfl (hts _ kt_659) (hts _ kt_968) (by decide +kernel) ⟨by show 0 + 1 ≤ fr + 7; omega, by show 8 + (3 + 11) + 0 ≤ lo + 158; omega⟩, (hts _ kt_969)⟩ ⟨fun a U g mk q => ⟨q.1, PTm.calling q.2⟩, fun U hU hWm => ⟨rfl, PTm.mk hU hWm hP hK hD hE hO⟩⟩ rfl rfl hl.1 rfl (lv_room (Nat.le_of_ble_eq_true rfl)) dX15_check_280 ⟨by show _ + 0 ≤ 0; omega, by show _ + 0 ≤ 0; omega⟩) hS (fun q _ h => hFc q h) hFc (fun r_215 u t H1 locs ht hvm hw hB hz1 hk1 hS => ?_)
                obtain ⟨F_216, hB1⟩ := hB
                obtain rfl : F_194 = F_216 := (funext (fun a => hB1.2.2.2 a List.not_mem_nil)).symm
                obtain ⟨hP, hD, hO, hR⟩ := QTm.back hB1 ht hFc hR (fun q h => absurd h List.not_mem_nil)
                generalize H1 = H at hP hS ⊢
                have hw : (∃ k : Nat, k_214 ≤ k ∧ k ≤ max k_214 z_51 ∧ r_215 = nI k ∧ (k < z_51 → gA (F_194 r_44) k ≠ 32)) := hw
                have hw_217 := hw
                obtain ⟨k_218, hk_218a, hk_218b, ek_218, hk_218c⟩ := hw_217
                subst ek_218
                rw [gA_fun hF_207] at hk_218c
                refine lv_istore (lv' := [(7, .int (nI k_218)), (9, .int r_193), (8, .int u18_178), (6, .int w6), (5, .int w5), (4, .ref b_43), (3, .int (nI jr)), (0, .ref h0), (1, .ref dd), (2, .int (nI lv))]) hx hb dX15_check_283 hl (by decide) rfl (fun ls hl => ?_)
                refine lv_goto (tgt := 165) hx hb dX15_check_285 (by decide) ?_
                refine W.widen (k := 0) (n := 0) (by omega) (by omega) ?_
                exact ih_83 (k_218, cu_192, u15_195, u17_196, u18_197, u19_198, u20_199, u21_200, u22_201) F_194 (⟨by omega, hk_218c, by omega, by omega, hq_202⟩) (by show 701 - k_218 < 701 - i; omega) hO hR _ _ hP hD hS ls (lv_sub hl [0, 3, 4, 5, 6, 7, 8, 9] rfl)
              ·
                refine lv_iload hx hb dX15_check_236 (lv_at hl 1 rfl) ?_
                refine lv_bipush (v := 43) hx hb dX15_check_238 (by decide) ?_
                refine lv_icmp_ne (tgt := 247) hx hb dX15_check_240 (by decide) (fun c_219 => ?_) (fun c_219 => ?_)
                ·
                  refine lv_iload hx hb dX15_check_247 (lv_at hl 1 rfl) ?_
                  refine lv_bipush (v := 63) hx hb dX15_check_249 (by decide) ?_
                  refine lv_icmp_ne (tgt := 258) hx hb dX15_check_251 (by decide) (fun c_220 => ?_) (fun c_220 => ?_)
                  ·
                    refine lv_iload hx hb dX15_check_258 (lv_at hl 1 rfl) ?_
                    refine lv_bipush (v := 126) hx hb dX15_check_260 (by decide) ?_
                    refine lv_icmp_ne (tgt := 269) hx hb dX15_check_262 (by decide) (fun c_221 => ?_) (fun c_221 => ?_)
                    ·
                      refine lv_iconst (v := 3) hx hb dX15_check_269 (by decide) ?_
                      refine W.widen (k := 0) (n := 0) (by omega) (by omega) ?_
                      exact W.iret (v := 3) hx hb hr (fun t ht hWm => ⟨⟨3, cu_192, rfl, (fun h => by omega), ⟨F_194, u15_195, u17_196, u18_197, u19_198, u20_199, u21_200, u22_201, QTm.mk ht hP hD hO hR, hq_202, by omega, by omega⟩⟩, hS.F ht⟩) hS.2.2 dX15_check_270
                    ·
                      refine lv_iconst (v := 4) hx hb dX15_check_265 (by decide) ?_
                      refine lv_goto (tgt := 270) hx hb dX15_check_266 (by decide) ?_
                      refine W.widen (k := 0) (n := 0) (by omega) (by omega) ?_
                      exact W.iret (v := 4) hx hb hr (fun t ht hWm => ⟨⟨4, cu_192, rfl, (fun h => by omega), ⟨F_194, u15_195, u17_196, u18_197, u19_198, u20_199, u21_200, u22_201, QTm.mk ht hP hD hO hR, hq_202, by omega, by omega⟩⟩, hS.F ht⟩) hS.2.2 dX15_check_270
                  ·
                    refine lv_iconst (v := 1) hx hb dX15_check_254 (by decide) ?_
                    refine lv_goto (tgt := 270) hx hb dX15_check_255 (by decide) ?_
                    refine W.widen (k := 0) (n := 0) (by omega) (by omega) ?_
                    exact W.iret (v := 1) hx hb hr (fun t ht hWm => ⟨⟨1, cu_192, rfl, (fun h => by omega), ⟨F_194, u15_195, u17_196, u18_197, u19_198, u20_199, u21_200, u22_201, QTm.mk ht hP hD hO hR, hq_202, by omega, by omega⟩⟩, hS.F ht⟩) hS.2.2 dX15_check_270
                ·
                  refine lv_iconst (v := 2) hx hb dX15_check_243 (by decide) ?_
                  refine lv_goto (tgt := 270) hx hb dX15_check_244 (by decide) ?_
                  refine W.widen (k := 0) (n := 0) (by omega) (by omega) ?_
                  exact W.iret (v := 2) hx hb hr (fun t ht hWm => ⟨⟨2, cu_192, rfl, (fun h => by omega), ⟨F_194, u15_195, u17_196, u18_197, u19_198, u20_199, u21_200, u22_201, QTm.mk ht hP hD hO hR, hq_202, by omega, by omega⟩⟩, hS.F ht⟩) hS.2.2 dX15_check_270
            ·
              refine lv_iload hx hb dX15_check_227 (lv_at hl 0 rfl) ?_
              refine W.widen (k := 0) (n := 0) (by omega) (by omega) ?_
              exact W.iret (v := r_193) hx hb hr (fun t ht hWm => ⟨⟨r_193, cu_192, rfl, hw_208, ⟨F_194, u15_195, u17_196, u18_197, u19_198, u20_199, u21_200, u22_201, QTm.mk ht hP hD hO hR, hq_202, by omega, by omega⟩⟩, hS.F ht⟩) hS.2.2 dX15_check_229
          ·
            refine lv_goto (tgt := 271) hx hb dX15_check_202 (by decide) ?_
            refine lv_aload hx hb dX15_check_271 (lv_at hl 3 rfl) ?_
            refine lv_aload hx hb dX15_check_273 (lv_at hl 3 rfl) ?_
            refine lv_iload hx hb dX15_check_275 (lv_at hl 0 rfl) ?_
            have hFc := pg_free hD hS hA
            refine va_calli (va_runS (As := [.ref b_43, .int (nI i)]) (rest := [.ref b_43]) ⟨hx, hb, hml, hown, hts⟩ (s_X15_wordEnd l dC dI cs ty gm L H.size F_176 b_43 (ρ + 50 + jr + 100) r_44 700 z_51 i hW hi_46 ht_47 hF_186 (by first | omega | assumption) (by first | omega | assumption)) ⟨callB_of 2 hts (gi kt_970) rfl rfl rfl (hts _ kt_659) (hts _ kt_971) (by decide +kernel) ⟨by show 0 + 1 ≤ fr + 7; omega, by show 8 + (3 + 11) + 0 ≤ lo + 158; omega⟩, (hts _ kt_972)⟩ ⟨fun a U g mk q => ⟨q.1, PTm.calling q.2⟩, fun U hU hWm => ⟨rfl, PTm.mk hU hWm hP hK hD hE hO⟩⟩ rfl rfl hl.1 rfl (lv_room (Nat.le_of_ble_eq_true rfl)) dX15_check_277 ⟨by show _ + 0 ≤ 0; omega, by show _ + 0 ≤ 0; omega⟩) hS (fun q _ h => hFc q h) hFc (fun r_222 u t H1 locs ht hvm hw hB hz1 hk1 hS => ?_)
            obtain ⟨F_223, hB1⟩ := hB
            obtain rfl : F_176 = F_223 := (funext (fun a => hB1.2.2.2 a List.not_mem_nil)).symm
            obtain ⟨hP, hD, hO, hR⟩ := QTm.back hB1 ht hFc hR (fun q h => absurd h List.not_mem_nil)
            generalize H1 = H at hP hS ⊢
            have hw : (∃ k : Nat, i ≤ k ∧ k ≤ max i z_51 ∧ r_222 = nI k ∧ WE (gA (F_176 r_44)) z_51 i k) := hw
            have hw_224 := hw
            obtain ⟨k_225, hk_225a, hk_225b, ek_225, hk_225c⟩ := hw_224
            subst ek_225
            rw [gA_fun hF_187] at hk_225c
            have hlt2 := WE.lt hk_225c (by omega) (by omega) (hu2 (by omega))
            have hFc := pg_free hD hS hA
            refine va_calli (va_runS (As := [.ref b_43, .int (nI k_225)]) (rest := []) ⟨hx, hb, hml, hown, hts⟩ (s_X15_blankFrom l dC dI cs ty gm L H.size F_176 b_43 (ρ + 50 + jr + 100) r_44 700 z_51 k_225 hW hi_46 ht_47 hF_186 (by first | omega | assumption) (by first | omega | assumption)) ⟨callB_of 2 hts (gi kt_967) rfl rfl rfl (hts _ kt_659) (hts _ kt_968) (by decide +kernel) ⟨by show 0 + 1 ≤ fr + 7; omega, by show 8 + (3 + 11) + 0 ≤ lo + 158; omega⟩, (hts _ kt_969)⟩ ⟨fun a U g mk q => ⟨q.1, PTm.calling q.2⟩, fun U hU hWm => ⟨rfl, PTm.mk hU hWm hP hK hD hE hO⟩⟩ rfl rfl hl.1 rfl (lv_room (Nat.le_of_ble_eq_true rfl)) dX15_check_280 ⟨by show _ + 0 ≤ 0; omega, by show _ + 0 ≤ 0; omega⟩) hS (fun q _ h => hFc q h) hFc (fun r_226 u t H1 locs ht hvm hw hB hz1 hk1 hS => ?_)
            obtain ⟨F_227, hB1⟩ := hB
            obtain rfl : F_176 = F_227 := (funext (fun a => hB1.2.2.2 a List.not_mem_nil)).symm
            obtain ⟨hP, hD, hO, hR⟩ := QTm.back hB1 ht hFc hR (fun q h => absurd h List.not_mem_nil)
            generalize H1 = H at hP hS ⊢
            have hw : (∃ k : Nat, k_225 ≤ k ∧ k ≤ max k_225 z_51 ∧ r_226 = nI k ∧ (k < z_51 → gA (F_176 r_44) k ≠ 32)) := hw
            have hw_228 := hw
            obtain ⟨k_229, hk_229a, hk_229b, ek_229, hk_229c⟩ := hw_228
            subst ek_229
            rw [gA_fun hF_187] at hk_229c
            refine lv_istore (lv' := [(7, .int (nI k_229)), (6, .int w6), (5, .int w5), (4, .ref b_43), (3, .int (nI jr)), (0, .ref h0), (1, .ref dd), (2, .int (nI lv))]) hx hb dX15_check_283 hl (by decide) rfl (fun ls hl => ?_)
            refine lv_goto (tgt := 165) hx hb dX15_check_285 (by decide) ?_
            refine W.widen (k := 0) (n := 0) (by omega) (by omega) ?_
            exact ih_83 (k_229, cc, q15, u17_177, u18_178, u19_179, u20_180, u21_181, u22_182) F_176 (⟨by omega, hk_229c, by omega, by omega, hq_183⟩) (by show 701 - k_229 < 701 - i; omega) hO hR _ _ hP hD hS ls (lv_sub hl [0, 1, 2, 3, 4, 5, 6, 7] rfl)
      ·
        have hi_230 : j < z_51 := ltN (N := z_51) c_72
        refine lv_aload_n hx hb dX15_check_65 rfl (lv_at hl 5 rfl) ?_
        refine lv_aload hx hb dX15_check_66 (lv_at hl 3 rfl) ?_
        refine pg_get (ci := 14) (v := .ref r_44) (C := RX14) (T := TX14) (N := 2) hx hb hts it_14 hown hK hP hi_46 hF_70 rfl 0 (by decide) (hts _ kt_700) (fun _ h9 => h9) rfl dX15_check_68 ?_
        refine lv_iload hx hb dX15_check_71 (lv_at hl 0 rfl) ?_
        refine lv_aload hx hb dX15_check_73 (lv_at hl 3 rfl) ?_
        refine lv_iload hx hb dX15_check_75 (lv_at hl 0 rfl) ?_
        have hFc := pg_free hD hS hA
        refine va_calli (va_runS (As := [.ref b_43, .int (nI j)]) (rest := [.int (nI j), .ref r_44, .ref h0]) ⟨hx, hb, hml, hown, hts⟩ (s_X15_wordEnd l dC dI cs ty gm L H.size F_63 b_43 (ρ + 50 + jr + 100) r_44 700 z_51 j hW hi_46 ht_47 hF_70 (by first | omega | assumption) (by first | omega | assumption)) ⟨callB_of 2 hts (gi kt_970) rfl rfl rfl (hts _ kt_659) (hts _ kt_971) (by decide +kernel) ⟨by show 0 + 1 ≤ fr + 7; omega, by show 8 + (3 + 11) + 0 ≤ lo + 158; omega⟩, (hts _ kt_972)⟩ ⟨fun a U g mk q => ⟨q.1, PTm.calling q.2⟩, fun U hU hWm => ⟨rfl, PTm.mk hU hWm hP hK hD hE hO⟩⟩ rfl rfl hl.1 rfl (lv_room (Nat.le_of_ble_eq_true rfl)) dX15_check_77 ⟨by show _ + 0 ≤ 0; omega, by show _ + 0 ≤ 0; omega⟩) hS (fun q _ h => hFc q h) hFc (fun r_231 u t H1 locs ht hvm hw hB hz1 hk1 hS => ?_)
        obtain ⟨F_232, hB1⟩ := hB
        obtain rfl : F_63 = F_232 := (funext (fun a => hB1.2.2.2 a List.not_mem_nil)).symm
        obtain ⟨hP, hD, hO, hR⟩ := QTm.back hB1 ht hFc hR (fun q h => absurd h List.not_mem_nil)
        generalize H1 = H at hP hS ⊢
        have hw : (∃ k : Nat, j ≤ k ∧ k ≤ max j z_51 ∧ r_231 = nI k ∧ WE (gA (F_63 r_44)) z_51 j k) := hw
        have hw_233 := hw
        obtain ⟨k_234, hk_234a, hk_234b, ek_234, hk_234c⟩ := hw_233
        subst ek_234
        rw [gA_fun hF_71] at hk_234c
        have hlt := WE.lt hk_234c (by omega) (by omega) (hv2 (by omega))
        have hFc := pg_free hD hS hA
        refine va_callv (va_runV (As := [.ref r_44, .int (nI j), .int (nI k_234)]) (rest := []) ⟨hx, hb, hml, hown, hts⟩ (s_X15_readTerm l dC dI cs ty gm L H.size F_63 h0 ρ ta ou so ad na va lc dm tg pe ml bg co sp nb0 nb1 nb2 pl se ke wi hs mo po nu pr sq xa sa n64 m64 ex wh sd tk hd ak ho ot sx s0 s1 s2 nf bd mm zo ze zt v11 v12 (nI cn) v15 q17 q18 q19 q20 q21 q22 v33 v52 v53 v54 r_44 (ρ + 50 + jr + 100) f_56 j k_234 hW hL_h0 hT_h0 hi_48 ht_49 hv4 (by first | omega | assumption) (by first | omega | assumption) (by first | omega | assumption) (by first | omega | assumption) hF_71 (by first | omega | assumption) (by first | omega | assumption) (hlt)) ⟨callB_of 3 hts (gi kt_973) rfl rfl rfl (hts _ kt_659) (hts _ kt_974) (by decide +kernel) ⟨by show 6 + 1 ≤ fr + 7; omega, by show 8 + (7 + 11) + 132 ≤ lo + 158; omega⟩, (hts _ kt_975), (hts _ kt_976)⟩ ⟨fun a U g mk q => ⟨q.1, PTEm.calling q.2⟩, pg_recv hK hP hL_h0 hv4 (q := (RX15, TX15, 59)) rfl, fun U hU hWm => ⟨rfl, PTEm.mk hU hWm hP hK hD hE hO hG (fun x hx => absurd hx List.not_mem_nil) hS hFc⟩⟩ rfl rfl hl.1 rfl (lv_room (Nat.le_of_ble_eq_true rfl)) dX15_check_80 ⟨by show _ + 0 ≤ 0; omega, by show _ + 0 ≤ 0; omega⟩) hS (fun q _ h => hFc q h) hFc (fun u t H1 locs ht hvm hw hB hz1 hk1 hS => ?_)
        obtain ⟨F_236, u17_237, u18_238, u19_239, u20_240, u21_241, u22_242, hB1, hq_243, hq_244⟩ := hB
        obtain ⟨hP, hD, hO, hR⟩ := QTm.back hB1 ht hFc hR (fun q h => by simp only [List.mem_cons, List.not_mem_nil, or_false] at h ⊢; omega)
        have hF_245 : F_236 va = .inl (cs 23, 40, .inr (.inr (.inr (.inr f_40)))) := (hB1.2.2.2 va (by rw [ht_39]; simp)).trans hF_69
        have hF_246 : F_236 b_43 = .inr (14, [.ref r_44, .int (nI z_51)]) := (hB1.2.2.2 b_43 (by rw [ht_47]; simp only [List.mem_cons, List.not_mem_nil, or_false]; omega)).trans hF_70
        have hF_247 : F_236 r_44 = .inl (cs 17, 700, .inl f_56) := (hB1.2.2.2 r_44 (by rw [ht_49]; simp only [List.mem_cons, List.not_mem_nil, or_false]; omega)).trans hF_71
        generalize H1 = H at hP hS ⊢
        refine lv_aload_n hx hb dX15_check_83 rfl (lv_at hl 5 rfl) ?_
        refine pg_get (ci := 15) (v := .int u17_237) (C := RX15) (T := TX15) (N := 59) hx hb hts it_15 hown hK hP hL_h0 hq_243 rfl 17 (by decide) (hts _ kt_740) (fun _ h9 => h9) rfl dX15_check_84 ?_
        refine lv_bipush (v := 8) hx hb dX15_check_87 (by decide) ?_
        refine lv_icmp_eq (tgt := 106) hx hb dX15_check_89 (by decide) (fun c_248 => ?_) (fun c_248 => ?_)
        ·
          refine lv_bipush (v := 6) hx hb dX15_check_106 (by decide) ?_
          refine W.widen (k := 0) (n := 0) (by omega) (by omega) ?_
          exact W.iret (v := 6) hx hb hr (fun t ht hWm => ⟨⟨6, cn, rfl, (fun _ => rfl), ⟨F_236, v15, u17_237, u18_238, u19_239, u20_240, u21_241, u22_242, QTm.mk ht hP hD hO hR, hq_243, by omega, by omega⟩⟩, hS.F ht⟩) hS.2.2 dX15_check_108
        ·
          refine lv_aload_n hx hb dX15_check_92 rfl (lv_at hl 5 rfl) ?_
          refine pg_get (ci := 15) (v := .int u17_237) (C := RX15) (T := TX15) (N := 59) hx hb hts it_15 hown hK hP hL_h0 hq_243 rfl 17 (by decide) (hts _ kt_740) (fun _ h9 => h9) rfl dX15_check_93 ?_
          refine lv_bipush (v := 6) hx hb dX15_check_96 (by decide) ?_
          refine lv_icmp_ne (tgt := 109) hx hb dX15_check_98 (by decide) (fun c_249 => ?_) (fun c_249 => ?_)
          ·
            refine lv_aload_n hx hb dX15_check_109 rfl (lv_at hl 5 rfl) ?_
            refine pg_get (ci := 15) (v := .int u17_237) (C := RX15) (T := TX15) (N := 59) hx hb hts it_15 hown hK hP hL_h0 hq_243 rfl 17 (by decide) (hts _ kt_740) (fun _ h9 => h9) rfl dX15_check_110 ?_
            refine lv_bipush (v := 6) hx hb dX15_check_113 (by decide) ?_
            refine lv_icmp_ne (tgt := 122) hx hb dX15_check_115 (by decide) (fun c_250 => ?_) (fun c_250 => ?_)
            ·
              refine lv_iload hx hb dX15_check_122 (lv_at hl 2 rfl) ?_
              refine lv_aload_n hx hb dX15_check_124 rfl (lv_at hl 5 rfl) ?_
              refine pg_get (ci := 15) (v := .int u17_237) (C := RX15) (T := TX15) (N := 59) hx hb hts it_15 hown hK hP hL_h0 hq_243 rfl 17 (by decide) (hts _ kt_740) (fun _ h9 => h9) rfl dX15_check_125 ?_
              refine lv_if_ne (tgt := 135) hx hb dX15_check_128 (by decide) (fun c_251 => ?_) (fun c_251 => ?_)
              ·
                refine lv_iconst (v := 0) hx hb dX15_check_135 (by decide) ?_
                refine lv_ior hx hb dX15_check_136 ?_
                refine lv_topi (fun x_252 _ => ?_)
                refine lv_istore (lv' := [(5, .int x_252), (7, .int (nI j)), (6, .int w6), (4, .ref b_43), (3, .int (nI jr)), (0, .ref h0), (1, .ref dd), (2, .int (nI lv))]) hx hb dX15_check_137 hl (by decide) rfl (fun ls hl => ?_)
                refine lv_aload hx hb dX15_check_139 (lv_at hl 3 rfl) ?_
                refine lv_aload hx hb dX15_check_141 (lv_at hl 3 rfl) ?_
                refine lv_iload hx hb dX15_check_143 (lv_at hl 1 rfl) ?_
                have hFc := pg_free hD hS hA
                refine va_calli (va_runS (As := [.ref b_43, .int (nI j)]) (rest := [.ref b_43]) ⟨hx, hb, hml, hown, hts⟩ (s_X15_wordEnd l dC dI cs ty gm L H.size F_236 b_43 (ρ + 50 + jr + 100) r_44 700 z_51 j hW hi_46 ht_47 hF_246 (by first | omega | assumption) (by first | omega | assumption)) ⟨callB_of 2 hts (gi kt_970) rfl rfl rfl (hts _ kt_659) (hts _ kt_971) (by decide +kernel) ⟨by show 0 + 1 ≤ fr + 7; omega, by show 8 + (3 + 11) + 0 ≤ lo + 158; omega⟩, (hts _ kt_972)⟩ ⟨fun a U g mk q => ⟨q.1, PTm.calling q.2⟩, fun U hU hWm => ⟨rfl, PTm.mk hU hWm hP hK hD hE hO⟩⟩ rfl rfl hl.1 rfl (lv_room (Nat.le_of_ble_eq_true rfl)) dX15_check_145 ⟨by show _ + 0 ≤ 0; omega, by show _ + 0 ≤ 0; omega⟩) hS (fun q _ h => hFc q h) hFc (fun r_253 u t H1 locs ht hvm hw hB hz1 hk1 hS => ?_)
                obtain ⟨F_254, hB1⟩ := hB
                obtain rfl : F_236 = F_254 := (funext (fun a => hB1.2.2.2 a List.not_mem_nil)).symm
                obtain ⟨hP, hD, hO, hR⟩ := QTm.back hB1 ht hFc hR (fun q h => absurd h List.not_mem_nil)
                generalize H1 = H at hP hS ⊢
                have hw : (∃ k : Nat, j ≤ k ∧ k ≤ max j z_51 ∧ r_253 = nI k ∧ WE (gA (F_236 r_44)) z_51 j k) := hw
                have hw_255 := hw
                obtain ⟨k_256, hk_256a, hk_256b, ek_256, hk_256c⟩ := hw_255
                subst ek_256
                rw [gA_fun hF_247] at hk_256c
                have hlt2 := WE.lt hk_256c (by omega) (by omega) (hv2 (by omega))
                have hFc := pg_free hD hS hA
                refine va_calli (va_runS (As := [.ref b_43, .int (nI k_256)]) (rest := []) ⟨hx, hb, hml, hown, hts⟩ (s_X15_blankFrom l dC dI cs ty gm L H.size F_236 b_43 (ρ + 50 + jr + 100) r_44 700 z_51 k_256 hW hi_46 ht_47 hF_246 (by first | omega | assumption) (by first | omega | assumption)) ⟨callB_of 2 hts (gi kt_967) rfl rfl rfl (hts _ kt_659) (hts _ kt_968) (by decide +kernel) ⟨by show 0 + 1 ≤ fr + 7; omega, by show 8 + (3 + 11) + 0 ≤ lo + 158; omega⟩, (hts _ kt_969)⟩ ⟨fun a U g mk q => ⟨q.1, PTm.calling q.2⟩, fun U hU hWm => ⟨rfl, PTm.mk hU hWm hP hK hD hE hO⟩⟩ rfl rfl hl.1 rfl (lv_room (Nat.le_of_ble_eq_true rfl)) dX15_check_148 ⟨by show _ + 0 ≤ 0; omega, by show _ + 0 ≤ 0; omega⟩) hS (fun q _ h => hFc q h) hFc (fun r_257 u t H1 locs ht hvm hw hB hz1 hk1 hS => ?_)
                obtain ⟨F_258, hB1⟩ := hB
                obtain rfl : F_236 = F_258 := (funext (fun a => hB1.2.2.2 a List.not_mem_nil)).symm
                obtain ⟨hP, hD, hO, hR⟩ := QTm.back hB1 ht hFc hR (fun q h => absurd h List.not_mem_nil)
                generalize H1 = H at hP hS ⊢
                have hw : (∃ k : Nat, k_256 ≤ k ∧ k ≤ max k_256 z_51 ∧ r_257 = nI k ∧ (k < z_51 → gA (F_236 r_44) k ≠ 32)) := hw
                have hw_259 := hw
                obtain ⟨k_260, hk_260a, hk_260b, ek_260, hk_260c⟩ := hw_259
                subst ek_260
                rw [gA_fun hF_247] at hk_260c
                refine lv_istore (lv' := [(7, .int (nI k_260)), (5, .int x_252), (6, .int w6), (4, .ref b_43), (3, .int (nI jr)), (0, .ref h0), (1, .ref dd), (2, .int (nI lv))]) hx hb dX15_check_151 hl (by decide) rfl (fun ls hl => ?_)
                refine lv_goto (tgt := 55) hx hb dX15_check_153 (by decide) ?_
                refine W.widen (k := 0) (n := 0) (by omega) (by omega) ?_
                exact ih_68 (k_260, x_252, w6, u17_237, u18_238, u19_239, u20_240, u21_241, u22_242) F_236 (⟨by omega, hk_260c, hv3, hq_243⟩) (by show 701 - k_260 < 701 - j; omega) hO hR _ _ hP hD hS ls (lv_sub hl [0, 2, 1, 3, 4, 5, 6, 7] rfl)
              ·
                refine lv_iconst (v := 1) hx hb dX15_check_131 (by decide) ?_
                refine lv_goto (tgt := 136) hx hb dX15_check_132 (by decide) ?_
                refine lv_ior hx hb dX15_check_136 ?_
                refine lv_topi (fun x_261 _ => ?_)
                refine lv_istore (lv' := [(5, .int x_261), (7, .int (nI j)), (6, .int w6), (4, .ref b_43), (3, .int (nI jr)), (0, .ref h0), (1, .ref dd), (2, .int (nI lv))]) hx hb dX15_check_137 hl (by decide) rfl (fun ls hl => ?_)
                refine lv_aload hx hb dX15_check_139 (lv_at hl 3 rfl) ?_
                refine lv_aload hx hb dX15_check_141 (lv_at hl 3 rfl) ?_
                refine lv_iload hx hb dX15_check_143 (lv_at hl 1 rfl) ?_
                have hFc := pg_free hD hS hA
                refine va_calli (va_runS (As := [.ref b_43, .int (nI j)]) (rest := [.ref b_43]) ⟨hx, hb, hml, hown, hts⟩ (s_X15_wordEnd l dC dI cs ty gm L H.size F_236 b_43 (ρ + 50 + jr + 100) r_44 700 z_51 j hW hi_46 ht_47 hF_246 (by first | omega | assumption) (by first | omega | assumption)) ⟨callB_of 2 hts (gi kt_970) rfl rfl rfl (hts _ kt_659) (hts _ kt_971) (by decide +kernel) ⟨by show 0 + 1 ≤ fr + 7; omega, by show 8 + (3 + 11) + 0 ≤ lo + 158; omega⟩, (hts _ kt_972)⟩ ⟨fun a U g mk q => ⟨q.1, PTm.calling q.2⟩, fun U hU hWm => ⟨rfl, PTm.mk hU hWm hP hK hD hE hO⟩⟩ rfl rfl hl.1 rfl (lv_room (Nat.le_of_ble_eq_true rfl)) dX15_check_145 ⟨by show _ + 0 ≤ 0; omega, by show _ + 0 ≤ 0; omega⟩) hS (fun q _ h => hFc q h) hFc (fun r_262 u t H1 locs ht hvm hw hB hz1 hk1 hS => ?_)
                obtain ⟨F_263, hB1⟩ := hB
                obtain rfl : F_236 = F_263 := (funext (fun a => hB1.2.2.2 a List.not_mem_nil)).symm
                obtain ⟨hP, hD, hO, hR⟩ := QTm.back hB1 ht hFc hR (fun q h => absurd h List.not_mem_nil)
                generalize H1 = H at hP hS ⊢
                have hw : (∃ k : Nat, j ≤ k ∧ k ≤ max j z_51 ∧ r_262 = nI k ∧ WE (gA (F_236 r_44)) z_51 j k) := hw
                have hw_264 := hw
                obtain ⟨k_265, hk_265a, hk_265b, ek_265, hk_265c⟩ := hw_264
                subst ek_265
                rw [gA_fun hF_247] at hk_265c
                have hlt2 := WE.lt hk_265c (by omega) (by omega) (hv2 (by omega))
                have hFc := pg_free hD hS hA
                refine va_calli (va_runS (As := [.ref b_43, .int (nI k_265)]) (rest := []) ⟨hx, hb, hml, hown, hts⟩ (s_X15_blankFrom l dC dI cs ty gm L H.size F_236 b_43 (ρ + 50 + jr + 100) r_44 700 z_51 k_265 hW hi_46 ht_47 hF_246 (by first | omega | assumption) (by first | omega | assumption)) ⟨callB_of 2 hts (gi kt_967) rfl rfl rfl (hts _ kt_659) (hts _ kt_968) (by decide +kernel) ⟨by show 0 + 1 ≤ fr + 7; omega, by show 8 + (3 + 11) + 0 ≤ lo + 158; omega⟩, (hts _ kt_969)⟩ ⟨fun a U g mk q => ⟨q.1, PTm.calling q.2⟩, fun U hU hWm => ⟨rfl, PTm.mk hU hWm hP hK hD hE hO⟩⟩ rfl rfl hl.1 rfl (lv_room (Nat.le_of_ble_eq_true rfl)) dX15_check_148 ⟨by show _ + 0 ≤ 0; omega, by show _ + 0 ≤ 0; omega⟩) hS (fun q _ h => hFc q h) hFc (fun r_266 u t H1 locs ht hvm hw hB hz1 hk1 hS => ?_)
                obtain ⟨F_267, hB1⟩ := hB
                obtain rfl : F_236 = F_267 := (funext (fun a => hB1.2.2.2 a List.not_mem_nil)).symm
                obtain ⟨hP, hD, hO, hR⟩ := QTm.back hB1 ht hFc hR (fun q h => absurd h List.not_mem_nil)
                generalize H1 = H at hP hS ⊢
                have hw : (∃ k : Nat, k_265 ≤ k ∧ k ≤ max k_265 z_51 ∧ r_266 = nI k ∧ (k < z_51 → gA (F_236 r_44) k ≠ 32)) := hw
                have hw_268 := hw
                obtain ⟨k_269, hk_269a, hk_269b, ek_269, hk_269c⟩ := hw_268
                subst ek_269
                rw [gA_fun hF_247] at hk_269c
                refine lv_istore (lv' := [(7, .int (nI k_269)), (5, .int x_261), (6, .int w6), (4, .ref b_43), (3, .int (nI jr)), (0, .ref h0), (1, .ref dd), (2, .int (nI lv))]) hx hb dX15_check_151 hl (by decide) rfl (fun ls hl => ?_)
                refine lv_goto (tgt := 55) hx hb dX15_check_153 (by decide) ?_
                refine W.widen (k := 0) (n := 0) (by omega) (by omega) ?_
                exact ih_68 (k_269, x_261, w6, u17_237, u18_238, u19_239, u20_240, u21_241, u22_242) F_236 (⟨by omega, hk_269c, hv3, hq_243⟩) (by show 701 - k_269 < 701 - j; omega) hO hR _ _ hP hD hS ls (lv_sub hl [0, 2, 1, 3, 4, 5, 6, 7] rfl)
            ·
              refine lv_iload hx hb dX15_check_118 (lv_at hl 0 rfl) ?_
              refine lv_istore (lv' := [(6, .int (nI j)), (7, .int (nI j)), (5, .int w5), (4, .ref b_43), (3, .int (nI jr)), (0, .ref h0), (1, .ref dd), (2, .int (nI lv))]) hx hb dX15_check_120 hl (by decide) rfl (fun ls hl => ?_)
              refine lv_iload hx hb dX15_check_122 (lv_at hl 2 rfl) ?_
              refine lv_aload_n hx hb dX15_check_124 rfl (lv_at hl 5 rfl) ?_
              refine pg_get (ci := 15) (v := .int u17_237) (C := RX15) (T := TX15) (N := 59) hx hb hts it_15 hown hK hP hL_h0 hq_243 rfl 17 (by decide) (hts _ kt_740) (fun _ h9 => h9) rfl dX15_check_125 ?_
              refine lv_if_ne (tgt := 135) hx hb dX15_check_128 (by decide) (fun c_270 => ?_) (fun c_270 => ?_)
              ·
                refine lv_iconst (v := 0) hx hb dX15_check_135 (by decide) ?_
                refine lv_ior hx hb dX15_check_136 ?_
                refine lv_topi (fun x_271 _ => ?_)
                refine lv_istore (lv' := [(5, .int x_271), (6, .int (nI j)), (7, .int (nI j)), (4, .ref b_43), (3, .int (nI jr)), (0, .ref h0), (1, .ref dd), (2, .int (nI lv))]) hx hb dX15_check_137 hl (by decide) rfl (fun ls hl => ?_)
                refine lv_aload hx hb dX15_check_139 (lv_at hl 3 rfl) ?_
                refine lv_aload hx hb dX15_check_141 (lv_at hl 3 rfl) ?_
                refine lv_iload hx hb dX15_check_143 (lv_at hl 2 rfl) ?_
                have hFc := pg_free hD hS hA
                refine va_calli (va_runS (As := [.ref b_43, .int (nI j)]) (rest := [.ref b_43]) ⟨hx, hb, hml, hown, hts⟩ (s_X15_wordEnd l dC dI cs ty gm L H.size F_236 b_43 (ρ + 50 + jr + 100) r_44 700 z_51 j hW hi_46 ht_47 hF_246 (by first | omega | assumption) (by first | omega | assumption)) ⟨callB_of 2 hts (gi kt_970) rfl rfl rfl (hts _ kt_659) (hts _ kt_971) (by decide +kernel) ⟨by show 0 + 1 ≤ fr + 7; omega, by show 8 + (3 + 11) + 0 ≤ lo + 158; omega⟩, (hts _ kt_972)⟩ ⟨fun a U g mk q => ⟨q.1, PTm.calling q.2⟩, fun U hU hWm => ⟨rfl, PTm.mk hU hWm hP hK hD hE hO⟩⟩ rfl rfl hl.1 rfl (lv_room (Nat.le_of_ble_eq_true rfl)) dX15_check_145 ⟨by show _ + 0 ≤ 0; omega, by show _ + 0 ≤ 0; omega⟩) hS (fun q _ h => hFc q h) hFc (fun r_272 u t H1 locs ht hvm hw hB hz1 hk1 hS => ?_)
                obtain ⟨F_273, hB1⟩ := hB
                obtain rfl : F_236 = F_273 := (funext (fun a => hB1.2.2.2 a List.not_mem_nil)).symm
                obtain ⟨hP, hD, hO, hR⟩ := QTm.back hB1 ht hFc hR (fun q h => absurd h List.not_mem_nil)
                generalize H1 = H at hP hS ⊢
                have hw : (∃ k : Nat, j ≤ k ∧ k ≤ max j z_51 ∧ r_272 = nI k ∧ WE (gA (F_236 r_44)) z_51 j k) := hw
                have hw_274 := hw
                obtain ⟨k_275, hk_275a, hk_275b, ek_275, hk_275c⟩ := hw_274
                subst ek_275
                rw [gA_fun hF_247] at hk_275c
                have hlt2 := WE.lt hk_275c (by omega) (by omega) (hv2 (by omega))
                have hFc := pg_free hD hS hA
                refine va_calli (va_runS (As := [.ref b_43, .int (nI k_275)]) (rest := []) ⟨hx, hb, hml, hown, hts⟩ (s_X15_blankFrom l dC dI cs ty gm L H.size F_236 b_43 (ρ + 50 + jr + 100) r_44 700 z_51 k_275 hW hi_46 ht_47 hF_246 (by first | omega | assumption) (by first | omega | assumption)) ⟨callB_of 2 hts (gi kt_967) rfl rfl rfl (hts _ kt_659) (hts _ kt_968) (by decide +kernel) ⟨by show 0 + 1 ≤ fr + 7; omega, by show 8 + (3 + 11) + 0 ≤ lo + 158; omega⟩, (hts _ kt_969)⟩ ⟨fun a U g mk q => ⟨q.1, PTm.calling q.2⟩, fun U hU hWm => ⟨rfl, PTm.mk hU hWm hP hK hD hE hO⟩⟩ rfl rfl hl.1 rfl (lv_room (Nat.le_of_ble_eq_true rfl)) dX15_check_148 ⟨by show _ + 0 ≤ 0; omega, by show _ + 0 ≤ 0; omega⟩) hS (fun q _ h => hFc q h) hFc (fun r_276 u t H1 locs ht hvm hw hB hz1 hk1 hS => ?_)
                obtain ⟨F_277, hB1⟩ := hB
                obtain rfl : F_236 = F_277 := (funext (fun a => hB1.2.2.2 a List.not_mem_nil)).symm
                obtain ⟨hP, hD, hO, hR⟩ := QTm.back hB1 ht hFc hR (fun q h => absurd h List.not_mem_nil)
                generalize H1 = H at hP hS ⊢
                have hw : (∃ k : Nat, k_275 ≤ k ∧ k ≤ max k_275 z_51 ∧ r_276 = nI k ∧ (k < z_51 → gA (F_236 r_44) k ≠ 32)) := hw
                have hw_278 := hw
                obtain ⟨k_279, hk_279a, hk_279b, ek_279, hk_279c⟩ := hw_278
                subst ek_279
                rw [gA_fun hF_247] at hk_279c
                refine lv_istore (lv' := [(7, .int (nI k_279)), (5, .int x_271), (6, .int (nI j)), (4, .ref b_43), (3, .int (nI jr)), (0, .ref h0), (1, .ref dd), (2, .int (nI lv))]) hx hb dX15_check_151 hl (by decide) rfl (fun ls hl => ?_)
                refine lv_goto (tgt := 55) hx hb dX15_check_153 (by decide) ?_
                refine W.widen (k := 0) (n := 0) (by omega) (by omega) ?_
                exact ih_68 (k_279, x_271, (nI j), u17_237, u18_238, u19_239, u20_240, u21_241, u22_242) F_236 (⟨by omega, hk_279c, (Or.inr ⟨j, k_234, rfl, by omega, by omega, by omega, hk_234c, (hq_244).2.1 c_250⟩), hq_243⟩) (by show 701 - k_279 < 701 - j; omega) hO hR _ _ hP hD hS ls (lv_sub hl [0, 2, 1, 3, 4, 5, 6, 7] rfl)
              ·
                refine lv_iconst (v := 1) hx hb dX15_check_131 (by decide) ?_
                refine lv_goto (tgt := 136) hx hb dX15_check_132 (by decide) ?_
                refine lv_ior hx hb dX15_check_136 ?_
                refine lv_topi (fun x_280 _ => ?_)
                refine lv_istore (lv' := [(5, .int x_280), (6, .int (nI j)), (7, .int (nI j)), (4, .ref b_43), (3, .int (nI jr)), (0, .ref h0), (1, .ref dd), (2, .int (nI lv))]) hx hb dX15_check_137 hl (by decide) rfl (fun ls hl => ?_)
                refine lv_aload hx hb dX15_check_139 (lv_at hl 3 rfl) ?_
                refine lv_aload hx hb dX15_check_141 (lv_at hl 3 rfl) ?_
                refine lv_iload hx hb dX15_check_143 (lv_at hl 2 rfl) ?_
                have hFc := pg_free hD hS hA
                refine va_calli (va_runS (As := [.ref b_43, .int (nI j)]) (rest := [.ref b_43]) ⟨hx, hb, hml, hown, hts⟩ (s_X15_wordEnd l dC dI cs ty gm L H.size F_236 b_43 (ρ + 50 + jr + 100) r_44 700 z_51 j hW hi_46 ht_47 hF_246 (by first | omega | assumption) (by first | omega | assumption)) ⟨callB_of 2 hts (gi kt_970) rfl rfl rfl (hts _ kt_659) (hts _ kt_971) (by decide +kernel) ⟨by show 0 + 1 ≤ fr + 7; omega, by show 8 + (3 + 11) + 0 ≤ lo + 158; omega⟩, (hts _ kt_972)⟩ ⟨fun a U g mk q => ⟨q.1, PTm.calling q.2⟩, fun U hU hWm => ⟨rfl, PTm.mk hU hWm hP hK hD hE hO⟩⟩ rfl rfl hl.1 rfl (lv_room (Nat.le_of_ble_eq_true rfl)) dX15_check_145 ⟨by show _ + 0 ≤ 0; omega, by show _ + 0 ≤ 0; omega⟩) hS (fun q _ h => hFc q h) hFc (fun r_281 u t H1 locs ht hvm hw hB hz1 hk1 hS => ?_)
                obtain ⟨F_282, hB1⟩ := hB
                obtain rfl : F_236 = F_282 := (funext (fun a => hB1.2.2.2 a List.not_mem_nil)).symm
                obtain ⟨hP, hD, hO, hR⟩ := QTm.back hB1 ht hFc hR (fun q h => absurd h List.not_mem_nil)
                generalize H1 = H at hP hS ⊢
                have hw : (∃ k : Nat, j ≤ k ∧ k ≤ max j z_51 ∧ r_281 = nI k ∧ WE (gA (F_236 r_44)) z_51 j k) := hw
                have hw_283 := hw
                obtain ⟨k_284, hk_284a, hk_284b, ek_284, hk_284c⟩ := hw_283
                subst ek_284
                rw [gA_fun hF_247] at hk_284c
                have hlt2 := WE.lt hk_284c (by omega) (by omega) (hv2 (by omega))
                have hFc := pg_free hD hS hA
                refine va_calli (va_runS (As := [.ref b_43, .int (nI k_284)]) (rest := []) ⟨hx, hb, hml, hown, hts⟩ (s_X15_blankFrom l dC dI cs ty gm L H.size F_236 b_43 (ρ + 50 + jr + 100) r_44 700 z_51 k_284 hW hi_46 ht_47 hF_246 (by first | omega | assumption) (by first | omega | assumption)) ⟨callB_of 2 hts (gi kt_967) rfl rfl rfl (hts _ kt_659) (hts _ kt_968) (by decide +kernel) ⟨by show 0 + 1 ≤ fr + 7; omega, by show 8 + (3 + 11) + 0 ≤ lo + 158; omega⟩, (hts _ kt_969)⟩ ⟨fun a U g mk q => ⟨q.1, PTm.calling q.2⟩, fun U hU hWm => ⟨rfl, PTm.mk hU hWm hP hK hD hE hO⟩⟩ rfl rfl hl.1 rfl (lv_room (Nat.le_of_ble_eq_true rfl)) dX15_check_148 ⟨by show _ + 0 ≤ 0; omega, by show _ + 0 ≤ 0; omega⟩) hS (fun q _ h => hFc q h) hFc (fun r_285 u t H1 locs ht hvm hw hB hz1 hk1 hS => ?_)
                obtain ⟨F_286, hB1⟩ := hB
                obtain rfl : F_236 = F_286 := (funext (fun a => hB1.2.2.2 a List.not_mem_nil)).symm
                obtain ⟨hP, hD, hO, hR⟩ := QTm.back hB1 ht hFc hR (fun q h => absurd h List.not_mem_nil)
                generalize H1 = H at hP hS ⊢
                have hw : (∃ k : Nat, k_284 ≤ k ∧ k ≤ max k_284 z_51 ∧ r_285 = nI k ∧ (k < z_51 → gA (F_236 r_44) k ≠ 32)) := hw
                have hw_287 := hw
                obtain ⟨k_288, hk_288a, hk_288b, ek_288, hk_288c⟩ := hw_287
                subst ek_288
                rw [gA_fun hF_247] at hk_288c
                refine lv_istore (lv' := [(7, .int (nI k_288)), (5, .int x_280), (6, .int (nI j)), (4, .ref b_43), (3, .int (nI jr)), (0, .ref h0), (1, .ref dd), (2, .int (nI lv))]) hx hb dX15_check_151 hl (by decide) rfl (fun ls hl => ?_)
                refine lv_goto (tgt := 55) hx hb dX15_check_153 (by decide) ?_
                refine W.widen (k := 0) (n := 0) (by omega) (by omega) ?_
                exact ih_68 (k_288, x_280, (nI j), u17_237, u18_238, u19_239, u20_240, u21_241, u22_242) F_236 (⟨by omega, hk_288c, (Or.inr ⟨j, k_234, rfl, by omega, by omega, by omega, hk_234c, (hq_244).2.1 c_250⟩), hq_243⟩) (by show 701 - k_288 < 701 - j; omega) hO hR _ _ hP hD hS ls (lv_sub hl [0, 2, 1, 3, 4, 5, 6, 7] rfl)
          ·
            refine lv_iload hx hb dX15_check_101 (lv_at hl 1 rfl) ?_
            refine lv_if_lt (tgt := 109) hx hb dX15_check_103 (by decide) (fun c_289 => ?_) (fun c_289 => ?_)
            ·
              refine lv_aload_n hx hb dX15_check_109 rfl (lv_at hl 5 rfl) ?_
              refine pg_get (ci := 15) (v := .int u17_237) (C := RX15) (T := TX15) (N := 59) hx hb hts it_15 hown hK hP hL_h0 hq_243 rfl 17 (by decide) (hts _ kt_740) (fun _ h9 => h9) rfl dX15_check_110 ?_
              refine lv_bipush (v := 6) hx hb dX15_check_113 (by decide) ?_
              refine lv_icmp_ne (tgt := 122) hx hb dX15_check_115 (by decide) (fun c_290 => ?_) (fun c_290 => ?_)
              ·
                refine lv_iload hx hb dX15_check_122 (lv_at hl 2 rfl) ?_
                refine lv_aload_n hx hb dX15_check_124 rfl (lv_at hl 5 rfl) ?_
                refine pg_get (ci := 15) (v := .int u17_237) (C := RX15) (T := TX15) (N := 59) hx hb hts it_15 hown hK hP hL_h0 hq_243 rfl 17 (by decide) (hts _ kt_740) (fun _ h9 => h9) rfl dX15_check_125 ?_
                refine lv_if_ne (tgt := 135) hx hb dX15_check_128 (by decide) (fun c_291 => ?_) (fun c_291 => ?_)
                ·
                  refine lv_iconst (v := 0) hx hb dX15_check_135 (by decide) ?_
                  refine lv_ior hx hb dX15_check_136 ?_
                  refine lv_topi (fun x_292 _ => ?_)
                  refine lv_istore (lv' := [(5, .int x_292), (7, .int (nI j)), (6, .int w6), (4, .ref b_43), (3, .int (nI jr)), (0, .ref h0), (1, .ref dd), (2, .int (nI lv))]) hx hb dX15_check_137 hl (by decide) rfl (fun ls hl => ?_)
                  refine lv_aload hx hb dX15_check_139 (lv_at hl 3 rfl) ?_
                  refine lv_aload hx hb dX15_check_141 (lv_at hl 3 rfl) ?_
                  refine lv_iload hx hb dX15_check_143 (lv_at hl 1 rfl) ?_
                  have hFc := pg_free hD hS hA
                  refine va_calli (va_runS (As := [.ref b_43, .int (nI j)]) (rest := [.ref b_43]) ⟨hx, hb, hml, hown, hts⟩ (s_X15_wordEnd l dC dI cs ty gm L H.size F_236 b_43 (ρ + 50 + jr + 100) r_44 700 z_51 j hW hi_46 ht_47 hF_246 (by first | omega | assumption) (by first | omega | assumption)) ⟨callB_of 2 hts (gi kt_970) rfl rfl rfl (hts _ kt_659) (hts _ kt_971) (by decide +kernel) ⟨by show 0 + 1 ≤ fr + 7; omega, by show 8 + (3 + 11) + 0 ≤ lo + 158; omega⟩, (hts _ kt_972)⟩ ⟨fun a U g mk q => ⟨q.1, PTm.calling q.2⟩, fun U hU hWm => ⟨rfl, PTm.mk hU hWm hP hK hD hE hO⟩⟩ rfl rfl hl.1 rfl (lv_room (Nat.le_of_ble_eq_true rfl)) dX15_check_145 ⟨by show _ + 0 ≤ 0; omega, by show _ + 0 ≤ 0; omega⟩) hS (fun q _ h => hFc q h) hFc (fun r_293 u t H1 locs ht hvm hw hB hz1 hk1 hS => ?_)
                  obtain ⟨F_294, hB1⟩ := hB
                  obtain rfl : F_236 = F_294 := (funext (fun a => hB1.2.2.2 a List.not_mem_nil)).symm
                  obtain ⟨hP, hD, hO, hR⟩ := QTm.back hB1 ht hFc hR (fun q h => absurd h List.not_mem_nil)
                  generalize H1 = H at hP hS ⊢
                  have hw : (∃ k : Nat, j ≤ k ∧ k ≤ max j z_51 ∧ r_293 = nI k ∧ WE (gA (F_236 r_44)) z_51 j k) := hw
                  have hw_295 := hw
                  obtain ⟨k_296, hk_296a, hk_296b, ek_296, hk_296c⟩ := hw_295
                  subst ek_296
                  rw [gA_fun hF_247] at hk_296c
                  have hlt2 := WE.lt hk_296c (by omega) (by omega) (hv2 (by omega))
                  have hFc := pg_free hD hS hA
                  refine va_calli (va_runS (As := [.ref b_43, .int (nI k_296)]) (rest := []) ⟨hx, hb, hml, hown, hts⟩ (s_X15_blankFrom l dC dI cs ty gm L H.size F_236 b_43 (ρ + 50 + jr + 100) r_44 700 z_51 k_296 hW hi_46 ht_47 hF_246 (by first | omega | assumption) (by first | omega | assumption)) ⟨callB_of 2 hts (gi kt_967) rfl rfl rfl (hts _ kt_659) (hts _ kt_968) (by decide +kernel) ⟨by show 0 + 1 ≤ fr + 7; omega, by show 8 + (3 + 11) + 0 ≤ lo + 158; omega⟩, (hts _ kt_969)⟩ ⟨fun a U g mk q => ⟨q.1, PTm.calling q.2⟩, fun U hU hWm => ⟨rfl, PTm.mk hU hWm hP hK hD hE hO⟩⟩ rfl rfl hl.1 rfl (lv_room (Nat.le_of_ble_eq_true rfl)) dX15_check_148 ⟨by show _ + 0 ≤ 0; omega, by show _ + 0 ≤ 0; omega⟩) hS (fun q _ h => hFc q h) hFc (fun r_297 u t H1 locs ht hvm hw hB hz1 hk1 hS => ?_)
                  obtain ⟨F_298, hB1⟩ := hB
                  obtain rfl : F_236 = F_298 := (funext (fun a => hB1.2.2.2 a List.not_mem_nil)).symm
                  obtain ⟨hP, hD, hO, hR⟩ := QTm.back hB1 ht hFc hR (fun q h => absurd h List.not_mem_nil)
                  generalize H1 = H at hP hS ⊢
                  have hw : (∃ k : Nat, k_296 ≤ k ∧ k ≤ max k_296 z_51 ∧ r_297 = nI k ∧ (k < z_51 → gA (F_236 r_44) k ≠ 32)) := hw
                  have hw_299 := hw
                  obtain ⟨k_300, hk_300a, hk_300b, ek_300, hk_300c⟩ := hw_299
                  subst ek_300
                  rw [gA_fun hF_247] at hk_300c
                  refine lv_istore (lv' := [(7, .int (nI k_300)), (5, .int x_292), (6, .int w6), (4, .ref b_43), (3, .int (nI jr)), (0, .ref h0), (1, .ref dd), (2, .int (nI lv))]) hx hb dX15_check_151 hl (by decide) rfl (fun ls hl => ?_)
                  refine lv_goto (tgt := 55) hx hb dX15_check_153 (by decide) ?_
                  refine W.widen (k := 0) (n := 0) (by omega) (by omega) ?_
                  exact ih_68 (k_300, x_292, w6, u17_237, u18_238, u19_239, u20_240, u21_241, u22_242) F_236 (⟨by omega, hk_300c, hv3, hq_243⟩) (by show 701 - k_300 < 701 - j; omega) hO hR _ _ hP hD hS ls (lv_sub hl [0, 2, 1, 3, 4, 5, 6, 7] rfl)
                ·
                  refine lv_iconst (v := 1) hx hb dX15_check_131 (by decide) ?_
                  refine lv_goto (tgt := 136) hx hb dX15_check_132 (by decide) ?_
                  refine lv_ior hx hb dX15_check_136 ?_
                  refine lv_topi (fun x_301 _ => ?_)
                  refine lv_istore (lv' := [(5, .int x_301), (7, .int (nI j)), (6, .int w6), (4, .ref b_43), (3, .int (nI jr)), (0, .ref h0), (1, .ref dd), (2, .int (nI lv))]) hx hb dX15_check_137 hl (by decide) rfl (fun ls hl => ?_)
                  refine lv_aload hx hb dX15_check_139 (lv_at hl 3 rfl) ?_
                  refine lv_aload hx hb dX15_check_141 (lv_at hl 3 rfl) ?_
                  refine lv_iload hx hb dX15_check_143 (lv_at hl 1 rfl) ?_
                  have hFc := pg_free hD hS hA
                  refine va_calli (va_runS (As := [.ref b_43, .int (nI j)]) (rest := [.ref b_43]) ⟨hx, hb, hml, hown, hts⟩ (s_X15_wordEnd l dC dI cs ty gm L H.size F_236 b_43 (ρ + 50 + jr + 100) r_44 700 z_51 j hW hi_46 ht_47 hF_246 (by first | omega | assumption) (by first | omega | assumption)) ⟨callB_of 2 hts (gi kt_970) rfl rfl rfl (hts _ kt_659) (hts _ kt_971) (by decide +kernel) ⟨by show 0 + 1 ≤ fr + 7; omega, by show 8 + (3 + 11) + 0 ≤ lo + 158; omega⟩, (hts _ kt_972)⟩ ⟨fun a U g mk q => ⟨q.1, PTm.calling q.2⟩, fun U hU hWm => ⟨rfl, PTm.mk hU hWm hP hK hD hE hO⟩⟩ rfl rfl hl.1 rfl (lv_room (Nat.le_of_ble_eq_true rfl)) dX15_check_145 ⟨by show _ + 0 ≤ 0; omega, by show _ + 0 ≤ 0; omega⟩) hS (fun q _ h => hFc q h) hFc (fun r_302 u t H1 locs ht hvm hw hB hz1 hk1 hS => ?_)
                  obtain ⟨F_303, hB1⟩ := hB
                  obtain rfl : F_236 = F_303 := (funext (fun a => hB1.2.2.2 a List.not_mem_nil)).symm
                  obtain ⟨hP, hD, hO, hR⟩ := QTm.back hB1 ht hFc hR (fun q h => absurd h List.not_mem_nil)
                  generalize H1 = H at hP hS ⊢
                  have hw : (∃ k : Nat, j ≤ k ∧ k ≤ max j z_51 ∧ r_302 = nI k ∧ WE (gA (F_236 r_44)) z_51 j k) := hw
                  have hw_304 := hw
                  obtain ⟨k_305, hk_305a, hk_305b, ek_305, hk_305c⟩ := hw_304
                  subst ek_305
                  rw [gA_fun hF_247] at hk_305c
                  have hlt2 := WE.lt hk_305c (by omega) (by omega) (hv2 (by omega))
                  have hFc := pg_free hD hS hA
                  refine va_calli (va_runS (As := [.ref b_43, .int (nI k_305)]) (rest := []) ⟨hx, hb, hml, hown, hts⟩ (s_X15_blankFrom l dC dI cs ty gm L H.size F_236 b_43 (ρ + 50 + jr + 100) r_44 700 z_51 k_305 hW hi_46 ht_47 hF_246 (by first | omega | assumption) (by first | omega | assumption)) ⟨callB_of 2 hts (gi kt_967) rfl rfl rfl (hts _ kt_659) (hts _ kt_968) (by decide +kernel) ⟨by show 0 + 1 ≤ fr + 7; omega, by show 8 + (3 + 11) + 0 ≤ lo + 158; omega⟩, (hts _ kt_969)⟩ ⟨fun a U g mk q => ⟨q.1, PTm.calling q.2⟩, fun U hU hWm => ⟨rfl, PTm.mk hU hWm hP hK hD hE hO⟩⟩ rfl rfl hl.1 rfl (lv_room (Nat.le_of_ble_eq_true rfl)) dX15_check_148 ⟨by show _ + 0 ≤ 0; omega, by show _ + 0 ≤ 0; omega⟩) hS (fun q _ h => hFc q h) hFc (fun r_306 u t H1 locs ht hvm hw hB hz1 hk1 hS => ?_)
                  obtain ⟨F_307, hB1⟩ := hB
                  obtain rfl : F_236 = F_307 := (funext (fun a => hB1.2.2.2 a List.not_mem_nil)).symm
                  obtain ⟨hP, hD, hO, hR⟩ := QTm.back hB1 ht hFc hR (fun q h => absurd h List.not_mem_nil)
                  generalize H1 = H at hP hS ⊢
                  have hw : (∃ k : Nat, k_305 ≤ k ∧ k ≤ max k_305 z_51 ∧ r_306 = nI k ∧ (k < z_51 → gA (F_236 r_44) k ≠ 32)) := hw
                  have hw_308 := hw
                  obtain ⟨k_309, hk_309a, hk_309b, ek_309, hk_309c⟩ := hw_308
                  subst ek_309
                  rw [gA_fun hF_247] at hk_309c
                  refine lv_istore (lv' := [(7, .int (nI k_309)), (5, .int x_301), (6, .int w6), (4, .ref b_43), (3, .int (nI jr)), (0, .ref h0), (1, .ref dd), (2, .int (nI lv))]) hx hb dX15_check_151 hl (by decide) rfl (fun ls hl => ?_)
                  refine lv_goto (tgt := 55) hx hb dX15_check_153 (by decide) ?_
                  refine W.widen (k := 0) (n := 0) (by omega) (by omega) ?_
                  exact ih_68 (k_309, x_301, w6, u17_237, u18_238, u19_239, u20_240, u21_241, u22_242) F_236 (⟨by omega, hk_309c, hv3, hq_243⟩) (by show 701 - k_309 < 701 - j; omega) hO hR _ _ hP hD hS ls (lv_sub hl [0, 2, 1, 3, 4, 5, 6, 7] rfl)
              ·
                refine lv_iload hx hb dX15_check_118 (lv_at hl 0 rfl) ?_
                refine lv_istore (lv' := [(6, .int (nI j)), (7, .int (nI j)), (5, .int w5), (4, .ref b_43), (3, .int (nI jr)), (0, .ref h0), (1, .ref dd), (2, .int (nI lv))]) hx hb dX15_check_120 hl (by decide) rfl (fun ls hl => ?_)
                refine lv_iload hx hb dX15_check_122 (lv_at hl 2 rfl) ?_
                refine lv_aload_n hx hb dX15_check_124 rfl (lv_at hl 5 rfl) ?_
                refine pg_get (ci := 15) (v := .int u17_237) (C := RX15) (T := TX15) (N := 59) hx hb hts it_15 hown hK hP hL_h0 hq_243 rfl 17 (by decide) (hts _ kt_740) (fun _ h9 => h9) rfl dX15_check_125 ?_
                refine lv_if_ne (tgt := 135) hx hb dX15_check_128 (by decide) (fun c_310 => ?_) (fun c_310 => ?_)
                ·
                  refine lv_iconst (v := 0) hx hb dX15_check_135 (by decide) ?_
                  refine lv_ior hx hb dX15_check_136 ?_
                  refine lv_topi (fun x_311 _ => ?_)
                  refine lv_istore (lv' := [(5, .int x_311), (6, .int (nI j)), (7, .int (nI j)), (4, .ref b_43), (3, .int (nI jr)), (0, .ref h0), (1, .ref dd), (2, .int (nI lv))]) hx hb dX15_check_137 hl (by decide) rfl (fun ls hl => ?_)
                  refine lv_aload hx hb dX15_check_139 (lv_at hl 3 rfl) ?_
                  refine lv_aload hx hb dX15_check_141 (lv_at hl 3 rfl) ?_
                  refine lv_iload hx hb dX15_check_143 (lv_at hl 2 rfl) ?_
                  have hFc := pg_free hD hS hA
                  refine va_calli (va_runS (As := [.ref b_43, .int (nI j)]) (rest := [.ref b_43]) ⟨hx, hb, hml, hown, hts⟩ (s_X15_wordEnd l dC dI cs ty gm L H.size F_236 b_43 (ρ + 50 + jr + 100) r_44 700 z_51 j hW hi_46 ht_47 hF_246 (by first | omega | assumption) (by first | omega | assumption)) ⟨callB_of 2 hts (gi kt_970) rfl rfl rfl (hts _ kt_659) (hts _ kt_971) (by decide +kernel) ⟨by show 0 + 1 ≤ fr + 7; omega, by show 8 + (3 + 11) + 0 ≤ lo + 158; omega⟩, (hts _ kt_972)⟩ ⟨fun a U g mk q => ⟨q.1, PTm.calling q.2⟩, fun U hU hWm => ⟨rfl, PTm.mk hU hWm hP hK hD hE hO⟩⟩ rfl rfl hl.1 rfl (lv_room (Nat.le_of_ble_eq_true rfl)) dX15_check_145 ⟨by show _ + 0 ≤ 0; omega, by show _ + 0 ≤ 0; omega⟩) hS (fun q _ h => hFc q h) hFc (fun r_312 u t H1 locs ht hvm hw hB hz1 hk1 hS => ?_)
                  obtain ⟨F_313, hB1⟩ := hB
                  obtain rfl : F_236 = F_313 := (funext (fun a => hB1.2.2.2 a List.not_mem_nil)).symm
                  obtain ⟨hP, hD, hO, hR⟩ := QTm.back hB1 ht hFc hR (fun q h => absurd h List.not_mem_nil)
                  generalize H1 = H at hP hS ⊢
                  have hw : (∃ k : Nat, j ≤ k ∧ k ≤ max j z_51 ∧ r_312 = nI k ∧ WE (gA (F_236 r_44)) z_51 j k) := hw
                  have hw_314 := hw
                  obtain ⟨k_315, hk_315a, hk_315b, ek_315, hk_315c⟩ := hw_314
                  subst ek_315
                  rw [gA_fun hF_247] at hk_315c
                  have hlt2 := WE.lt hk_315c (by omega) (by omega) (hv2 (by omega))
                  have hFc := pg_free hD hS hA
                  refine va_calli (va_runS (As := [.ref b_43, .int (nI k_315)]) (rest := []) ⟨hx, hb, hml, hown, hts⟩ (s_X15_blankFrom l dC dI cs ty gm L H.size F_236 b_43 (ρ + 50 + jr + 100) r_44 700 z_51 k_315 hW hi_46 ht_47 hF_246 (by first | omega | assumption) (by first | omega | assumption)) ⟨callB_of 2 hts (gi kt_967) rfl rfl rfl (hts _ kt_659) (hts _ kt_968) (by decide +kernel) ⟨by show 0 + 1 ≤ fr + 7; omega, by show 8 + (3 + 11) + 0 ≤ lo + 158; omega⟩, (hts _ kt_969)⟩ ⟨fun a U g mk q => ⟨q.1, PTm.calling q.2⟩, fun U hU hWm => ⟨rfl, PTm.mk hU hWm hP hK hD hE hO⟩⟩ rfl rfl hl.1 rfl (lv_room (Nat.le_of_ble_eq_true rfl)) dX15_check_148 ⟨by show _ + 0 ≤ 0; omega, by show _ + 0 ≤ 0; omega⟩) hS (fun q _ h => hFc q h) hFc (fun r_316 u t H1 locs ht hvm hw hB hz1 hk1 hS => ?_)
                  obtain ⟨F_317, hB1⟩ := hB
                  obtain rfl : F_236 = F_317 := (funext (fun a => hB1.2.2.2 a List.not_mem_nil)).symm
                  obtain ⟨hP, hD, hO, hR⟩ := QTm.back hB1 ht hFc hR (fun q h => absurd h List.not_mem_nil)
                  generalize H1 = H at hP hS ⊢
                  have hw : (∃ k : Nat, k_315 ≤ k ∧ k ≤ max k_315 z_51 ∧ r_316 = nI k ∧ (k < z_51 → gA (F_236 r_44) k ≠ 32)) := hw
                  have hw_318 := hw
                  obtain ⟨k_319, hk_319a, hk_319b, ek_319, hk_319c⟩ := hw_318
                  subst ek_319
                  rw [gA_fun hF_247] at hk_319c
                  refine lv_istore (lv' := [(7, .int (nI k_319)), (5, .int x_311), (6, .int (nI j)), (4, .ref b_43), (3, .int (nI jr)), (0, .ref h0), (1, .ref dd), (2, .int (nI lv))]) hx hb dX15_check_151 hl (by decide) rfl (fun ls hl => ?_)
                  refine lv_goto (tgt := 55) hx hb dX15_check_153 (by decide) ?_
                  refine W.widen (k := 0) (n := 0) (by omega) (by omega) ?_
                  exact ih_68 (k_319, x_311, (nI j), u17_237, u18_238, u19_239, u20_240, u21_241, u22_242) F_236 (⟨by omega, hk_319c, (Or.inr ⟨j, k_234, rfl, by omega, by omega, by omega, hk_234c, (hq_244).2.1 c_290⟩), hq_243⟩) (by show 701 - k_319 < 701 - j; omega) hO hR _ _ hP hD hS ls (lv_sub hl [0, 2, 1, 3, 4, 5, 6, 7] rfl)
                ·
                  refine lv_iconst (v := 1) hx hb dX15_check_131 (by decide) ?_
                  refine lv_goto (tgt := 136) hx hb dX15_check_132 (by decide) ?_
                  refine lv_ior hx hb dX15_check_136 ?_
                  refine lv_topi (fun x_320 _ => ?_)
                  refine lv_istore (lv' := [(5, .int x_320), (6, .int (nI j)), (7, .int (nI j)), (4, .ref b_43), (3, .int (nI jr)), (0, .ref h0), (1, .ref dd), (2, .int (nI lv))]) hx hb dX15_check_137 hl (by decide) rfl (fun ls hl => ?_)
                  refine lv_aload hx hb dX15_check_139 (lv_at hl 3 rfl) ?_
                  refine lv_aload hx hb dX15_check_141 (lv_at hl 3 rfl) ?_
                  refine lv_iload hx hb dX15_check_143 (lv_at hl 2 rfl) ?_
                  have hFc := pg_free hD hS hA
                  refine va_calli (va_runS (As := [.ref b_43, .int (nI j)]) (rest := [.ref b_43]) ⟨hx, hb, hml, hown, hts⟩ (s_X15_wordEnd l dC dI cs ty gm L H.size F_236 b_43 (ρ + 50 + jr + 100) r_44 700 z_51 j hW hi_46 ht_47 hF_246 (by first | omega | assumption) (by first | omega | assumption)) ⟨callB_of 2 hts (gi kt_970) rfl rfl rfl (hts _ kt_659) (hts _ kt_971) (by decide +kernel) ⟨by show 0 + 1 ≤ fr + 7; omega, by show 8 + (3 + 11) + 0 ≤ lo + 158; omega⟩, (hts _ kt_972)⟩ ⟨fun a U g mk q => ⟨q.1, PTm.calling q.2⟩, fun U hU hWm => ⟨rfl, PTm.mk hU hWm hP hK hD hE hO⟩⟩ rfl rfl hl.1 rfl (lv_room (Nat.le_of_ble_eq_true rfl)) dX15_check_145 ⟨by show _ + 0 ≤ 0; omega, by show _ + 0 ≤ 0; omega⟩) hS (fun q _ h => hFc q h) hFc (fun r_321 u t H1 locs ht hvm hw hB hz1 hk1 hS => ?_)
                  obtain ⟨F_322, hB1⟩ := hB
                  obtain rfl : F_236 = F_322 := (funext (fun a => hB1.2.2.2 a List.not_mem_nil)).symm
                  obtain ⟨hP, hD, hO, hR⟩ := QTm.back hB1 ht hFc hR (fun q h => absurd h List.not_mem_nil)
                  generalize H1 = H at hP hS ⊢
                  have hw : (∃ k : Nat, j ≤ k ∧ k ≤ max j z_51 ∧ r_321 = nI k ∧ WE (gA (F_236 r_44)) z_51 j k) := hw
                  have hw_323 := hw
                  obtain ⟨k_324, hk_324a, hk_324b, ek_324, hk_324c⟩ := hw_323
                  subst ek_324
                  rw [gA_fun hF_247] at hk_324c
                  have hlt2 := WE.lt hk_324c (by omega) (by omega) (hv2 (by omega))
                  have hFc := pg_free hD hS hA
                  refine va_calli (va_runS (As := [.ref b_43, .int (nI k_324)]) (rest := []) ⟨hx, hb, hml, hown, hts⟩ (s_X15_blankFrom l dC dI cs ty gm L H.size F_236 b_43 (ρ + 50 + jr + 100) r_44 700 z_51 k_324 hW hi_46 ht_47 hF_246 (by first | omega | assumption) (by first | omega | assumption)) ⟨callB_of 2 hts (gi kt_967) rfl rfl rfl (hts _ kt_659) (hts _ kt_968) (by decide +kernel) ⟨by show 0 + 1 ≤ fr + 7; omega, by show 8 + (3 + 11) + 0 ≤ lo + 158; omega⟩, (hts _ kt_969)⟩ ⟨fun a U g mk q => ⟨q.1, PTm.calling q.2⟩, fun U hU hWm => ⟨rfl, PTm.mk hU hWm hP hK hD hE hO⟩⟩ rfl rfl hl.1 rfl (lv_room (Nat.le_of_ble_eq_true rfl)) dX15_check_148 ⟨by show _ + 0 ≤ 0; omega, by show _ + 0 ≤ 0; omega⟩) hS (fun q _ h => hFc q h) hFc (fun r_325 u t H1 locs ht hvm hw hB hz1 hk1 hS => ?_)
                  obtain ⟨F_326, hB1⟩ := hB
                  obtain rfl : F_236 = F_326 := (funext (fun a => hB1.2.2.2 a List.not_mem_nil)).symm
                  obtain ⟨hP, hD, hO, hR⟩ := QTm.back hB1 ht hFc hR (fun q h => absurd h List.not_mem_nil)
                  generalize H1 = H at hP hS ⊢
                  have hw : (∃ k : Nat, k_324 ≤ k ∧ k ≤ max k_324 z_51 ∧ r_325 = nI k ∧ (k < z_51 → gA (F_236 r_44) k ≠ 32)) := hw
                  have hw_327 := hw
                  obtain ⟨k_328, hk_328a, hk_328b, ek_328, hk_328c⟩ := hw_327
                  subst ek_328
                  rw [gA_fun hF_247] at hk_328c
                  refine lv_istore (lv' := [(7, .int (nI k_328)), (5, .int x_320), (6, .int (nI j)), (4, .ref b_43), (3, .int (nI jr)), (0, .ref h0), (1, .ref dd), (2, .int (nI lv))]) hx hb dX15_check_151 hl (by decide) rfl (fun ls hl => ?_)
                  refine lv_goto (tgt := 55) hx hb dX15_check_153 (by decide) ?_
                  refine W.widen (k := 0) (n := 0) (by omega) (by omega) ?_
                  exact ih_68 (k_328, x_320, (nI j), u17_237, u18_238, u19_239, u20_240, u21_241, u22_242) F_236 (⟨by omega, hk_328c, (Or.inr ⟨j, k_234, rfl, by omega, by omega, by omega, hk_234c, (hq_244).2.1 c_290⟩), hq_243⟩) (by show 701 - k_328 < 701 - j; omega) hO hR _ _ hP hD hS ls (lv_sub hl [0, 2, 1, 3, 4, 5, 6, 7] rfl)
            ·
              refine lv_bipush (v := 6) hx hb dX15_check_106 (by decide) ?_
              refine W.widen (k := 0) (n := 0) (by omega) (by omega) ?_
              exact W.iret (v := 6) hx hb hr (fun t ht hWm => ⟨⟨6, cn, rfl, (fun _ => rfl), ⟨F_236, v15, u17_237, u18_238, u19_239, u20_240, u21_241, u22_242, QTm.mk ht hP hD hO hR, hq_243, by omega, by omega⟩⟩, hS.F ht⟩) hS.2.2 dX15_check_108
    ·
      refine lv_iload_n hx hb dX15_check_20 rfl (lv_at hl 0 rfl) ?_
      refine lv_iconst (v := (-1)) hx hb dX15_check_21 (by decide) ?_
      refine lv_icmp_ne (tgt := 29) hx hb dX15_check_22 (by decide) (fun c_329 => ?_) (fun c_329 => ?_)
      ·
        refine lv_bipush (v := 6) hx hb dX15_check_29 (by decide) ?_
        refine W.widen (k := 0) (n := 0) (by omega) (by omega) ?_
        exact W.iret (v := 6) hx hb hr (fun t ht hWm => ⟨⟨6, cn, rfl, (fun _ => rfl), ⟨F, v15, v17, v18, v19, v20, v21, v22, QTm.mk ht hP hD hO hR, hF0, by omega, by omega⟩⟩, hS.F ht⟩) hS.2.2 dX15_check_31
      ·
        refine lv_iconst (v := 0) hx hb dX15_check_25 (by decide) ?_
        refine lv_goto (tgt := 31) hx hb dX15_check_26 (by decide) ?_
        refine W.widen (k := 0) (n := 0) (by omega) (by omega) ?_
        exact W.iret (v := 0) hx hb hr (fun t ht hWm => ⟨⟨0, cn, rfl, (fun h => by omega), ⟨F, v15, v17, v18, v19, v20, v21, v22, QTm.mk ht hP hD hO hR, hF0, by omega, by omega⟩⟩, hS.F ht⟩) hS.2.2 dX15_check_31
  ·
    refine lv_iconst (v := 5) hx hb dX15_check_8 (by decide) ?_
    refine W.widen (k := 0) (n := 0) (by omega) (by omega) ?_
    exact W.iret (v := 5) hx hb hr (fun t ht hWm => ⟨⟨5, cn, rfl, (fun h => by omega), ⟨F, v15, v17, v18, v19, v20, v21, v22, QTm.mk ht hP hD hO hR, hF0, by omega, by omega⟩⟩, hS.F ht⟩) hS.2.2 dX15_check_9
