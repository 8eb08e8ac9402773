theorem dX15_check_0 : decode cX15_check 0 = .ok (.aload_n 0, 1) := by decide +kernel
theorem dX15_check_1 : decode cX15_check 1 = .ok (.aload_n 1, 1) := by decide +kernel
theorem dX15_check_2 : decode cX15_check 2 = .ok (.invokevirtual 308, 3) := by decide +kernel
theorem dX15_check_5 : decode cX15_check 5 = .ok (.ifCond .eq 5, 3) := by decide +kernel
theorem dX15_check_8 : decode cX15_check 8 = .ok (.iconst 5, 1) := by decide +kernel
theorem dX15_check_9 : decode cX15_check 9 = .ok (.ireturn, 1) := by decide +kernel
theorem dX15_check_10 : decode cX15_check 10 = .ok (.aload_n 0, 1) := by decide +kernel
theorem dX15_check_11 : decode cX15_check 11 = .ok (.aload_n 1, 1) := by decide +kernel
theorem dX15_check_12 : decode cX15_check 12 = .ok (.invokevirtual 311, 3) := by decide +kernel
theorem dX15_check_15 : decode cX15_check 15 = .ok (.istore_n 3, 1) := by decide +kernel
theorem dX15_check_16 : decode cX15_check 16 = .ok (.iload_n 3, 1) := by decide +kernel
theorem dX15_check_17 : decode cX15_check 17 = .ok (.ifCond .ge 15, 3) := by decide +kernel
theorem dX15_check_20 : decode cX15_check 20 = .ok (.iload_n 3, 1) := by decide +kernel
theorem dX15_check_21 : decode cX15_check 21 = .ok (.iconst (-1), 1) := by decide +kernel
theorem dX15_check_22 : decode cX15_check 22 = .ok (.if_icmp .ne 7, 3) := by decide +kernel
theorem dX15_check_25 : decode cX15_check 25 = .ok (.iconst 0, 1) := by decide +kernel
theorem dX15_check_26 : decode cX15_check 26 = .ok (.goto 5, 3) := by decide +kernel
theorem dX15_check_29 : decode cX15_check 29 = .ok (.bipush 6, 2) := by decide +kernel
theorem dX15_check_31 : decode cX15_check 31 = .ok (.ireturn, 1) := by decide +kernel
theorem dX15_check_32 : decode cX15_check 32 = .ok (.aload_n 0, 1) := by decide +kernel
theorem dX15_check_33 : decode cX15_check 33 = .ok (.getfield 51, 3) := by decide +kernel
theorem dX15_check_36 : decode cX15_check 36 = .ok (.iload_n 3, 1) := by decide +kernel
theorem dX15_check_37 : decode cX15_check 37 = .ok (.aaload, 1) := by decide +kernel
theorem dX15_check_38 : decode cX15_check 38 = .ok (.astore 4, 2) := by decide +kernel
theorem dX15_check_40 : decode cX15_check 40 = .ok (.iconst 0, 1) := by decide +kernel
theorem dX15_check_41 : decode cX15_check 41 = .ok (.istore 5, 2) := by decide +kernel
theorem dX15_check_43 : decode cX15_check 43 = .ok (.iconst (-1), 1) := by decide +kernel
theorem dX15_check_44 : decode cX15_check 44 = .ok (.istore 6, 2) := by decide +kernel
theorem dX15_check_46 : decode cX15_check 46 = .ok (.aload 4, 2) := by decide +kernel
theorem dX15_check_48 : decode cX15_check 48 = .ok (.bipush 6, 2) := by decide +kernel
theorem dX15_check_50 : decode cX15_check 50 = .ok (.invokestatic 315, 3) := by decide +kernel
theorem dX15_check_53 : decode cX15_check 53 = .ok (.istore 7, 2) := by decide +kernel
theorem dX15_check_55 : decode cX15_check 55 = .ok (.iload 7, 2) := by decide +kernel
theorem dX15_check_57 : decode cX15_check 57 = .ok (.aload 4, 2) := by decide +kernel
theorem dX15_check_59 : decode cX15_check 59 = .ok (.getfield 190, 3) := by decide +kernel
theorem dX15_check_62 : decode cX15_check 62 = .ok (.if_icmp .ge 94, 3) := by decide +kernel
theorem dX15_check_65 : decode cX15_check 65 = .ok (.aload_n 0, 1) := by decide +kernel
theorem dX15_check_66 : decode cX15_check 66 = .ok (.aload 4, 2) := by decide +kernel
theorem dX15_check_68 : decode cX15_check 68 = .ok (.getfield 295, 3) := by decide +kernel
theorem dX15_check_71 : decode cX15_check 71 = .ok (.iload 7, 2) := by decide +kernel
theorem dX15_check_73 : decode cX15_check 73 = .ok (.aload 4, 2) := by decide +kernel
theorem dX15_check_75 : decode cX15_check 75 = .ok (.iload 7, 2) := by decide +kernel
theorem dX15_check_77 : decode cX15_check 77 = .ok (.invokestatic 318, 3) := by decide +kernel
theorem dX15_check_80 : decode cX15_check 80 = .ok (.invokevirtual 321, 3) := by decide +kernel
theorem dX15_check_83 : decode cX15_check 83 = .ok (.aload_n 0, 1) := by decide +kernel
theorem dX15_check_84 : decode cX15_check 84 = .ok (.getfield 238, 3) := by decide +kernel
theorem dX15_check_87 : decode cX15_check 87 = .ok (.bipush 8, 2) := by decide +kernel
theorem dX15_check_89 : decode cX15_check 89 = .ok (.if_icmp .eq 17, 3) := by decide +kernel
theorem dX15_check_92 : decode cX15_check 92 = .ok (.aload_n 0, 1) := by decide +kernel
theorem dX15_check_93 : decode cX15_check 93 = .ok (.getfield 238, 3) := by decide +kernel
theorem dX15_check_96 : decode cX15_check 96 = .ok (.bipush 6, 2) := by decide +kernel
theorem dX15_check_98 : decode cX15_check 98 = .ok (.if_icmp .ne 11, 3) := by decide +kernel
theorem dX15_check_101 : decode cX15_check 101 = .ok (.iload 6, 2) := by decide +kernel
theorem dX15_check_103 : decode cX15_check 103 = .ok (.ifCond .lt 6, 3) := by decide +kernel
theorem dX15_check_106 : decode cX15_check 106 = .ok (.bipush 6, 2) := by decide +kernel
theorem dX15_check_108 : decode cX15_check 108 = .ok (.ireturn, 1) := by decide +kernel
theorem dX15_check_109 : decode cX15_check 109 = .ok (.aload_n 0, 1) := by decide +kernel
theorem dX15_check_110 : decode cX15_check 110 = .ok (.getfield 238, 3) := by decide +kernel
theorem dX15_check_113 : decode cX15_check 113 = .ok (.bipush 6, 2) := by decide +kernel
theorem dX15_check_115 : decode cX15_check 115 = .ok (.if_icmp .ne 7, 3) := by decide +kernel
theorem dX15_check_118 : decode cX15_check 118 = .ok (.iload 7, 2) := by decide +kernel
theorem dX15_check_120 : decode cX15_check 120 = .ok (.istore 6, 2) := by decide +kernel
theorem dX15_check_122 : decode cX15_check 122 = .ok (.iload 5, 2) := by decide +kernel
theorem dX15_check_124 : decode cX15_check 124 = .ok (.aload_n 0, 1) := by decide +kernel
theorem dX15_check_125 : decode cX15_check 125 = .ok (.getfield 238, 3) := by decide +kernel
theorem dX15_check_128 : decode cX15_check 128 = .ok (.ifCond .ne 7, 3) := by decide +kernel
theorem dX15_check_131 : decode cX15_check 131 = .ok (.iconst 1, 1) := by decide +kernel
theorem dX15_check_132 : decode cX15_check 132 = .ok (.goto 4, 3) := by decide +kernel
theorem dX15_check_135 : decode cX15_check 135 = .ok (.iconst 0, 1) := by decide +kernel
theorem dX15_check_136 : decode cX15_check 136 = .ok (.ior, 1) := by decide +kernel
theorem dX15_check_137 : decode cX15_check 137 = .ok (.istore 5, 2) := by decide +kernel
theorem dX15_check_139 : decode cX15_check 139 = .ok (.aload 4, 2) := by decide +kernel
theorem dX15_check_141 : decode cX15_check 141 = .ok (.aload 4, 2) := by decide +kernel
theorem dX15_check_143 : decode cX15_check 143 = .ok (.iload 7, 2) := by decide +kernel
theorem dX15_check_145 : decode cX15_check 145 = .ok (.invokestatic 318, 3) := by decide +kernel
theorem dX15_check_148 : decode cX15_check 148 = .ok (.invokestatic 315, 3) := by decide +kernel
theorem dX15_check_151 : decode cX15_check 151 = .ok (.istore 7, 2) := by decide +kernel
theorem dX15_check_153 : decode cX15_check 153 = .ok (.goto (-98), 3) := by decide +kernel
theorem dX15_check_156 : decode cX15_check 156 = .ok (.aload 4, 2) := by decide +kernel
theorem dX15_check_158 : decode cX15_check 158 = .ok (.bipush 6, 2) := by decide +kernel
theorem dX15_check_160 : decode cX15_check 160 = .ok (.invokestatic 315, 3) := by decide +kernel
theorem dX15_check_163 : decode cX15_check 163 = .ok (.istore 7, 2) := by decide +kernel
theorem dX15_check_165 : decode cX15_check 165 = .ok (.iload 7, 2) := by decide +kernel
theorem dX15_check_167 : decode cX15_check 167 = .ok (.aload 4, 2) := by decide +kernel
theorem dX15_check_169 : decode cX15_check 169 = .ok (.getfield 190, 3) := by decide +kernel
theorem dX15_check_172 : decode cX15_check 172 = .ok (.if_icmp .ge 116, 3) := by decide +kernel
theorem dX15_check_175 : decode cX15_check 175 = .ok (.aload_n 0, 1) := by decide +kernel
theorem dX15_check_176 : decode cX15_check 176 = .ok (.aload 4, 2) := by decide +kernel
theorem dX15_check_178 : decode cX15_check 178 = .ok (.getfield 295, 3) := by decide +kernel
theorem dX15_check_181 : decode cX15_check 181 = .ok (.iload 7, 2) := by decide +kernel
theorem dX15_check_183 : decode cX15_check 183 = .ok (.aload 4, 2) := by decide +kernel
theorem dX15_check_185 : decode cX15_check 185 = .ok (.iload 7, 2) := by decide +kernel
theorem dX15_check_187 : decode cX15_check 187 = .ok (.invokestatic 318, 3) := by decide +kernel
theorem dX15_check_190 : decode cX15_check 190 = .ok (.invokevirtual 321, 3) := by decide +kernel
theorem dX15_check_193 : decode cX15_check 193 = .ok (.aload_n 0, 1) := by decide +kernel
theorem dX15_check_194 : decode cX15_check 194 = .ok (.getfield 238, 3) := by decide +kernel
theorem dX15_check_197 : decode cX15_check 197 = .ok (.bipush 6, 2) := by decide +kernel
theorem dX15_check_199 : decode cX15_check 199 = .ok (.if_icmp .lt 6, 3) := by decide +kernel
theorem dX15_check_202 : decode cX15_check 202 = .ok (.goto 69, 3) := by decide +kernel
theorem dX15_check_205 : decode cX15_check 205 = .ok (.aload_n 0, 1) := by decide +kernel
theorem dX15_check_206 : decode cX15_check 206 = .ok (.getfield 235, 3) := by decide +kernel
theorem dX15_check_209 : decode cX15_check 209 = .ok (.istore 8, 2) := by decide +kernel
theorem dX15_check_211 : decode cX15_check 211 = .ok (.aload_n 0, 1) := by decide +kernel
theorem dX15_check_212 : decode cX15_check 212 = .ok (.aload 4, 2) := by decide +kernel
theorem dX15_check_214 : decode cX15_check 214 = .ok (.aload_n 1, 1) := by decide +kernel
theorem dX15_check_215 : decode cX15_check 215 = .ok (.iload_n 2, 1) := by decide +kernel
theorem dX15_check_216 : decode cX15_check 216 = .ok (.invokevirtual 324, 3) := by decide +kernel
theorem dX15_check_219 : decode cX15_check 219 = .ok (.istore 9, 2) := by decide +kernel
theorem dX15_check_221 : decode cX15_check 221 = .ok (.iload 9, 2) := by decide +kernel
theorem dX15_check_223 : decode cX15_check 223 = .ok (.iconst 1, 1) := by decide +kernel
theorem dX15_check_224 : decode cX15_check 224 = .ok (.if_icmp .le 6, 3) := by decide +kernel
theorem dX15_check_227 : decode cX15_check 227 = .ok (.iload 9, 2) := by decide +kernel
theorem dX15_check_229 : decode cX15_check 229 = .ok (.ireturn, 1) := by decide +kernel
theorem dX15_check_230 : decode cX15_check 230 = .ok (.iload 9, 2) := by decide +kernel
theorem dX15_check_232 : decode cX15_check 232 = .ok (.iconst 1, 1) := by decide +kernel
theorem dX15_check_233 : decode cX15_check 233 = .ok (.if_icmp .ne 38, 3) := by decide +kernel
theorem dX15_check_236 : decode cX15_check 236 = .ok (.iload 8, 2) := by decide +kernel
theorem dX15_check_238 : decode cX15_check 238 = .ok (.bipush 43, 2) := by decide +kernel
theorem dX15_check_240 : decode cX15_check 240 = .ok (.if_icmp .ne 7, 3) := by decide +kernel
theorem dX15_check_243 : decode cX15_check 243 = .ok (.iconst 2, 1) := by decide +kernel
theorem dX15_check_244 : decode cX15_check 244 = .ok (.goto 26, 3) := by decide +kernel
theorem dX15_check_247 : decode cX15_check 247 = .ok (.iload 8, 2) := by decide +kernel
theorem dX15_check_249 : decode cX15_check 249 = .ok (.bipush 63, 2) := by decide +kernel
theorem dX15_check_251 : decode cX15_check 251 = .ok (.if_icmp .ne 7, 3) := by decide +kernel
theorem dX15_check_254 : decode cX15_check 254 = .ok (.iconst 1, 1) := by decide +kernel
theorem dX15_check_255 : decode cX15_check 255 = .ok (.goto 15, 3) := by decide +kernel
theorem dX15_check_258 : decode cX15_check 258 = .ok (.iload 8, 2) := by decide +kernel
theorem dX15_check_260 : decode cX15_check 260 = .ok (.bipush 126, 2) := by decide +kernel
theorem dX15_check_262 : decode cX15_check 262 = .ok (.if_icmp .ne 7, 3) := by decide +kernel
theorem dX15_check_265 : decode cX15_check 265 = .ok (.iconst 4, 1) := by decide +kernel
theorem dX15_check_266 : decode cX15_check 266 = .ok (.goto 4, 3) := by decide +kernel
theorem dX15_check_269 : decode cX15_check 269 = .ok (.iconst 3, 1) := by decide +kernel
theorem dX15_check_270 : decode cX15_check 270 = .ok (.ireturn, 1) := by decide +kernel
theorem dX15_check_271 : decode cX15_check 271 = .ok (.aload 4, 2) := by decide +kernel
theorem dX15_check_273 : decode cX15_check 273 = .ok (.aload 4, 2) := by decide +kernel
theorem dX15_check_275 : decode cX15_check 275 = .ok (.iload 7, 2) := by decide +kernel
theorem dX15_check_277 : decode cX15_check 277 = .ok (.invokestatic 318, 3) := by decide +kernel
theorem dX15_check_280 : decode cX15_check 280 = .ok (.invokestatic 315, 3) := by decide +kernel
theorem dX15_check_283 : decode cX15_check 283 = .ok (.istore 7, 2) := by decide +kernel
theorem dX15_check_285 : decode cX15_check 285 = .ok (.goto (-120), 3) := by decide +kernel
theorem dX15_check_288 : decode cX15_check 288 = .ok (.iload 6, 2) := by decide +kernel
theorem dX15_check_290 : decode cX15_check 290 = .ok (.ifCond .lt 8, 3) := by decide +kernel
theorem dX15_check_293 : decode cX15_check 293 = .ok (.iload 5, 2) := by decide +kernel
theorem dX15_check_295 : decode cX15_check 295 = .ok (.ifCond .eq 5, 3) := by decide +kernel
theorem dX15_check_298 : decode cX15_check 298 = .ok (.iconst 1, 1) := by decide +kernel
theorem dX15_check_299 : decode cX15_check 299 = .ok (.ireturn, 1) := by decide +kernel
theorem dX15_check_300 : decode cX15_check 300 = .ok (.aload_n 0, 1) := by decide +kernel
theorem dX15_check_301 : decode cX15_check 301 = .ok (.aload 4, 2) := by decide +kernel
theorem dX15_check_303 : decode cX15_check 303 = .ok (.getfield 295, 3) := by decide +kernel
theorem dX15_check_306 : decode cX15_check 306 = .ok (.iload 6, 2) := by decide +kernel
theorem dX15_check_308 : decode cX15_check 308 = .ok (.aload 4, 2) := by decide +kernel
theorem dX15_check_310 : decode cX15_check 310 = .ok (.iload 6, 2) := by decide +kernel
theorem dX15_check_312 : decode cX15_check 312 = .ok (.invokestatic 318, 3) := by decide +kernel
theorem dX15_check_315 : decode cX15_check 315 = .ok (.invokevirtual 321, 3) := by decide +kernel
theorem dX15_check_318 : decode cX15_check 318 = .ok (.aload_n 0, 1) := by decide +kernel
theorem dX15_check_319 : decode cX15_check 319 = .ok (.dup, 1) := by decide +kernel
theorem dX15_check_320 : decode cX15_check 320 = .ok (.getfield 212, 3) := by decide +kernel
theorem dX15_check_323 : decode cX15_check 323 = .ok (.iconst 1, 1) := by decide +kernel
theorem dX15_check_324 : decode cX15_check 324 = .ok (.iadd, 1) := by decide +kernel
theorem dX15_check_325 : decode cX15_check 325 = .ok (.putfield 212, 3) := by decide +kernel
theorem dX15_check_328 : decode cX15_check 328 = .ok (.aload_n 0, 1) := by decide +kernel
theorem dX15_check_329 : decode cX15_check 329 = .ok (.getfield 212, 3) := by decide +kernel
theorem dX15_check_332 : decode cX15_check 332 = .ok (.bipush 10, 2) := by decide +kernel
theorem dX15_check_334 : decode cX15_check 334 = .ok (.if_icmp .le 6, 3) := by decide +kernel
theorem dX15_check_337 : decode cX15_check 337 = .ok (.bipush 6, 2) := by decide +kernel
theorem dX15_check_339 : decode cX15_check 339 = .ok (.ireturn, 1) := by decide +kernel
theorem dX15_check_340 : decode cX15_check 340 = .ok (.aload_n 0, 1) := by decide +kernel
theorem dX15_check_341 : decode cX15_check 341 = .ok (.aload 4, 2) := by decide +kernel
theorem dX15_check_343 : decode cX15_check 343 = .ok (.getfield 295, 3) := by decide +kernel
theorem dX15_check_346 : decode cX15_check 346 = .ok (.aload_n 0, 1) := by decide +kernel
theorem dX15_check_347 : decode cX15_check 347 = .ok (.getfield 241, 3) := by decide +kernel
theorem dX15_check_350 : decode cX15_check 350 = .ok (.aload_n 0, 1) := by decide +kernel
theorem dX15_check_351 : decode cX15_check 351 = .ok (.getfield 244, 3) := by decide +kernel
theorem dX15_check_354 : decode cX15_check 354 = .ok (.aload_n 1, 1) := by decide +kernel
theorem dX15_check_355 : decode cX15_check 355 = .ok (.aload_n 0, 1) := by decide +kernel
theorem dX15_check_356 : decode cX15_check 356 = .ok (.getfield 64, 3) := by decide +kernel
theorem dX15_check_359 : decode cX15_check 359 = .ok (.iload_n 2, 1) := by decide +kernel
theorem dX15_check_360 : decode cX15_check 360 = .ok (.aaload, 1) := by decide +kernel
theorem dX15_check_361 : decode cX15_check 361 = .ok (.invokevirtual 328, 3) := by decide +kernel
theorem dX15_check_364 : decode cX15_check 364 = .ok (.aload_n 0, 1) := by decide +kernel
theorem dX15_check_365 : decode cX15_check 365 = .ok (.aload_n 0, 1) := by decide +kernel
theorem dX15_check_366 : decode cX15_check 366 = .ok (.getfield 64, 3) := by decide +kernel
theorem dX15_check_369 : decode cX15_check 369 = .ok (.iload_n 2, 1) := by decide +kernel
theorem dX15_check_370 : decode cX15_check 370 = .ok (.aaload, 1) := by decide +kernel
theorem dX15_check_371 : decode cX15_check 371 = .ok (.iload_n 2, 1) := by decide +kernel
theorem dX15_check_372 : decode cX15_check 372 = .ok (.iconst 1, 1) := by decide +kernel
theorem dX15_check_373 : decode cX15_check 373 = .ok (.iadd, 1) := by decide +kernel
theorem dX15_check_374 : decode cX15_check 374 = .ok (.invokevirtual 218, 3) := by decide +kernel
theorem dX15_check_377 : decode cX15_check 377 = .ok (.istore 7, 2) := by decide +kernel
theorem dX15_check_379 : decode cX15_check 379 = .ok (.iload 7, 2) := by decide +kernel
theorem dX15_check_381 : decode cX15_check 381 = .ok (.ifCond .ne 8, 3) := by decide +kernel
theorem dX15_check_384 : decode cX15_check 384 = .ok (.bipush 6, 2) := by decide +kernel
theorem dX15_check_386 : decode cX15_check 386 = .ok (.goto 5, 3) := by decide +kernel
theorem dX15_check_389 : decode cX15_check 389 = .ok (.iload 7, 2) := by decide +kernel
theorem dX15_check_391 : decode cX15_check 391 = .ok (.ireturn, 1) := by decide +kernel
theorem kt_1168 : Cond.code yX15_recordOf cX15_recordOf 5 (some .int) ∈ tb := tb_at (i := 1545) (by decide +kernel) (by decide +kernel)
theorem kt_1169 : Cond.methodLink RX15 311 yX15_recordOf ∈ tb := tb_at (i := 1542) (by decide +kernel) (by decide +kernel)
theorem kt_1170 : Cond.instanceMethod yX15_recordOf ∈ tb := tb_at (i := 1544) (by decide +kernel) (by decide +kernel)
theorem kt_1171 : Cond.selects RX15 yX15_recordOf yX15_recordOf ∈ tb := tb_at (i := 46) (by decide +kernel) (by decide +kernel)
theorem kt_1172 : Cond.code yX15_blankFrom cX15_blankFrom 3 (some .int) ∈ tb := tb_at (i := 1558) (by decide +kernel) (by decide +kernel)
theorem kt_1173 : Cond.methodLink RX15 315 yX15_blankFrom ∈ tb := tb_at (i := 1556) (by decide +kernel) (by decide +kernel)
theorem kt_1174 : Cond.static yX15_blankFrom ∈ tb := tb_at (i := 1557) (by decide +kernel) (by decide +kernel)
theorem kt_1175 : Cond.code yX15_wordEnd cX15_wordEnd 3 (some .int) ∈ tb := tb_at (i := 1561) (by decide +kernel) (by decide +kernel)
theorem kt_1176 : Cond.methodLink RX15 318 yX15_wordEnd ∈ tb := tb_at (i := 1559) (by decide +kernel) (by decide +kernel)
theorem kt_1177 : Cond.static yX15_wordEnd ∈ tb := tb_at (i := 1560) (by decide +kernel) (by decide +kernel)
theorem kt_1178 : Cond.code yX15_readTerm cX15_readTerm 7 none ∈ tb := tb_at (i := 1565) (by decide +kernel) (by decide +kernel)
theorem kt_1179 : Cond.methodLink RX15 321 yX15_readTerm ∈ tb := tb_at (i := 1562) (by decide +kernel) (by decide +kernel)
theorem kt_1180 : Cond.instanceMethod yX15_readTerm ∈ tb := tb_at (i := 1564) (by decide +kernel) (by decide +kernel)
theorem kt_1181 : Cond.selects RX15 yX15_readTerm yX15_readTerm ∈ tb := tb_at (i := 47) (by decide +kernel) (by decide +kernel)
theorem kt_1182 : Cond.code yX15_matches cX15_matches 10 (some .int) ∈ tb := tb_at (i := 1599) (by decide +kernel) (by decide +kernel)
theorem kt_1183 : Cond.methodLink RX15 324 yX15_matches ∈ tb := tb_at (i := 1596) (by decide +kernel) (by decide +kernel)
theorem kt_1184 : Cond.instanceMethod yX15_matches ∈ tb := tb_at (i := 1598) (by decide +kernel) (by decide +kernel)
theorem kt_1185 : Cond.selects RX15 yX15_matches yX15_matches ∈ tb := tb_at (i := 50) (by decide +kernel) (by decide +kernel)
def ORH (p9 q9 : Prop) : Prop := p9 ∨ q9
def HID (p9 : Prop) : Prop := p9
set_option maxHeartbeats 4000000 in
set_option maxRecDepth 100000 in
theorem s_X15_check_x (l : Launch) (dC : Nat → ClassId) (dI : Nat → Nat → Nat) (cs : Nat → ClassId) (ty : TyM) (gm : Nat → Nat → Nat) (L : List Nat) (sz : Nat) (F : Nat → va_E) (h0 : Nat) (ρ : Nat) (ta : Nat) (ou : Nat) (so : Nat) (ad : Nat) (na : Nat) (va : Nat) (lc : Nat) (dm : Nat) (tg : Nat) (pe : Nat) (ml : Nat) (bg : Nat) (co : Nat) (sp : Nat) (nb0 : Nat) (nb1 : Nat) (nb2 : Nat) (pl : Nat) (se : Nat) (ke : Nat) (wi : Nat) (hs : Nat) (mo : Nat) (po : Nat) (nu : Nat) (pr : Nat) (sq : Nat) (xa : Nat) (sa : Nat) (n64 : Nat) (m64 : Nat) (ex : Nat) (wh : Nat) (sd : Nat) (tk : Nat) (hd : Nat) (ak : Nat) (ho : Nat) (ot : Nat) (sx : Nat) (s0 : Nat) (s1 : Nat) (s2 : Nat) (nf : Nat) (bd : Nat) (mm : Nat) (zo : Nat) (fm : Nat) (sn : Nat) (gc : Nat) (gv : Nat) (ze : Nat) (zt : Nat) (rp : Nat) (v17 : Int32) (v18 : Int32) (v19 : Int32) (v20 : Int32) (v21 : Int32) (v22 : Int32) (v33 : Int32) (v52 : Int32) (v53 : Int32) (v54 : Int32) (dd : Nat) (τ : Nat) (rd : Nat) (nd : Nat) (lv : Nat) (cc : Nat) (vo : Nat) (y : Nat) (hf : Nat → Int32) (U : List Nat) (D : Nat → ETY) (LC : List Nat) (DN : List Nat) (R : CKR) (fr : Nat) (lo : Nat) (hW : WTm ty gm L) (hL_h0 : h0 ∈ L) (hT_h0 : ty h0 = (15, ρ, [ta, ou, so, ad, na, va, lc, dm, tg, pe, ml, bg, co, sp, nb0, nb1, nb2, pl, se, ke, wi, hs, mo, po, nu, pr, sq, xa, sa, n64, m64, ex, wh, sd, tk, hd, ak, ho, ot, sx, s0, s1, s2, nf, bd, mm, zo, fm, sn, 0, gc, gv, ze, zt])) (hL_pe : pe ∈ L) (hT_pe : ty pe = (14, ρ + 7, [rp, 100])) (hL_dd : dd ∈ L) (hT_dd : ty dd = (14, τ, [rd, nd])) (hF0 : F h0 = .inr (15, (.ref ta) :: (.int (nI zt)) :: (.int (nI zo)) :: (.int (nI ze)) :: (.ref ou) :: (.ref so) :: (.ref ad) :: (.ref na) :: (.ref va) :: (.ref lc) :: (.ref dm) :: (.int (nI fm)) :: (.int (nI sn)) :: (.ref tg) :: (.int (nI cc)) :: (.int (nI vo)) :: (.ref pe) :: (.int v17) :: (.int v18) :: (.int v19) :: (.int v20) :: (.int v21) :: (.int v22) :: (.ref ml) :: (.ref bg) :: (.ref co) :: (.ref sp) :: (.ref nb0) :: (.ref nb1) :: (.ref nb2) :: (.int (nI nf)) :: (.int (nI bd)) :: (.int (nI mm)) :: (.int v33) :: (.ref pl) :: (.ref se) :: (.ref ke) :: (.ref wi) :: (.ref hs) :: (.ref mo) :: (.ref po) :: (.ref nu) :: (.ref pr) :: (.ref sq) :: (.ref xa) :: (.ref sa) :: (.ref n64) :: (.ref m64) :: (.ref ex) :: (.ref wh) :: (.ref sd) :: (.ref tk) :: (.int v52) :: (.int v53) :: (.int v54) :: (.ref hd) :: (.ref ak) :: (.ref ho) :: (.ref ot) :: [])) (hzo : zo ≤ 6000) (hze : ze ≤ 40) (h33 : ((v33 = 0 ∧ nf = 0) ∨ (v33 = 1 ∧ 1 ≤ nf))) (h54 : (v54 = 0 ∨ v54 = 1)) (hF1 : F dd = .inr (14, [.ref rd, .int (nI y)])) (hFr1 : F rd = .inl (cs 17, nd, .inl hf)) (hyn : y ≤ nd) (hTU : TGM U y hf) (hDM : DIRM cs F so ad na va ze D) (hLC : TXM cs F lc 30 LC) (hDN : TXM cs F dm 60 DN) (hlc : lv ≤ cc) (hc10 : cc ≤ 10) (hvo : vo ≤ cc) (hA8 : A8 U) (hnd : nd ≤ 61) (htr : (τ = ρ + 32 ∨ τ + 1 = ρ + 300 + lv)) (hlv : lv ≤ 10) (hVN : ∀ k, k < ze → (D k).1 = 2 → SRC (vlL (D k)) (D k).2.2.2.2.1 (D k).2.2.2.2.2 ∧ (D k).2.2.2.2.1 ≤ 60) (hPR : PRR R) (hC : ∀ (sz : Nat) (F : Nat → va_E) (v17 : Int32) (v18 : Int32) (v19 : Int32) (v20 : Int32) (v21 : Int32) (v22 : Int32) (v33 : Int32) (v52 : Int32) (v53 : Int32) (v54 : Int32) (dd : Nat) (τ : Nat) (rd : Nat) (nd : Nat) (cc : Nat) (vo : Nat) (y : Nat) (hf : Nat → Int32) (U : List Nat), dd ∈ L → ty dd = (14, τ, [rd, nd]) → (F h0 = .inr (15, (.ref ta) :: (.int (nI zt)) :: (.int (nI zo)) :: (.int (nI ze)) :: (.ref ou) :: (.ref so) :: (.ref ad) :: (.ref na) :: (.ref va) :: (.ref lc) :: (.ref dm) :: (.int (nI fm)) :: (.int (nI sn)) :: (.ref tg) :: (.int (nI cc)) :: (.int (nI vo)) :: (.ref pe) :: (.int v17) :: (.int v18) :: (.int v19) :: (.int v20) :: (.int v21) :: (.int v22) :: (.ref ml) :: (.ref bg) :: (.ref co) :: (.ref sp) :: (.ref nb0) :: (.ref nb1) :: (.ref nb2) :: (.int (nI nf)) :: (.int (nI bd)) :: (.int (nI mm)) :: (.int v33) :: (.ref pl) :: (.ref se) :: (.ref ke) :: (.ref wi) :: (.ref hs) :: (.ref mo) :: (.ref po) :: (.ref nu) :: (.ref pr) :: (.ref sq) :: (.ref xa) :: (.ref sa) :: (.ref n64) :: (.ref m64) :: (.ref ex) :: (.ref wh) :: (.ref sd) :: (.ref tk) :: (.int v52) :: (.int v53) :: (.int v54) :: (.ref hd) :: (.ref ak) :: (.ref ho) :: (.ref ot) :: [])) → (zo ≤ 6000) → (ze ≤ 40) → (((v33 = 0 ∧ nf = 0) ∨ (v33 = 1 ∧ 1 ≤ nf))) → ((v54 = 0 ∨ v54 = 1)) → (F dd = .inr (14, [.ref rd, .int (nI y)])) → (F rd = .inl (cs 17, nd, .inl hf)) → (y ≤ nd) → (TGM U y hf) → (DIRM cs F so ad na va ze D) → (TXM cs F lc 30 LC) → (TXM cs F dm 60 DN) → (lv + 1 ≤ cc) → (cc ≤ 10) → (vo ≤ cc) → (A8 U) → (nd ≤ 61) → ((τ = ρ + 32 ∨ τ + 1 = ρ + 300 + (lv + 1))) → Met l yX15_check (.code yX15_check cX15_check 10 (some .int) :: tb) ({ frames := fr + 0, cells := 0, slots := 0, locals := lo + 0 }) (va_Pc [.ref h0, .ref dd, .int (nI (lv + 1))] (PTEm (dC, dI) cs ty gm L F sz [])) (va_Qi (fun (r : Int32) (gp : Nat × Nat) => (r = nI (R U cc vo).1 ∧ gp = (R U cc vo).2)) (fun (gp : Nat × Nat) T9 => ∃ F2 : Nat → va_E, ∃ u17 : Int32, ∃ u18 : Int32, ∃ u19 : Int32, ∃ u20 : Int32, ∃ u21 : Int32, ∃ u22 : Int32, QTm (dC, dI) cs ty gm L (tgS ρ (lv + 1)) F F2 (va_A (va_pl L F) sz) T9 ∧ F2 h0 = .inr (15, (.ref ta) :: (.int (nI zt)) :: (.int (nI zo)) :: (.int (nI ze)) :: (.ref ou) :: (.ref so) :: (.ref ad) :: (.ref na) :: (.ref va) :: (.ref lc) :: (.ref dm) :: (.int (nI fm)) :: (.int (nI sn)) :: (.ref tg) :: (.int (nI gp.1)) :: (.int (nI gp.2)) :: (.ref pe) :: (.int u17) :: (.int u18) :: (.int u19) :: (.int u20) :: (.int u21) :: (.int u22) :: (.ref ml) :: (.ref bg) :: (.ref co) :: (.ref sp) :: (.ref nb0) :: (.ref nb1) :: (.ref nb2) :: (.int (nI nf)) :: (.int (nI bd)) :: (.int (nI mm)) :: (.int v33) :: (.ref pl) :: (.ref se) :: (.ref ke) :: (.ref wi) :: (.ref hs) :: (.ref mo) :: (.ref po) :: (.ref nu) :: (.ref pr) :: (.ref sq) :: (.ref xa) :: (.ref sa) :: (.ref n64) :: (.ref m64) :: (.ref ex) :: (.ref wh) :: (.ref sd) :: (.ref tk) :: (.int v52) :: (.int v53) :: (.int v54) :: (.ref hd) :: (.ref ak) :: (.ref ho) :: (.ref ot) :: [])) (va_A (va_pl L F) sz)) 0 0 (va_A (va_pl L F) sz)) : Met l yX15_check (.code yX15_check cX15_check 10 (some .int) :: tb) ({ frames := fr + 7, cells := 0, slots := 0, locals := lo + 158 }) (va_Pc [.ref h0, .ref dd, .int (nI lv)] (PTEm (dC, dI) cs ty gm L F sz [])) (va_Qi (fun (r : Int32) (gp : Nat × Nat) => (r = nI (chB D ze (sdM LC DN (nI fm)) (nI fm) R U cc vo).1 ∧ gp = (chB D ze (sdM LC DN (nI fm)) (nI fm) R U cc vo).2)) (fun (gp : Nat × Nat) T9 => ∃ F2 : Nat → va_E, ∃ u17 : Int32, ∃ u18 : Int32, ∃ u19 : Int32, ∃ u20 : Int32, ∃ u21 : Int32, ∃ u22 : Int32, QTm (dC, dI) cs ty gm L (tgS ρ lv) F F2 (va_A (va_pl L F) sz) T9 ∧ F2 h0 = .inr (15, (.ref ta) :: (.int (nI zt)) :: (.int (nI zo)) :: (.int (nI ze)) :: (.ref ou) :: (.ref so) :: (.ref ad) :: (.ref na) :: (.ref va) :: (.ref lc) :: (.ref dm) :: (.int (nI fm)) :: (.int (nI sn)) :: (.ref tg) :: (.int (nI gp.1)) :: (.int (nI gp.2)) :: (.ref pe) :: (.int u17) :: (.int u18) :: (.int u19) :: (.int u20) :: (.int u21) :: (.int u22) :: (.ref ml) :: (.ref bg) :: (.ref co) :: (.ref sp) :: (.ref nb0) :: (.ref nb1) :: (.ref nb2) :: (.int (nI nf)) :: (.int (nI bd)) :: (.int (nI mm)) :: (.int v33) :: (.ref pl) :: (.ref se) :: (.ref ke) :: (.ref wi) :: (.ref hs) :: (.ref mo) :: (.ref po) :: (.ref nu) :: (.ref pr) :: (.ref sq) :: (.ref xa) :: (.ref sa) :: (.ref n64) :: (.ref m64) :: (.ref ex) :: (.ref wh) :: (.ref sd) :: (.ref tk) :: (.int v52) :: (.int v53) :: (.int v54) :: (.ref hd) :: (.ref ak) :: (.ref ho) :: (.ref ot) :: [])) (va_A (va_pl L F) sz)) 0 0 (va_A (va_pl L F) sz) := by
  refine Met.ofW (cc := cX15_check) (maxL := 10) (ret := (some .int)) (by decide) rfl ?_
  intro p e s m args below meth c s₁ B hml hv
  obtain ⟨rfl, ⟨hsz, hP, hK, hD0, hE, hO⟩, hG, hX⟩ := hv
  have hx := B.exec
  have hb := B.bytes
  have hr := B.returns
  have hts : ∀ w ∈ tb, w.before _ s = true := fun w h => atoms_spec (ws := .code yX15_check cX15_check 10 (some .int) :: tb) B.pre w (List.mem_cons_of_mem _ h)
  have hown : s.vm.findClass RX15 = some m.cls := findClass_of_methodNamed B.named
  have hlocks := B.notSynchronized
  subst hsz
  have hD := hD0.self (sz := s.heap.size)
  generalize hAe : va_A (va_pl L F) s.heap.size = A at hD hG hX ⊢
  have hA : ∀ q : Nat, s.heap.size ≤ q → A q := fun q h => by rw [← hAe]; exact Or.inr h
  have hS : va_S A s.heap s.heap [] := va_S.rf
  have hR : FR ty (tgS ρ lv) F F := FR.refl
  have hl := lv_entry ([.ref h0, .ref dd, .int (nI lv)]) (n := 10) (Nat.le_of_ble_eq_true rfl)
  rw [lg_entry_eq]
  generalize (lg_sl ([.ref h0, .ref dd, .int (nI lv)]) ++ List.replicate (10 - (lg_sl ([.ref h0, .ref dd, .int (nI lv)])).length) Slot.unset).toArray = ls at hl ⊢
  have hl : lv_has ls 10 [(0, .ref h0), (1, .ref dd), (2, .int (nI lv))] := hl
  obtain ⟨hq_22, hq_23, hq_24, hq_25, hq_26, hgO, hgA, hgB, hq_27⟩ := hW.sc hL_h0 hT_h0
  obtain ⟨hi_28, ht_29, hq_30⟩ := hW.txt hL_pe hT_pe
  obtain ⟨hi_31, ht_32, hq_33⟩ := hW.txt hL_dd hT_dd
  have hO0 := hO
  obtain ⟨hLs0, hTs0⟩ := hW.f_so hL_h0 hT_h0
  obtain ⟨hLd0, hTd0⟩ := hW.f_ad hL_h0 hT_h0
  obtain ⟨hLn0, hTn0⟩ := hW.f_na hL_h0 hT_h0
  obtain ⟨hLv0, hTv0⟩ := hW.f_va hL_h0 hT_h0
  obtain ⟨fs, fd, fn, fv, hd1, hd2, hd3, hd4, hd5⟩ := id hDM
  have htr1 : ρ + 32 ≤ τ ∧ τ < ρ + 300 + lv := by omega
  replace htr : ORH (τ = ρ + 32) (τ + 1 = ρ + 300 + lv) := htr
  obtain ⟨hi_34, ht_35⟩ := hW.f_va hL_h0 hT_h0
  obtain ⟨f_36, hF_37, hq_38⟩ := hO.rtxj hi_34 ht_35
  obtain rfl : f_36 = fv := by have e9 := hF_37.symm.trans hd4; simpa using e9
  obtain ⟨hi_39, ht_40⟩ := hW.f_tg hL_h0 hT_h0
  obtain ⟨f_41, hF_42, hq_43⟩ := hO.rtxj hi_39 ht_40
  obtain ⟨hi_44, r_1, ht_45⟩ := hW.f_lc hL_h0 hT_h0
  obtain ⟨hi_46, ht_47, hq_48⟩ := hW.txt hi_44 ht_45
  obtain ⟨z_49, hF_50, hq_51⟩ := hO.txt hi_44 ht_45
  obtain ⟨hi_52, r_2, ht_53⟩ := hW.f_dm hL_h0 hT_h0
  obtain ⟨hi_54, ht_55, hq_56⟩ := hW.txt hi_52 ht_53
  obtain ⟨z_57, hF_58, hq_59⟩ := hO.txt hi_52 ht_53
  refine lv_aload_n hx hb dX15_check_0 rfl (lv_at hl 0 rfl) ?_
  refine lv_aload_n hx hb dX15_check_1 rfl (lv_at hl 1 rfl) ?_
  obtain ⟨hq_60, hq_61⟩ := hW.octs hi_31 ht_32
  have hFc := pg_free hD hS hA
  refine va_calli (va_runV (As := [.ref dd]) (rest := []) ⟨hx, hb, hml, hown, hts⟩ (s_X15_isTrouble_x l dC dI cs ty gm L s.heap.size F h0 ρ ta ou so ad na va lc dm tg pe ml bg co sp nb0 nb1 nb2 pl se ke wi hs mo po nu pr sq xa sa n64 m64 ex wh sd tk hd ak ho ot sx s0 s1 s2 nf bd mm zo fm sn 0 gc gv ze zt dd τ rd nd y hf U D hW hL_h0 hT_h0 hL_dd hT_dd hF1 hFr1 (hyn) (hTU) (hDM)) ⟨callB_of 1 hts (gi kt_736) rfl rfl rfl (hts _ kt_669) (hts _ kt_737) (by decide +kernel) ⟨by show 3 + 1 ≤ fr + 7; omega, by show 8 + (3 + 11) + 68 ≤ lo + 158; omega⟩, (hts _ kt_738), (hts _ kt_739)⟩ ⟨fun a U g mk q => ⟨q.1, PTm.calling q.2⟩, pg_recv hK hP hL_h0 hF0 (q := (RX15, TX15, 59)) rfl, fun U hU hWm => ⟨rfl, PTm.mk hU hWm hP hK hD hE hO⟩⟩ rfl rfl hl.1 rfl (lv_room (Nat.le_of_ble_eq_true rfl)) dX15_check_2 ⟨by show _ + 0 ≤ 0; omega, by show _ + 0 ≤ 0; omega⟩) hS (fun q _ h => hFc q h) hFc (fun r_62 u t H1 locs ht hvm hw hB hz1 hk1 hS => ?_)
  obtain ⟨F_63, hB1⟩ := hB
  obtain rfl : F = F_63 := (funext (fun a => hB1.2.2.2 a List.not_mem_nil)).symm
  obtain ⟨hP, hD, hO, hR⟩ := QTm.back hB1 ht hFc hR (fun q h => absurd h List.not_mem_nil)
  generalize H1 = H at hP hS ⊢
  have hw_64 : ORP r_62 (HAS D ze 3 (ooU U) (yU U) (faU U)) := hw
  clear hw
  refine lv_if_eq (tgt := 10) hx hb dX15_check_5 (by decide) (fun c_65 => ?_) (fun c_65 => ?_)
  ·
    have hHAn := orp0 hw_64 c_65
    refine lv_aload_n hx hb dX15_check_10 rfl (lv_at hl 0 rfl) ?_
    refine lv_aload_n hx hb dX15_check_11 rfl (lv_at hl 1 rfl) ?_
    have hFc := pg_free hD hS hA
    refine va_calli (va_runV (As := [.ref dd]) (rest := []) ⟨hx, hb, hml, hown, hts⟩ (s_X15_recordOf_x l dC dI cs ty gm L H.size F h0 ρ ta ou so ad na va lc dm tg pe ml bg co sp nb0 nb1 nb2 pl se ke wi hs mo po nu pr sq xa sa n64 m64 ex wh sd tk hd ak ho ot sx s0 s1 s2 nf bd mm zo fm sn 0 gc gv ze zt dd τ rd nd y hf U D hW hL_h0 hT_h0 hL_dd hT_dd hF1 hFr1 (hyn) (hTU) (hDM)) ⟨callB_of 1 hts (gi kt_1168) rfl rfl rfl (hts _ kt_669) (hts _ kt_1169) (by decide +kernel) ⟨by show 6 + 1 ≤ fr + 7; omega, by show 8 + (5 + 11) + 132 ≤ lo + 158; omega⟩, (hts _ kt_1170), (hts _ kt_1171)⟩ ⟨fun a U g mk q => ⟨q.1, PTEm.calling q.2⟩, pg_recv hK hP hL_h0 hF0 (q := (RX15, TX15, 59)) rfl, fun U hU hWm => ⟨rfl, PTEm.mk hU hWm hP hK hD hE hO hG (fun x hx => absurd hx List.not_mem_nil) hS hFc⟩⟩ rfl rfl hl.1 rfl (lv_room (Nat.le_of_ble_eq_true rfl)) dX15_check_12 ⟨by show _ + 0 ≤ 0; omega, by show _ + 0 ≤ 0; omega⟩) hS (fun q _ h => hFc q h) hFc (fun r_66 u t H1 locs ht hvm hw hB hz1 hk1 hS => ?_)
    obtain ⟨F_67, hB1⟩ := hB
    obtain rfl : F = F_67 := (funext (fun a => hB1.2.2.2 a List.not_mem_nil)).symm
    obtain ⟨hP, hD, hO, hR⟩ := QTm.back hB1 ht hFc hR (fun q h => absurd h List.not_mem_nil)
    generalize H1 = H at hP hS ⊢
    have hw : r_66 = otw D (ooU U) (yU U) (faU U) 6 SPF ze := hw
    subst hw
    refine lv_istore_n (lv' := [(3, .int (otw D (ooU U) (yU U) (faU U) 6 SPF ze)), (0, .ref h0), (1, .ref dd), (2, .int (nI lv))]) hx hb dX15_check_15 rfl hl (by decide) rfl (fun ls hl => ?_)
    refine lv_iload_n hx hb dX15_check_16 rfl (lv_at hl 0 rfl) ?_
    refine lv_if_ge (tgt := 32) hx hb dX15_check_17 (by decide) (fun c_68 => ?_) (fun c_68 => ?_)
    ·
      obtain ⟨jr, hjr, hOW, hOQ⟩ := otw_ge (D := D) (oo := ooU U) (y := yU U) (fa := faU U) (k := 6) (l := SPF) ze (Int32.not_lt.mpr c_68)
      have hl : lv_has ls 10 [(3, .int (nI jr)), (0, .ref h0), (1, .ref dd), (2, .int (nI lv))] := by rw [← hOW]; exact hl
      have hU60 : U.length ≤ 60 := Nat.not_lt.mp (fun c9 => absurd (show (1 : Int32) = 0 from (if_pos c9).symm.trans hOQ.2.1.1) (by decide))
      have hSU : SRC U y hf := ⟨by have h9 := hTU.1; omega, hTU.2, fun j _ => hA8 j⟩
      have hTD : TXM cs F dd nd U := ⟨rd, y, hf, hF1, hFr1, hSU, hyn⟩
      have h6z : 6 ≤ (D jr).2.2.2.2.1 := by have h9 := hOQ.2.2.1.1; omega
      have h6t : ORH ((D jr).2.2.2.2.1 ≤ 6) ((TC (D jr).2.2.2.2.2 (D jr).2.2.2.2.1) 6 = 32) := hOQ.2.2.2
      refine lv_aload_n hx hb dX15_check_32 rfl (lv_at hl 1 rfl) ?_
      refine pg_get (ci := 15) (v := .ref va) (C := RX15) (T := TX15) (N := 59) hx hb hts it_15 hown hK hP hL_h0 hF0 rfl 8 (by decide) (hts _ kt_732) (fun _ h9 => h9) rfl dX15_check_33 ?_
      refine lv_iload_n hx hb dX15_check_36 rfl (lv_at hl 0 rfl) ?_
      obtain ⟨b_69, r_70, hbf_71, hi_72, ht_73⟩ := hq_38 jr (by omega)
      refine pg_aald (r := b_69) hx hb hK hP hi_34 7 hF_37 rfl (vp_in_nI (by omega) (by omega)) (show f_36 ((nI jr) : Int32).toNatClampNeg = _ from by rw [show ((nI jr) : Int32) = nI jr from rfl, nI_clamp (by omega)]; exact hbf_71) dX15_check_37 ?_
      obtain ⟨hen1a, hen1b, hen1c⟩ := ENM.get (hd5 jr hjr).2.2.2 hbf_71 hO hi_72 ht_73
      obtain ⟨hi_74, ht_75, hq_76⟩ := hW.txt hi_72 ht_73
      refine lv_astore (lv' := [(4, .ref b_69), (3, .int (nI jr)), (0, .ref h0), (1, .ref dd), (2, .int (nI lv))]) hx hb dX15_check_38 hl (by decide) rfl (fun ls hl => ?_)
      refine lv_iconst (v := 0) hx hb dX15_check_40 (by decide) ?_
      refine lv_istore (lv' := [(5, .int 0), (4, .ref b_69), (3, .int (nI jr)), (0, .ref h0), (1, .ref dd), (2, .int (nI lv))]) hx hb dX15_check_41 hl (by decide) rfl (fun ls hl => ?_)
      refine lv_iconst (v := (-1)) hx hb dX15_check_43 (by decide) ?_
      refine lv_istore (lv' := [(6, .int (-1)), (5, .int 0), (4, .ref b_69), (3, .int (nI jr)), (0, .ref h0), (1, .ref dd), (2, .int (nI lv))]) hx hb dX15_check_44 hl (by decide) rfl (fun ls hl => ?_)
      have hl : lv_has ls 10 [(6, .int (tnv 0)), (5, .int 0), (4, .ref b_69), (3, .int (nI jr)), (0, .ref h0), (1, .ref dd), (2, .int (nI lv))] := hl
      obtain ⟨ht0a, ht0b⟩ := tat_0 h6z h6t
      refine lv_aload hx hb dX15_check_46 (lv_at hl 2 rfl) ?_
      refine lv_bipush (v := 6) hx hb dX15_check_48 (by decide) ?_
      refine W.eq (g2 := F0 m 50 ls [.int (nI 6), .ref b_69]) rfl ?_
      obtain ⟨hq_77, hq_78⟩ := hW.octs hi_74 ht_75
      have hFc := pg_free hD hS hA
      refine va_calli (va_runS (As := [.ref b_69, .int (nI 6)]) (rest := []) ⟨hx, hb, hml, hown, hts⟩ (s_X15_blankFrom_x l dC dI cs ty gm L H.size F b_69 (ρ + 50 + jr + 100) r_70 700 ((D jr).2.2.2.2.1) 6 ((D jr).2.2.2.2.2) hW hi_72 ht_73 hen1a hen1b (hen1c) (by omega) (by omega)) ⟨callB_of 2 hts (gi kt_1172) rfl rfl rfl (hts _ kt_669) (hts _ kt_1173) (by decide +kernel) ⟨by show 0 + 1 ≤ fr + 7; omega, by show 8 + (3 + 11) + 0 ≤ lo + 158; omega⟩, (hts _ kt_1174)⟩ ⟨fun a U g mk q => ⟨q.1, PTm.calling q.2⟩, fun U hU hWm => ⟨rfl, PTm.mk hU hWm hP hK hD hE hO⟩⟩ rfl rfl hl.1 rfl (lv_room (Nat.le_of_ble_eq_true rfl)) dX15_check_50 ⟨by show _ + 0 ≤ 0; omega, by show _ + 0 ≤ 0; omega⟩) hS (fun q _ h => hFc q h) hFc (fun r_79 u t H1 locs ht hvm hw hB hz1 hk1 hS => ?_)
      obtain ⟨F_80, hB1⟩ := hB
      obtain rfl : F = F_80 := (funext (fun a => hB1.2.2.2 a List.not_mem_nil)).symm
      obtain ⟨hP, hD, hO, hR⟩ := QTm.back hB1 ht hFc hR (fun q h => absurd h List.not_mem_nil)
      generalize H1 = H at hP hS ⊢
      have hw : r_79 = nI (bkT (TC (D jr).2.2.2.2.2 (D jr).2.2.2.2.1) 6 (D jr).2.2.2.2.1) := hw
      subst hw
      refine lv_istore (lv' := [(7, .int (nI (bkT (TC (D jr).2.2.2.2.2 (D jr).2.2.2.2.1) 6 (D jr).2.2.2.2.1))), (6, .int (tnv 0)), (5, .int 0), (4, .ref b_69), (3, .int (nI jr)), (0, .ref h0), (1, .ref dd), (2, .int (nI lv))]) hx hb dX15_check_53 hl (by decide) rfl (fun ls hl => ?_)
      refine W.widen (k := 0) (n := 0) (by omega) (by omega) ?_
      have hF_82 : F dd = .inr (14, [.ref rd, .int (nI y)]) := (hR dd (by rw [hT_dd]; simp only [mem_tgS, List.mem_cons, List.not_mem_nil, or_false]; omega)).symm.trans hF1
      have hF_83 : F rd = .inl (cs 17, nd, .inl hf) := (hR rd (by rw [ht_32]; simp only [mem_tgS, List.mem_cons, List.not_mem_nil, or_false]; omega)).symm.trans hFr1
      have hF_84 : F va = .inl (cs 23, 40, .inr (.inr (.inr (.inr f_36)))) := (hR va (by rw [ht_35]; simp only [mem_tgS, List.mem_cons, List.not_mem_nil, or_false]; omega)).symm.trans hF_37
      have hF_85 : F tg = .inl (cs 23, 13, .inr (.inr (.inr (.inr f_41)))) := (hR tg (by rw [ht_40]; simp only [mem_tgS, List.mem_cons, List.not_mem_nil, or_false]; omega)).symm.trans hF_42
      have hF_86 : F lc = .inr (14, [.ref r_1, .int (nI z_49)]) := (hR lc (by rw [ht_45]; simp only [mem_tgS, List.mem_cons, List.not_mem_nil, or_false]; omega)).symm.trans hF_50
      have hF_87 : F dm = .inr (14, [.ref r_2, .int (nI z_57)]) := (hR dm (by rw [ht_53]; simp only [mem_tgS, List.mem_cons, List.not_mem_nil, or_false]; omega)).symm.trans hF_58
      have hF_88 : F b_69 = .inr (14, [.ref r_70, .int (nI (D jr).2.2.2.2.1)]) := (hR b_69 (by rw [ht_73]; simp only [mem_tgS, List.mem_cons, List.not_mem_nil, or_false]; omega)).symm.trans hen1a
      have hF_89 : F r_70 = .inl (cs 17, 700, .inl ((D jr).2.2.2.2.2)) := (hR r_70 (by rw [ht_75]; simp only [mem_tgS, List.mem_cons, List.not_mem_nil, or_false]; omega)).symm.trans hen1b
      refine pl_loopm (σ := Nat × Int32 × Nat × Int32 × Int32 × Int32 × Int32 × Int32 × Int32) A (dC, dI) cs ty gm L (tgS ρ lv) F 55 10 (fun (j, w5, rd9, q17, q18, q19, q20, q21, q22) => [(7, .int (nI j)), (6, .int (tnv rd9)), (5, .int w5), (4, .ref b_69), (3, .int (nI jr)), (0, .ref h0), (1, .ref dd), (2, .int (nI lv))]) (fun (j, w5, rd9, q17, q18, q19, q20, q21, q22) => []) (fun (j, w5, rd9, q17, q18, q19, q20, q21, q22) FF => TAT (TC (D jr).2.2.2.2.2 (D jr).2.2.2.2.1) (D jr).2.2.2.2.1 j ∧ 6 ≤ j ∧ RTS (TC (D jr).2.2.2.2.2 (D jr).2.2.2.2.1) (D jr).2.2.2.2.1 j rd9 ∧ rd9 ≤ j ∧ ORH (w5 = 0) (w5 = 1 ∧ ALP (TC (D jr).2.2.2.2.2 (D jr).2.2.2.2.1) (D jr).2.2.2.2.1 j) ∧ FF h0 = .inr (15, (.ref ta) :: (.int (nI zt)) :: (.int (nI zo)) :: (.int (nI ze)) :: (.ref ou) :: (.ref so) :: (.ref ad) :: (.ref na) :: (.ref va) :: (.ref lc) :: (.ref dm) :: (.int (nI fm)) :: (.int (nI sn)) :: (.ref tg) :: (.int (nI cc)) :: (.int (nI vo)) :: (.ref pe) :: (.int q17) :: (.int q18) :: (.int q19) :: (.int q20) :: (.int q21) :: (.int q22) :: (.ref ml) :: (.ref bg) :: (.ref co) :: (.ref sp) :: (.ref nb0) :: (.ref nb1) :: (.ref nb2) :: (.int (nI nf)) :: (.int (nI bd)) :: (.int (nI mm)) :: (.int v33) :: (.ref pl) :: (.ref se) :: (.ref ke) :: (.ref wi) :: (.ref hs) :: (.ref mo) :: (.ref po) :: (.ref nu) :: (.ref pr) :: (.ref sq) :: (.ref xa) :: (.ref sa) :: (.ref n64) :: (.ref m64) :: (.ref ex) :: (.ref wh) :: (.ref sd) :: (.ref tk) :: (.int v52) :: (.int v53) :: (.int v54) :: (.ref hd) :: (.ref ak) :: (.ref ho) :: (.ref ot) :: [])) (fun (j, w5, rd9, q17, q18, q19, q20, q21, q22) => (D jr).2.2.2.2.1 - j) ?_ ((bkT (TC (D jr).2.2.2.2.2 (D jr).2.2.2.2.1) 6 (D jr).2.2.2.2.1), 0, 0, v17, v18, v19, v20, v21, v22) F (⟨ht0a, (bkT_p h6z).1, rts_0 h6z h6t, Nat.zero_le _, Or.inl rfl, hF0⟩) hO hR _ _ hP hD hS ls (lv_sub hl [0, 1, 2, 3, 4, 5, 6, 7] rfl)
      rintro ⟨j, w5, rd9, q17, q18, q19, q20, q21, q22⟩ F_81 hv_90 hO hR ih_91 H locs hP hD hS ls hl
      have hl : lv_has ls 10 [(7, .int (nI j)), (6, .int (tnv rd9)), (5, .int w5), (4, .ref b_69), (3, .int (nI jr)), (0, .ref h0), (1, .ref dd), (2, .int (nI lv))] := hl
      have hv_90 : TAT (TC (D jr).2.2.2.2.2 (D jr).2.2.2.2.1) (D jr).2.2.2.2.1 j ∧ 6 ≤ j ∧ RTS (TC (D jr).2.2.2.2.2 (D jr).2.2.2.2.1) (D jr).2.2.2.2.1 j rd9 ∧ rd9 ≤ j ∧ ORH (w5 = 0) (w5 = 1 ∧ ALP (TC (D jr).2.2.2.2.2 (D jr).2.2.2.2.1) (D jr).2.2.2.2.1 j) ∧ F_81 h0 = .inr (15, (.ref ta) :: (.int (nI zt)) :: (.int (nI zo)) :: (.int (nI ze)) :: (.ref ou) :: (.ref so) :: (.ref ad) :: (.ref na) :: (.ref va) :: (.ref lc) :: (.ref dm) :: (.int (nI fm)) :: (.int (nI sn)) :: (.ref tg) :: (.int (nI cc)) :: (.int (nI vo)) :: (.ref pe) :: (.int q17) :: (.int q18) :: (.int q19) :: (.int q20) :: (.int q21) :: (.int q22) :: (.ref ml) :: (.ref bg) :: (.ref co) :: (.ref sp) :: (.ref nb0) :: (.ref nb1) :: (.ref nb2) :: (.int (nI nf)) :: (.int (nI bd)) :: (.int (nI mm)) :: (.int v33) :: (.ref pl) :: (.ref se) :: (.ref ke) :: (.ref wi) :: (.ref hs) :: (.ref mo) :: (.ref po) :: (.ref nu) :: (.ref pr) :: (.ref sq) :: (.ref xa) :: (.ref sa) :: (.ref n64) :: (.ref m64) :: (.ref ex) :: (.ref wh) :: (.ref sd) :: (.ref tk) :: (.int v52) :: (.int v53) :: (.int v54) :: (.ref hd) :: (.ref ak) :: (.ref ho) :: (.ref ot) :: []) := hv_90
      refine W.eq (g2 := F0 m 55 ls []) rfl ?_
      have hF_92 : F_81 dd = .inr (14, [.ref rd, .int (nI y)]) := (hR dd (by rw [hT_dd]; simp only [mem_tgS, List.mem_cons, List.not_mem_nil, or_false]; omega)).trans hF_82
      have hF_93 : F_81 rd = .inl (cs 17, nd, .inl hf) := (hR rd (by rw [ht_32]; simp only [mem_tgS, List.mem_cons, List.not_mem_nil, or_false]; omega)).trans hF_83
      have hF_94 : F_81 va = .inl (cs 23, 40, .inr (.inr (.inr (.inr f_36)))) := (hR va (by rw [ht_35]; simp only [mem_tgS, List.mem_cons, List.not_mem_nil, or_false]; omega)).trans hF_84
      have hF_95 : F_81 tg = .inl (cs 23, 13, .inr (.inr (.inr (.inr f_41)))) := (hR tg (by rw [ht_40]; simp only [mem_tgS, List.mem_cons, List.not_mem_nil, or_false]; omega)).trans hF_85
      have hF_96 : F_81 lc = .inr (14, [.ref r_1, .int (nI z_49)]) := (hR lc (by rw [ht_45]; simp only [mem_tgS, List.mem_cons, List.not_mem_nil, or_false]; omega)).trans hF_86
      have hF_97 : F_81 dm = .inr (14, [.ref r_2, .int (nI z_57)]) := (hR dm (by rw [ht_53]; simp only [mem_tgS, List.mem_cons, List.not_mem_nil, or_false]; omega)).trans hF_87
      have hF_98 : F_81 b_69 = .inr (14, [.ref r_70, .int (nI (D jr).2.2.2.2.1)]) := (hR b_69 (by rw [ht_73]; simp only [mem_tgS, List.mem_cons, List.not_mem_nil, or_false]; omega)).trans hF_88
      have hF_99 : F_81 r_70 = .inl (cs 17, 700, .inl ((D jr).2.2.2.2.2)) := (hR r_70 (by rw [ht_75]; simp only [mem_tgS, List.mem_cons, List.not_mem_nil, or_false]; omega)).trans hF_89
      obtain ⟨hv1, hv0, hv2, hv3, hal, hv4⟩ := hv_90
      have hj7 : j ≤ 700 := by have h9 := hv1.1; omega
      refine lv_iload hx hb dX15_check_55 (lv_at hl 0 rfl) ?_
      refine lv_aload hx hb dX15_check_57 (lv_at hl 3 rfl) ?_
      refine pg_get (ci := 14) (v := .int (nI (D jr).2.2.2.2.1)) (C := RX14) (T := TX14) (N := 2) hx hb hts it_14 hown hK hP hi_72 hF_98 rfl 1 (by decide) (hts _ kt_709) (fun _ h9 => h9) rfl dX15_check_59 ?_
      refine lv_icmp_ge (tgt := 156) hx hb dX15_check_62 (by decide) (fun c_100 => ?_) (fun c_100 => ?_)
      ·
        have hi_101 : (D jr).2.2.2.2.1 ≤ j := leN (N := (D jr).2.2.2.2.1) c_100
        have hRT := rts_e hv2 (by omega)
        have hrdi : HID _ := rtw_in _ _ _ _ hRT
        have hall := rtw_all _ _ _ _ hRT
        have hend : ALP (TC (D jr).2.2.2.2.2 (D jr).2.2.2.2.1) (D jr).2.2.2.2.1 j → ALP (TC (D jr).2.2.2.2.2 (D jr).2.2.2.2.1) (D jr).2.2.2.2.1 (D jr).2.2.2.2.1 := fun q => q.mo hv1.1
        refine lv_aload hx hb dX15_check_156 (lv_at hl 3 rfl) ?_
        refine lv_bipush (v := 6) hx hb dX15_check_158 (by decide) ?_
        refine W.eq (g2 := F0 m 160 ls [.int (nI 6), .ref b_69]) rfl ?_
        have hFc := pg_free hD hS hA
        refine va_calli (va_runS (As := [.ref b_69, .int (nI 6)]) (rest := []) ⟨hx, hb, hml, hown, hts⟩ (s_X15_blankFrom_x l dC dI cs ty gm L H.size F_81 b_69 (ρ + 50 + jr + 100) r_70 700 ((D jr).2.2.2.2.1) 6 ((D jr).2.2.2.2.2) hW hi_72 ht_73 hF_98 hF_99 (hen1c) (by omega) (by omega)) ⟨callB_of 2 hts (gi kt_1172) rfl rfl rfl (hts _ kt_669) (hts _ kt_1173) (by decide +kernel) ⟨by show 0 + 1 ≤ fr + 7; omega, by show 8 + (3 + 11) + 0 ≤ lo + 158; omega⟩, (hts _ kt_1174)⟩ ⟨fun a U g mk q => ⟨q.1, PTm.calling q.2⟩, fun U hU hWm => ⟨rfl, PTm.mk hU hWm hP hK hD hE hO⟩⟩ rfl rfl hl.1 rfl (lv_room (Nat.le_of_ble_eq_true rfl)) dX15_check_160 ⟨by show _ + 0 ≤ 0; omega, by show _ + 0 ≤ 0; omega⟩) hS (fun q _ h => hFc q h) hFc (fun r_102 u t H1 locs ht hvm hw hB hz1 hk1 hS => ?_)
        obtain ⟨F_103, hB1⟩ := hB
        obtain rfl : F_81 = F_103 := (funext (fun a => hB1.2.2.2 a List.not_mem_nil)).symm
        obtain ⟨hP, hD, hO, hR⟩ := QTm.back hB1 ht hFc hR (fun q h => absurd h List.not_mem_nil)
        generalize H1 = H at hP hS ⊢
        have hw : r_102 = nI (bkT (TC (D jr).2.2.2.2.2 (D jr).2.2.2.2.1) 6 (D jr).2.2.2.2.1) := hw
        subst hw
        refine lv_istore (lv' := [(7, .int (nI (bkT (TC (D jr).2.2.2.2.2 (D jr).2.2.2.2.1) 6 (D jr).2.2.2.2.1))), (6, .int (tnv rd9)), (5, .int w5), (4, .ref b_69), (3, .int (nI jr)), (0, .ref h0), (1, .ref dd), (2, .int (nI lv))]) hx hb dX15_check_163 hl (by decide) rfl (fun ls hl => ?_)
        refine W.widen (k := 0) (n := 0) (by omega) (by omega) ?_
        have hF_105 : F dd = .inr (14, [.ref rd, .int (nI y)]) := (hR dd (by rw [hT_dd]; simp only [mem_tgS, List.mem_cons, List.not_mem_nil, or_false]; omega)).symm.trans hF_92
        have hF_106 : F rd = .inl (cs 17, nd, .inl hf) := (hR rd (by rw [ht_32]; simp only [mem_tgS, List.mem_cons, List.not_mem_nil, or_false]; omega)).symm.trans hF_93
        have hF_107 : F va = .inl (cs 23, 40, .inr (.inr (.inr (.inr f_36)))) := (hR va (by rw [ht_35]; simp only [mem_tgS, List.mem_cons, List.not_mem_nil, or_false]; omega)).symm.trans hF_94
        have hF_108 : F tg = .inl (cs 23, 13, .inr (.inr (.inr (.inr f_41)))) := (hR tg (by rw [ht_40]; simp only [mem_tgS, List.mem_cons, List.not_mem_nil, or_false]; omega)).symm.trans hF_95
        have hF_109 : F lc = .inr (14, [.ref r_1, .int (nI z_49)]) := (hR lc (by rw [ht_45]; simp only [mem_tgS, List.mem_cons, List.not_mem_nil, or_false]; omega)).symm.trans hF_96
        have hF_110 : F dm = .inr (14, [.ref r_2, .int (nI z_57)]) := (hR dm (by rw [ht_53]; simp only [mem_tgS, List.mem_cons, List.not_mem_nil, or_false]; omega)).symm.trans hF_97
        have hF_111 : F b_69 = .inr (14, [.ref r_70, .int (nI (D jr).2.2.2.2.1)]) := (hR b_69 (by rw [ht_73]; simp only [mem_tgS, List.mem_cons, List.not_mem_nil, or_false]; omega)).symm.trans hF_98
        have hF_112 : F r_70 = .inl (cs 17, 700, .inl ((D jr).2.2.2.2.2)) := (hR r_70 (by rw [ht_75]; simp only [mem_tgS, List.mem_cons, List.not_mem_nil, or_false]; omega)).symm.trans hF_99
        refine pl_loopm (σ := Nat × Nat × Nat × Int32 × Int32 × Int32 × Int32 × Int32 × Int32) A (dC, dI) cs ty gm L (tgS ρ lv) F 165 10 (fun (i, cj, vj, q17, q18, q19, q20, q21, q22) => [(7, .int (nI i)), (6, .int (tnv rd9)), (5, .int w5), (4, .ref b_69), (3, .int (nI jr)), (0, .ref h0), (1, .ref dd), (2, .int (nI lv))]) (fun (i, cj, vj, q17, q18, q19, q20, q21, q22) => []) (fun (i, cj, vj, q17, q18, q19, q20, q21, q22) FF => TAT (TC (D jr).2.2.2.2.2 (D jr).2.2.2.2.1) (D jr).2.2.2.2.1 i ∧ 6 ≤ i ∧ ((6 < (D jr).2.2.2.2.1 → tlw D ze (sdM LC DN (nI fm)) (nI fm) R (TC (D jr).2.2.2.2.2 (D jr).2.2.2.2.1) (D jr).2.2.2.2.1 U ((D jr).2.2.2.2.1 - i) i cj vj = (tlw D ze (sdM LC DN (nI fm)) (nI fm) R (TC (D jr).2.2.2.2.2 (D jr).2.2.2.2.1) (D jr).2.2.2.2.1 U ((D jr).2.2.2.2.1 - 7) 7 cc vo)) ∧ ((D jr).2.2.2.2.1 ≤ 6 → cj = cc ∧ vj = vo)) ∧ cc ≤ cj ∧ cj ≤ 10 ∧ vj ≤ cj ∧ (∀ p9, 7 ≤ p9 → p9 < i → STT (TC (D jr).2.2.2.2.2 (D jr).2.2.2.2.1) p9 → ∀ t, trT (TC (D jr).2.2.2.2.2 (D jr).2.2.2.2.1) p9 (fdT (TC (D jr).2.2.2.2.2 (D jr).2.2.2.2.1) 32 p9 (D jr).2.2.2.2.1) = some t → ¬ t.1 = 1) ∧ FF h0 = .inr (15, (.ref ta) :: (.int (nI zt)) :: (.int (nI zo)) :: (.int (nI ze)) :: (.ref ou) :: (.ref so) :: (.ref ad) :: (.ref na) :: (.ref va) :: (.ref lc) :: (.ref dm) :: (.int (nI fm)) :: (.int (nI sn)) :: (.ref tg) :: (.int (nI cj)) :: (.int (nI vj)) :: (.ref pe) :: (.int q17) :: (.int q18) :: (.int q19) :: (.int q20) :: (.int q21) :: (.int q22) :: (.ref ml) :: (.ref bg) :: (.ref co) :: (.ref sp) :: (.ref nb0) :: (.ref nb1) :: (.ref nb2) :: (.int (nI nf)) :: (.int (nI bd)) :: (.int (nI mm)) :: (.int v33) :: (.ref pl) :: (.ref se) :: (.ref ke) :: (.ref wi) :: (.ref hs) :: (.ref mo) :: (.ref po) :: (.ref nu) :: (.ref pr) :: (.ref sq) :: (.ref xa) :: (.ref sa) :: (.ref n64) :: (.ref m64) :: (.ref ex) :: (.ref wh) :: (.ref sd) :: (.ref tk) :: (.int v52) :: (.int v53) :: (.int v54) :: (.ref hd) :: (.ref ak) :: (.ref ho) :: (.ref ot) :: [])) (fun (i, cj, vj, q17, q18, q19, q20, q21, q22) => (D jr).2.2.2.2.1 - i) ?_ ((bkT (TC (D jr).2.2.2.2.2 (D jr).2.2.2.2.1) 6 (D jr).2.2.2.2.1), cc, vo, q17, q18, q19, q20, q21, q22) F_81 (⟨ht0a, (bkT_p h6z).1, ⟨fun q9 => tlw_to (i := 7) rfl (by rcases Nat.lt_or_ge (bkT (TC (D jr).2.2.2.2.2 (D jr).2.2.2.2.1) 6 (D jr).2.2.2.2.1) (D jr).2.2.2.2.1 with c9 | c9; exact (ht0a.2 c9).1; omega) ht0a.1 ht0b, fun _ => ⟨rfl, rfl⟩⟩, Nat.le_refl _, hc10, hvo, fun p9 a1 a2 a3 => absurd a3 (ht0b p9 a1 a2), hv4⟩) hO hR _ _ hP hD hS ls (lv_sub hl [0, 1, 2, 3, 4, 5, 6, 7] rfl)
        rintro ⟨i, cj, vj, q17, q18, q19, q20, q21, q22⟩ F_104 hv_113 hO hR ih_114 H locs hP hD hS ls hl
        have hl : lv_has ls 10 [(7, .int (nI i)), (6, .int (tnv rd9)), (5, .int w5), (4, .ref b_69), (3, .int (nI jr)), (0, .ref h0), (1, .ref dd), (2, .int (nI lv))] := hl
        have hv_113 : TAT (TC (D jr).2.2.2.2.2 (D jr).2.2.2.2.1) (D jr).2.2.2.2.1 i ∧ 6 ≤ i ∧ ((6 < (D jr).2.2.2.2.1 → tlw D ze (sdM LC DN (nI fm)) (nI fm) R (TC (D jr).2.2.2.2.2 (D jr).2.2.2.2.1) (D jr).2.2.2.2.1 U ((D jr).2.2.2.2.1 - i) i cj vj = (tlw D ze (sdM LC DN (nI fm)) (nI fm) R (TC (D jr).2.2.2.2.2 (D jr).2.2.2.2.1) (D jr).2.2.2.2.1 U ((D jr).2.2.2.2.1 - 7) 7 cc vo)) ∧ ((D jr).2.2.2.2.1 ≤ 6 → cj = cc ∧ vj = vo)) ∧ cc ≤ cj ∧ cj ≤ 10 ∧ vj ≤ cj ∧ (∀ p9, 7 ≤ p9 → p9 < i → STT (TC (D jr).2.2.2.2.2 (D jr).2.2.2.2.1) p9 → ∀ t, trT (TC (D jr).2.2.2.2.2 (D jr).2.2.2.2.1) p9 (fdT (TC (D jr).2.2.2.2.2 (D jr).2.2.2.2.1) 32 p9 (D jr).2.2.2.2.1) = some t → ¬ t.1 = 1) ∧ F_104 h0 = .inr (15, (.ref ta) :: (.int (nI zt)) :: (.int (nI zo)) :: (.int (nI ze)) :: (.ref ou) :: (.ref so) :: (.ref ad) :: (.ref na) :: (.ref va) :: (.ref lc) :: (.ref dm) :: (.int (nI fm)) :: (.int (nI sn)) :: (.ref tg) :: (.int (nI cj)) :: (.int (nI vj)) :: (.ref pe) :: (.int q17) :: (.int q18) :: (.int q19) :: (.int q20) :: (.int q21) :: (.int q22) :: (.ref ml) :: (.ref bg) :: (.ref co) :: (.ref sp) :: (.ref nb0) :: (.ref nb1) :: (.ref nb2) :: (.int (nI nf)) :: (.int (nI bd)) :: (.int (nI mm)) :: (.int v33) :: (.ref pl) :: (.ref se) :: (.ref ke) :: (.ref wi) :: (.ref hs) :: (.ref mo) :: (.ref po) :: (.ref nu) :: (.ref pr) :: (.ref sq) :: (.ref xa) :: (.ref sa) :: (.ref n64) :: (.ref m64) :: (.ref ex) :: (.ref wh) :: (.ref sd) :: (.ref tk) :: (.int v52) :: (.int v53) :: (.int v54) :: (.ref hd) :: (.ref ak) :: (.ref ho) :: (.ref ot) :: []) := hv_113
        refine W.eq (g2 := F0 m 165 ls []) rfl ?_
        have hF_115 : F_104 dd = .inr (14, [.ref rd, .int (nI y)]) := (hR dd (by rw [hT_dd]; simp only [mem_tgS, List.mem_cons, List.not_mem_nil, or_false]; omega)).trans hF_105
        have hF_116 : F_104 rd = .inl (cs 17, nd, .inl hf) := (hR rd (by rw [ht_32]; simp only [mem_tgS, List.mem_cons, List.not_mem_nil, or_false]; omega)).trans hF_106
        have hF_117 : F_104 va = .inl (cs 23, 40, .inr (.inr (.inr (.inr f_36)))) := (hR va (by rw [ht_35]; simp only [mem_tgS, List.mem_cons, List.not_mem_nil, or_false]; omega)).trans hF_107
        have hF_118 : F_104 tg = .inl (cs 23, 13, .inr (.inr (.inr (.inr f_41)))) := (hR tg (by rw [ht_40]; simp only [mem_tgS, List.mem_cons, List.not_mem_nil, or_false]; omega)).trans hF_108
        have hF_119 : F_104 lc = .inr (14, [.ref r_1, .int (nI z_49)]) := (hR lc (by rw [ht_45]; simp only [mem_tgS, List.mem_cons, List.not_mem_nil, or_false]; omega)).trans hF_109
        have hF_120 : F_104 dm = .inr (14, [.ref r_2, .int (nI z_57)]) := (hR dm (by rw [ht_53]; simp only [mem_tgS, List.mem_cons, List.not_mem_nil, or_false]; omega)).trans hF_110
        have hF_121 : F_104 b_69 = .inr (14, [.ref r_70, .int (nI (D jr).2.2.2.2.1)]) := (hR b_69 (by rw [ht_73]; simp only [mem_tgS, List.mem_cons, List.not_mem_nil, or_false]; omega)).trans hF_111
        have hF_122 : F_104 r_70 = .inl (cs 17, 700, .inl ((D jr).2.2.2.2.2)) := (hR r_70 (by rw [ht_75]; simp only [mem_tgS, List.mem_cons, List.not_mem_nil, or_false]; omega)).trans hF_112
        obtain ⟨hu1, hu0, hu2, hu3, hu4, hu5, hu6, hu7⟩ := hv_113
        have hi7 : i ≤ 700 := by have h9 := hu1.1; omega
        refine lv_iload hx hb dX15_check_165 (lv_at hl 0 rfl) ?_
        refine lv_aload hx hb dX15_check_167 (lv_at hl 3 rfl) ?_
        refine pg_get (ci := 14) (v := .int (nI (D jr).2.2.2.2.1)) (C := RX14) (T := TX14) (N := 2) hx hb hts it_14 hown hK hP hi_72 hF_121 rfl 1 (by decide) (hts _ kt_709) (fun _ h9 => h9) rfl dX15_check_169 ?_
        refine lv_icmp_ge (tgt := 288) hx hb dX15_check_172 (by decide) (fun c_123 => ?_) (fun c_123 => ?_)
        ·
          have hi_124 : (D jr).2.2.2.2.1 ≤ i := leN (N := (D jr).2.2.2.2.1) c_123
          refine lv_iload hx hb dX15_check_288 (lv_at hl 1 rfl) ?_
          refine lv_if_lt (tgt := 298) hx hb dX15_check_290 (by decide) (fun c_125 => ?_) (fun c_125 => ?_)
          ·
            have hr0 : rd9 = 0 := (tnv_n (by omega)).mp c_125
            refine lv_iconst (v := 1) hx hb dX15_check_298 (by decide) ?_
            refine W.widen (k := 0) (n := 0) (by omega) (by omega) ?_
            exact W.iret (v := 1) hx hb hr (fun t ht hWm => ⟨⟨1, (cj, vj), rfl, (by rw [chB_c hHAn hOW (by omega), hRT, show ctW D ze (sdM LC DN (nI fm)) (nI fm) R (TC (D jr).2.2.2.2.2 (D jr).2.2.2.2.1) (D jr).2.2.2.2.1 U cc vo (some rd9) = cfW (sdM LC DN (nI fm)) R (TC (D jr).2.2.2.2.2 (D jr).2.2.2.2.1) (D jr).2.2.2.2.1 U rd9 (tlw D ze (sdM LC DN (nI fm)) (nI fm) R (TC (D jr).2.2.2.2.2 (D jr).2.2.2.2.1) (D jr).2.2.2.2.1 U ((D jr).2.2.2.2.1 - 7) 7 cc vo) from rfl, (show (tlw D ze (sdM LC DN (nI fm)) (nI fm) R (TC (D jr).2.2.2.2.2 (D jr).2.2.2.2.1) (D jr).2.2.2.2.1 U ((D jr).2.2.2.2.1 - 7) 7 cc vo) = (none, cj, vj) from by rcases Nat.lt_or_ge 6 (D jr).2.2.2.2.1 with c9 | c9; exact tlw_e (hu2.1 c9) (by omega); obtain ⟨e1, e2⟩ := hu2.2 c9; rw [e1, e2, show (D jr).2.2.2.2.1 - 7 = 0 by omega]; rfl), show cfW (sdM LC DN (nI fm)) R (TC (D jr).2.2.2.2.2 (D jr).2.2.2.2.1) (D jr).2.2.2.2.1 U rd9 (none, cj, vj) = (1, cj, vj) from if_pos hr0]; exact ⟨rfl, rfl⟩), ⟨F_104, q17, q18, q19, q20, q21, q22, QTm.mk ht hP hD hO hR, hu7⟩⟩, hS.F ht⟩) hS.2.2 dX15_check_299
          ·
            have hr0 : ¬ rd9 = 0 := fun q => c_125 ((tnv_n (by omega)).mpr q)
            have hl : lv_has ls 10 [(7, .int (nI i)), (6, .int (nI rd9)), (5, .int w5), (4, .ref b_69), (3, .int (nI jr)), (0, .ref h0), (1, .ref dd), (2, .int (nI lv))] := by rw [show nI rd9 = tnv rd9 from (if_neg hr0).symm]; exact hl
            obtain ⟨hra, hrz, hST, hrt⟩ := Or.resolve_left hrdi hr0
            have hrz : rd9 < (D jr).2.2.2.2.1 := by omega
            replace hrt : HID _ := hrt
            have hgt := fdT_gt (T := (TC (D jr).2.2.2.2.2 (D jr).2.2.2.2.1)) (c := 32) hST.2 hrz
            have hwe : fdT (TC (D jr).2.2.2.2.2 (D jr).2.2.2.2.1) 32 rd9 (D jr).2.2.2.2.1 ≤ (D jr).2.2.2.2.1 := by have h9 : fdT (TC (D jr).2.2.2.2.2 (D jr).2.2.2.2.1) 32 rd9 (D jr).2.2.2.2.1 ≤ rd9 + ((D jr).2.2.2.2.1 - rd9) := (fdT_le (T := (TC (D jr).2.2.2.2.2 (D jr).2.2.2.2.1)) (c := 32) ((D jr).2.2.2.2.1 - rd9) rd9).2; omega
            refine lv_iload hx hb dX15_check_293 (lv_at hl 2 rfl) ?_
            refine lv_if_eq (tgt := 300) hx hb dX15_check_295 (by decide) (fun c_126 => ?_) (fun c_126 => ?_)
            ·
              refine lv_aload_n hx hb dX15_check_300 rfl (lv_at hl 5 rfl) ?_
              refine lv_aload hx hb dX15_check_301 (lv_at hl 3 rfl) ?_
              refine pg_get (ci := 14) (v := .ref r_70) (C := RX14) (T := TX14) (N := 2) hx hb hts it_14 hown hK hP hi_72 hF_121 rfl 0 (by decide) (hts _ kt_710) (fun _ h9 => h9) rfl dX15_check_303 ?_
              refine lv_iload hx hb dX15_check_306 (lv_at hl 1 rfl) ?_
              refine lv_aload hx hb dX15_check_308 (lv_at hl 3 rfl) ?_
              refine lv_iload hx hb dX15_check_310 (lv_at hl 1 rfl) ?_
              have hFc := pg_free hD hS hA
              refine va_calli (va_runS (As := [.ref b_69, .int (nI rd9)]) (rest := [.int (nI rd9), .ref r_70, .ref h0]) ⟨hx, hb, hml, hown, hts⟩ (s_X15_wordEnd_x l dC dI cs ty gm L H.size F_104 b_69 (ρ + 50 + jr + 100) r_70 700 ((D jr).2.2.2.2.1) rd9 ((D jr).2.2.2.2.2) hW hi_72 ht_73 hF_121 hF_122 (hen1c) (by omega) (by omega)) ⟨callB_of 2 hts (gi kt_1175) rfl rfl rfl (hts _ kt_669) (hts _ kt_1176) (by decide +kernel) ⟨by show 0 + 1 ≤ fr + 7; omega, by show 8 + (3 + 11) + 0 ≤ lo + 158; omega⟩, (hts _ kt_1177)⟩ ⟨fun a U g mk q => ⟨q.1, PTm.calling q.2⟩, fun U hU hWm => ⟨rfl, PTm.mk hU hWm hP hK hD hE hO⟩⟩ rfl rfl hl.1 rfl (lv_room (Nat.le_of_ble_eq_true rfl)) dX15_check_312 ⟨by show _ + 0 ≤ 0; omega, by show _ + 0 ≤ 0; omega⟩) hS (fun q _ h => hFc q h) hFc (fun r_127 u t H1 locs ht hvm hw hB hz1 hk1 hS => ?_)
              obtain ⟨F_128, hB1⟩ := hB
              obtain rfl : F_104 = F_128 := (funext (fun a => hB1.2.2.2 a List.not_mem_nil)).symm
              obtain ⟨hP, hD, hO, hR⟩ := QTm.back hB1 ht hFc hR (fun q h => absurd h List.not_mem_nil)
              generalize H1 = H at hP hS ⊢
              have hw : r_127 = nI (fdT (TC (D jr).2.2.2.2.2 (D jr).2.2.2.2.1) 32 rd9 (D jr).2.2.2.2.1) := hw
              subst hw
              have hFc := pg_free hD hS hA
              refine va_callv (va_runV (As := [.ref r_70, .int (nI rd9), .int (nI (fdT (TC (D jr).2.2.2.2.2 (D jr).2.2.2.2.1) 32 rd9 (D jr).2.2.2.2.1))]) (rest := []) ⟨hx, hb, hml, hown, hts⟩ (s_X15_readTerm_x l dC dI cs ty gm L H.size F_104 h0 ρ ta ou so ad na va lc dm tg pe ml bg co sp nb0 nb1 nb2 pl se ke wi hs mo po nu pr sq xa sa n64 m64 ex wh sd tk hd ak ho ot sx s0 s1 s2 nf bd mm zo fm sn 0 gc gv ze zt (nI cj) (nI vj) q17 q18 q19 q20 q21 q22 v33 v52 v53 v54 r_70 (ρ + 50 + jr + 100) ((D jr).2.2.2.2.2) ((D jr).2.2.2.2.1) rd9 (fdT (TC (D jr).2.2.2.2.2 (D jr).2.2.2.2.1) 32 rd9 (D jr).2.2.2.2.1) hW hL_h0 hT_h0 hi_74 ht_75 hu7 (hzo) (hze) (h33) (h54) (by first | omega | assumption | exact Or.inl rfl) hF_122 (by omega) (by omega) (hen1c) (hgt)) ⟨callB_of 3 hts (gi kt_1178) rfl rfl rfl (hts _ kt_669) (hts _ kt_1179) (by decide +kernel) ⟨by show 6 + 1 ≤ fr + 7; omega, by show 8 + (7 + 11) + 132 ≤ lo + 158; omega⟩, (hts _ kt_1180), (hts _ kt_1181)⟩ ⟨fun a U g mk q => ⟨q.1, PTEm.calling q.2⟩, pg_recv hK hP hL_h0 hu7 (q := (RX15, TX15, 59)) rfl, fun U hU hWm => ⟨rfl, PTEm.mk hU hWm hP hK hD hE hO hG (fun x hx => absurd hx List.not_mem_nil) hS hFc⟩⟩ rfl rfl hl.1 rfl (lv_room (Nat.le_of_ble_eq_true rfl)) dX15_check_315 ⟨by show _ + 0 ≤ 0; omega, by show _ + 0 ≤ 0; omega⟩) hS (fun q _ h => hFc q h) hFc (fun u t H1 locs ht hvm hw hB hz1 hk1 hS => ?_)
              obtain ⟨F_130, u17_131, u18_132, u19_133, u20_134, u21_135, u22_136, hB1, hq_137, hq_138⟩ := hB
              obtain ⟨hP, hD, hO, hR⟩ := QTm.back hB1 ht hFc hR (fun q h => by simp only [mem_tgS, List.mem_cons, List.not_mem_nil, or_false] at h ⊢; omega)
              have hF_139 : F_130 dd = .inr (14, [.ref rd, .int (nI y)]) := (hB1.2.2.2 dd (by rw [hT_dd]; simp only [mem_tgS, List.mem_cons, List.not_mem_nil, or_false]; omega)).trans hF_115
              have hF_140 : F_130 rd = .inl (cs 17, nd, .inl hf) := (hB1.2.2.2 rd (by rw [ht_32]; simp only [mem_tgS, List.mem_cons, List.not_mem_nil, or_false]; omega)).trans hF_116
              have hF_141 : F_130 va = .inl (cs 23, 40, .inr (.inr (.inr (.inr f_36)))) := (hB1.2.2.2 va (by rw [ht_35]; simp)).trans hF_117
              have hF_142 : F_130 tg = .inl (cs 23, 13, .inr (.inr (.inr (.inr f_41)))) := (hB1.2.2.2 tg (by rw [ht_40]; simp)).trans hF_118
              have hF_143 : F_130 lc = .inr (14, [.ref r_1, .int (nI z_49)]) := (hB1.2.2.2 lc (by rw [ht_45]; simp)).trans hF_119
              have hF_144 : F_130 dm = .inr (14, [.ref r_2, .int (nI z_57)]) := (hB1.2.2.2 dm (by rw [ht_53]; simp)).trans hF_120
              have hF_145 : F_130 b_69 = .inr (14, [.ref r_70, .int (nI (D jr).2.2.2.2.1)]) := (hB1.2.2.2 b_69 (by rw [ht_73]; simp only [mem_tgS, List.mem_cons, List.not_mem_nil, or_false]; omega)).trans hF_121
              have hF_146 : F_130 r_70 = .inl (cs 17, 700, .inl ((D jr).2.2.2.2.2)) := (hB1.2.2.2 r_70 (by rw [ht_75]; simp only [mem_tgS, List.mem_cons, List.not_mem_nil, or_false]; omega)).trans hF_122
              generalize H1 = H at hP hS ⊢
              have hRX := hq_138
              obtain ⟨t8, ht8, ht87⟩ := hrt
              obtain ⟨k, g9, s9, q9, w9, yq, hX9, hk8, h17, h18, hD9, hA9, hW9, hQ9⟩ := rtx_s hRX (fun q => by rw [ht8] at q; exact (nomatch q))
              have hk7 : k = 7 := by have h9 := Option.some.inj (hX9.symm.trans ht8); rw [← h9] at ht87; exact ht87
              obtain ⟨hqb, hsg, hhs⟩ := tr_qg hgt hX9
              obtain ⟨e19, e20⟩ := hD9 (by omega)
              have hHS := hhs (by omega)
              refine lv_aload_n hx hb dX15_check_318 rfl (lv_at hl 5 rfl) ?_
              refine lv_dup hx hb dX15_check_319 rfl ?_
              refine pg_get (ci := 15) (v := .int (nI cj)) (C := RX15) (T := TX15) (N := 59) hx hb hts it_15 hown hK hP hL_h0 hq_137 rfl 14 (by decide) (hts _ kt_731) (fun _ h9 => h9) rfl dX15_check_320 ?_
              refine lv_iconst (v := 1) hx hb dX15_check_323 (by decide) ?_
              refine lv_iadd hx hb dX15_check_324 ?_
              refine lv_topi (fun x_147 ex_147 => ?_)
              obtain rfl : x_147 = (nI (cj + 1)) := ex_147.trans (nI_1 cj)
              refine pg_put (ci := 15) (v := .int (nI (cj + 1))) (ty := .int) (C := RX15) (T := TX15) (N := 59) hx hb hts it_15 tyX15 tyX15_ok nmX15 hown hK hP hD hS hL_h0 hq_137 rfl 14 (by decide) (hts _ kt_731) (fun _ h9 => h9) rfl (by decide +kernel) (rfl) (rfl) (Nat.le_of_ble_eq_true rfl) dX15_check_325 (fun H locs hP hD hS => ?_)
              obtain ⟨F_148, he_149, hP, hD, hO, hR⟩ : ∃ G, G = va_up F_130 h0 (.inr (15, (.ref ta) :: (.int (nI zt)) :: (.int (nI zo)) :: (.int (nI ze)) :: (.ref ou) :: (.ref so) :: (.ref ad) :: (.ref na) :: (.ref va) :: (.ref lc) :: (.ref dm) :: (.int (nI fm)) :: (.int (nI sn)) :: (.ref tg) :: (.int (nI (cj + 1))) :: (.int (nI vj)) :: (.ref pe) :: (.int u17_131) :: (.int u18_132) :: (.int u19_133) :: (.int u20_134) :: (.int u21_135) :: (.int u22_136) :: (.ref ml) :: (.ref bg) :: (.ref co) :: (.ref sp) :: (.ref nb0) :: (.ref nb1) :: (.ref nb2) :: (.int (nI nf)) :: (.int (nI bd)) :: (.int (nI mm)) :: (.int v33) :: (.ref pl) :: (.ref se) :: (.ref ke) :: (.ref wi) :: (.ref hs) :: (.ref mo) :: (.ref po) :: (.ref nu) :: (.ref pr) :: (.ref sq) :: (.ref xa) :: (.ref sa) :: (.ref n64) :: (.ref m64) :: (.ref ex) :: (.ref wh) :: (.ref sd) :: (.ref tk) :: (.int v52) :: (.int v53) :: (.int v54) :: (.ref hd) :: (.ref ak) :: (.ref ho) :: (.ref ot) :: [])) ∧ va_P (dC, dI) vwCl (va_pl L G) H ∧ va_D A (va_pl L G) ∧ OKm cs ty gm L G ∧ FR ty (tgS ρ lv) F G := ⟨_, rfl, hP, hD, hO.up (shm.mod hT_h0 ⟨(nI (cj + 1)), (nI vj), u17_131, u18_132, u19_133, u20_134, u21_135, u22_136, v33, v52, v53, v54, rfl, (by first | omega | assumption | exact Or.inl rfl | exact Or.inr rfl), (by first | omega | assumption | exact Or.inl rfl | exact Or.inr rfl), (by first | omega | assumption | exact Or.inl rfl | exact Or.inr rfl), (by first | omega | assumption | exact Or.inl rfl | exact Or.inr rfl), (by first | omega | assumption | exact Or.inl rfl | exact Or.inr rfl)⟩), hR.up hT_h0 (by first | (simp only [mem_tgS]; omega) | simp [mem_tgS])⟩
              have hF_150 : F_148 h0 = .inr (15, (.ref ta) :: (.int (nI zt)) :: (.int (nI zo)) :: (.int (nI ze)) :: (.ref ou) :: (.ref so) :: (.ref ad) :: (.ref na) :: (.ref va) :: (.ref lc) :: (.ref dm) :: (.int (nI fm)) :: (.int (nI sn)) :: (.ref tg) :: (.int (nI (cj + 1))) :: (.int (nI vj)) :: (.ref pe) :: (.int u17_131) :: (.int u18_132) :: (.int u19_133) :: (.int u20_134) :: (.int u21_135) :: (.int u22_136) :: (.ref ml) :: (.ref bg) :: (.ref co) :: (.ref sp) :: (.ref nb0) :: (.ref nb1) :: (.ref nb2) :: (.int (nI nf)) :: (.int (nI bd)) :: (.int (nI mm)) :: (.int v33) :: (.ref pl) :: (.ref se) :: (.ref ke) :: (.ref wi) :: (.ref hs) :: (.ref mo) :: (.ref po) :: (.ref nu) :: (.ref pr) :: (.ref sq) :: (.ref xa) :: (.ref sa) :: (.ref n64) :: (.ref m64) :: (.ref ex) :: (.ref wh) :: (.ref sd) :: (.ref tk) :: (.int v52) :: (.int v53) :: (.int v54) :: (.ref hd) :: (.ref ak) :: (.ref ho) :: (.ref ot) :: []) := by rw [he_149]; exact up_self
              have hF_151 : F_148 dd = .inr (14, [.ref rd, .int (nI y)]) := by rw [he_149, up_ne (ne_ty hT_dd hT_h0 (by simp))]; exact hF_139
              have hF_152 : F_148 rd = .inl (cs 17, nd, .inl hf) := by rw [he_149, up_ne (ne_ty ht_32 hT_h0 (by simp))]; exact hF_140
              have hF_153 : F_148 va = .inl (cs 23, 40, .inr (.inr (.inr (.inr f_36)))) := by rw [he_149, up_ne (ne_ty ht_35 hT_h0 (by simp))]; exact hF_141
              have hF_154 : F_148 tg = .inl (cs 23, 13, .inr (.inr (.inr (.inr f_41)))) := by rw [he_149, up_ne (ne_ty ht_40 hT_h0 (by simp))]; exact hF_142
              have hF_155 : F_148 lc = .inr (14, [.ref r_1, .int (nI z_49)]) := by rw [he_149, up_ne (ne_ty ht_45 hT_h0 (by simp))]; exact hF_143
              have hF_156 : F_148 dm = .inr (14, [.ref r_2, .int (nI z_57)]) := by rw [he_149, up_ne (ne_ty ht_53 hT_h0 (by simp))]; exact hF_144
              have hF_157 : F_148 b_69 = .inr (14, [.ref r_70, .int (nI (D jr).2.2.2.2.1)]) := by rw [he_149, up_ne (ne_ty ht_73 hT_h0 (by simp))]; exact hF_145
              have hF_158 : F_148 r_70 = .inl (cs 17, 700, .inl ((D jr).2.2.2.2.2)) := by rw [he_149, up_ne (ne_ty ht_75 hT_h0 (by simp))]; exact hF_146
              refine lv_aload_n hx hb dX15_check_328 rfl (lv_at hl 5 rfl) ?_
              refine pg_get (ci := 15) (v := .int (nI (cj + 1))) (C := RX15) (T := TX15) (N := 59) hx hb hts it_15 hown hK hP hL_h0 hF_150 rfl 14 (by decide) (hts _ kt_731) (fun _ h9 => h9) rfl dX15_check_329 ?_
              refine lv_bipush (v := 10) hx hb dX15_check_332 (by decide) ?_
              refine lv_icmp_le (tgt := 340) hx hb dX15_check_334 (by decide) (fun c_159 => ?_) (fun c_159 => ?_)
              ·
                have hi_160 : (cj + 1) ≤ 10 := (nI_leI (a := (cj + 1)) (b := 10) (by omega) (by omega)).mp c_159
                refine lv_aload_n hx hb dX15_check_340 rfl (lv_at hl 5 rfl) ?_
                refine lv_aload hx hb dX15_check_341 (lv_at hl 3 rfl) ?_
                refine pg_get (ci := 14) (v := .ref r_70) (C := RX14) (T := TX14) (N := 2) hx hb hts it_14 hown hK hP hi_72 hF_157 rfl 0 (by decide) (hts _ kt_710) (fun _ h9 => h9) rfl dX15_check_343 ?_
                refine lv_aload_n hx hb dX15_check_346 rfl (lv_at hl 5 rfl) ?_
                refine pg_get (ci := 15) (v := .int u19_133) (C := RX15) (T := TX15) (N := 59) hx hb hts it_15 hown hK hP hL_h0 hF_150 rfl 19 (by decide) (hts _ kt_751) (fun _ h9 => h9) rfl dX15_check_347 ?_
                refine lv_topi (fun x9 ex9 => ?_)
                obtain rfl : x9 = nI s9 := ex9.trans e19
                refine lv_aload_n hx hb dX15_check_350 rfl (lv_at hl 5 rfl) ?_
                refine pg_get (ci := 15) (v := .int u20_134) (C := RX15) (T := TX15) (N := 59) hx hb hts it_15 hown hK hP hL_h0 hF_150 rfl 20 (by decide) (hts _ kt_752) (fun _ h9 => h9) rfl dX15_check_351 ?_
                refine lv_topi (fun x9 ex9 => ?_)
                obtain rfl : x9 = nI q9 := ex9.trans e20
                refine lv_aload_n hx hb dX15_check_354 rfl (lv_at hl 6 rfl) ?_
                refine lv_aload_n hx hb dX15_check_355 rfl (lv_at hl 5 rfl) ?_
                refine pg_get (ci := 15) (v := .ref tg) (C := RX15) (T := TX15) (N := 59) hx hb hts it_15 hown hK hP hL_h0 hF_150 rfl 13 (by decide) (hts _ kt_1125) (fun _ h9 => h9) rfl dX15_check_356 ?_
                refine lv_iload_n hx hb dX15_check_359 rfl (lv_at hl 7 rfl) ?_
                obtain ⟨b_161, r_162, hbf_163, hi_164, ht_165⟩ := hq_43 lv (by omega)
                refine pg_aald (r := b_161) hx hb hK hP hi_39 7 hF_154 rfl (vp_in_nI (by omega) (by omega)) (show f_41 ((nI lv) : Int32).toNatClampNeg = _ from by rw [show ((nI lv) : Int32) = nI lv from rfl, nI_clamp (by omega)]; exact hbf_163) dX15_check_360 ?_
                obtain ⟨hi_166, ht_167, hq_168⟩ := hW.txt hi_164 ht_165
                obtain ⟨z_169, hF_170, hq_171⟩ := hO.txt hi_164 ht_165
                obtain ⟨hq_172, hq_173⟩ := hW.octs hi_166 ht_167
                obtain ⟨f_174, hF_175, hq_176⟩ := hO.octs hi_166 ht_167
                have hQso := hR so (by rw [hTs0]; simp only [mem_tgS, List.mem_cons, List.not_mem_nil, or_false]; omega)
                have hQad := hR ad (by rw [hTd0]; simp only [mem_tgS, List.mem_cons, List.not_mem_nil, or_false]; omega)
                have hQna := hR na (by rw [hTn0]; simp only [mem_tgS, List.mem_cons, List.not_mem_nil, or_false]; omega)
                have hQva := hR va (by rw [hTv0]; simp only [mem_tgS, List.mem_cons, List.not_mem_nil, or_false]; omega)
                have hDM5 := DIRM.fr hDM hO0 hW hLn0 hTn0 hLv0 hTv0 (by omega) hR hQso hQad hQna hQva (fun k hk => ⟨by simp only [mem_tgS, List.mem_cons, List.not_mem_nil, or_false]; omega, by simp only [mem_tgS, List.mem_cons, List.not_mem_nil, or_false]; omega⟩)
                have hLC5 := hLC.fr hO0 hW hi_44 ht_45 hR (by simp only [mem_tgS, List.mem_cons, List.not_mem_nil, or_false]; omega)
                have hDN5 := hDN.fr hO0 hW hi_52 ht_53 hR (by simp only [mem_tgS, List.mem_cons, List.not_mem_nil, or_false]; omega)
                have hTD5 := hTD.fr hO0 hW hL_dd hT_dd hR (by simp only [mem_tgS, List.mem_cons, List.not_mem_nil, or_false]; omega)
                have hFc := pg_free hD hS hA
                refine va_callv (va_runV (As := [.ref r_70, .int (nI s9), .int (nI q9), .ref dd, .ref b_161]) (rest := []) ⟨hx, hb, hml, hown, hts⟩ (s_X15_expand_x l dC dI cs ty gm L H.size F_148 h0 ρ ta ou so ad na va lc dm tg pe ml bg co sp nb0 nb1 nb2 pl se ke wi hs mo po nu pr sq xa sa n64 m64 ex wh sd tk hd ak ho ot sx s0 s1 s2 nf bd mm zo fm sn 0 gc gv ze zt rp b_161 (ρ + 200 + lv + 100) r_162 r_70 (ρ + 50 + jr + 100) ((D jr).2.2.2.2.2) dd τ rd nd ((D jr).2.2.2.2.1) s9 q9 LC DN U hW hL_h0 hT_h0 hL_pe hT_pe hi_164 ht_165 hi_74 ht_75 hL_dd hT_dd hF_158 (by omega) (by omega) (by omega) (by omega) (by omega) (hen1c) (by omega) (hnd) (hHS) (hLC5) (hDN5) (hTD5)) ⟨callB_of 5 hts (gi kt_1164) rfl rfl rfl (hts _ kt_669) (hts _ kt_1165) (by decide +kernel) ⟨by show 4 + 1 ≤ fr + 7; omega, by show 8 + (8 + 11) + 102 ≤ lo + 158; omega⟩, (hts _ kt_1166), (hts _ kt_1167)⟩ ⟨fun a U g mk q => ⟨q.1, PTm.calling q.2⟩, pg_recv hK hP hL_h0 hF_150 (q := (RX15, TX15, 59)) rfl, fun U hU hWm => ⟨rfl, PTm.mk hU hWm hP hK hD hE hO⟩⟩ rfl rfl hl.1 rfl (lv_room (Nat.le_of_ble_eq_true rfl)) dX15_check_361 ⟨by show _ + 0 ≤ 0; omega, by show _ + 0 ≤ 0; omega⟩) hS (fun q _ h => hFc q h) hFc (fun u t H1 locs ht hvm hw hB hz1 hk1 hS => ?_)
                obtain ⟨F_178, y2_179, f2_180, hB1, hq_181, hq_182, hq_183⟩ := hB
                obtain ⟨hP, hD, hO, hR⟩ := QTm.back hB1 ht hFc hR (fun q h => by simp only [mem_tgS, List.mem_cons, List.not_mem_nil, or_false] at h ⊢; omega)
                have hF_184 : F_178 h0 = .inr (15, (.ref ta) :: (.int (nI zt)) :: (.int (nI zo)) :: (.int (nI ze)) :: (.ref ou) :: (.ref so) :: (.ref ad) :: (.ref na) :: (.ref va) :: (.ref lc) :: (.ref dm) :: (.int (nI fm)) :: (.int (nI sn)) :: (.ref tg) :: (.int (nI (cj + 1))) :: (.int (nI vj)) :: (.ref pe) :: (.int u17_131) :: (.int u18_132) :: (.int u19_133) :: (.int u20_134) :: (.int u21_135) :: (.int u22_136) :: (.ref ml) :: (.ref bg) :: (.ref co) :: (.ref sp) :: (.ref nb0) :: (.ref nb1) :: (.ref nb2) :: (.int (nI nf)) :: (.int (nI bd)) :: (.int (nI mm)) :: (.int v33) :: (.ref pl) :: (.ref se) :: (.ref ke) :: (.ref wi) :: (.ref hs) :: (.ref mo) :: (.ref po) :: (.ref nu) :: (.ref pr) :: (.ref sq) :: (.ref xa) :: (.ref sa) :: (.ref n64) :: (.ref m64) :: (.ref ex) :: (.ref wh) :: (.ref sd) :: (.ref tk) :: (.int v52) :: (.int v53) :: (.int v54) :: (.ref hd) :: (.ref ak) :: (.ref ho) :: (.ref ot) :: []) := (hB1.2.2.2 h0 (by rw [hT_h0]; simp only [mem_tgS, List.mem_cons, List.not_mem_nil, or_false]; omega)).trans hF_150
                have hF_185 : F_178 dd = .inr (14, [.ref rd, .int (nI y)]) := (hB1.2.2.2 dd (by rw [hT_dd]; simp only [mem_tgS, List.mem_cons, List.not_mem_nil, or_false]; omega)).trans hF_151
                have hF_186 : F_178 rd = .inl (cs 17, nd, .inl hf) := (hB1.2.2.2 rd (by rw [ht_32]; simp only [mem_tgS, List.mem_cons, List.not_mem_nil, or_false]; omega)).trans hF_152
                have hF_187 : F_178 va = .inl (cs 23, 40, .inr (.inr (.inr (.inr f_36)))) := (hB1.2.2.2 va (by rw [ht_35]; simp only [mem_tgS, List.mem_cons, List.not_mem_nil, or_false]; omega)).trans hF_153
                have hF_188 : F_178 tg = .inl (cs 23, 13, .inr (.inr (.inr (.inr f_41)))) := (hB1.2.2.2 tg (by rw [ht_40]; simp only [mem_tgS, List.mem_cons, List.not_mem_nil, or_false]; omega)).trans hF_154
                have hF_189 : F_178 lc = .inr (14, [.ref r_1, .int (nI z_49)]) := (hB1.2.2.2 lc (by rw [ht_45]; simp only [mem_tgS, List.mem_cons, List.not_mem_nil, or_false]; omega)).trans hF_155
                have hF_190 : F_178 dm = .inr (14, [.ref r_2, .int (nI z_57)]) := (hB1.2.2.2 dm (by rw [ht_53]; simp only [mem_tgS, List.mem_cons, List.not_mem_nil, or_false]; omega)).trans hF_156
                generalize H1 = H at hP hS ⊢
                have hT5 : TGM (exT (TC (D jr).2.2.2.2.2 (D jr).2.2.2.2.1) s9 q9 (sdM LC DN (nI fm)) U) y2_179 f2_180 := by unfold exT; rw [if_neg (by have h9 := hHS.1; omega)]; exact hq_183
                have hQso := hR so (by rw [hTs0]; simp only [mem_tgS, List.mem_cons, List.not_mem_nil, or_false]; omega)
                have hQad := hR ad (by rw [hTd0]; simp only [mem_tgS, List.mem_cons, List.not_mem_nil, or_false]; omega)
                have hQna := hR na (by rw [hTn0]; simp only [mem_tgS, List.mem_cons, List.not_mem_nil, or_false]; omega)
                have hQva := hR va (by rw [hTv0]; simp only [mem_tgS, List.mem_cons, List.not_mem_nil, or_false]; omega)
                have hDM5 := DIRM.fr hDM hO0 hW hLn0 hTn0 hLv0 hTv0 (by omega) hR hQso hQad hQna hQva (fun k hk => ⟨by simp only [mem_tgS, List.mem_cons, List.not_mem_nil, or_false]; omega, by simp only [mem_tgS, List.mem_cons, List.not_mem_nil, or_false]; omega⟩)
                have hLC5 := hLC.fr hO0 hW hi_44 ht_45 hR (by simp only [mem_tgS, List.mem_cons, List.not_mem_nil, or_false]; omega)
                have hDN5 := hDN.fr hO0 hW hi_52 ht_53 hR (by simp only [mem_tgS, List.mem_cons, List.not_mem_nil, or_false]; omega)
                have hTD5 := hTD.fr hO0 hW hL_dd hT_dd hR (by simp only [mem_tgS, List.mem_cons, List.not_mem_nil, or_false]; omega)
                have hA9x : A8 (exT (TC (D jr).2.2.2.2.2 (D jr).2.2.2.2.1) s9 q9 (sdM LC DN (nI fm)) U) := a8_ex (Or.inr hHS) ⟨a8_app (a8_app hLC.a8 (a8_one (by omega))) hDN.a8, hLC.a8, hDN.a8, a8_q⟩ hA8
                have hy61 := tgm_le hT5
                refine lv_aload_n hx hb dX15_check_364 rfl (lv_at hl 5 rfl) ?_
                refine lv_aload_n hx hb dX15_check_365 rfl (lv_at hl 5 rfl) ?_
                refine pg_get (ci := 15) (v := .ref tg) (C := RX15) (T := TX15) (N := 59) hx hb hts it_15 hown hK hP hL_h0 hF_184 rfl 13 (by decide) (hts _ kt_1125) (fun _ h9 => h9) rfl dX15_check_366 ?_
                refine lv_iload_n hx hb dX15_check_369 rfl (lv_at hl 7 rfl) ?_
                refine pg_aald (r := b_161) hx hb hK hP hi_39 7 hF_188 rfl (vp_in_nI (by omega) (by omega)) (show f_41 ((nI lv) : Int32).toNatClampNeg = _ from by rw [show ((nI lv) : Int32) = nI lv from rfl, nI_clamp (by omega)]; exact hbf_163) dX15_check_370 ?_
                refine lv_iload_n hx hb dX15_check_371 rfl (lv_at hl 7 rfl) ?_
                refine lv_iconst (v := 1) hx hb dX15_check_372 (by decide) ?_
                refine lv_iadd hx hb dX15_check_373 ?_
                refine lv_topi (fun x_191 ex_191 => ?_)
                obtain rfl : x_191 = (nI (lv + 1)) := ex_191.trans (nI_1 lv)
                have hFc := pg_free hD hS hA
                refine va_calli (va_runV (As := [.ref b_161, .int (nI (lv + 1))]) (rest := []) ⟨hx, hb, hml, hown, hts⟩ (hC H.size F_178 u17_131 u18_132 u19_133 u20_134 u21_135 u22_136 v33 v52 v53 v54 b_161 (ρ + 200 + lv + 100) r_162 61 (cj + 1) vj y2_179 f2_180 (exT (TC (D jr).2.2.2.2.2 (D jr).2.2.2.2.1) s9 q9 (sdM LC DN (nI fm)) U) hi_164 ht_165 hF_184 (hzo) (hze) (h33) (h54) hq_181 hq_182 (by omega) (hT5) (hDM5) (hLC5) (hDN5) (by omega) (by omega) (by omega) (hA9x) (by omega) (Or.inr (by omega))) ⟨callB_of 2 hts (gi kt_1160) rfl rfl rfl (hts _ kt_669) (hts _ kt_1161) (by decide +kernel) ⟨by show fr + 0 + 1 ≤ fr + 7; omega, by show 8 + (10 + 11) + (lo + 0) ≤ lo + 158; omega⟩, (hts _ kt_1162), (hts _ kt_1163)⟩ ⟨fun a U g mk q => ⟨q.1, PTEm.calling q.2⟩, pg_recv hK hP hL_h0 hF_184 (q := (RX15, TX15, 59)) rfl, fun U hU hWm => ⟨rfl, PTEm.mk hU hWm hP hK hD hE hO hG (fun x hx => absurd hx List.not_mem_nil) hS hFc⟩⟩ rfl rfl hl.1 rfl (lv_room (Nat.le_of_ble_eq_true rfl)) dX15_check_374 ⟨by show _ + 0 ≤ 0; omega, by show _ + 0 ≤ 0; omega⟩) hS (fun q _ h => hFc q h) hFc (fun r_193 gp_192 t H1 locs ht hvm hw hB hz1 hk1 hS => ?_)
                obtain ⟨F_194, u17_195, u18_196, u19_197, u20_198, u21_199, u22_200, hB1, hq_201⟩ := hB
                obtain ⟨hP, hD, hO, hR⟩ := QTm.back hB1 ht hFc hR (fun q h => by simp only [mem_tgS, List.mem_cons, List.not_mem_nil, or_false] at h ⊢; omega)
                have hF_202 : F_194 dd = .inr (14, [.ref rd, .int (nI y)]) := (hB1.2.2.2 dd (by rw [hT_dd]; simp only [mem_tgS, List.mem_cons, List.not_mem_nil, or_false]; omega)).trans hF_185
                have hF_203 : F_194 rd = .inl (cs 17, nd, .inl hf) := (hB1.2.2.2 rd (by rw [ht_32]; simp only [mem_tgS, List.mem_cons, List.not_mem_nil, or_false]; omega)).trans hF_186
                have hF_204 : F_194 va = .inl (cs 23, 40, .inr (.inr (.inr (.inr f_36)))) := (hB1.2.2.2 va (by rw [ht_35]; simp only [mem_tgS, List.mem_cons, List.not_mem_nil, or_false]; omega)).trans hF_187
                have hF_205 : F_194 tg = .inl (cs 23, 13, .inr (.inr (.inr (.inr f_41)))) := (hB1.2.2.2 tg (by rw [ht_40]; simp only [mem_tgS, List.mem_cons, List.not_mem_nil, or_false]; omega)).trans hF_188
                have hF_206 : F_194 lc = .inr (14, [.ref r_1, .int (nI z_49)]) := (hB1.2.2.2 lc (by rw [ht_45]; simp only [mem_tgS, List.mem_cons, List.not_mem_nil, or_false]; omega)).trans hF_189
                have hF_207 : F_194 dm = .inr (14, [.ref r_2, .int (nI z_57)]) := (hB1.2.2.2 dm (by rw [ht_53]; simp only [mem_tgS, List.mem_cons, List.not_mem_nil, or_false]; omega)).trans hF_190
                have hF_208 : F_194 b_161 = .inr (14, [.ref r_162, .int (nI y2_179)]) := (hB1.2.2.2 b_161 (by rw [ht_165]; simp only [mem_tgS, List.mem_cons, List.not_mem_nil, or_false]; omega)).trans hq_181
                have hF_209 : F_194 r_162 = .inl (cs 17, 61, .inl f2_180) := (hB1.2.2.2 r_162 (by rw [ht_167]; simp only [mem_tgS, List.mem_cons, List.not_mem_nil, or_false]; omega)).trans hq_182
                generalize H1 = H at hP hS ⊢
                have hw : (r_193 = nI (R (exT (TC (D jr).2.2.2.2.2 (D jr).2.2.2.2.1) s9 q9 (sdM LC DN (nI fm)) U) (cj + 1) vj).1 ∧ gp_192 = (R (exT (TC (D jr).2.2.2.2.2 (D jr).2.2.2.2.1) s9 q9 (sdM LC DN (nI fm)) U) (cj + 1) vj).2) := hw
                have hw_210 := hw
                obtain ⟨hr1, hr2⟩ := hw_210
                subst hr1
                have hrb := (hPR (exT (TC (D jr).2.2.2.2.2 (D jr).2.2.2.2.1) s9 q9 (sdM LC DN (nI fm)) U) (cj + 1) vj).1
                refine lv_istore (lv' := [(7, .int (nI (R (exT (TC (D jr).2.2.2.2.2 (D jr).2.2.2.2.1) s9 q9 (sdM LC DN (nI fm)) U) (cj + 1) vj).1)), (6, .int (nI rd9)), (5, .int w5), (4, .ref b_69), (3, .int (nI jr)), (0, .ref h0), (1, .ref dd), (2, .int (nI lv))]) hx hb dX15_check_377 hl (by decide) rfl (fun ls hl => ?_)
                refine lv_iload hx hb dX15_check_379 (lv_at hl 0 rfl) ?_
                refine lv_if_ne (tgt := 389) hx hb dX15_check_381 (by decide) (fun c_211 => ?_) (fun c_211 => ?_)
                ·
                  have hi_212 : (R (exT (TC (D jr).2.2.2.2.2 (D jr).2.2.2.2.1) s9 q9 (sdM LC DN (nI fm)) U) (cj + 1) vj).1 ≠ 0 := fun q => c_211 (by rw [q]; rfl)
                  refine lv_iload hx hb dX15_check_389 (lv_at hl 0 rfl) ?_
                  refine W.widen (k := 0) (n := 0) (by omega) (by omega) ?_
                  exact W.iret (v := (nI (R (exT (TC (D jr).2.2.2.2.2 (D jr).2.2.2.2.1) s9 q9 (sdM LC DN (nI fm)) U) (cj + 1) vj).1)) hx hb hr (fun t ht hWm => ⟨⟨(nI (R (exT (TC (D jr).2.2.2.2.2 (D jr).2.2.2.2.1) s9 q9 (sdM LC DN (nI fm)) U) (cj + 1) vj).1), gp_192, rfl, (by rw [chB_c hHAn hOW (by omega), hRT, show ctW D ze (sdM LC DN (nI fm)) (nI fm) R (TC (D jr).2.2.2.2.2 (D jr).2.2.2.2.1) (D jr).2.2.2.2.1 U cc vo (some rd9) = cfW (sdM LC DN (nI fm)) R (TC (D jr).2.2.2.2.2 (D jr).2.2.2.2.1) (D jr).2.2.2.2.1 U rd9 (tlw D ze (sdM LC DN (nI fm)) (nI fm) R (TC (D jr).2.2.2.2.2 (D jr).2.2.2.2.1) (D jr).2.2.2.2.1 U ((D jr).2.2.2.2.1 - 7) 7 cc vo) from rfl, (show (tlw D ze (sdM LC DN (nI fm)) (nI fm) R (TC (D jr).2.2.2.2.2 (D jr).2.2.2.2.1) (D jr).2.2.2.2.1 U ((D jr).2.2.2.2.1 - 7) 7 cc vo) = (none, cj, vj) from by rcases Nat.lt_or_ge 6 (D jr).2.2.2.2.1 with c9 | c9; exact tlw_e (hu2.1 c9) (by omega); obtain ⟨e1, e2⟩ := hu2.2 c9; rw [e1, e2, show (D jr).2.2.2.2.1 - 7 = 0 by omega]; rfl), show cfW (sdM LC DN (nI fm)) R (TC (D jr).2.2.2.2.2 (D jr).2.2.2.2.1) (D jr).2.2.2.2.1 U rd9 (none, cj, vj) = flW (sdM LC DN (nI fm)) R (TC (D jr).2.2.2.2.2 (D jr).2.2.2.2.1) U ((trT (TC (D jr).2.2.2.2.2 (D jr).2.2.2.2.1) rd9 (fdT (TC (D jr).2.2.2.2.2 (D jr).2.2.2.2.1) 32 rd9 (D jr).2.2.2.2.1)).getD NOT) cj vj from if_neg hr0, hX9]; show _ = nI (flW (sdM LC DN (nI fm)) R (TC (D jr).2.2.2.2.2 (D jr).2.2.2.2.1) U (k, g9, s9, q9, w9, yq) cj vj).1 ∧ _ = (flW (sdM LC DN (nI fm)) R (TC (D jr).2.2.2.2.2 (D jr).2.2.2.2.1) U (k, g9, s9, q9, w9, yq) cj vj).2; unfold flW; rw [if_neg (show ¬ 10 < cj + 1 by omega)]; rw [if_neg (show ¬ (R (exT (TC (D jr).2.2.2.2.2 (D jr).2.2.2.2.1) s9 q9 (sdM LC DN (nI fm)) U) (cj + 1) vj).1 = 0 from fun q => c_211 (by rw [q]; rfl))]; exact ⟨rfl, hr2⟩), ⟨F_194, u17_195, u18_196, u19_197, u20_198, u21_199, u22_200, QTm.mk ht hP hD hO hR, hq_201⟩⟩, hS.F ht⟩) hS.2.2 dX15_check_391
                ·
                  have hi_213 : (R (exT (TC (D jr).2.2.2.2.2 (D jr).2.2.2.2.1) s9 q9 (sdM LC DN (nI fm)) U) (cj + 1) vj).1 = 0 := (nI_eq (a := (R (exT (TC (D jr).2.2.2.2.2 (D jr).2.2.2.2.1) s9 q9 (sdM LC DN (nI fm)) U) (cj + 1) vj).1) (b := 0) (by omega) (by omega)).mp c_211
                  refine lv_bipush (v := 6) hx hb dX15_check_384 (by decide) ?_
                  refine lv_goto (tgt := 391) hx hb dX15_check_386 (by decide) ?_
                  refine W.widen (k := 0) (n := 0) (by omega) (by omega) ?_
                  exact W.iret (v := 6) hx hb hr (fun t ht hWm => ⟨⟨6, gp_192, rfl, (by rw [chB_c hHAn hOW (by omega), hRT, show ctW D ze (sdM LC DN (nI fm)) (nI fm) R (TC (D jr).2.2.2.2.2 (D jr).2.2.2.2.1) (D jr).2.2.2.2.1 U cc vo (some rd9) = cfW (sdM LC DN (nI fm)) R (TC (D jr).2.2.2.2.2 (D jr).2.2.2.2.1) (D jr).2.2.2.2.1 U rd9 (tlw D ze (sdM LC DN (nI fm)) (nI fm) R (TC (D jr).2.2.2.2.2 (D jr).2.2.2.2.1) (D jr).2.2.2.2.1 U ((D jr).2.2.2.2.1 - 7) 7 cc vo) from rfl, (show (tlw D ze (sdM LC DN (nI fm)) (nI fm) R (TC (D jr).2.2.2.2.2 (D jr).2.2.2.2.1) (D jr).2.2.2.2.1 U ((D jr).2.2.2.2.1 - 7) 7 cc vo) = (none, cj, vj) from by rcases Nat.lt_or_ge 6 (D jr).2.2.2.2.1 with c9 | c9; exact tlw_e (hu2.1 c9) (by omega); obtain ⟨e1, e2⟩ := hu2.2 c9; rw [e1, e2, show (D jr).2.2.2.2.1 - 7 = 0 by omega]; rfl), show cfW (sdM LC DN (nI fm)) R (TC (D jr).2.2.2.2.2 (D jr).2.2.2.2.1) (D jr).2.2.2.2.1 U rd9 (none, cj, vj) = flW (sdM LC DN (nI fm)) R (TC (D jr).2.2.2.2.2 (D jr).2.2.2.2.1) U ((trT (TC (D jr).2.2.2.2.2 (D jr).2.2.2.2.1) rd9 (fdT (TC (D jr).2.2.2.2.2 (D jr).2.2.2.2.1) 32 rd9 (D jr).2.2.2.2.1)).getD NOT) cj vj from if_neg hr0, hX9]; show _ = nI (flW (sdM LC DN (nI fm)) R (TC (D jr).2.2.2.2.2 (D jr).2.2.2.2.1) U (k, g9, s9, q9, w9, yq) cj vj).1 ∧ _ = (flW (sdM LC DN (nI fm)) R (TC (D jr).2.2.2.2.2 (D jr).2.2.2.2.1) U (k, g9, s9, q9, w9, yq) cj vj).2; unfold flW; rw [if_neg (show ¬ 10 < cj + 1 by omega)]; rw [if_pos (show (R (exT (TC (D jr).2.2.2.2.2 (D jr).2.2.2.2.1) s9 q9 (sdM LC DN (nI fm)) U) (cj + 1) vj).1 = 0 from (nI_eq (b := 0) (by omega) (by omega)).mp c_211)]; exact ⟨rfl, hr2⟩), ⟨F_194, u17_195, u18_196, u19_197, u20_198, u21_199, u22_200, QTm.mk ht hP hD hO hR, hq_201⟩⟩, hS.F ht⟩) hS.2.2 dX15_check_391
              ·
                have hi_214 : 10 < (cj + 1) := Nat.not_le.mp (fun q => c_159 ((nI_leI (a := (cj + 1)) (b := 10) (by omega) (by omega)).mpr q))
                refine lv_bipush (v := 6) hx hb dX15_check_337 (by decide) ?_
                refine W.widen (k := 0) (n := 0) (by omega) (by omega) ?_
                exact W.iret (v := 6) hx hb hr (fun t ht hWm => ⟨⟨6, (cj + 1, vj), rfl, (by rw [chB_c hHAn hOW (by omega), hRT, show ctW D ze (sdM LC DN (nI fm)) (nI fm) R (TC (D jr).2.2.2.2.2 (D jr).2.2.2.2.1) (D jr).2.2.2.2.1 U cc vo (some rd9) = cfW (sdM LC DN (nI fm)) R (TC (D jr).2.2.2.2.2 (D jr).2.2.2.2.1) (D jr).2.2.2.2.1 U rd9 (tlw D ze (sdM LC DN (nI fm)) (nI fm) R (TC (D jr).2.2.2.2.2 (D jr).2.2.2.2.1) (D jr).2.2.2.2.1 U ((D jr).2.2.2.2.1 - 7) 7 cc vo) from rfl, (show (tlw D ze (sdM LC DN (nI fm)) (nI fm) R (TC (D jr).2.2.2.2.2 (D jr).2.2.2.2.1) (D jr).2.2.2.2.1 U ((D jr).2.2.2.2.1 - 7) 7 cc vo) = (none, cj, vj) from by rcases Nat.lt_or_ge 6 (D jr).2.2.2.2.1 with c9 | c9; exact tlw_e (hu2.1 c9) (by omega); obtain ⟨e1, e2⟩ := hu2.2 c9; rw [e1, e2, show (D jr).2.2.2.2.1 - 7 = 0 by omega]; rfl), show cfW (sdM LC DN (nI fm)) R (TC (D jr).2.2.2.2.2 (D jr).2.2.2.2.1) (D jr).2.2.2.2.1 U rd9 (none, cj, vj) = flW (sdM LC DN (nI fm)) R (TC (D jr).2.2.2.2.2 (D jr).2.2.2.2.1) U ((trT (TC (D jr).2.2.2.2.2 (D jr).2.2.2.2.1) rd9 (fdT (TC (D jr).2.2.2.2.2 (D jr).2.2.2.2.1) 32 rd9 (D jr).2.2.2.2.1)).getD NOT) cj vj from if_neg hr0, hX9]; show _ = nI (flW (sdM LC DN (nI fm)) R (TC (D jr).2.2.2.2.2 (D jr).2.2.2.2.1) U (k, g9, s9, q9, w9, yq) cj vj).1 ∧ _ = (flW (sdM LC DN (nI fm)) R (TC (D jr).2.2.2.2.2 (D jr).2.2.2.2.1) U (k, g9, s9, q9, w9, yq) cj vj).2; unfold flW; rw [if_pos (show 10 < cj + 1 by omega)]; exact ⟨rfl, rfl⟩), ⟨F_148, u17_131, u18_132, u19_133, u20_134, u21_135, u22_136, QTm.mk ht hP hD hO hR, hF_150⟩⟩, hS.F ht⟩) hS.2.2 dX15_check_339
            ·
              exact absurd (hal.resolve_left c_126).2 (fun q => by obtain ⟨p9, a1, a2, a3, a4, t9, a5, a6⟩ := hend q; exact hu6 p9 a1 (by omega) a4 t9 a5 a6)
        ·
          have hi_215 : i < (D jr).2.2.2.2.1 := ltN (N := (D jr).2.2.2.2.1) c_123
          have hiz : i < (D jr).2.2.2.2.1 := by omega
          obtain ⟨hi9, hST⟩ := hu1.2 hiz
          have hatS := tat_s hu1 hiz
          have hgt := fdT_gt (T := (TC (D jr).2.2.2.2.2 (D jr).2.2.2.2.1)) (c := 32) hST.2 hiz
          have hwe : fdT (TC (D jr).2.2.2.2.2 (D jr).2.2.2.2.1) 32 i (D jr).2.2.2.2.1 ≤ (D jr).2.2.2.2.1 := by have h9 : fdT (TC (D jr).2.2.2.2.2 (D jr).2.2.2.2.1) 32 i (D jr).2.2.2.2.1 ≤ i + ((D jr).2.2.2.2.1 - i) := (fdT_le (T := (TC (D jr).2.2.2.2.2 (D jr).2.2.2.2.1)) (c := 32) ((D jr).2.2.2.2.1 - i) i).2; omega
          refine lv_aload_n hx hb dX15_check_175 rfl (lv_at hl 5 rfl) ?_
          refine lv_aload hx hb dX15_check_176 (lv_at hl 3 rfl) ?_
          refine pg_get (ci := 14) (v := .ref r_70) (C := RX14) (T := TX14) (N := 2) hx hb hts it_14 hown hK hP hi_72 hF_121 rfl 0 (by decide) (hts _ kt_710) (fun _ h9 => h9) rfl dX15_check_178 ?_
          refine lv_iload hx hb dX15_check_181 (lv_at hl 0 rfl) ?_
          refine lv_aload hx hb dX15_check_183 (lv_at hl 3 rfl) ?_
          refine lv_iload hx hb dX15_check_185 (lv_at hl 0 rfl) ?_
          have hFc := pg_free hD hS hA
          refine va_calli (va_runS (As := [.ref b_69, .int (nI i)]) (rest := [.int (nI i), .ref r_70, .ref h0]) ⟨hx, hb, hml, hown, hts⟩ (s_X15_wordEnd_x l dC dI cs ty gm L H.size F_104 b_69 (ρ + 50 + jr + 100) r_70 700 ((D jr).2.2.2.2.1) i ((D jr).2.2.2.2.2) hW hi_72 ht_73 hF_121 hF_122 (hen1c) (by omega) (by omega)) ⟨callB_of 2 hts (gi kt_1175) rfl rfl rfl (hts _ kt_669) (hts _ kt_1176) (by decide +kernel) ⟨by show 0 + 1 ≤ fr + 7; omega, by show 8 + (3 + 11) + 0 ≤ lo + 158; omega⟩, (hts _ kt_1177)⟩ ⟨fun a U g mk q => ⟨q.1, PTm.calling q.2⟩, fun U hU hWm => ⟨rfl, PTm.mk hU hWm hP hK hD hE hO⟩⟩ rfl rfl hl.1 rfl (lv_room (Nat.le_of_ble_eq_true rfl)) dX15_check_187 ⟨by show _ + 0 ≤ 0; omega, by show _ + 0 ≤ 0; omega⟩) hS (fun q _ h => hFc q h) hFc (fun r_216 u t H1 locs ht hvm hw hB hz1 hk1 hS => ?_)
          obtain ⟨F_217, hB1⟩ := hB
          obtain rfl : F_104 = F_217 := (funext (fun a => hB1.2.2.2 a List.not_mem_nil)).symm
          obtain ⟨hP, hD, hO, hR⟩ := QTm.back hB1 ht hFc hR (fun q h => absurd h List.not_mem_nil)
          generalize H1 = H at hP hS ⊢
          have hw : r_216 = nI (fdT (TC (D jr).2.2.2.2.2 (D jr).2.2.2.2.1) 32 i (D jr).2.2.2.2.1) := hw
          subst hw
          have hFc := pg_free hD hS hA
          refine va_callv (va_runV (As := [.ref r_70, .int (nI i), .int (nI (fdT (TC (D jr).2.2.2.2.2 (D jr).2.2.2.2.1) 32 i (D jr).2.2.2.2.1))]) (rest := []) ⟨hx, hb, hml, hown, hts⟩ (s_X15_readTerm_x l dC dI cs ty gm L H.size F_104 h0 ρ ta ou so ad na va lc dm tg pe ml bg co sp nb0 nb1 nb2 pl se ke wi hs mo po nu pr sq xa sa n64 m64 ex wh sd tk hd ak ho ot sx s0 s1 s2 nf bd mm zo fm sn 0 gc gv ze zt (nI cj) (nI vj) q17 q18 q19 q20 q21 q22 v33 v52 v53 v54 r_70 (ρ + 50 + jr + 100) ((D jr).2.2.2.2.2) ((D jr).2.2.2.2.1) i (fdT (TC (D jr).2.2.2.2.2 (D jr).2.2.2.2.1) 32 i (D jr).2.2.2.2.1) hW hL_h0 hT_h0 hi_74 ht_75 hu7 (hzo) (hze) (h33) (h54) (by first | omega | assumption | exact Or.inl rfl) hF_122 (by omega) (by omega) (hen1c) (hgt)) ⟨callB_of 3 hts (gi kt_1178) rfl rfl rfl (hts _ kt_669) (hts _ kt_1179) (by decide +kernel) ⟨by show 6 + 1 ≤ fr + 7; omega, by show 8 + (7 + 11) + 132 ≤ lo + 158; omega⟩, (hts _ kt_1180), (hts _ kt_1181)⟩ ⟨fun a U g mk q => ⟨q.1, PTEm.calling q.2⟩, pg_recv hK hP hL_h0 hu7 (q := (RX15, TX15, 59)) rfl, fun U hU hWm => ⟨rfl, PTEm.mk hU hWm hP hK hD hE hO hG (fun x hx => absurd hx List.not_mem_nil) hS hFc⟩⟩ rfl rfl hl.1 rfl (lv_room (Nat.le_of_ble_eq_true rfl)) dX15_check_190 ⟨by show _ + 0 ≤ 0; omega, by show _ + 0 ≤ 0; omega⟩) hS (fun q _ h => hFc q h) hFc (fun u t H1 locs ht hvm hw hB hz1 hk1 hS => ?_)
          obtain ⟨F_219, u17_220, u18_221, u19_222, u20_223, u21_224, u22_225, hB1, hq_226, hq_227⟩ := hB
          obtain ⟨hP, hD, hO, hR⟩ := QTm.back hB1 ht hFc hR (fun q h => by simp only [mem_tgS, List.mem_cons, List.not_mem_nil, or_false] at h ⊢; omega)
          have hF_228 : F_219 dd = .inr (14, [.ref rd, .int (nI y)]) := (hB1.2.2.2 dd (by rw [hT_dd]; simp only [mem_tgS, List.mem_cons, List.not_mem_nil, or_false]; omega)).trans hF_115
          have hF_229 : F_219 rd = .inl (cs 17, nd, .inl hf) := (hB1.2.2.2 rd (by rw [ht_32]; simp only [mem_tgS, List.mem_cons, List.not_mem_nil, or_false]; omega)).trans hF_116
          have hF_230 : F_219 va = .inl (cs 23, 40, .inr (.inr (.inr (.inr f_36)))) := (hB1.2.2.2 va (by rw [ht_35]; simp)).trans hF_117
          have hF_231 : F_219 tg = .inl (cs 23, 13, .inr (.inr (.inr (.inr f_41)))) := (hB1.2.2.2 tg (by rw [ht_40]; simp)).trans hF_118
          have hF_232 : F_219 lc = .inr (14, [.ref r_1, .int (nI z_49)]) := (hB1.2.2.2 lc (by rw [ht_45]; simp)).trans hF_119
          have hF_233 : F_219 dm = .inr (14, [.ref r_2, .int (nI z_57)]) := (hB1.2.2.2 dm (by rw [ht_53]; simp)).trans hF_120
          have hF_234 : F_219 b_69 = .inr (14, [.ref r_70, .int (nI (D jr).2.2.2.2.1)]) := (hB1.2.2.2 b_69 (by rw [ht_73]; simp only [mem_tgS, List.mem_cons, List.not_mem_nil, or_false]; omega)).trans hF_121
          have hF_235 : F_219 r_70 = .inl (cs 17, 700, .inl ((D jr).2.2.2.2.2)) := (hB1.2.2.2 r_70 (by rw [ht_75]; simp only [mem_tgS, List.mem_cons, List.not_mem_nil, or_false]; omega)).trans hF_122
          generalize H1 = H at hP hS ⊢
          have hRX := hq_227
          obtain ⟨t8, ht8⟩ := hall i hi9 (by omega) hST
          obtain ⟨k, g9, s9, q9, w9, yq, hX9, hk8, h17, h18, hD9, hA9, hW9, hQ9⟩ := rtx_s hRX (fun q => by rw [ht8] at q; exact (nomatch q))
          obtain ⟨hqb, hsg, hhs⟩ := tr_qg hgt hX9
          have hg9 : g9 < 200 := by rcases hsg with c9 | c9; omega; rcases c9 with c9 | c9 | c9 | c9 <;> omega
          refine lv_aload_n hx hb dX15_check_193 rfl (lv_at hl 5 rfl) ?_
          refine pg_get (ci := 15) (v := .int u17_220) (C := RX15) (T := TX15) (N := 59) hx hb hts it_15 hown hK hP hL_h0 hq_226 rfl 17 (by decide) (hts _ kt_750) (fun _ h9 => h9) rfl dX15_check_194 ?_
          refine lv_bipush (v := 6) hx hb dX15_check_197 (by decide) ?_
          refine lv_icmp_lt (tgt := 205) hx hb dX15_check_199 (by decide) (fun c_236 => ?_) (fun c_236 => ?_)
          ·
            have hk6 : k ≤ 6 := by have h9 := c_236; rw [h17] at h9; have h8 := (nI_ltI (a := k - 1) (b := 6) (by omega) (by omega)).mp h9; omega
            refine lv_aload_n hx hb dX15_check_205 rfl (lv_at hl 5 rfl) ?_
            refine pg_get (ci := 15) (v := .int u18_221) (C := RX15) (T := TX15) (N := 59) hx hb hts it_15 hown hK hP hL_h0 hq_226 rfl 18 (by decide) (hts _ kt_759) (fun _ h9 => h9) rfl dX15_check_206 ?_
            refine lv_istore (lv' := [(8, .int u18_221), (7, .int (nI i)), (6, .int (tnv rd9)), (5, .int w5), (4, .ref b_69), (3, .int (nI jr)), (0, .ref h0), (1, .ref dd), (2, .int (nI lv))]) hx hb dX15_check_209 hl (by decide) rfl (fun ls hl => ?_)
            refine lv_aload_n hx hb dX15_check_211 rfl (lv_at hl 6 rfl) ?_
            refine lv_aload hx hb dX15_check_212 (lv_at hl 4 rfl) ?_
            refine lv_aload_n hx hb dX15_check_214 rfl (lv_at hl 7 rfl) ?_
            refine lv_iload_n hx hb dX15_check_215 rfl (lv_at hl 8 rfl) ?_
            have hQso := hR so (by rw [hTs0]; simp only [mem_tgS, List.mem_cons, List.not_mem_nil, or_false]; omega)
            have hQad := hR ad (by rw [hTd0]; simp only [mem_tgS, List.mem_cons, List.not_mem_nil, or_false]; omega)
            have hQna := hR na (by rw [hTn0]; simp only [mem_tgS, List.mem_cons, List.not_mem_nil, or_false]; omega)
            have hQva := hR va (by rw [hTv0]; simp only [mem_tgS, List.mem_cons, List.not_mem_nil, or_false]; omega)
            have hDM5 := DIRM.fr hDM hO0 hW hLn0 hTn0 hLv0 hTv0 (by omega) hR hQso hQad hQna hQva (fun k hk => ⟨by simp only [mem_tgS, List.mem_cons, List.not_mem_nil, or_false]; omega, by simp only [mem_tgS, List.mem_cons, List.not_mem_nil, or_false]; omega⟩)
            have hLC5 := hLC.fr hO0 hW hi_44 ht_45 hR (by simp only [mem_tgS, List.mem_cons, List.not_mem_nil, or_false]; omega)
            have hDN5 := hDN.fr hO0 hW hi_52 ht_53 hR (by simp only [mem_tgS, List.mem_cons, List.not_mem_nil, or_false]; omega)
            have hTD5 := hTD.fr hO0 hW hL_dd hT_dd hR (by simp only [mem_tgS, List.mem_cons, List.not_mem_nil, or_false]; omega)
            have hFc := pg_free hD hS hA
            refine va_calli (va_runV (As := [.ref b_69, .ref dd, .int (nI lv)]) (rest := []) ⟨hx, hb, hml, hown, hts⟩ (s_X15_matches_x l dC dI cs ty gm L H.size F_219 h0 ρ ta ou so ad na va lc dm tg pe ml bg co sp nb0 nb1 nb2 pl se ke wi hs mo po nu pr sq xa sa n64 m64 ex wh sd tk hd ak ho ot sx s0 s1 s2 nf bd mm zo fm sn gc gv ze zt rp u17_220 u18_221 u19_222 u20_223 u21_224 u22_225 v33 v52 v53 v54 dd τ rd nd b_69 r_70 (ρ + 50 + jr + 100) ((D jr).2.2.2.2.2) ((D jr).2.2.2.2.1) lv cj vj y k g9 s9 q9 w9 hf U D LC DN R yq fr lo hW hL_h0 hT_h0 hL_pe hT_pe hL_dd hT_dd hi_72 ht_73 hq_226 (hzo) (hze) (h33) (h54) hF_234 hF_235 (hen1c) (by omega) (by omega) hF_228 hF_229 (hyn) (hTU) (hDM5) (hLC5) (hDN5) (hVN) (hlv) (by omega) (hu4) (hu5) (hU60) (hA8) (hnd) (htr) (⟨hk8.1, hk6⟩) (h17) (fun c9 => ⟨(hD9 (by omega)).1, (hD9 (by omega)).2, hhs (by omega)⟩) (fun c9 => (hA9 c9).imp id (fun d9 => ⟨d9.1, d9.2.1, d9.2.2, (tr_hs hX9 (by omega)).resolve_left (by omega)⟩)) (hW9) (hQ9) (by omega) (hC) (fun U c v => (hPR U c v).1)) ⟨callB_of 3 hts (gi kt_1182) rfl rfl rfl (hts _ kt_669) (hts _ kt_1183) (by decide +kernel) ⟨by show fr + 5 + 1 ≤ fr + 7; omega, by show 8 + (10 + 11) + (lo + 129) ≤ lo + 158; omega⟩, (hts _ kt_1184), (hts _ kt_1185)⟩ ⟨fun a U g mk q => ⟨q.1, PTEm.calling q.2⟩, pg_recv hK hP hL_h0 hq_226 (q := (RX15, TX15, 59)) rfl, fun U hU hWm => ⟨rfl, PTEm.mk hU hWm hP hK hD hE hO hG (fun x hx => absurd hx List.not_mem_nil) hS hFc⟩⟩ rfl rfl hl.1 rfl (lv_room (Nat.le_of_ble_eq_true rfl)) dX15_check_216 ⟨by show _ + 0 ≤ 0; omega, by show _ + 0 ≤ 0; omega⟩) hS (fun q _ h => hFc q h) hFc (fun r_238 gp_237 t H1 locs ht hvm hw hB hz1 hk1 hS => ?_)
            obtain ⟨F_239, u17_240, u18_241, u19_242, u20_243, u21_244, u22_245, hB1, hq_246⟩ := hB
            obtain ⟨hP, hD, hO, hR⟩ := QTm.back hB1 ht hFc hR (fun q h => by simp only [mem_tgS, List.mem_cons, List.not_mem_nil, or_false] at h ⊢; omega)
            have hF_247 : F_239 dd = .inr (14, [.ref rd, .int (nI y)]) := (hB1.2.2.2 dd (by rw [hT_dd]; simp only [mem_tgS, List.mem_cons, List.not_mem_nil, or_false]; omega)).trans hF_228
            have hF_248 : F_239 rd = .inl (cs 17, nd, .inl hf) := (hB1.2.2.2 rd (by rw [ht_32]; simp only [mem_tgS, List.mem_cons, List.not_mem_nil, or_false]; omega)).trans hF_229
            have hF_249 : F_239 va = .inl (cs 23, 40, .inr (.inr (.inr (.inr f_36)))) := (hB1.2.2.2 va (by rw [ht_35]; simp only [mem_tgS, List.mem_cons, List.not_mem_nil, or_false]; omega)).trans hF_230
            have hF_250 : F_239 tg = .inl (cs 23, 13, .inr (.inr (.inr (.inr f_41)))) := (hB1.2.2.2 tg (by rw [ht_40]; simp only [mem_tgS, List.mem_cons, List.not_mem_nil, or_false]; omega)).trans hF_231
            have hF_251 : F_239 lc = .inr (14, [.ref r_1, .int (nI z_49)]) := (hB1.2.2.2 lc (by rw [ht_45]; simp only [mem_tgS, List.mem_cons, List.not_mem_nil, or_false]; omega)).trans hF_232
            have hF_252 : F_239 dm = .inr (14, [.ref r_2, .int (nI z_57)]) := (hB1.2.2.2 dm (by rw [ht_53]; simp only [mem_tgS, List.mem_cons, List.not_mem_nil, or_false]; omega)).trans hF_233
            have hF_253 : F_239 b_69 = .inr (14, [.ref r_70, .int (nI (D jr).2.2.2.2.1)]) := (hB1.2.2.2 b_69 (by rw [ht_73]; simp only [mem_tgS, List.mem_cons, List.not_mem_nil, or_false]; omega)).trans hF_234
            have hF_254 : F_239 r_70 = .inl (cs 17, 700, .inl ((D jr).2.2.2.2.2)) := (hB1.2.2.2 r_70 (by rw [ht_75]; simp only [mem_tgS, List.mem_cons, List.not_mem_nil, or_false]; omega)).trans hF_235
            generalize H1 = H at hP hS ⊢
            have hw : (r_238 = nI (mmv (mtW D ze (sdM LC DN (nI fm)) (nI fm) R (TC (D jr).2.2.2.2.2 (D jr).2.2.2.2.1) U (k, g9, s9, q9, w9, yq) cj vj).1) ∧ gp_237 = (mtW D ze (sdM LC DN (nI fm)) (nI fm) R (TC (D jr).2.2.2.2.2 (D jr).2.2.2.2.1) U (k, g9, s9, q9, w9, yq) cj vj).2) := hw
            have hw_255 := hw
            obtain ⟨hr1, hr2⟩ := hw_255
            subst hr1
            have hMv := mmv_1 (mtW_v (D := D) (ze := ze) (S := (sdM LC DN (nI fm))) (ad := nI fm) (T := (TC (D jr).2.2.2.2.2 (D jr).2.2.2.2.1)) (U := U) (t := (k, g9, s9, q9, w9, yq)) (c := cj) (v := vj) (fun U c v => (hPR U c v).1))
            have hMb := mtW_b (D := D) (ze := ze) (S := (sdM LC DN (nI fm))) (ad := nI fm) (T := (TC (D jr).2.2.2.2.2 (D jr).2.2.2.2.1)) (U := U) (t := (k, g9, s9, q9, w9, yq)) (c := cj) (v := vj) hPR
            have hM6 := hMv.2.2.1
            refine lv_istore (lv' := [(9, .int (nI (mmv (mtW D ze (sdM LC DN (nI fm)) (nI fm) R (TC (D jr).2.2.2.2.2 (D jr).2.2.2.2.1) U (k, g9, s9, q9, w9, yq) cj vj).1))), (8, .int u18_221), (7, .int (nI i)), (6, .int (tnv rd9)), (5, .int w5), (4, .ref b_69), (3, .int (nI jr)), (0, .ref h0), (1, .ref dd), (2, .int (nI lv))]) hx hb dX15_check_219 hl (by decide) rfl (fun ls hl => ?_)
            refine lv_iload hx hb dX15_check_221 (lv_at hl 0 rfl) ?_
            refine lv_iconst (v := 1) hx hb dX15_check_223 (by decide) ?_
            refine lv_icmp_le (tgt := 230) hx hb dX15_check_224 (by decide) (fun c_256 => ?_) (fun c_256 => ?_)
            ·
              have hi_257 : (mmv (mtW D ze (sdM LC DN (nI fm)) (nI fm) R (TC (D jr).2.2.2.2.2 (D jr).2.2.2.2.1) U (k, g9, s9, q9, w9, yq) cj vj).1) ≤ 1 := (nI_leI (a := (mmv (mtW D ze (sdM LC DN (nI fm)) (nI fm) R (TC (D jr).2.2.2.2.2 (D jr).2.2.2.2.1) U (k, g9, s9, q9, w9, yq) cj vj).1)) (b := 1) (by omega) (by omega)).mp c_256
              refine lv_iload hx hb dX15_check_230 (lv_at hl 0 rfl) ?_
              refine lv_iconst (v := 1) hx hb dX15_check_232 (by decide) ?_
              refine lv_icmp_ne (tgt := 271) hx hb dX15_check_233 (by decide) (fun c_258 => ?_) (fun c_258 => ?_)
              ·
                have hi_259 : (mmv (mtW D ze (sdM LC DN (nI fm)) (nI fm) R (TC (D jr).2.2.2.2.2 (D jr).2.2.2.2.1) U (k, g9, s9, q9, w9, yq) cj vj).1) ≠ 1 := fun q => c_258 (by rw [q]; rfl)
                have hm0 : (mtW D ze (sdM LC DN (nI fm)) (nI fm) R (TC (D jr).2.2.2.2.2 (D jr).2.2.2.2.1) U (k, g9, s9, q9, w9, yq) cj vj).1 = 0 := hMv.2.1.mp (by have h9 : ¬ mmv (mtW D ze (sdM LC DN (nI fm)) (nI fm) R (TC (D jr).2.2.2.2.2 (D jr).2.2.2.2.1) U (k, g9, s9, q9, w9, yq) cj vj).1 = 1 := fun q => c_258 (by rw [q]; rfl); omega)
                have hcb : cc ≤ gp_237.1 ∧ gp_237.1 ≤ 10 ∧ gp_237.2 ≤ gp_237.1 := by obtain ⟨k1, k2, k3, k4⟩ := hMb.2 hu4 hu5; rw [hr2]; exact ⟨Nat.le_trans hu3 k2, Nat.not_lt.mp (fun q => absurd (hm0.symm.trans (k4 q)) (by decide)), k1⟩
                have hkn1 : ¬ (k, g9, s9, q9, w9, yq).1 = 1 := fun c9 => by have h9 : (mtW D ze (sdM LC DN (nI fm)) (nI fm) R (TC (D jr).2.2.2.2.2 (D jr).2.2.2.2.1) U (k, g9, s9, q9, w9, yq) cj vj) = (2, cj, vj) := (by unfold mtW; rw [if_pos c9]); rw [h9] at hm0; exact absurd (show (2 : Nat) = 0 from hm0) (by decide)
                refine lv_aload hx hb dX15_check_271 (lv_at hl 5 rfl) ?_
                refine lv_aload hx hb dX15_check_273 (lv_at hl 5 rfl) ?_
                refine lv_iload hx hb dX15_check_275 (lv_at hl 2 rfl) ?_
                have hFc := pg_free hD hS hA
                refine va_calli (va_runS (As := [.ref b_69, .int (nI i)]) (rest := [.ref b_69]) ⟨hx, hb, hml, hown, hts⟩ (s_X15_wordEnd_x l dC dI cs ty gm L H.size F_239 b_69 (ρ + 50 + jr + 100) r_70 700 ((D jr).2.2.2.2.1) i ((D jr).2.2.2.2.2) hW hi_72 ht_73 hF_253 hF_254 (hen1c) (by omega) (by omega)) ⟨callB_of 2 hts (gi kt_1175) rfl rfl rfl (hts _ kt_669) (hts _ kt_1176) (by decide +kernel) ⟨by show 0 + 1 ≤ fr + 7; omega, by show 8 + (3 + 11) + 0 ≤ lo + 158; omega⟩, (hts _ kt_1177)⟩ ⟨fun a U g mk q => ⟨q.1, PTm.calling q.2⟩, fun U hU hWm => ⟨rfl, PTm.mk hU hWm hP hK hD hE hO⟩⟩ rfl rfl hl.1 rfl (lv_room (Nat.le_of_ble_eq_true rfl)) dX15_check_277 ⟨by show _ + 0 ≤ 0; omega, by show _ + 0 ≤ 0; omega⟩) hS (fun q _ h => hFc q h) hFc (fun r_260 u t H1 locs ht hvm hw hB hz1 hk1 hS => ?_)
                obtain ⟨F_261, hB1⟩ := hB
                obtain rfl : F_239 = F_261 := (funext (fun a => hB1.2.2.2 a List.not_mem_nil)).symm
                obtain ⟨hP, hD, hO, hR⟩ := QTm.back hB1 ht hFc hR (fun q h => absurd h List.not_mem_nil)
                generalize H1 = H at hP hS ⊢
                have hw : r_260 = nI (fdT (TC (D jr).2.2.2.2.2 (D jr).2.2.2.2.1) 32 i (D jr).2.2.2.2.1) := hw
                subst hw
                have hFc := pg_free hD hS hA
                refine va_calli (va_runS (As := [.ref b_69, .int (nI (fdT (TC (D jr).2.2.2.2.2 (D jr).2.2.2.2.1) 32 i (D jr).2.2.2.2.1))]) (rest := []) ⟨hx, hb, hml, hown, hts⟩ (s_X15_blankFrom_x l dC dI cs ty gm L H.size F_239 b_69 (ρ + 50 + jr + 100) r_70 700 ((D jr).2.2.2.2.1) (fdT (TC (D jr).2.2.2.2.2 (D jr).2.2.2.2.1) 32 i (D jr).2.2.2.2.1) ((D jr).2.2.2.2.2) hW hi_72 ht_73 hF_253 hF_254 (hen1c) (by omega) (hwe)) ⟨callB_of 2 hts (gi kt_1172) rfl rfl rfl (hts _ kt_669) (hts _ kt_1173) (by decide +kernel) ⟨by show 0 + 1 ≤ fr + 7; omega, by show 8 + (3 + 11) + 0 ≤ lo + 158; omega⟩, (hts _ kt_1174)⟩ ⟨fun a U g mk q => ⟨q.1, PTm.calling q.2⟩, fun U hU hWm => ⟨rfl, PTm.mk hU hWm hP hK hD hE hO⟩⟩ rfl rfl hl.1 rfl (lv_room (Nat.le_of_ble_eq_true rfl)) dX15_check_280 ⟨by show _ + 0 ≤ 0; omega, by show _ + 0 ≤ 0; omega⟩) hS (fun q _ h => hFc q h) hFc (fun r_262 u t H1 locs ht hvm hw hB hz1 hk1 hS => ?_)
                obtain ⟨F_263, hB1⟩ := hB
                obtain rfl : F_239 = F_263 := (funext (fun a => hB1.2.2.2 a List.not_mem_nil)).symm
                obtain ⟨hP, hD, hO, hR⟩ := QTm.back hB1 ht hFc hR (fun q h => absurd h List.not_mem_nil)
                generalize H1 = H at hP hS ⊢
                have hw : r_262 = nI (bkT (TC (D jr).2.2.2.2.2 (D jr).2.2.2.2.1) (fdT (TC (D jr).2.2.2.2.2 (D jr).2.2.2.2.1) 32 i (D jr).2.2.2.2.1) (D jr).2.2.2.2.1) := hw
                subst hw
                refine lv_istore (lv' := [(7, .int (nI (bkT (TC (D jr).2.2.2.2.2 (D jr).2.2.2.2.1) (fdT (TC (D jr).2.2.2.2.2 (D jr).2.2.2.2.1) 32 i (D jr).2.2.2.2.1) (D jr).2.2.2.2.1))), (9, .int (nI (mmv (mtW D ze (sdM LC DN (nI fm)) (nI fm) R (TC (D jr).2.2.2.2.2 (D jr).2.2.2.2.1) U (k, g9, s9, q9, w9, yq) cj vj).1))), (8, .int u18_221), (6, .int (tnv rd9)), (5, .int w5), (4, .ref b_69), (3, .int (nI jr)), (0, .ref h0), (1, .ref dd), (2, .int (nI lv))]) hx hb dX15_check_283 hl (by decide) rfl (fun ls hl => ?_)
                refine lv_goto (tgt := 165) hx hb dX15_check_285 (by decide) ?_
                refine W.widen (k := 0) (n := 0) (by omega) (by omega) ?_
                exact ih_114 ((bkT (TC (D jr).2.2.2.2.2 (D jr).2.2.2.2.1) (fdT (TC (D jr).2.2.2.2.2 (D jr).2.2.2.2.1) 32 i (D jr).2.2.2.2.1) (D jr).2.2.2.2.1), gp_237.1, gp_237.2, u17_240, u18_241, u19_242, u20_243, u21_244, u22_245) F_239 (⟨hatS.1, by omega, ⟨fun q9 => tlw_to (by have h9 := tlw_y (hu2.1 q9) hiz hST hX9 rfl hm0; rw [← hr2] at h9; exact h9) (by omega) hatS.1.1 hatS.2.1, fun q9 => absurd hiz (by omega)⟩, hcb.1, hcb.2.1, hcb.2.2, fun p9 a1 a2 a3 t9 a4 => by rcases Nat.lt_or_ge p9 i with c9 | c9; exact hu6 p9 a1 c9 a3 t9 a4; rcases Nat.lt_or_ge i p9 with c8 | c8; exact absurd a3 (hatS.2.1 p9 (by omega) a2); obtain rfl : p9 = i := (by omega); rw [hX9] at a4; rw [← Option.some.inj a4]; exact hkn1, hq_246⟩) (by show (D jr).2.2.2.2.1 - (bkT (TC (D jr).2.2.2.2.2 (D jr).2.2.2.2.1) (fdT (TC (D jr).2.2.2.2.2 (D jr).2.2.2.2.1) 32 i (D jr).2.2.2.2.1) (D jr).2.2.2.2.1) < (D jr).2.2.2.2.1 - i; omega) hO hR _ _ hP hD hS ls (lv_sub hl [0, 3, 4, 5, 6, 7, 8, 9] rfl)
              ·
                have hi_264 : (mmv (mtW D ze (sdM LC DN (nI fm)) (nI fm) R (TC (D jr).2.2.2.2.2 (D jr).2.2.2.2.1) U (k, g9, s9, q9, w9, yq) cj vj).1) = 1 := (nI_eq (a := (mmv (mtW D ze (sdM LC DN (nI fm)) (nI fm) R (TC (D jr).2.2.2.2.2 (D jr).2.2.2.2.1) U (k, g9, s9, q9, w9, yq) cj vj).1)) (b := 1) (by omega) (by omega)).mp c_258
                have hm2 : (mtW D ze (sdM LC DN (nI fm)) (nI fm) R (TC (D jr).2.2.2.2.2 (D jr).2.2.2.2.1) U (k, g9, s9, q9, w9, yq) cj vj).1 = 2 := hMv.1.mp ((nI_eq (b := 1) (by omega) (by omega)).mp c_258)
                refine lv_iload hx hb dX15_check_236 (lv_at hl 1 rfl) ?_
                refine lv_bipush (v := 43) hx hb dX15_check_238 (by decide) ?_
                refine lv_icmp_ne (tgt := 247) hx hb dX15_check_240 (by decide) (fun c_265 => ?_) (fun c_265 => ?_)
                ·
                  refine lv_iload hx hb dX15_check_247 (lv_at hl 1 rfl) ?_
                  refine lv_bipush (v := 63) hx hb dX15_check_249 (by decide) ?_
                  refine lv_icmp_ne (tgt := 258) hx hb dX15_check_251 (by decide) (fun c_266 => ?_) (fun c_266 => ?_)
                  ·
                    refine lv_iload hx hb dX15_check_258 (lv_at hl 1 rfl) ?_
                    refine lv_bipush (v := 126) hx hb dX15_check_260 (by decide) ?_
                    refine lv_icmp_ne (tgt := 269) hx hb dX15_check_262 (by decide) (fun c_267 => ?_) (fun c_267 => ?_)
                    ·
                      refine lv_iconst (v := 3) hx hb dX15_check_269 (by decide) ?_
                      refine W.widen (k := 0) (n := 0) (by omega) (by omega) ?_
                      exact W.iret (v := 3) hx hb hr (fun t ht hWm => ⟨⟨3, gp_237, rfl, (by rw [chB_c hHAn hOW (by omega), hRT, show ctW D ze (sdM LC DN (nI fm)) (nI fm) R (TC (D jr).2.2.2.2.2 (D jr).2.2.2.2.1) (D jr).2.2.2.2.1 U cc vo (some rd9) = cfW (sdM LC DN (nI fm)) R (TC (D jr).2.2.2.2.2 (D jr).2.2.2.2.1) (D jr).2.2.2.2.1 U rd9 (tlw D ze (sdM LC DN (nI fm)) (nI fm) R (TC (D jr).2.2.2.2.2 (D jr).2.2.2.2.1) (D jr).2.2.2.2.1 U ((D jr).2.2.2.2.1 - 7) 7 cc vo) from rfl, tlw_r (hu2.1 (by omega)) hiz hST hX9 rfl (by omega), if_pos hm2]; have e9 : g9 = 45 := (by have n1 : ¬ g9 = 43 := fun q => c_265 (by rw [h18, q]; rfl); have n2 : ¬ g9 = 63 := fun q => c_266 (by rw [h18, q]; rfl); have n3 : ¬ g9 = 126 := fun q => c_267 (by rw [h18, q]; rfl); rcases hsg with c9 | c9; exact absurd c9 n1; rcases c9 with c9 | c9 | c9 | c9; exact absurd c9 n1; exact absurd c9 n2; exact absurd c9 n3; exact c9); show _ = nI (anW g9) ∧ _; rw [e9]; exact ⟨rfl, hr2⟩), ⟨F_239, u17_240, u18_241, u19_242, u20_243, u21_244, u22_245, QTm.mk ht hP hD hO hR, hq_246⟩⟩, hS.F ht⟩) hS.2.2 dX15_check_270
                    ·
                      refine lv_iconst (v := 4) hx hb dX15_check_265 (by decide) ?_
                      refine lv_goto (tgt := 270) hx hb dX15_check_266 (by decide) ?_
                      refine W.widen (k := 0) (n := 0) (by omega) (by omega) ?_
                      exact W.iret (v := 4) hx hb hr (fun t ht hWm => ⟨⟨4, gp_237, rfl, (by rw [chB_c hHAn hOW (by omega), hRT, show ctW D ze (sdM LC DN (nI fm)) (nI fm) R (TC (D jr).2.2.2.2.2 (D jr).2.2.2.2.1) (D jr).2.2.2.2.1 U cc vo (some rd9) = cfW (sdM LC DN (nI fm)) R (TC (D jr).2.2.2.2.2 (D jr).2.2.2.2.1) (D jr).2.2.2.2.1 U rd9 (tlw D ze (sdM LC DN (nI fm)) (nI fm) R (TC (D jr).2.2.2.2.2 (D jr).2.2.2.2.1) (D jr).2.2.2.2.1 U ((D jr).2.2.2.2.1 - 7) 7 cc vo) from rfl, tlw_r (hu2.1 (by omega)) hiz hST hX9 rfl (by omega), if_pos hm2]; have e9 : g9 = 126 := (nI_eq (b := 126) (by omega) (by omega)).mp (h18.symm.trans c_267); show _ = nI (anW g9) ∧ _; rw [e9]; exact ⟨rfl, hr2⟩), ⟨F_239, u17_240, u18_241, u19_242, u20_243, u21_244, u22_245, QTm.mk ht hP hD hO hR, hq_246⟩⟩, hS.F ht⟩) hS.2.2 dX15_check_270
                  ·
                    refine lv_iconst (v := 1) hx hb dX15_check_254 (by decide) ?_
                    refine lv_goto (tgt := 270) hx hb dX15_check_255 (by decide) ?_
                    refine W.widen (k := 0) (n := 0) (by omega) (by omega) ?_
                    exact W.iret (v := 1) hx hb hr (fun t ht hWm => ⟨⟨1, gp_237, rfl, (by rw [chB_c hHAn hOW (by omega), hRT, show ctW D ze (sdM LC DN (nI fm)) (nI fm) R (TC (D jr).2.2.2.2.2 (D jr).2.2.2.2.1) (D jr).2.2.2.2.1 U cc vo (some rd9) = cfW (sdM LC DN (nI fm)) R (TC (D jr).2.2.2.2.2 (D jr).2.2.2.2.1) (D jr).2.2.2.2.1 U rd9 (tlw D ze (sdM LC DN (nI fm)) (nI fm) R (TC (D jr).2.2.2.2.2 (D jr).2.2.2.2.1) (D jr).2.2.2.2.1 U ((D jr).2.2.2.2.1 - 7) 7 cc vo) from rfl, tlw_r (hu2.1 (by omega)) hiz hST hX9 rfl (by omega), if_pos hm2]; have e9 : g9 = 63 := (nI_eq (b := 63) (by omega) (by omega)).mp (h18.symm.trans c_266); show _ = nI (anW g9) ∧ _; rw [e9]; exact ⟨rfl, hr2⟩), ⟨F_239, u17_240, u18_241, u19_242, u20_243, u21_244, u22_245, QTm.mk ht hP hD hO hR, hq_246⟩⟩, hS.F ht⟩) hS.2.2 dX15_check_270
                ·
                  refine lv_iconst (v := 2) hx hb dX15_check_243 (by decide) ?_
                  refine lv_goto (tgt := 270) hx hb dX15_check_244 (by decide) ?_
                  refine W.widen (k := 0) (n := 0) (by omega) (by omega) ?_
                  exact W.iret (v := 2) hx hb hr (fun t ht hWm => ⟨⟨2, gp_237, rfl, (by rw [chB_c hHAn hOW (by omega), hRT, show ctW D ze (sdM LC DN (nI fm)) (nI fm) R (TC (D jr).2.2.2.2.2 (D jr).2.2.2.2.1) (D jr).2.2.2.2.1 U cc vo (some rd9) = cfW (sdM LC DN (nI fm)) R (TC (D jr).2.2.2.2.2 (D jr).2.2.2.2.1) (D jr).2.2.2.2.1 U rd9 (tlw D ze (sdM LC DN (nI fm)) (nI fm) R (TC (D jr).2.2.2.2.2 (D jr).2.2.2.2.1) (D jr).2.2.2.2.1 U ((D jr).2.2.2.2.1 - 7) 7 cc vo) from rfl, tlw_r (hu2.1 (by omega)) hiz hST hX9 rfl (by omega), if_pos hm2]; have e9 : g9 = 43 := (nI_eq (b := 43) (by omega) (by omega)).mp (h18.symm.trans c_265); show _ = nI (anW g9) ∧ _; rw [e9]; exact ⟨rfl, hr2⟩), ⟨F_239, u17_240, u18_241, u19_242, u20_243, u21_244, u22_245, QTm.mk ht hP hD hO hR, hq_246⟩⟩, hS.F ht⟩) hS.2.2 dX15_check_270
            ·
              have hi_268 : 1 < (mmv (mtW D ze (sdM LC DN (nI fm)) (nI fm) R (TC (D jr).2.2.2.2.2 (D jr).2.2.2.2.1) U (k, g9, s9, q9, w9, yq) cj vj).1) := Nat.not_le.mp (fun q => c_256 ((nI_leI (a := (mmv (mtW D ze (sdM LC DN (nI fm)) (nI fm) R (TC (D jr).2.2.2.2.2 (D jr).2.2.2.2.1) U (k, g9, s9, q9, w9, yq) cj vj).1)) (b := 1) (by omega) (by omega)).mpr q))
              have hgt1 : 1 < mmv (mtW D ze (sdM LC DN (nI fm)) (nI fm) R (TC (D jr).2.2.2.2.2 (D jr).2.2.2.2.1) U (k, g9, s9, q9, w9, yq) cj vj).1 := by omega
              refine lv_iload hx hb dX15_check_227 (lv_at hl 0 rfl) ?_
              refine W.widen (k := 0) (n := 0) (by omega) (by omega) ?_
              exact W.iret (v := (nI (mmv (mtW D ze (sdM LC DN (nI fm)) (nI fm) R (TC (D jr).2.2.2.2.2 (D jr).2.2.2.2.1) U (k, g9, s9, q9, w9, yq) cj vj).1))) hx hb hr (fun t ht hWm => ⟨⟨(nI (mmv (mtW D ze (sdM LC DN (nI fm)) (nI fm) R (TC (D jr).2.2.2.2.2 (D jr).2.2.2.2.1) U (k, g9, s9, q9, w9, yq) cj vj).1)), gp_237, rfl, (by rw [chB_c hHAn hOW (by omega), hRT, show ctW D ze (sdM LC DN (nI fm)) (nI fm) R (TC (D jr).2.2.2.2.2 (D jr).2.2.2.2.1) (D jr).2.2.2.2.1 U cc vo (some rd9) = cfW (sdM LC DN (nI fm)) R (TC (D jr).2.2.2.2.2 (D jr).2.2.2.2.1) (D jr).2.2.2.2.1 U rd9 (tlw D ze (sdM LC DN (nI fm)) (nI fm) R (TC (D jr).2.2.2.2.2 (D jr).2.2.2.2.1) (D jr).2.2.2.2.1 U ((D jr).2.2.2.2.1 - 7) 7 cc vo) from rfl, tlw_r (hu2.1 (by omega)) hiz hST hX9 rfl (hMv.2.2.2 hgt1).2.2, if_neg (hMv.2.2.2 hgt1).2.1]; exact ⟨congrArg nI (hMv.2.2.2 hgt1).1, hr2⟩), ⟨F_239, u17_240, u18_241, u19_242, u20_243, u21_244, u22_245, QTm.mk ht hP hD hO hR, hq_246⟩⟩, hS.F ht⟩) hS.2.2 dX15_check_229
          ·
            have hk78 : (k, g9, s9, q9, w9, yq).1 = 7 ∨ (k, g9, s9, q9, w9, yq).1 = 8 := by show k = 7 ∨ k = 8; rcases Nat.lt_or_ge k 7 with c9 | c9; exact absurd (by rw [h17]; exact (nI_ltI (a := k - 1) (b := 6) (by omega) (by omega)).mpr (by omega)) c_236; omega
            have hkn1 : ¬ (k, g9, s9, q9, w9, yq).1 = 1 := by rcases hk78 with c9 | c9 <;> omega
            refine lv_goto (tgt := 271) hx hb dX15_check_202 (by decide) ?_
            refine lv_aload hx hb dX15_check_271 (lv_at hl 3 rfl) ?_
            refine lv_aload hx hb dX15_check_273 (lv_at hl 3 rfl) ?_
            refine lv_iload hx hb dX15_check_275 (lv_at hl 0 rfl) ?_
            have hFc := pg_free hD hS hA
            refine va_calli (va_runS (As := [.ref b_69, .int (nI i)]) (rest := [.ref b_69]) ⟨hx, hb, hml, hown, hts⟩ (s_X15_wordEnd_x l dC dI cs ty gm L H.size F_219 b_69 (ρ + 50 + jr + 100) r_70 700 ((D jr).2.2.2.2.1) i ((D jr).2.2.2.2.2) hW hi_72 ht_73 hF_234 hF_235 (hen1c) (by omega) (by omega)) ⟨callB_of 2 hts (gi kt_1175) rfl rfl rfl (hts _ kt_669) (hts _ kt_1176) (by decide +kernel) ⟨by show 0 + 1 ≤ fr + 7; omega, by show 8 + (3 + 11) + 0 ≤ lo + 158; omega⟩, (hts _ kt_1177)⟩ ⟨fun a U g mk q => ⟨q.1, PTm.calling q.2⟩, fun U hU hWm => ⟨rfl, PTm.mk hU hWm hP hK hD hE hO⟩⟩ rfl rfl hl.1 rfl (lv_room (Nat.le_of_ble_eq_true rfl)) dX15_check_277 ⟨by show _ + 0 ≤ 0; omega, by show _ + 0 ≤ 0; omega⟩) hS (fun q _ h => hFc q h) hFc (fun r_269 u t H1 locs ht hvm hw hB hz1 hk1 hS => ?_)
            obtain ⟨F_270, hB1⟩ := hB
            obtain rfl : F_219 = F_270 := (funext (fun a => hB1.2.2.2 a List.not_mem_nil)).symm
            obtain ⟨hP, hD, hO, hR⟩ := QTm.back hB1 ht hFc hR (fun q h => absurd h List.not_mem_nil)
            generalize H1 = H at hP hS ⊢
            have hw : r_269 = nI (fdT (TC (D jr).2.2.2.2.2 (D jr).2.2.2.2.1) 32 i (D jr).2.2.2.2.1) := hw
            subst hw
            have hFc := pg_free hD hS hA
            refine va_calli (va_runS (As := [.ref b_69, .int (nI (fdT (TC (D jr).2.2.2.2.2 (D jr).2.2.2.2.1) 32 i (D jr).2.2.2.2.1))]) (rest := []) ⟨hx, hb, hml, hown, hts⟩ (s_X15_blankFrom_x l dC dI cs ty gm L H.size F_219 b_69 (ρ + 50 + jr + 100) r_70 700 ((D jr).2.2.2.2.1) (fdT (TC (D jr).2.2.2.2.2 (D jr).2.2.2.2.1) 32 i (D jr).2.2.2.2.1) ((D jr).2.2.2.2.2) hW hi_72 ht_73 hF_234 hF_235 (hen1c) (by omega) (hwe)) ⟨callB_of 2 hts (gi kt_1172) rfl rfl rfl (hts _ kt_669) (hts _ kt_1173) (by decide +kernel) ⟨by show 0 + 1 ≤ fr + 7; omega, by show 8 + (3 + 11) + 0 ≤ lo + 158; omega⟩, (hts _ kt_1174)⟩ ⟨fun a U g mk q => ⟨q.1, PTm.calling q.2⟩, fun U hU hWm => ⟨rfl, PTm.mk hU hWm hP hK hD hE hO⟩⟩ rfl rfl hl.1 rfl (lv_room (Nat.le_of_ble_eq_true rfl)) dX15_check_280 ⟨by show _ + 0 ≤ 0; omega, by show _ + 0 ≤ 0; omega⟩) hS (fun q _ h => hFc q h) hFc (fun r_271 u t H1 locs ht hvm hw hB hz1 hk1 hS => ?_)
            obtain ⟨F_272, hB1⟩ := hB
            obtain rfl : F_219 = F_272 := (funext (fun a => hB1.2.2.2 a List.not_mem_nil)).symm
            obtain ⟨hP, hD, hO, hR⟩ := QTm.back hB1 ht hFc hR (fun q h => absurd h List.not_mem_nil)
            generalize H1 = H at hP hS ⊢
            have hw : r_271 = nI (bkT (TC (D jr).2.2.2.2.2 (D jr).2.2.2.2.1) (fdT (TC (D jr).2.2.2.2.2 (D jr).2.2.2.2.1) 32 i (D jr).2.2.2.2.1) (D jr).2.2.2.2.1) := hw
            subst hw
            refine lv_istore (lv' := [(7, .int (nI (bkT (TC (D jr).2.2.2.2.2 (D jr).2.2.2.2.1) (fdT (TC (D jr).2.2.2.2.2 (D jr).2.2.2.2.1) 32 i (D jr).2.2.2.2.1) (D jr).2.2.2.2.1))), (6, .int (tnv rd9)), (5, .int w5), (4, .ref b_69), (3, .int (nI jr)), (0, .ref h0), (1, .ref dd), (2, .int (nI lv))]) hx hb dX15_check_283 hl (by decide) rfl (fun ls hl => ?_)
            refine lv_goto (tgt := 165) hx hb dX15_check_285 (by decide) ?_
            refine W.widen (k := 0) (n := 0) (by omega) (by omega) ?_
            exact ih_114 ((bkT (TC (D jr).2.2.2.2.2 (D jr).2.2.2.2.1) (fdT (TC (D jr).2.2.2.2.2 (D jr).2.2.2.2.1) 32 i (D jr).2.2.2.2.1) (D jr).2.2.2.2.1), cj, vj, u17_220, u18_221, u19_222, u20_223, u21_224, u22_225) F_219 (⟨hatS.1, by omega, ⟨fun q9 => tlw_to (tlw_y (hu2.1 q9) hiz hST hX9 (mt_78 hk78) rfl) (by omega) hatS.1.1 hatS.2.1, fun q9 => absurd hiz (by omega)⟩, hu3, hu4, hu5, fun p9 a1 a2 a3 t9 a4 => by rcases Nat.lt_or_ge p9 i with c9 | c9; exact hu6 p9 a1 c9 a3 t9 a4; rcases Nat.lt_or_ge i p9 with c8 | c8; exact absurd a3 (hatS.2.1 p9 (by omega) a2); obtain rfl : p9 = i := (by omega); rw [hX9] at a4; rw [← Option.some.inj a4]; exact hkn1, hq_226⟩) (by show (D jr).2.2.2.2.1 - (bkT (TC (D jr).2.2.2.2.2 (D jr).2.2.2.2.1) (fdT (TC (D jr).2.2.2.2.2 (D jr).2.2.2.2.1) 32 i (D jr).2.2.2.2.1) (D jr).2.2.2.2.1) < (D jr).2.2.2.2.1 - i; omega) hO hR _ _ hP hD hS ls (lv_sub hl [0, 1, 2, 3, 4, 5, 6, 7] rfl)
      ·
        have hi_273 : j < (D jr).2.2.2.2.1 := ltN (N := (D jr).2.2.2.2.1) c_100
        have hjz : j < (D jr).2.2.2.2.1 := by omega
        obtain ⟨hj9, hST⟩ := hv1.2 hjz
        have hatS := tat_s hv1 hjz
        have hgt := fdT_gt (T := (TC (D jr).2.2.2.2.2 (D jr).2.2.2.2.1)) (c := 32) hST.2 hjz
        have hwe : fdT (TC (D jr).2.2.2.2.2 (D jr).2.2.2.2.1) 32 j (D jr).2.2.2.2.1 ≤ (D jr).2.2.2.2.1 := by have h9 : fdT (TC (D jr).2.2.2.2.2 (D jr).2.2.2.2.1) 32 j (D jr).2.2.2.2.1 ≤ j + ((D jr).2.2.2.2.1 - j) := (fdT_le (T := (TC (D jr).2.2.2.2.2 (D jr).2.2.2.2.1)) (c := 32) ((D jr).2.2.2.2.1 - j) j).2; omega
        refine lv_aload_n hx hb dX15_check_65 rfl (lv_at hl 5 rfl) ?_
        refine lv_aload hx hb dX15_check_66 (lv_at hl 3 rfl) ?_
        refine pg_get (ci := 14) (v := .ref r_70) (C := RX14) (T := TX14) (N := 2) hx hb hts it_14 hown hK hP hi_72 hF_98 rfl 0 (by decide) (hts _ kt_710) (fun _ h9 => h9) rfl dX15_check_68 ?_
        refine lv_iload hx hb dX15_check_71 (lv_at hl 0 rfl) ?_
        refine lv_aload hx hb dX15_check_73 (lv_at hl 3 rfl) ?_
        refine lv_iload hx hb dX15_check_75 (lv_at hl 0 rfl) ?_
        have hFc := pg_free hD hS hA
        refine va_calli (va_runS (As := [.ref b_69, .int (nI j)]) (rest := [.int (nI j), .ref r_70, .ref h0]) ⟨hx, hb, hml, hown, hts⟩ (s_X15_wordEnd_x l dC dI cs ty gm L H.size F_81 b_69 (ρ + 50 + jr + 100) r_70 700 ((D jr).2.2.2.2.1) j ((D jr).2.2.2.2.2) hW hi_72 ht_73 hF_98 hF_99 (hen1c) (by omega) (by omega)) ⟨callB_of 2 hts (gi kt_1175) rfl rfl rfl (hts _ kt_669) (hts _ kt_1176) (by decide +kernel) ⟨by show 0 + 1 ≤ fr + 7; omega, by show 8 + (3 + 11) + 0 ≤ lo + 158; omega⟩, (hts _ kt_1177)⟩ ⟨fun a U g mk q => ⟨q.1, PTm.calling q.2⟩, fun U hU hWm => ⟨rfl, PTm.mk hU hWm hP hK hD hE hO⟩⟩ rfl rfl hl.1 rfl (lv_room (Nat.le_of_ble_eq_true rfl)) dX15_check_77 ⟨by show _ + 0 ≤ 0; omega, by show _ + 0 ≤ 0; omega⟩) hS (fun q _ h => hFc q h) hFc (fun r_274 u t H1 locs ht hvm hw hB hz1 hk1 hS => ?_)
        obtain ⟨F_275, hB1⟩ := hB
        obtain rfl : F_81 = F_275 := (funext (fun a => hB1.2.2.2 a List.not_mem_nil)).symm
        obtain ⟨hP, hD, hO, hR⟩ := QTm.back hB1 ht hFc hR (fun q h => absurd h List.not_mem_nil)
        generalize H1 = H at hP hS ⊢
        have hw : r_274 = nI (fdT (TC (D jr).2.2.2.2.2 (D jr).2.2.2.2.1) 32 j (D jr).2.2.2.2.1) := hw
        subst hw
        have hFc := pg_free hD hS hA
        refine va_callv (va_runV (As := [.ref r_70, .int (nI j), .int (nI (fdT (TC (D jr).2.2.2.2.2 (D jr).2.2.2.2.1) 32 j (D jr).2.2.2.2.1))]) (rest := []) ⟨hx, hb, hml, hown, hts⟩ (s_X15_readTerm_x l dC dI cs ty gm L H.size F_81 h0 ρ ta ou so ad na va lc dm tg pe ml bg co sp nb0 nb1 nb2 pl se ke wi hs mo po nu pr sq xa sa n64 m64 ex wh sd tk hd ak ho ot sx s0 s1 s2 nf bd mm zo fm sn 0 gc gv ze zt (nI cc) (nI vo) q17 q18 q19 q20 q21 q22 v33 v52 v53 v54 r_70 (ρ + 50 + jr + 100) ((D jr).2.2.2.2.2) ((D jr).2.2.2.2.1) j (fdT (TC (D jr).2.2.2.2.2 (D jr).2.2.2.2.1) 32 j (D jr).2.2.2.2.1) hW hL_h0 hT_h0 hi_74 ht_75 hv4 (hzo) (hze) (h33) (h54) (by first | omega | assumption | exact Or.inl rfl) hF_99 (by omega) (by omega) (hen1c) (hgt)) ⟨callB_of 3 hts (gi kt_1178) rfl rfl rfl (hts _ kt_669) (hts _ kt_1179) (by decide +kernel) ⟨by show 6 + 1 ≤ fr + 7; omega, by show 8 + (7 + 11) + 132 ≤ lo + 158; omega⟩, (hts _ kt_1180), (hts _ kt_1181)⟩ ⟨fun a U g mk q => ⟨q.1, PTEm.calling q.2⟩, pg_recv hK hP hL_h0 hv4 (q := (RX15, TX15, 59)) rfl, fun U hU hWm => ⟨rfl, PTEm.mk hU hWm hP hK hD hE hO hG (fun x hx => absurd hx List.not_mem_nil) hS hFc⟩⟩ rfl rfl hl.1 rfl (lv_room (Nat.le_of_ble_eq_true rfl)) dX15_check_80 ⟨by show _ + 0 ≤ 0; omega, by show _ + 0 ≤ 0; omega⟩) hS (fun q _ h => hFc q h) hFc (fun u t H1 locs ht hvm hw hB hz1 hk1 hS => ?_)
        obtain ⟨F_277, u17_278, u18_279, u19_280, u20_281, u21_282, u22_283, hB1, hq_284, hq_285⟩ := hB
        obtain ⟨hP, hD, hO, hR⟩ := QTm.back hB1 ht hFc hR (fun q h => by simp only [mem_tgS, List.mem_cons, List.not_mem_nil, or_false] at h ⊢; omega)
        have hF_286 : F_277 dd = .inr (14, [.ref rd, .int (nI y)]) := (hB1.2.2.2 dd (by rw [hT_dd]; simp only [mem_tgS, List.mem_cons, List.not_mem_nil, or_false]; omega)).trans hF_92
        have hF_287 : F_277 rd = .inl (cs 17, nd, .inl hf) := (hB1.2.2.2 rd (by rw [ht_32]; simp only [mem_tgS, List.mem_cons, List.not_mem_nil, or_false]; omega)).trans hF_93
        have hF_288 : F_277 va = .inl (cs 23, 40, .inr (.inr (.inr (.inr f_36)))) := (hB1.2.2.2 va (by rw [ht_35]; simp)).trans hF_94
        have hF_289 : F_277 tg = .inl (cs 23, 13, .inr (.inr (.inr (.inr f_41)))) := (hB1.2.2.2 tg (by rw [ht_40]; simp)).trans hF_95
        have hF_290 : F_277 lc = .inr (14, [.ref r_1, .int (nI z_49)]) := (hB1.2.2.2 lc (by rw [ht_45]; simp)).trans hF_96
        have hF_291 : F_277 dm = .inr (14, [.ref r_2, .int (nI z_57)]) := (hB1.2.2.2 dm (by rw [ht_53]; simp)).trans hF_97
        have hF_292 : F_277 b_69 = .inr (14, [.ref r_70, .int (nI (D jr).2.2.2.2.1)]) := (hB1.2.2.2 b_69 (by rw [ht_73]; simp only [mem_tgS, List.mem_cons, List.not_mem_nil, or_false]; omega)).trans hF_98
        have hF_293 : F_277 r_70 = .inl (cs 17, 700, .inl ((D jr).2.2.2.2.2)) := (hB1.2.2.2 r_70 (by rw [ht_75]; simp only [mem_tgS, List.mem_cons, List.not_mem_nil, or_false]; omega)).trans hF_99
        generalize H1 = H at hP hS ⊢
        have hRX := hq_285
        refine lv_aload_n hx hb dX15_check_83 rfl (lv_at hl 5 rfl) ?_
        refine pg_get (ci := 15) (v := .int u17_278) (C := RX15) (T := TX15) (N := 59) hx hb hts it_15 hown hK hP hL_h0 hq_284 rfl 17 (by decide) (hts _ kt_750) (fun _ h9 => h9) rfl dX15_check_84 ?_
        refine lv_bipush (v := 8) hx hb dX15_check_87 (by decide) ?_
        refine lv_icmp_eq (tgt := 106) hx hb dX15_check_89 (by decide) (fun c_294 => ?_) (fun c_294 => ?_)
        ·
          have hXn := rtx_8 hRX c_294
          refine lv_bipush (v := 6) hx hb dX15_check_106 (by decide) ?_
          refine W.widen (k := 0) (n := 0) (by omega) (by omega) ?_
          exact W.iret (v := 6) hx hb hr (fun t ht hWm => ⟨⟨6, (cc, vo), rfl, (by rw [chB_c hHAn hOW (by omega), rt_s0 (hv2.1 (by omega)) hjz hST hXn]; exact ⟨rfl, rfl⟩), ⟨F_277, u17_278, u18_279, u19_280, u20_281, u21_282, u22_283, QTm.mk ht hP hD hO hR, hq_284⟩⟩, hS.F ht⟩) hS.2.2 dX15_check_108
        ·
          refine lv_aload_n hx hb dX15_check_92 rfl (lv_at hl 5 rfl) ?_
          refine pg_get (ci := 15) (v := .int u17_278) (C := RX15) (T := TX15) (N := 59) hx hb hts it_15 hown hK hP hL_h0 hq_284 rfl 17 (by decide) (hts _ kt_750) (fun _ h9 => h9) rfl dX15_check_93 ?_
          refine lv_bipush (v := 6) hx hb dX15_check_96 (by decide) ?_
          refine lv_icmp_ne (tgt := 109) hx hb dX15_check_98 (by decide) (fun c_295 => ?_) (fun c_295 => ?_)
          ·
            refine lv_aload_n hx hb dX15_check_109 rfl (lv_at hl 5 rfl) ?_
            refine pg_get (ci := 15) (v := .int u17_278) (C := RX15) (T := TX15) (N := 59) hx hb hts it_15 hown hK hP hL_h0 hq_284 rfl 17 (by decide) (hts _ kt_750) (fun _ h9 => h9) rfl dX15_check_110 ?_
            refine lv_bipush (v := 6) hx hb dX15_check_113 (by decide) ?_
            refine lv_icmp_ne (tgt := 122) hx hb dX15_check_115 (by decide) (fun c_296 => ?_) (fun c_296 => ?_)
            ·
              obtain ⟨k9, g9, s9, q9, w9, y9, hX9, hk9, h17, -⟩ := rtx_s hRX (fun q => by rcases hRX with c9 | ⟨_, _, _, _, _, _, c9, -⟩; exact c_294 c9.2; rw [q] at c9; exact (nomatch c9))
              have hXt : trT (TC (D jr).2.2.2.2.2 (D jr).2.2.2.2.1) j (fdT (TC (D jr).2.2.2.2.2 (D jr).2.2.2.2.1) 32 j (D jr).2.2.2.2.1) = some (k9, g9, s9, q9, w9, y9) ∧ True := ⟨hX9, trivial⟩
              have hn7 : ¬ (k9, g9, s9, q9, w9, y9).1 = 7 := fun q => c_296 (by have h8 : k9 = 7 := q; rw [h17, h8]; rfl)
              refine lv_iload hx hb dX15_check_122 (lv_at hl 2 rfl) ?_
              refine lv_aload_n hx hb dX15_check_124 rfl (lv_at hl 5 rfl) ?_
              refine pg_get (ci := 15) (v := .int u17_278) (C := RX15) (T := TX15) (N := 59) hx hb hts it_15 hown hK hP hL_h0 hq_284 rfl 17 (by decide) (hts _ kt_750) (fun _ h9 => h9) rfl dX15_check_125 ?_
              refine lv_if_ne (tgt := 135) hx hb dX15_check_128 (by decide) (fun c_297 => ?_) (fun c_297 => ?_)
              ·
                refine lv_iconst (v := 0) hx hb dX15_check_135 (by decide) ?_
                refine lv_ior hx hb dX15_check_136 ?_
                refine lv_topi (fun x_298 ex_298 => ?_)
                obtain rfl : w5 = x_298 := (ex_298.trans ((show w5 ||| 0 = w5 from by rcases hal with q | q; rw [q]; decide; rw [q.1]; decide))).symm
                refine lv_istore (lv' := [(5, .int w5), (7, .int (nI j)), (6, .int (tnv rd9)), (4, .ref b_69), (3, .int (nI jr)), (0, .ref h0), (1, .ref dd), (2, .int (nI lv))]) hx hb dX15_check_137 hl (by decide) rfl (fun ls hl => ?_)
                refine lv_aload hx hb dX15_check_139 (lv_at hl 3 rfl) ?_
                refine lv_aload hx hb dX15_check_141 (lv_at hl 3 rfl) ?_
                refine lv_iload hx hb dX15_check_143 (lv_at hl 1 rfl) ?_
                have hFc := pg_free hD hS hA
                refine va_calli (va_runS (As := [.ref b_69, .int (nI j)]) (rest := [.ref b_69]) ⟨hx, hb, hml, hown, hts⟩ (s_X15_wordEnd_x l dC dI cs ty gm L H.size F_277 b_69 (ρ + 50 + jr + 100) r_70 700 ((D jr).2.2.2.2.1) j ((D jr).2.2.2.2.2) hW hi_72 ht_73 hF_292 hF_293 (hen1c) (by omega) (by omega)) ⟨callB_of 2 hts (gi kt_1175) rfl rfl rfl (hts _ kt_669) (hts _ kt_1176) (by decide +kernel) ⟨by show 0 + 1 ≤ fr + 7; omega, by show 8 + (3 + 11) + 0 ≤ lo + 158; omega⟩, (hts _ kt_1177)⟩ ⟨fun a U g mk q => ⟨q.1, PTm.calling q.2⟩, fun U hU hWm => ⟨rfl, PTm.mk hU hWm hP hK hD hE hO⟩⟩ rfl rfl hl.1 rfl (lv_room (Nat.le_of_ble_eq_true rfl)) dX15_check_145 ⟨by show _ + 0 ≤ 0; omega, by show _ + 0 ≤ 0; omega⟩) hS (fun q _ h => hFc q h) hFc (fun r_299 u t H1 locs ht hvm hw hB hz1 hk1 hS => ?_)
                obtain ⟨F_300, hB1⟩ := hB
                obtain rfl : F_277 = F_300 := (funext (fun a => hB1.2.2.2 a List.not_mem_nil)).symm
                obtain ⟨hP, hD, hO, hR⟩ := QTm.back hB1 ht hFc hR (fun q h => absurd h List.not_mem_nil)
                generalize H1 = H at hP hS ⊢
                have hw : r_299 = nI (fdT (TC (D jr).2.2.2.2.2 (D jr).2.2.2.2.1) 32 j (D jr).2.2.2.2.1) := hw
                subst hw
                have hFc := pg_free hD hS hA
                refine va_calli (va_runS (As := [.ref b_69, .int (nI (fdT (TC (D jr).2.2.2.2.2 (D jr).2.2.2.2.1) 32 j (D jr).2.2.2.2.1))]) (rest := []) ⟨hx, hb, hml, hown, hts⟩ (s_X15_blankFrom_x l dC dI cs ty gm L H.size F_277 b_69 (ρ + 50 + jr + 100) r_70 700 ((D jr).2.2.2.2.1) (fdT (TC (D jr).2.2.2.2.2 (D jr).2.2.2.2.1) 32 j (D jr).2.2.2.2.1) ((D jr).2.2.2.2.2) hW hi_72 ht_73 hF_292 hF_293 (hen1c) (by omega) (hwe)) ⟨callB_of 2 hts (gi kt_1172) rfl rfl rfl (hts _ kt_669) (hts _ kt_1173) (by decide +kernel) ⟨by show 0 + 1 ≤ fr + 7; omega, by show 8 + (3 + 11) + 0 ≤ lo + 158; omega⟩, (hts _ kt_1174)⟩ ⟨fun a U g mk q => ⟨q.1, PTm.calling q.2⟩, fun U hU hWm => ⟨rfl, PTm.mk hU hWm hP hK hD hE hO⟩⟩ rfl rfl hl.1 rfl (lv_room (Nat.le_of_ble_eq_true rfl)) dX15_check_148 ⟨by show _ + 0 ≤ 0; omega, by show _ + 0 ≤ 0; omega⟩) hS (fun q _ h => hFc q h) hFc (fun r_301 u t H1 locs ht hvm hw hB hz1 hk1 hS => ?_)
                obtain ⟨F_302, hB1⟩ := hB
                obtain rfl : F_277 = F_302 := (funext (fun a => hB1.2.2.2 a List.not_mem_nil)).symm
                obtain ⟨hP, hD, hO, hR⟩ := QTm.back hB1 ht hFc hR (fun q h => absurd h List.not_mem_nil)
                generalize H1 = H at hP hS ⊢
                have hw : r_301 = nI (bkT (TC (D jr).2.2.2.2.2 (D jr).2.2.2.2.1) (fdT (TC (D jr).2.2.2.2.2 (D jr).2.2.2.2.1) 32 j (D jr).2.2.2.2.1) (D jr).2.2.2.2.1) := hw
                subst hw
                refine lv_istore (lv' := [(7, .int (nI (bkT (TC (D jr).2.2.2.2.2 (D jr).2.2.2.2.1) (fdT (TC (D jr).2.2.2.2.2 (D jr).2.2.2.2.1) 32 j (D jr).2.2.2.2.1) (D jr).2.2.2.2.1))), (5, .int w5), (6, .int (tnv rd9)), (4, .ref b_69), (3, .int (nI jr)), (0, .ref h0), (1, .ref dd), (2, .int (nI lv))]) hx hb dX15_check_151 hl (by decide) rfl (fun ls hl => ?_)
                refine lv_goto (tgt := 55) hx hb dX15_check_153 (by decide) ?_
                refine W.widen (k := 0) (n := 0) (by omega) (by omega) ?_
                exact ih_91 ((bkT (TC (D jr).2.2.2.2.2 (D jr).2.2.2.2.1) (fdT (TC (D jr).2.2.2.2.2 (D jr).2.2.2.2.1) 32 j (D jr).2.2.2.2.1) (D jr).2.2.2.2.1), w5, rd9, u17_278, u18_279, u19_280, u20_281, u21_282, u22_283) F_277 (⟨hatS.1, by omega, ⟨fun q9 => rtw_to (rt_sk (hv2.1 q9) hjz hST hXt.1 hn7) (by omega) hatS.1.1 hatS.2.1, fun q9 => absurd hjz (by omega)⟩, by omega, hal.imp id (fun q => ⟨q.1, q.2.mo (by omega)⟩), hq_284⟩) (by show (D jr).2.2.2.2.1 - (bkT (TC (D jr).2.2.2.2.2 (D jr).2.2.2.2.1) (fdT (TC (D jr).2.2.2.2.2 (D jr).2.2.2.2.1) 32 j (D jr).2.2.2.2.1) (D jr).2.2.2.2.1) < (D jr).2.2.2.2.1 - j; omega) hO hR _ _ hP hD hS ls (lv_sub hl [0, 2, 1, 3, 4, 5, 6, 7] rfl)
              ·
                refine lv_iconst (v := 1) hx hb dX15_check_131 (by decide) ?_
                refine lv_goto (tgt := 136) hx hb dX15_check_132 (by decide) ?_
                refine lv_ior hx hb dX15_check_136 ?_
                refine lv_topi (fun x_303 ex_303 => ?_)
                obtain rfl : x_303 = 1 := ex_303.trans ((show w5 ||| 1 = 1 from by rcases hal with q | q; rw [q]; decide; rw [q.1]; decide))
                refine lv_istore (lv' := [(5, .int 1), (7, .int (nI j)), (6, .int (tnv rd9)), (4, .ref b_69), (3, .int (nI jr)), (0, .ref h0), (1, .ref dd), (2, .int (nI lv))]) hx hb dX15_check_137 hl (by decide) rfl (fun ls hl => ?_)
                refine lv_aload hx hb dX15_check_139 (lv_at hl 3 rfl) ?_
                refine lv_aload hx hb dX15_check_141 (lv_at hl 3 rfl) ?_
                refine lv_iload hx hb dX15_check_143 (lv_at hl 1 rfl) ?_
                have hFc := pg_free hD hS hA
                refine va_calli (va_runS (As := [.ref b_69, .int (nI j)]) (rest := [.ref b_69]) ⟨hx, hb, hml, hown, hts⟩ (s_X15_wordEnd_x l dC dI cs ty gm L H.size F_277 b_69 (ρ + 50 + jr + 100) r_70 700 ((D jr).2.2.2.2.1) j ((D jr).2.2.2.2.2) hW hi_72 ht_73 hF_292 hF_293 (hen1c) (by omega) (by omega)) ⟨callB_of 2 hts (gi kt_1175) rfl rfl rfl (hts _ kt_669) (hts _ kt_1176) (by decide +kernel) ⟨by show 0 + 1 ≤ fr + 7; omega, by show 8 + (3 + 11) + 0 ≤ lo + 158; omega⟩, (hts _ kt_1177)⟩ ⟨fun a U g mk q => ⟨q.1, PTm.calling q.2⟩, fun U hU hWm => ⟨rfl, PTm.mk hU hWm hP hK hD hE hO⟩⟩ rfl rfl hl.1 rfl (lv_room (Nat.le_of_ble_eq_true rfl)) dX15_check_145 ⟨by show _ + 0 ≤ 0; omega, by show _ + 0 ≤ 0; omega⟩) hS (fun q _ h => hFc q h) hFc (fun r_304 u t H1 locs ht hvm hw hB hz1 hk1 hS => ?_)
                obtain ⟨F_305, hB1⟩ := hB
                obtain rfl : F_277 = F_305 := (funext (fun a => hB1.2.2.2 a List.not_mem_nil)).symm
                obtain ⟨hP, hD, hO, hR⟩ := QTm.back hB1 ht hFc hR (fun q h => absurd h List.not_mem_nil)
                generalize H1 = H at hP hS ⊢
                have hw : r_304 = nI (fdT (TC (D jr).2.2.2.2.2 (D jr).2.2.2.2.1) 32 j (D jr).2.2.2.2.1) := hw
                subst hw
                have hFc := pg_free hD hS hA
                refine va_calli (va_runS (As := [.ref b_69, .int (nI (fdT (TC (D jr).2.2.2.2.2 (D jr).2.2.2.2.1) 32 j (D jr).2.2.2.2.1))]) (rest := []) ⟨hx, hb, hml, hown, hts⟩ (s_X15_blankFrom_x l dC dI cs ty gm L H.size F_277 b_69 (ρ + 50 + jr + 100) r_70 700 ((D jr).2.2.2.2.1) (fdT (TC (D jr).2.2.2.2.2 (D jr).2.2.2.2.1) 32 j (D jr).2.2.2.2.1) ((D jr).2.2.2.2.2) hW hi_72 ht_73 hF_292 hF_293 (hen1c) (by omega) (hwe)) ⟨callB_of 2 hts (gi kt_1172) rfl rfl rfl (hts _ kt_669) (hts _ kt_1173) (by decide +kernel) ⟨by show 0 + 1 ≤ fr + 7; omega, by show 8 + (3 + 11) + 0 ≤ lo + 158; omega⟩, (hts _ kt_1174)⟩ ⟨fun a U g mk q => ⟨q.1, PTm.calling q.2⟩, fun U hU hWm => ⟨rfl, PTm.mk hU hWm hP hK hD hE hO⟩⟩ rfl rfl hl.1 rfl (lv_room (Nat.le_of_ble_eq_true rfl)) dX15_check_148 ⟨by show _ + 0 ≤ 0; omega, by show _ + 0 ≤ 0; omega⟩) hS (fun q _ h => hFc q h) hFc (fun r_306 u t H1 locs ht hvm hw hB hz1 hk1 hS => ?_)
                obtain ⟨F_307, hB1⟩ := hB
                obtain rfl : F_277 = F_307 := (funext (fun a => hB1.2.2.2 a List.not_mem_nil)).symm
                obtain ⟨hP, hD, hO, hR⟩ := QTm.back hB1 ht hFc hR (fun q h => absurd h List.not_mem_nil)
                generalize H1 = H at hP hS ⊢
                have hw : r_306 = nI (bkT (TC (D jr).2.2.2.2.2 (D jr).2.2.2.2.1) (fdT (TC (D jr).2.2.2.2.2 (D jr).2.2.2.2.1) 32 j (D jr).2.2.2.2.1) (D jr).2.2.2.2.1) := hw
                subst hw
                refine lv_istore (lv' := [(7, .int (nI (bkT (TC (D jr).2.2.2.2.2 (D jr).2.2.2.2.1) (fdT (TC (D jr).2.2.2.2.2 (D jr).2.2.2.2.1) 32 j (D jr).2.2.2.2.1) (D jr).2.2.2.2.1))), (5, .int 1), (6, .int (tnv rd9)), (4, .ref b_69), (3, .int (nI jr)), (0, .ref h0), (1, .ref dd), (2, .int (nI lv))]) hx hb dX15_check_151 hl (by decide) rfl (fun ls hl => ?_)
                refine lv_goto (tgt := 55) hx hb dX15_check_153 (by decide) ?_
                refine W.widen (k := 0) (n := 0) (by omega) (by omega) ?_
                exact ih_91 ((bkT (TC (D jr).2.2.2.2.2 (D jr).2.2.2.2.1) (fdT (TC (D jr).2.2.2.2.2 (D jr).2.2.2.2.1) 32 j (D jr).2.2.2.2.1) (D jr).2.2.2.2.1), 1, rd9, u17_278, u18_279, u19_280, u20_281, u21_282, u22_283) F_277 (⟨hatS.1, by omega, ⟨fun q9 => rtw_to (rt_sk (hv2.1 q9) hjz hST hXt.1 hn7) (by omega) hatS.1.1 hatS.2.1, fun q9 => absurd hjz (by omega)⟩, by omega, Or.inr ⟨rfl, j, by omega, by omega, hjz, hST, (by obtain ⟨t9, a1, a2⟩ := rtx_k (m9 := 0) hRX c_297 (by omega); exact ⟨t9, a1, a2⟩)⟩, hq_284⟩) (by show (D jr).2.2.2.2.1 - (bkT (TC (D jr).2.2.2.2.2 (D jr).2.2.2.2.1) (fdT (TC (D jr).2.2.2.2.2 (D jr).2.2.2.2.1) 32 j (D jr).2.2.2.2.1) (D jr).2.2.2.2.1) < (D jr).2.2.2.2.1 - j; omega) hO hR _ _ hP hD hS ls (lv_sub hl [0, 2, 1, 3, 4, 5, 6, 7] rfl)
            ·
              exact absurd c_296 c_295
          ·
            obtain ⟨t7, ht7a, ht7b⟩ := rtx_k (m9 := 6) hRX c_295 (by omega)
            have hX7 : trT (TC (D jr).2.2.2.2.2 (D jr).2.2.2.2.1) j (fdT (TC (D jr).2.2.2.2.2 (D jr).2.2.2.2.1) 32 j (D jr).2.2.2.2.1) = some t7 ∧ t7.1 = 7 := ⟨ht7a, ht7b⟩
            refine lv_iload hx hb dX15_check_101 (lv_at hl 1 rfl) ?_
            refine lv_if_lt (tgt := 109) hx hb dX15_check_103 (by decide) (fun c_308 => ?_) (fun c_308 => ?_)
            ·
              have hr0 : rd9 = 0 := (tnv_n (by omega)).mp c_308
              refine lv_aload_n hx hb dX15_check_109 rfl (lv_at hl 5 rfl) ?_
              refine pg_get (ci := 15) (v := .int u17_278) (C := RX15) (T := TX15) (N := 59) hx hb hts it_15 hown hK hP hL_h0 hq_284 rfl 17 (by decide) (hts _ kt_750) (fun _ h9 => h9) rfl dX15_check_110 ?_
              refine lv_bipush (v := 6) hx hb dX15_check_113 (by decide) ?_
              refine lv_icmp_ne (tgt := 122) hx hb dX15_check_115 (by decide) (fun c_309 => ?_) (fun c_309 => ?_)
              ·
                exact absurd c_295 c_309
              ·
                refine lv_iload hx hb dX15_check_118 (lv_at hl 0 rfl) ?_
                refine lv_istore (lv' := [(6, .int (nI j)), (7, .int (nI j)), (5, .int w5), (4, .ref b_69), (3, .int (nI jr)), (0, .ref h0), (1, .ref dd), (2, .int (nI lv))]) hx hb dX15_check_120 hl (by decide) rfl (fun ls hl => ?_)
                have hl : lv_has ls 10 [(6, .int (tnv j)), (7, .int (nI j)), (5, .int w5), (4, .ref b_69), (3, .int (nI jr)), (0, .ref h0), (1, .ref dd), (2, .int (nI lv))] := by rw [show tnv j = nI j from if_neg (by omega)]; exact hl
                refine lv_iload hx hb dX15_check_122 (lv_at hl 2 rfl) ?_
                refine lv_aload_n hx hb dX15_check_124 rfl (lv_at hl 5 rfl) ?_
                refine pg_get (ci := 15) (v := .int u17_278) (C := RX15) (T := TX15) (N := 59) hx hb hts it_15 hown hK hP hL_h0 hq_284 rfl 17 (by decide) (hts _ kt_750) (fun _ h9 => h9) rfl dX15_check_125 ?_
                refine lv_if_ne (tgt := 135) hx hb dX15_check_128 (by decide) (fun c_310 => ?_) (fun c_310 => ?_)
                ·
                  refine lv_iconst (v := 0) hx hb dX15_check_135 (by decide) ?_
                  refine lv_ior hx hb dX15_check_136 ?_
                  refine lv_topi (fun x_311 ex_311 => ?_)
                  obtain rfl : w5 = x_311 := (ex_311.trans ((show w5 ||| 0 = w5 from by rcases hal with q | q; rw [q]; decide; rw [q.1]; decide))).symm
                  refine lv_istore (lv' := [(5, .int w5), (6, .int (tnv j)), (7, .int (nI j)), (4, .ref b_69), (3, .int (nI jr)), (0, .ref h0), (1, .ref dd), (2, .int (nI lv))]) hx hb dX15_check_137 hl (by decide) rfl (fun ls hl => ?_)
                  refine lv_aload hx hb dX15_check_139 (lv_at hl 3 rfl) ?_
                  refine lv_aload hx hb dX15_check_141 (lv_at hl 3 rfl) ?_
                  refine lv_iload hx hb dX15_check_143 (lv_at hl 2 rfl) ?_
                  have hFc := pg_free hD hS hA
                  refine va_calli (va_runS (As := [.ref b_69, .int (nI j)]) (rest := [.ref b_69]) ⟨hx, hb, hml, hown, hts⟩ (s_X15_wordEnd_x l dC dI cs ty gm L H.size F_277 b_69 (ρ + 50 + jr + 100) r_70 700 ((D jr).2.2.2.2.1) j ((D jr).2.2.2.2.2) hW hi_72 ht_73 hF_292 hF_293 (hen1c) (by omega) (by omega)) ⟨callB_of 2 hts (gi kt_1175) rfl rfl rfl (hts _ kt_669) (hts _ kt_1176) (by decide +kernel) ⟨by show 0 + 1 ≤ fr + 7; omega, by show 8 + (3 + 11) + 0 ≤ lo + 158; omega⟩, (hts _ kt_1177)⟩ ⟨fun a U g mk q => ⟨q.1, PTm.calling q.2⟩, fun U hU hWm => ⟨rfl, PTm.mk hU hWm hP hK hD hE hO⟩⟩ rfl rfl hl.1 rfl (lv_room (Nat.le_of_ble_eq_true rfl)) dX15_check_145 ⟨by show _ + 0 ≤ 0; omega, by show _ + 0 ≤ 0; omega⟩) hS (fun q _ h => hFc q h) hFc (fun r_312 u t H1 locs ht hvm hw hB hz1 hk1 hS => ?_)
                  obtain ⟨F_313, hB1⟩ := hB
                  obtain rfl : F_277 = F_313 := (funext (fun a => hB1.2.2.2 a List.not_mem_nil)).symm
                  obtain ⟨hP, hD, hO, hR⟩ := QTm.back hB1 ht hFc hR (fun q h => absurd h List.not_mem_nil)
                  generalize H1 = H at hP hS ⊢
                  have hw : r_312 = nI (fdT (TC (D jr).2.2.2.2.2 (D jr).2.2.2.2.1) 32 j (D jr).2.2.2.2.1) := hw
                  subst hw
                  have hFc := pg_free hD hS hA
                  refine va_calli (va_runS (As := [.ref b_69, .int (nI (fdT (TC (D jr).2.2.2.2.2 (D jr).2.2.2.2.1) 32 j (D jr).2.2.2.2.1))]) (rest := []) ⟨hx, hb, hml, hown, hts⟩ (s_X15_blankFrom_x l dC dI cs ty gm L H.size F_277 b_69 (ρ + 50 + jr + 100) r_70 700 ((D jr).2.2.2.2.1) (fdT (TC (D jr).2.2.2.2.2 (D jr).2.2.2.2.1) 32 j (D jr).2.2.2.2.1) ((D jr).2.2.2.2.2) hW hi_72 ht_73 hF_292 hF_293 (hen1c) (by omega) (hwe)) ⟨callB_of 2 hts (gi kt_1172) rfl rfl rfl (hts _ kt_669) (hts _ kt_1173) (by decide +kernel) ⟨by show 0 + 1 ≤ fr + 7; omega, by show 8 + (3 + 11) + 0 ≤ lo + 158; omega⟩, (hts _ kt_1174)⟩ ⟨fun a U g mk q => ⟨q.1, PTm.calling q.2⟩, fun U hU hWm => ⟨rfl, PTm.mk hU hWm hP hK hD hE hO⟩⟩ rfl rfl hl.1 rfl (lv_room (Nat.le_of_ble_eq_true rfl)) dX15_check_148 ⟨by show _ + 0 ≤ 0; omega, by show _ + 0 ≤ 0; omega⟩) hS (fun q _ h => hFc q h) hFc (fun r_314 u t H1 locs ht hvm hw hB hz1 hk1 hS => ?_)
                  obtain ⟨F_315, hB1⟩ := hB
                  obtain rfl : F_277 = F_315 := (funext (fun a => hB1.2.2.2 a List.not_mem_nil)).symm
                  obtain ⟨hP, hD, hO, hR⟩ := QTm.back hB1 ht hFc hR (fun q h => absurd h List.not_mem_nil)
                  generalize H1 = H at hP hS ⊢
                  have hw : r_314 = nI (bkT (TC (D jr).2.2.2.2.2 (D jr).2.2.2.2.1) (fdT (TC (D jr).2.2.2.2.2 (D jr).2.2.2.2.1) 32 j (D jr).2.2.2.2.1) (D jr).2.2.2.2.1) := hw
                  subst hw
                  refine lv_istore (lv' := [(7, .int (nI (bkT (TC (D jr).2.2.2.2.2 (D jr).2.2.2.2.1) (fdT (TC (D jr).2.2.2.2.2 (D jr).2.2.2.2.1) 32 j (D jr).2.2.2.2.1) (D jr).2.2.2.2.1))), (5, .int w5), (6, .int (tnv j)), (4, .ref b_69), (3, .int (nI jr)), (0, .ref h0), (1, .ref dd), (2, .int (nI lv))]) hx hb dX15_check_151 hl (by decide) rfl (fun ls hl => ?_)
                  refine lv_goto (tgt := 55) hx hb dX15_check_153 (by decide) ?_
                  refine W.widen (k := 0) (n := 0) (by omega) (by omega) ?_
                  exact ih_91 ((bkT (TC (D jr).2.2.2.2.2 (D jr).2.2.2.2.1) (fdT (TC (D jr).2.2.2.2.2 (D jr).2.2.2.2.1) 32 j (D jr).2.2.2.2.1) (D jr).2.2.2.2.1), w5, j, u17_278, u18_279, u19_280, u20_281, u21_282, u22_283) F_277 (⟨hatS.1, by omega, ⟨fun q9 => rtw_to (rt_s7 (hv2.1 q9) hjz hST hX7.1 hX7.2 hr0) (by omega) hatS.1.1 hatS.2.1, fun q9 => absurd hjz (by omega)⟩, by omega, hal.imp id (fun q => ⟨q.1, q.2.mo (by omega)⟩), hq_284⟩) (by show (D jr).2.2.2.2.1 - (bkT (TC (D jr).2.2.2.2.2 (D jr).2.2.2.2.1) (fdT (TC (D jr).2.2.2.2.2 (D jr).2.2.2.2.1) 32 j (D jr).2.2.2.2.1) (D jr).2.2.2.2.1) < (D jr).2.2.2.2.1 - j; omega) hO hR _ _ hP hD hS ls (lv_sub hl [0, 2, 1, 3, 4, 5, 6, 7] rfl)
                ·
                  refine lv_iconst (v := 1) hx hb dX15_check_131 (by decide) ?_
                  refine lv_goto (tgt := 136) hx hb dX15_check_132 (by decide) ?_
                  refine lv_ior hx hb dX15_check_136 ?_
                  refine lv_topi (fun x_316 ex_316 => ?_)
                  obtain rfl : x_316 = 1 := ex_316.trans ((show w5 ||| 1 = 1 from by rcases hal with q | q; rw [q]; decide; rw [q.1]; decide))
                  refine lv_istore (lv' := [(5, .int 1), (6, .int (tnv j)), (7, .int (nI j)), (4, .ref b_69), (3, .int (nI jr)), (0, .ref h0), (1, .ref dd), (2, .int (nI lv))]) hx hb dX15_check_137 hl (by decide) rfl (fun ls hl => ?_)
                  refine lv_aload hx hb dX15_check_139 (lv_at hl 3 rfl) ?_
                  refine lv_aload hx hb dX15_check_141 (lv_at hl 3 rfl) ?_
                  refine lv_iload hx hb dX15_check_143 (lv_at hl 2 rfl) ?_
                  have hFc := pg_free hD hS hA
                  refine va_calli (va_runS (As := [.ref b_69, .int (nI j)]) (rest := [.ref b_69]) ⟨hx, hb, hml, hown, hts⟩ (s_X15_wordEnd_x l dC dI cs ty gm L H.size F_277 b_69 (ρ + 50 + jr + 100) r_70 700 ((D jr).2.2.2.2.1) j ((D jr).2.2.2.2.2) hW hi_72 ht_73 hF_292 hF_293 (hen1c) (by omega) (by omega)) ⟨callB_of 2 hts (gi kt_1175) rfl rfl rfl (hts _ kt_669) (hts _ kt_1176) (by decide +kernel) ⟨by show 0 + 1 ≤ fr + 7; omega, by show 8 + (3 + 11) + 0 ≤ lo + 158; omega⟩, (hts _ kt_1177)⟩ ⟨fun a U g mk q => ⟨q.1, PTm.calling q.2⟩, fun U hU hWm => ⟨rfl, PTm.mk hU hWm hP hK hD hE hO⟩⟩ rfl rfl hl.1 rfl (lv_room (Nat.le_of_ble_eq_true rfl)) dX15_check_145 ⟨by show _ + 0 ≤ 0; omega, by show _ + 0 ≤ 0; omega⟩) hS (fun q _ h => hFc q h) hFc (fun r_317 u t H1 locs ht hvm hw hB hz1 hk1 hS => ?_)
                  obtain ⟨F_318, hB1⟩ := hB
                  obtain rfl : F_277 = F_318 := (funext (fun a => hB1.2.2.2 a List.not_mem_nil)).symm
                  obtain ⟨hP, hD, hO, hR⟩ := QTm.back hB1 ht hFc hR (fun q h => absurd h List.not_mem_nil)
                  generalize H1 = H at hP hS ⊢
                  have hw : r_317 = nI (fdT (TC (D jr).2.2.2.2.2 (D jr).2.2.2.2.1) 32 j (D jr).2.2.2.2.1) := hw
                  subst hw
                  have hFc := pg_free hD hS hA
                  refine va_calli (va_runS (As := [.ref b_69, .int (nI (fdT (TC (D jr).2.2.2.2.2 (D jr).2.2.2.2.1) 32 j (D jr).2.2.2.2.1))]) (rest := []) ⟨hx, hb, hml, hown, hts⟩ (s_X15_blankFrom_x l dC dI cs ty gm L H.size F_277 b_69 (ρ + 50 + jr + 100) r_70 700 ((D jr).2.2.2.2.1) (fdT (TC (D jr).2.2.2.2.2 (D jr).2.2.2.2.1) 32 j (D jr).2.2.2.2.1) ((D jr).2.2.2.2.2) hW hi_72 ht_73 hF_292 hF_293 (hen1c) (by omega) (hwe)) ⟨callB_of 2 hts (gi kt_1172) rfl rfl rfl (hts _ kt_669) (hts _ kt_1173) (by decide +kernel) ⟨by show 0 + 1 ≤ fr + 7; omega, by show 8 + (3 + 11) + 0 ≤ lo + 158; omega⟩, (hts _ kt_1174)⟩ ⟨fun a U g mk q => ⟨q.1, PTm.calling q.2⟩, fun U hU hWm => ⟨rfl, PTm.mk hU hWm hP hK hD hE hO⟩⟩ rfl rfl hl.1 rfl (lv_room (Nat.le_of_ble_eq_true rfl)) dX15_check_148 ⟨by show _ + 0 ≤ 0; omega, by show _ + 0 ≤ 0; omega⟩) hS (fun q _ h => hFc q h) hFc (fun r_319 u t H1 locs ht hvm hw hB hz1 hk1 hS => ?_)
                  obtain ⟨F_320, hB1⟩ := hB
                  obtain rfl : F_277 = F_320 := (funext (fun a => hB1.2.2.2 a List.not_mem_nil)).symm
                  obtain ⟨hP, hD, hO, hR⟩ := QTm.back hB1 ht hFc hR (fun q h => absurd h List.not_mem_nil)
                  generalize H1 = H at hP hS ⊢
                  have hw : r_319 = nI (bkT (TC (D jr).2.2.2.2.2 (D jr).2.2.2.2.1) (fdT (TC (D jr).2.2.2.2.2 (D jr).2.2.2.2.1) 32 j (D jr).2.2.2.2.1) (D jr).2.2.2.2.1) := hw
                  subst hw
                  refine lv_istore (lv' := [(7, .int (nI (bkT (TC (D jr).2.2.2.2.2 (D jr).2.2.2.2.1) (fdT (TC (D jr).2.2.2.2.2 (D jr).2.2.2.2.1) 32 j (D jr).2.2.2.2.1) (D jr).2.2.2.2.1))), (5, .int 1), (6, .int (tnv j)), (4, .ref b_69), (3, .int (nI jr)), (0, .ref h0), (1, .ref dd), (2, .int (nI lv))]) hx hb dX15_check_151 hl (by decide) rfl (fun ls hl => ?_)
                  refine lv_goto (tgt := 55) hx hb dX15_check_153 (by decide) ?_
                  refine W.widen (k := 0) (n := 0) (by omega) (by omega) ?_
                  exact ih_91 ((bkT (TC (D jr).2.2.2.2.2 (D jr).2.2.2.2.1) (fdT (TC (D jr).2.2.2.2.2 (D jr).2.2.2.2.1) 32 j (D jr).2.2.2.2.1) (D jr).2.2.2.2.1), 1, j, u17_278, u18_279, u19_280, u20_281, u21_282, u22_283) F_277 (⟨hatS.1, by omega, ⟨fun q9 => rtw_to (rt_s7 (hv2.1 q9) hjz hST hX7.1 hX7.2 hr0) (by omega) hatS.1.1 hatS.2.1, fun q9 => absurd hjz (by omega)⟩, by omega, Or.inr ⟨rfl, j, by omega, by omega, hjz, hST, (by obtain ⟨t9, a1, a2⟩ := rtx_k (m9 := 0) hRX c_310 (by omega); exact ⟨t9, a1, a2⟩)⟩, hq_284⟩) (by show (D jr).2.2.2.2.1 - (bkT (TC (D jr).2.2.2.2.2 (D jr).2.2.2.2.1) (fdT (TC (D jr).2.2.2.2.2 (D jr).2.2.2.2.1) 32 j (D jr).2.2.2.2.1) (D jr).2.2.2.2.1) < (D jr).2.2.2.2.1 - j; omega) hO hR _ _ hP hD hS ls (lv_sub hl [0, 2, 1, 3, 4, 5, 6, 7] rfl)
            ·
              have hr0 : ¬ rd9 = 0 := fun q => c_308 ((tnv_n (by omega)).mpr q)
              refine lv_bipush (v := 6) hx hb dX15_check_106 (by decide) ?_
              refine W.widen (k := 0) (n := 0) (by omega) (by omega) ?_
              exact W.iret (v := 6) hx hb hr (fun t ht hWm => ⟨⟨6, (cc, vo), rfl, (by rw [chB_c hHAn hOW (by omega), rt_s77 (hv2.1 (by omega)) hjz hST hX7.1 hX7.2 hr0]; exact ⟨rfl, rfl⟩), ⟨F_277, u17_278, u18_279, u19_280, u20_281, u21_282, u22_283, QTm.mk ht hP hD hO hR, hq_284⟩⟩, hS.F ht⟩) hS.2.2 dX15_check_108
    ·
      refine lv_iload_n hx hb dX15_check_20 rfl (lv_at hl 0 rfl) ?_
      refine lv_iconst (v := (-1)) hx hb dX15_check_21 (by decide) ?_
      refine lv_icmp_ne (tgt := 29) hx hb dX15_check_22 (by decide) (fun c_321 => ?_) (fun c_321 => ?_)
      ·
        refine lv_bipush (v := 6) hx hb dX15_check_29 (by decide) ?_
        refine W.widen (k := 0) (n := 0) (by omega) (by omega) ?_
        exact W.iret (v := 6) hx hb hr (fun t ht hWm => ⟨⟨6, (cc, vo), rfl, (by rw [chB_o hHAn (Int32.not_le.mp c_68), if_neg c_321]; exact ⟨rfl, rfl⟩), ⟨F, v17, v18, v19, v20, v21, v22, QTm.mk ht hP hD hO hR, hF0⟩⟩, hS.F ht⟩) hS.2.2 dX15_check_31
      ·
        refine lv_iconst (v := 0) hx hb dX15_check_25 (by decide) ?_
        refine lv_goto (tgt := 31) hx hb dX15_check_26 (by decide) ?_
        refine W.widen (k := 0) (n := 0) (by omega) (by omega) ?_
        exact W.iret (v := 0) hx hb hr (fun t ht hWm => ⟨⟨0, (cc, vo), rfl, (by rw [chB_o hHAn (Int32.not_le.mp c_68), if_pos c_321]; exact ⟨rfl, rfl⟩), ⟨F, v17, v18, v19, v20, v21, v22, QTm.mk ht hP hD hO hR, hF0⟩⟩, hS.F ht⟩) hS.2.2 dX15_check_31
  ·
    have hHAn := orp1 hw_64 c_65
    refine lv_iconst (v := 5) hx hb dX15_check_8 (by decide) ?_
    refine W.widen (k := 0) (n := 0) (by omega) (by omega) ?_
    exact W.iret (v := 5) hx hb hr (fun t ht hWm => ⟨⟨5, (cc, vo), rfl, (by rw [chB_t hHAn]; exact ⟨rfl, rfl⟩), ⟨F, v17, v18, v19, v20, v21, v22, QTm.mk ht hP hD hO hR, hF0⟩⟩, hS.F ht⟩) hS.2.2 dX15_check_9
