theorem dX15_check_0 : decode cX15_check 0 = .ok (.aload_n 0, 1) := by decide +kernel
theorem dX15_check_1 : decode cX15_check 1 = .ok (.aload_n 1, 1) := by decide +kernel
theorem dX15_check_2 : decode cX15_check 2 = .ok (.invokevirtual 308, 3) := by decide +kernel
theorem dX15_check_5 : decode cX15_check 5 = .ok (.ifCond .eq 5, 3) := by decide +kernel
theorem dX15_check_8 : decode cX15_check 8 = .ok (.iconst 5, 1) := by decide +kernel
theorem dX15_check_9 : decode cX15_check 9 = .ok (.ireturn, 1) := by decide +kernel
theorem dX15_check_10 : decode cX15_check 10 = .ok (.aload_n 0, 1) := by decide +kernel
theorem dX15_check_11 : decode cX15_check 11 = .ok (.aload_n 1, 1) := by decide +kernel
theorem dX15_check_12 : decode cX15_check 12 = .ok (.invokevirtual 311, 3) := by decide +kernel
theorem dX15_check_15 : decode cX15_check 15 = .ok (.istore_n 3, 1) := by decide +kernel
theorem dX15_check_16 : decode cX15_check 16 = .ok (.iload_n 3, 1) := by decide +kernel
theorem dX15_check_17 : decode cX15_check 17 = .ok (.ifCond .ge 15, 3) := by decide +kernel
theorem dX15_check_20 : decode cX15_check 20 = .ok (.iload_n 3, 1) := by decide +kernel
theorem dX15_check_21 : decode cX15_check 21 = .ok (.iconst (-1), 1) := by decide +kernel
theorem dX15_check_22 : decode cX15_check 22 = .ok (.if_icmp .ne 7, 3) := by decide +kernel
theorem dX15_check_25 : decode cX15_check 25 = .ok (.iconst 0, 1) := by decide +kernel
theorem dX15_check_26 : decode cX15_check 26 = .ok (.goto 5, 3) := by decide +kernel
theorem dX15_check_29 : decode cX15_check 29 = .ok (.bipush 6, 2) := by decide +kernel
theorem dX15_check_31 : decode cX15_check 31 = .ok (.ireturn, 1) := by decide +kernel
theorem dX15_check_32 : decode cX15_check 32 = .ok (.aload_n 0, 1) := by decide +kernel
theorem dX15_check_33 : decode cX15_check 33 = .ok (.getfield 51, 3) := by decide +kernel
theorem dX15_check_36 : decode cX15_check 36 = .ok (.iload_n 3, 1) := by decide +kernel
theorem dX15_check_37 : decode cX15_check 37 = .ok (.aaload, 1) := by decide +kernel
theorem dX15_check_38 : decode cX15_check 38 = .ok (.astore 4, 2) := by decide +kernel
theorem dX15_check_40 : decode cX15_check 40 = .ok (.iconst 0, 1) := by decide +kernel
theorem dX15_check_41 : decode cX15_check 41 = .ok (.istore 5, 2) := by decide +kernel
theorem dX15_check_43 : decode cX15_check 43 = .ok (.iconst (-1), 1) := by decide +kernel
theorem dX15_check_44 : decode cX15_check 44 = .ok (.istore 6, 2) := by decide +kernel
theorem dX15_check_46 : decode cX15_check 46 = .ok (.aload 4, 2) := by decide +kernel
theorem dX15_check_48 : decode cX15_check 48 = .ok (.bipush 6, 2) := by decide +kernel
theorem dX15_check_50 : decode cX15_check 50 = .ok (.invokestatic 315, 3) := by decide +kernel
theorem dX15_check_53 : decode cX15_check 53 = .ok (.istore 7, 2) := by decide +kernel
theorem dX15_check_55 : decode cX15_check 55 = .ok (.iload 7, 2) := by decide +kernel
theorem dX15_check_57 : decode cX15_check 57 = .ok (.aload 4, 2) := by decide +kernel
theorem dX15_check_59 : decode cX15_check 59 = .ok (.getfield 190, 3) := by decide +kernel
theorem dX15_check_62 : decode cX15_check 62 = .ok (.if_icmp .ge 94, 3) := by decide +kernel
theorem dX15_check_65 : decode cX15_check 65 = .ok (.aload_n 0, 1) := by decide +kernel
theorem dX15_check_66 : decode cX15_check 66 = .ok (.aload 4, 2) := by decide +kernel
theorem dX15_check_68 : decode cX15_check 68 = .ok (.getfield 295, 3) := by decide +kernel
theorem dX15_check_71 : decode cX15_check 71 = .ok (.iload 7, 2) := by decide +kernel
theorem dX15_check_73 : decode cX15_check 73 = .ok (.aload 4, 2) := by decide +kernel
theorem dX15_check_75 : decode cX15_check 75 = .ok (.iload 7, 2) := by decide +kernel
theorem dX15_check_77 : decode cX15_check 77 = .ok (.invokestatic 318, 3) := by decide +kernel
theorem dX15_check_80 : decode cX15_check 80 = .ok (.invokevirtual 321, 3) := by decide +kernel
theorem dX15_check_83 : decode cX15_check 83 = .ok (.aload_n 0, 1) := by decide +kernel
theorem dX15_check_84 : decode cX15_check 84 = .ok (.getfield 238, 3) := by decide +kernel
theorem dX15_check_87 : decode cX15_check 87 = .ok (.bipush 8, 2) := by decide +kernel
theorem dX15_check_89 : decode cX15_check 89 = .ok (.if_icmp .eq 17, 3) := by decide +kernel
theorem dX15_check_92 : decode cX15_check 92 = .ok (.aload_n 0, 1) := by decide +kernel
theorem dX15_check_93 : decode cX15_check 93 = .ok (.getfield 238, 3) := by decide +kernel
theorem dX15_check_96 : decode cX15_check 96 = .ok (.bipush 6, 2) := by decide +kernel
theorem dX15_check_98 : decode cX15_check 98 = .ok (.if_icmp .ne 11, 3) := by decide +kernel
theorem dX15_check_101 : decode cX15_check 101 = .ok (.iload 6, 2) := by decide +kernel
theorem dX15_check_103 : decode cX15_check 103 = .ok (.ifCond .lt 6, 3) := by decide +kernel
theorem dX15_check_106 : decode cX15_check 106 = .ok (.bipush 6, 2) := by decide +kernel
theorem dX15_check_108 : decode cX15_check 108 = .ok (.ireturn, 1) := by decide +kernel
theorem dX15_check_109 : decode cX15_check 109 = .ok (.aload_n 0, 1) := by decide +kernel
theorem dX15_check_110 : decode cX15_check 110 = .ok (.getfield 238, 3) := by decide +kernel
theorem dX15_check_113 : decode cX15_check 113 = .ok (.bipush 6, 2) := by decide +kernel
theorem dX15_check_115 : decode cX15_check 115 = .ok (.if_icmp .ne 7, 3) := by decide +kernel
theorem dX15_check_118 : decode cX15_check 118 = .ok (.iload 7, 2) := by decide +kernel
theorem dX15_check_120 : decode cX15_check 120 = .ok (.istore 6, 2) := by decide +kernel
theorem dX15_check_122 : decode cX15_check 122 = .ok (.iload 5, 2) := by decide +kernel
theorem dX15_check_124 : decode cX15_check 124 = .ok (.aload_n 0, 1) := by decide +kernel
theorem dX15_check_125 : decode cX15_check 125 = .ok (.getfield 238, 3) := by decide +kernel
theorem dX15_check_128 : decode cX15_check 128 = .ok (.ifCond .ne 7, 3) := by decide +kernel
theorem dX15_check_131 : decode cX15_check 131 = .ok (.iconst 1, 1) := by decide +kernel
theorem dX15_check_132 : decode cX15_check 132 = .ok (.goto 4, 3) := by decide +kernel
theorem dX15_check_135 : decode cX15_check 135 = .ok (.iconst 0, 1) := by decide +kernel
theorem dX15_check_136 : decode cX15_check 136 = .ok (.ior, 1) := by decide +kernel
theorem dX15_check_137 : decode cX15_check 137 = .ok (.istore 5, 2) := by decide +kernel
theorem dX15_check_139 : decode cX15_check 139 = .ok (.aload 4, 2) := by decide +kernel
theorem dX15_check_141 : decode cX15_check 141 = .ok (.aload 4, 2) := by decide +kernel
theorem dX15_check_143 : decode cX15_check 143 = .ok (.iload 7, 2) := by decide +kernel
theorem dX15_check_145 : decode cX15_check 145 = .ok (.invokestatic 318, 3) := by decide +kernel
theorem dX15_check_148 : decode cX15_check 148 = .ok (.invokestatic 315, 3) := by decide +kernel
theorem dX15_check_151 : decode cX15_check 151 = .ok (.istore 7, 2) := by decide +kernel
theorem dX15_check_153 : decode cX15_check 153 = .ok (.goto (-98), 3) := by decide +kernel
theorem dX15_check_156 : decode cX15_check 156 = .ok (.aload 4, 2) := by decide +kernel
theorem dX15_check_158 : decode cX15_check 158 = .ok (.bipush 6, 2) := by decide +kernel
theorem dX15_check_160 : decode cX15_check 160 = .ok (.invokestatic 315, 3) := by decide +kernel
theorem dX15_check_163 : decode cX15_check 163 = .ok (.istore 7, 2) := by decide +kernel
theorem dX15_check_165 : decode cX15_check 165 = .ok (.iload 7, 2) := by decide +kernel
theorem dX15_check_167 : decode cX15_check 167 = .ok (.aload 4, 2) := by decide +kernel
theorem dX15_check_169 : decode cX15_check 169 = .ok (.getfield 190, 3) := by decide +kernel
theorem dX15_check_172 : decode cX15_check 172 = .ok (.if_icmp .ge 116, 3) := by decide +kernel
theorem dX15_check_175 : decode cX15_check 175 = .ok (.aload_n 0, 1) := by decide +kernel
theorem dX15_check_176 : decode cX15_check 176 = .ok (.aload 4, 2) := by decide +kernel
theorem dX15_check_178 : decode cX15_check 178 = .ok (.getfield 295, 3) := by decide +kernel
theorem dX15_check_181 : decode cX15_check 181 = .ok (.iload 7, 2) := by decide +kernel
theorem dX15_check_183 : decode cX15_check 183 = .ok (.aload 4, 2) := by decide +kernel
theorem dX15_check_185 : decode cX15_check 185 = .ok (.iload 7, 2) := by decide +kernel
theorem dX15_check_187 : decode cX15_check 187 = .ok (.invokestatic 318, 3) := by decide +kernel
theorem dX15_check_190 : decode cX15_check 190 = .ok (.invokevirtual 321, 3) := by decide +kernel
theorem dX15_check_193 : decode cX15_check 193 = .ok (.aload_n 0, 1) := by decide +kernel
theorem dX15_check_194 : decode cX15_check 194 = .ok (.getfield 238, 3) := by decide +kernel
theorem dX15_check_197 : decode cX15_check 197 = .ok (.bipush 6, 2) := by decide +kernel
theorem dX15_check_199 : decode cX15_check 199 = .ok (.if_icmp .lt 6, 3) := by decide +kernel
theorem dX15_check_202 : decode cX15_check 202 = .ok (.goto 69, 3) := by decide +kernel
theorem dX15_check_205 : decode cX15_check 205 = .ok (.aload_n 0, 1) := by decide +kernel
theorem dX15_check_206 : decode cX15_check 206 = .ok (.getfield 235, 3) := by decide +kernel
theorem dX15_check_209 : decode cX15_check 209 = .ok (.istore 8, 2) := by decide +kernel
theorem dX15_check_211 : decode cX15_check 211 = .ok (.aload_n 0, 1) := by decide +kernel
theorem dX15_check_212 : decode cX15_check 212 = .ok (.aload 4, 2) := by decide +kernel
theorem dX15_check_214 : decode cX15_check 214 = .ok (.aload_n 1, 1) := by decide +kernel
theorem dX15_check_215 : decode cX15_check 215 = .ok (.iload_n 2, 1) := by decide +kernel
theorem dX15_check_216 : decode cX15_check 216 = .ok (.invokevirtual 324, 3) := by decide +kernel
theorem dX15_check_219 : decode cX15_check 219 = .ok (.istore 9, 2) := by decide +kernel
theorem dX15_check_221 : decode cX15_check 221 = .ok (.iload 9, 2) := by decide +kernel
theorem dX15_check_223 : decode cX15_check 223 = .ok (.iconst 1, 1) := by decide +kernel
theorem dX15_check_224 : decode cX15_check 224 = .ok (.if_icmp .le 6, 3) := by decide +kernel
theorem dX15_check_227 : decode cX15_check 227 = .ok (.iload 9, 2) := by decide +kernel
theorem dX15_check_229 : decode cX15_check 229 = .ok (.ireturn, 1) := by decide +kernel
theorem dX15_check_230 : decode cX15_check 230 = .ok (.iload 9, 2) := by decide +kernel
theorem dX15_check_232 : decode cX15_check 232 = .ok (.iconst 1, 1) := by decide +kernel
theorem dX15_check_233 : decode cX15_check 233 = .ok (.if_icmp .ne 38, 3) := by decide +kernel
theorem dX15_check_236 : decode cX15_check 236 = .ok (.iload 8, 2) := by decide +kernel
theorem dX15_check_238 : decode cX15_check 238 = .ok (.bipush 43, 2) := by decide +kernel
theorem dX15_check_240 : decode cX15_check 240 = .ok (.if_icmp .ne 7, 3) := by decide +kernel
theorem dX15_check_243 : decode cX15_check 243 = .ok (.iconst 2, 1) := by decide +kernel
theorem dX15_check_244 : decode cX15_check 244 = .ok (.goto 26, 3) := by decide +kernel
theorem dX15_check_247 : decode cX15_check 247 = .ok (.iload 8, 2) := by decide +kernel
theorem dX15_check_249 : decode cX15_check 249 = .ok (.bipush 63, 2) := by decide +kernel
theorem dX15_check_251 : decode cX15_check 251 = .ok (.if_icmp .ne 7, 3) := by decide +kernel
theorem dX15_check_254 : decode cX15_check 254 = .ok (.iconst 1, 1) := by decide +kernel
theorem dX15_check_255 : decode cX15_check 255 = .ok (.goto 15, 3) := by decide +kernel
theorem dX15_check_258 : decode cX15_check 258 = .ok (.iload 8, 2) := by decide +kernel
theorem dX15_check_260 : decode cX15_check 260 = .ok (.bipush 126, 2) := by decide +kernel
theorem dX15_check_262 : decode cX15_check 262 = .ok (.if_icmp .ne 7, 3) := by decide +kernel
theorem dX15_check_265 : decode cX15_check 265 = .ok (.iconst 4, 1) := by decide +kernel
theorem dX15_check_266 : decode cX15_check 266 = .ok (.goto 4, 3) := by decide +kernel
theorem dX15_check_269 : decode cX15_check 269 = .ok (.iconst 3, 1) := by decide +kernel
theorem dX15_check_270 : decode cX15_check 270 = .ok (.ireturn, 1) := by decide +kernel
theorem dX15_check_271 : decode cX15_check 271 = .ok (.aload 4, 2) := by decide +kernel
theorem dX15_check_273 : decode cX15_check 273 = .ok (.aload 4, 2) := by decide +kernel
theorem dX15_check_275 : decode cX15_check 275 = .ok (.iload 7, 2) := by decide +kernel
theorem dX15_check_277 : decode cX15_check 277 = .ok (.invokestatic 318, 3) := by decide +kernel
theorem dX15_check_280 : decode cX15_check 280 = .ok (.invokestatic 315, 3) := by decide +kernel
theorem dX15_check_283 : decode cX15_check 283 = .ok (.istore 7, 2) := by decide +kernel
theorem dX15_check_285 : decode cX15_check 285 = .ok (.goto (-120), 3) := by decide +kernel
theorem dX15_check_288 : decode cX15_check 288 = .ok (.iload 6, 2) := by decide +kernel
theorem dX15_check_290 : decode cX15_check 290 = .ok (.ifCond .lt 8, 3) := by decide +kernel
theorem dX15_check_293 : decode cX15_check 293 = .ok (.iload 5, 2) := by decide +kernel
theorem dX15_check_295 : decode cX15_check 295 = .ok (.ifCond .eq 5, 3) := by decide +kernel
theorem dX15_check_298 : decode cX15_check 298 = .ok (.iconst 1, 1) := by decide +kernel
theorem dX15_check_299 : decode cX15_check 299 = .ok (.ireturn, 1) := by decide +kernel
theorem dX15_check_300 : decode cX15_check 300 = .ok (.aload_n 0, 1) := by decide +kernel
theorem dX15_check_301 : decode cX15_check 301 = .ok (.aload 4, 2) := by decide +kernel
theorem dX15_check_303 : decode cX15_check 303 = .ok (.getfield 295, 3) := by decide +kernel
theorem dX15_check_306 : decode cX15_check 306 = .ok (.iload 6, 2) := by decide +kernel
theorem dX15_check_308 : decode cX15_check 308 = .ok (.aload 4, 2) := by decide +kernel
theorem dX15_check_310 : decode cX15_check 310 = .ok (.iload 6, 2) := by decide +kernel
theorem dX15_check_312 : decode cX15_check 312 = .ok (.invokestatic 318, 3) := by decide +kernel
theorem dX15_check_315 : decode cX15_check 315 = .ok (.invokevirtual 321, 3) := by decide +kernel
theorem dX15_check_318 : decode cX15_check 318 = .ok (.aload_n 0, 1) := by decide +kernel
theorem dX15_check_319 : decode cX15_check 319 = .ok (.dup, 1) := by decide +kernel
theorem dX15_check_320 : decode cX15_check 320 = .ok (.getfield 212, 3) := by decide +kernel
theorem dX15_check_323 : decode cX15_check 323 = .ok (.iconst 1, 1) := by decide +kernel
theorem dX15_check_324 : decode cX15_check 324 = .ok (.iadd, 1) := by decide +kernel
theorem dX15_check_325 : decode cX15_check 325 = .ok (.putfield 212, 3) := by decide +kernel
theorem dX15_check_328 : decode cX15_check 328 = .ok (.aload_n 0, 1) := by decide +kernel
theorem dX15_check_329 : decode cX15_check 329 = .ok (.getfield 212, 3) := by decide +kernel
theorem dX15_check_332 : decode cX15_check 332 = .ok (.bipush 10, 2) := by decide +kernel
theorem dX15_check_334 : decode cX15_check 334 = .ok (.if_icmp .le 6, 3) := by decide +kernel
theorem dX15_check_337 : decode cX15_check 337 = .ok (.bipush 6, 2) := by decide +kernel
theorem dX15_check_339 : decode cX15_check 339 = .ok (.ireturn, 1) := by decide +kernel
theorem dX15_check_340 : decode cX15_check 340 = .ok (.aload_n 0, 1) := by decide +kernel
theorem dX15_check_341 : decode cX15_check 341 = .ok (.aload 4, 2) := by decide +kernel
theorem dX15_check_343 : decode cX15_check 343 = .ok (.getfield 295, 3) := by decide +kernel
theorem dX15_check_346 : decode cX15_check 346 = .ok (.aload_n 0, 1) := by decide +kernel
theorem dX15_check_347 : decode cX15_check 347 = .ok (.getfield 241, 3) := by decide +kernel
theorem dX15_check_350 : decode cX15_check 350 = .ok (.aload_n 0, 1) := by decide +kernel
theorem dX15_check_351 : decode cX15_check 351 = .ok (.getfield 244, 3) := by decide +kernel
theorem dX15_check_354 : decode cX15_check 354 = .ok (.aload_n 1, 1) := by decide +kernel
theorem dX15_check_355 : decode cX15_check 355 = .ok (.aload_n 0, 1) := by decide +kernel
theorem dX15_check_356 : decode cX15_check 356 = .ok (.getfield 64, 3) := by decide +kernel
theorem dX15_check_359 : decode cX15_check 359 = .ok (.iload_n 2, 1) := by decide +kernel
theorem dX15_check_360 : decode cX15_check 360 = .ok (.aaload, 1) := by decide +kernel
theorem dX15_check_361 : decode cX15_check 361 = .ok (.invokevirtual 328, 3) := by decide +kernel
theorem dX15_check_364 : decode cX15_check 364 = .ok (.aload_n 0, 1) := by decide +kernel
theorem dX15_check_365 : decode cX15_check 365 = .ok (.aload_n 0, 1) := by decide +kernel
theorem dX15_check_366 : decode cX15_check 366 = .ok (.getfield 64, 3) := by decide +kernel
theorem dX15_check_369 : decode cX15_check 369 = .ok (.iload_n 2, 1) := by decide +kernel
theorem dX15_check_370 : decode cX15_check 370 = .ok (.aaload, 1) := by decide +kernel
theorem dX15_check_371 : decode cX15_check 371 = .ok (.iload_n 2, 1) := by decide +kernel
theorem dX15_check_372 : decode cX15_check 372 = .ok (.iconst 1, 1) := by decide +kernel
theorem dX15_check_373 : decode cX15_check 373 = .ok (.iadd, 1) := by decide +kernel
theorem dX15_check_374 : decode cX15_check 374 = .ok (.invokevirtual 218, 3) := by decide +kernel
theorem dX15_check_377 : decode cX15_check 377 = .ok (.istore 7, 2) := by decide +kernel
theorem dX15_check_379 : decode cX15_check 379 = .ok (.iload 7, 2) := by decide +kernel
theorem dX15_check_381 : decode cX15_check 381 = .ok (.ifCond .ne 8, 3) := by decide +kernel
theorem dX15_check_384 : decode cX15_check 384 = .ok (.bipush 6, 2) := by decide +kernel
theorem dX15_check_386 : decode cX15_check 386 = .ok (.goto 5, 3) := by decide +kernel
theorem dX15_check_389 : decode cX15_check 389 = .ok (.iload 7, 2) := by decide +kernel
theorem dX15_check_391 : decode cX15_check 391 = .ok (.ireturn, 1) := by decide +kernel
theorem dX15_matches_0 : decode cX15_matches 0 = .ok (.aload_n 0, 1) := by decide +kernel
theorem dX15_matches_1 : decode cX15_matches 1 = .ok (.getfield 238, 3) := by decide +kernel
theorem dX15_matches_4 : decode cX15_matches 4 = .ok (.ifCond .ne 5, 3) := by decide +kernel
theorem dX15_matches_7 : decode cX15_matches 7 = .ok (.iconst 1, 1) := by decide +kernel
theorem dX15_matches_8 : decode cX15_matches 8 = .ok (.ireturn, 1) := by decide +kernel
theorem dX15_matches_9 : decode cX15_matches 9 = .ok (.aload_n 0, 1) := by decide +kernel
theorem dX15_matches_10 : decode cX15_matches 10 = .ok (.getfield 238, 3) := by decide +kernel
theorem dX15_matches_13 : decode cX15_matches 13 = .ok (.iconst 4, 1) := by decide +kernel
theorem dX15_matches_14 : decode cX15_matches 14 = .ok (.if_icmp .ne 24, 3) := by decide +kernel
theorem dX15_matches_17 : decode cX15_matches 17 = .ok (.aload_n 0, 1) := by decide +kernel
theorem dX15_matches_18 : decode cX15_matches 18 = .ok (.aload_n 0, 1) := by decide +kernel
theorem dX15_matches_19 : decode cX15_matches 19 = .ok (.getfield 232, 3) := by decide +kernel
theorem dX15_matches_22 : decode cX15_matches 22 = .ok (.aload_n 0, 1) := by decide +kernel
theorem dX15_matches_23 : decode cX15_matches 23 = .ok (.getfield 247, 3) := by decide +kernel
theorem dX15_matches_26 : decode cX15_matches 26 = .ok (.invokevirtual 331, 3) := by decide +kernel
theorem dX15_matches_29 : decode cX15_matches 29 = .ok (.ifCond .eq 7, 3) := by decide +kernel
theorem dX15_matches_32 : decode cX15_matches 32 = .ok (.iconst 1, 1) := by decide +kernel
theorem dX15_matches_33 : decode cX15_matches 33 = .ok (.goto 4, 3) := by decide +kernel
theorem dX15_matches_36 : decode cX15_matches 36 = .ok (.iconst 0, 1) := by decide +kernel
theorem dX15_matches_37 : decode cX15_matches 37 = .ok (.ireturn, 1) := by decide +kernel
theorem dX15_matches_38 : decode cX15_matches 38 = .ok (.aload_n 0, 1) := by decide +kernel
theorem dX15_matches_39 : decode cX15_matches 39 = .ok (.getfield 238, 3) := by decide +kernel
theorem dX15_matches_42 : decode cX15_matches 42 = .ok (.istore 4, 2) := by decide +kernel
theorem dX15_matches_44 : decode cX15_matches 44 = .ok (.aload_n 0, 1) := by decide +kernel
theorem dX15_matches_45 : decode cX15_matches 45 = .ok (.getfield 247, 3) := by decide +kernel
theorem dX15_matches_48 : decode cX15_matches 48 = .ok (.istore 5, 2) := by decide +kernel
theorem dX15_matches_50 : decode cX15_matches 50 = .ok (.aload_n 0, 1) := by decide +kernel
theorem dX15_matches_51 : decode cX15_matches 51 = .ok (.dup, 1) := by decide +kernel
theorem dX15_matches_52 : decode cX15_matches 52 = .ok (.getfield 212, 3) := by decide +kernel
theorem dX15_matches_55 : decode cX15_matches 55 = .ok (.iconst 1, 1) := by decide +kernel
theorem dX15_matches_56 : decode cX15_matches 56 = .ok (.iadd, 1) := by decide +kernel
theorem dX15_matches_57 : decode cX15_matches 57 = .ok (.putfield 212, 3) := by decide +kernel
theorem dX15_matches_60 : decode cX15_matches 60 = .ok (.aload_n 0, 1) := by decide +kernel
theorem dX15_matches_61 : decode cX15_matches 61 = .ok (.getfield 212, 3) := by decide +kernel
theorem dX15_matches_64 : decode cX15_matches 64 = .ok (.bipush 10, 2) := by decide +kernel
theorem dX15_matches_66 : decode cX15_matches 66 = .ok (.if_icmp .le 6, 3) := by decide +kernel
theorem dX15_matches_69 : decode cX15_matches 69 = .ok (.bipush 6, 2) := by decide +kernel
theorem dX15_matches_71 : decode cX15_matches 71 = .ok (.ireturn, 1) := by decide +kernel
theorem dX15_matches_72 : decode cX15_matches 72 = .ok (.aload_n 0, 1) := by decide +kernel
theorem dX15_matches_73 : decode cX15_matches 73 = .ok (.getfield 64, 3) := by decide +kernel
theorem dX15_matches_76 : decode cX15_matches 76 = .ok (.iload_n 3, 1) := by decide +kernel
theorem dX15_matches_77 : decode cX15_matches 77 = .ok (.aaload, 1) := by decide +kernel
theorem dX15_matches_78 : decode cX15_matches 78 = .ok (.astore 6, 2) := by decide +kernel
theorem dX15_matches_80 : decode cX15_matches 80 = .ok (.aload_n 0, 1) := by decide +kernel
theorem dX15_matches_81 : decode cX15_matches 81 = .ok (.getfield 241, 3) := by decide +kernel
theorem dX15_matches_84 : decode cX15_matches 84 = .ok (.ifCond .ge 20, 3) := by decide +kernel
theorem dX15_matches_87 : decode cX15_matches 87 = .ok (.aload 6, 2) := by decide +kernel
theorem dX15_matches_89 : decode cX15_matches 89 = .ok (.aload_n 2, 1) := by decide +kernel
theorem dX15_matches_90 : decode cX15_matches 90 = .ok (.getfield 295, 3) := by decide +kernel
theorem dX15_matches_93 : decode cX15_matches 93 = .ok (.iconst 0, 1) := by decide +kernel
theorem dX15_matches_94 : decode cX15_matches 94 = .ok (.aload_n 2, 1) := by decide +kernel
theorem dX15_matches_95 : decode cX15_matches 95 = .ok (.getfield 190, 3) := by decide +kernel
theorem dX15_matches_98 : decode cX15_matches 98 = .ok (.invokevirtual 186, 3) := by decide +kernel
theorem dX15_matches_101 : decode cX15_matches 101 = .ok (.goto 22, 3) := by decide +kernel
theorem dX15_matches_104 : decode cX15_matches 104 = .ok (.aload_n 0, 1) := by decide +kernel
theorem dX15_matches_105 : decode cX15_matches 105 = .ok (.aload_n 1, 1) := by decide +kernel
theorem dX15_matches_106 : decode cX15_matches 106 = .ok (.getfield 295, 3) := by decide +kernel
theorem dX15_matches_109 : decode cX15_matches 109 = .ok (.aload_n 0, 1) := by decide +kernel
theorem dX15_matches_110 : decode cX15_matches 110 = .ok (.getfield 241, 3) := by decide +kernel
theorem dX15_matches_113 : decode cX15_matches 113 = .ok (.aload_n 0, 1) := by decide +kernel
theorem dX15_matches_114 : decode cX15_matches 114 = .ok (.getfield 244, 3) := by decide +kernel
theorem dX15_matches_117 : decode cX15_matches 117 = .ok (.aload_n 2, 1) := by decide +kernel
theorem dX15_matches_118 : decode cX15_matches 118 = .ok (.aload 6, 2) := by decide +kernel
theorem dX15_matches_120 : decode cX15_matches 120 = .ok (.invokevirtual 328, 3) := by decide +kernel
theorem dX15_matches_123 : decode cX15_matches 123 = .ok (.iload 4, 2) := by decide +kernel
theorem dX15_matches_125 : decode cX15_matches 125 = .ok (.iconst 1, 1) := by decide +kernel
theorem dX15_matches_126 : decode cX15_matches 126 = .ok (.if_icmp .ne 53, 3) := by decide +kernel
theorem dX15_matches_129 : decode cX15_matches 129 = .ok (.aload_n 0, 1) := by decide +kernel
theorem dX15_matches_130 : decode cX15_matches 130 = .ok (.aload 6, 2) := by decide +kernel
theorem dX15_matches_132 : decode cX15_matches 132 = .ok (.iload_n 3, 1) := by decide +kernel
theorem dX15_matches_133 : decode cX15_matches 133 = .ok (.iconst 1, 1) := by decide +kernel
theorem dX15_matches_134 : decode cX15_matches 134 = .ok (.iadd, 1) := by decide +kernel
theorem dX15_matches_135 : decode cX15_matches 135 = .ok (.invokevirtual 218, 3) := by decide +kernel
theorem dX15_matches_138 : decode cX15_matches 138 = .ok (.istore 7, 2) := by decide +kernel
theorem dX15_matches_140 : decode cX15_matches 140 = .ok (.iload 7, 2) := by decide +kernel
theorem dX15_matches_142 : decode cX15_matches 142 = .ok (.iconst 2, 1) := by decide +kernel
theorem dX15_matches_143 : decode cX15_matches 143 = .ok (.if_icmp .ne 7, 3) := by decide +kernel
theorem dX15_matches_146 : decode cX15_matches 146 = .ok (.iconst 1, 1) := by decide +kernel
theorem dX15_matches_147 : decode cX15_matches 147 = .ok (.goto 31, 3) := by decide +kernel
theorem dX15_matches_150 : decode cX15_matches 150 = .ok (.iload 7, 2) := by decide +kernel
theorem dX15_matches_152 : decode cX15_matches 152 = .ok (.iconst 5, 1) := by decide +kernel
theorem dX15_matches_153 : decode cX15_matches 153 = .ok (.if_icmp .ne 7, 3) := by decide +kernel
theorem dX15_matches_156 : decode cX15_matches 156 = .ok (.iconst 5, 1) := by decide +kernel
theorem dX15_matches_157 : decode cX15_matches 157 = .ok (.goto 21, 3) := by decide +kernel
theorem dX15_matches_160 : decode cX15_matches 160 = .ok (.iload 7, 2) := by decide +kernel
theorem dX15_matches_162 : decode cX15_matches 162 = .ok (.bipush 6, 2) := by decide +kernel
theorem dX15_matches_164 : decode cX15_matches 164 = .ok (.if_icmp .eq 8, 3) := by decide +kernel
theorem dX15_matches_167 : decode cX15_matches 167 = .ok (.iload 7, 2) := by decide +kernel
theorem dX15_matches_169 : decode cX15_matches 169 = .ok (.ifCond .ne 8, 3) := by decide +kernel
theorem dX15_matches_172 : decode cX15_matches 172 = .ok (.bipush 6, 2) := by decide +kernel
theorem dX15_matches_174 : decode cX15_matches 174 = .ok (.goto 4, 3) := by decide +kernel
theorem dX15_matches_177 : decode cX15_matches 177 = .ok (.iconst 0, 1) := by decide +kernel
theorem dX15_matches_178 : decode cX15_matches 178 = .ok (.ireturn, 1) := by decide +kernel
theorem dX15_matches_179 : decode cX15_matches 179 = .ok (.aload_n 0, 1) := by decide +kernel
theorem dX15_matches_180 : decode cX15_matches 180 = .ok (.aload 6, 2) := by decide +kernel
theorem dX15_matches_182 : decode cX15_matches 182 = .ok (.invokevirtual 308, 3) := by decide +kernel
theorem dX15_matches_185 : decode cX15_matches 185 = .ok (.ifCond .eq 5, 3) := by decide +kernel
theorem dX15_matches_188 : decode cX15_matches 188 = .ok (.iconst 5, 1) := by decide +kernel
theorem dX15_matches_189 : decode cX15_matches 189 = .ok (.ireturn, 1) := by decide +kernel
theorem dX15_matches_190 : decode cX15_matches 190 = .ok (.iconst 0, 1) := by decide +kernel
theorem dX15_matches_191 : decode cX15_matches 191 = .ok (.istore 7, 2) := by decide +kernel
theorem dX15_matches_193 : decode cX15_matches 193 = .ok (.iconst 0, 1) := by decide +kernel
theorem dX15_matches_194 : decode cX15_matches 194 = .ok (.istore 8, 2) := by decide +kernel
theorem dX15_matches_196 : decode cX15_matches 196 = .ok (.iconst 0, 1) := by decide +kernel
theorem dX15_matches_197 : decode cX15_matches 197 = .ok (.istore 9, 2) := by decide +kernel
theorem dX15_matches_199 : decode cX15_matches 199 = .ok (.iload 9, 2) := by decide +kernel
theorem dX15_matches_201 : decode cX15_matches 201 = .ok (.aload_n 0, 1) := by decide +kernel
theorem dX15_matches_202 : decode cX15_matches 202 = .ok (.getfield 177, 3) := by decide +kernel
theorem dX15_matches_205 : decode cX15_matches 205 = .ok (.if_icmp .ge 68, 3) := by decide +kernel
theorem dX15_matches_208 : decode cX15_matches 208 = .ok (.aload_n 0, 1) := by decide +kernel
theorem dX15_matches_209 : decode cX15_matches 209 = .ok (.iload 9, 2) := by decide +kernel
theorem dX15_matches_211 : decode cX15_matches 211 = .ok (.iload 4, 2) := by decide +kernel
theorem dX15_matches_213 : decode cX15_matches 213 = .ok (.iconst 3, 1) := by decide +kernel
theorem dX15_matches_214 : decode cX15_matches 214 = .ok (.if_icmp .ne 7, 3) := by decide +kernel
theorem dX15_matches_217 : decode cX15_matches 217 = .ok (.iconst 2, 1) := by decide +kernel
theorem dX15_matches_218 : decode cX15_matches 218 = .ok (.goto 4, 3) := by decide +kernel
theorem dX15_matches_221 : decode cX15_matches 221 = .ok (.iconst 1, 1) := by decide +kernel
theorem dX15_matches_222 : decode cX15_matches 222 = .ok (.aload 6, 2) := by decide +kernel
theorem dX15_matches_224 : decode cX15_matches 224 = .ok (.invokevirtual 196, 3) := by decide +kernel
theorem dX15_matches_227 : decode cX15_matches 227 = .ok (.ifCond .ne 6, 3) := by decide +kernel
theorem dX15_matches_230 : decode cX15_matches 230 = .ok (.goto 37, 3) := by decide +kernel
theorem dX15_matches_233 : decode cX15_matches 233 = .ok (.iinc 7 1, 3) := by decide +kernel
theorem dX15_matches_236 : decode cX15_matches 236 = .ok (.iload 4, 2) := by decide +kernel
theorem dX15_matches_238 : decode cX15_matches 238 = .ok (.iconst 3, 1) := by decide +kernel
theorem dX15_matches_239 : decode cX15_matches 239 = .ok (.if_icmp .eq 28, 3) := by decide +kernel
theorem dX15_matches_242 : decode cX15_matches 242 = .ok (.iload 4, 2) := by decide +kernel
theorem dX15_matches_244 : decode cX15_matches 244 = .ok (.iconst 5, 1) := by decide +kernel
theorem dX15_matches_245 : decode cX15_matches 245 = .ok (.if_icmp .eq 19, 3) := by decide +kernel
theorem dX15_matches_248 : decode cX15_matches 248 = .ok (.aload_n 0, 1) := by decide +kernel
theorem dX15_matches_249 : decode cX15_matches 249 = .ok (.aload_n 0, 1) := by decide +kernel
theorem dX15_matches_250 : decode cX15_matches 250 = .ok (.getfield 42, 3) := by decide +kernel
theorem dX15_matches_253 : decode cX15_matches 253 = .ok (.iload 9, 2) := by decide +kernel
theorem dX15_matches_255 : decode cX15_matches 255 = .ok (.iaload, 1) := by decide +kernel
theorem dX15_matches_256 : decode cX15_matches 256 = .ok (.iload 5, 2) := by decide +kernel
theorem dX15_matches_258 : decode cX15_matches 258 = .ok (.invokevirtual 331, 3) := by decide +kernel
theorem dX15_matches_261 : decode cX15_matches 261 = .ok (.ifCond .eq 6, 3) := by decide +kernel
theorem dX15_matches_264 : decode cX15_matches 264 = .ok (.iconst 1, 1) := by decide +kernel
theorem dX15_matches_265 : decode cX15_matches 265 = .ok (.istore 8, 2) := by decide +kernel
theorem dX15_matches_267 : decode cX15_matches 267 = .ok (.iinc 9 1, 3) := by decide +kernel
theorem dX15_matches_270 : decode cX15_matches 270 = .ok (.goto (-71), 3) := by decide +kernel
theorem dX15_matches_273 : decode cX15_matches 273 = .ok (.iload 7, 2) := by decide +kernel
theorem dX15_matches_275 : decode cX15_matches 275 = .ok (.ifCond .ne 24, 3) := by decide +kernel
theorem dX15_matches_278 : decode cX15_matches 278 = .ok (.aload_n 0, 1) := by decide +kernel
theorem dX15_matches_279 : decode cX15_matches 279 = .ok (.dup, 1) := by decide +kernel
theorem dX15_matches_280 : decode cX15_matches 280 = .ok (.getfield 215, 3) := by decide +kernel
theorem dX15_matches_283 : decode cX15_matches 283 = .ok (.iconst 1, 1) := by decide +kernel
theorem dX15_matches_284 : decode cX15_matches 284 = .ok (.iadd, 1) := by decide +kernel
theorem dX15_matches_285 : decode cX15_matches 285 = .ok (.putfield 215, 3) := by decide +kernel
theorem dX15_matches_288 : decode cX15_matches 288 = .ok (.aload_n 0, 1) := by decide +kernel
theorem dX15_matches_289 : decode cX15_matches 289 = .ok (.getfield 215, 3) := by decide +kernel
theorem dX15_matches_292 : decode cX15_matches 292 = .ok (.iconst 2, 1) := by decide +kernel
theorem dX15_matches_293 : decode cX15_matches 293 = .ok (.if_icmp .le 6, 3) := by decide +kernel
theorem dX15_matches_296 : decode cX15_matches 296 = .ok (.bipush 6, 2) := by decide +kernel
theorem dX15_matches_298 : decode cX15_matches 298 = .ok (.ireturn, 1) := by decide +kernel
theorem dX15_matches_299 : decode cX15_matches 299 = .ok (.iload 4, 2) := by decide +kernel
theorem dX15_matches_301 : decode cX15_matches 301 = .ok (.iconst 3, 1) := by decide +kernel
theorem dX15_matches_302 : decode cX15_matches 302 = .ok (.if_icmp .ne 14, 3) := by decide +kernel
theorem dX15_matches_305 : decode cX15_matches 305 = .ok (.aload_n 0, 1) := by decide +kernel
theorem dX15_matches_306 : decode cX15_matches 306 = .ok (.aload 6, 2) := by decide +kernel
theorem dX15_matches_308 : decode cX15_matches 308 = .ok (.iload 5, 2) := by decide +kernel
theorem dX15_matches_310 : decode cX15_matches 310 = .ok (.invokevirtual 335, 3) := by decide +kernel
theorem dX15_matches_313 : decode cX15_matches 313 = .ok (.goto 5, 3) := by decide +kernel
theorem dX15_matches_316 : decode cX15_matches 316 = .ok (.iload 8, 2) := by decide +kernel
theorem dX15_matches_318 : decode cX15_matches 318 = .ok (.ireturn, 1) := by decide +kernel
theorem kt_783 : Cond.fieldLink RX15 64 "PostGateModel" "target" "[LPostGateModel$Text;" ∈ tb := tb_at (i := 1302) (by decide +kernel) (by decide +kernel)
theorem kt_784 : Cond.code yX15_exchanges cX15_exchanges 5 (some .int) ∈ tb := tb_at (i := 1627) (by decide +kernel) (by decide +kernel)
theorem kt_785 : Cond.methodLink RX15 335 yX15_exchanges ∈ tb := tb_at (i := 1624) (by decide +kernel) (by decide +kernel)
theorem kt_786 : Cond.instanceMethod yX15_exchanges ∈ tb := tb_at (i := 1626) (by decide +kernel) (by decide +kernel)
theorem kt_787 : Cond.selects RX15 yX15_exchanges yX15_exchanges ∈ tb := tb_at (i := 55) (by decide +kernel) (by decide +kernel)
theorem kt_788 : Cond.code yX15_check cX15_check 10 (some .int) ∈ tb := tb_at (i := 1525) (by decide +kernel) (by decide +kernel)
theorem kt_789 : Cond.methodLink RX15 218 yX15_check ∈ tb := tb_at (i := 1522) (by decide +kernel) (by decide +kernel)
theorem kt_790 : Cond.instanceMethod yX15_check ∈ tb := tb_at (i := 1524) (by decide +kernel) (by decide +kernel)
theorem kt_791 : Cond.selects RX15 yX15_check yX15_check ∈ tb := tb_at (i := 43) (by decide +kernel) (by decide +kernel)
theorem kt_792 : Cond.code yX15_expand cX15_expand 8 none ∈ tb := tb_at (i := 1607) (by decide +kernel) (by decide +kernel)
theorem kt_793 : Cond.methodLink RX15 328 yX15_expand ∈ tb := tb_at (i := 1604) (by decide +kernel) (by decide +kernel)
theorem kt_794 : Cond.instanceMethod yX15_expand ∈ tb := tb_at (i := 1606) (by decide +kernel) (by decide +kernel)
theorem kt_795 : Cond.selects RX15 yX15_expand yX15_expand ∈ tb := tb_at (i := 52) (by decide +kernel) (by decide +kernel)
theorem kt_796 : Cond.code yX14_set cX14_set 4 none ∈ tb := tb_at (i := 1501) (by decide +kernel) (by decide +kernel)
theorem kt_797 : Cond.methodLink RX15 186 yX14_set ∈ tb := tb_at (i := 1498) (by decide +kernel) (by decide +kernel)
theorem kt_798 : Cond.instanceMethod yX14_set ∈ tb := tb_at (i := 1499) (by decide +kernel) (by decide +kernel)
theorem kt_799 : Cond.selects RX14 yX14_set yX14_set ∈ tb := tb_at (i := 1500) (by decide +kernel) (by decide +kernel)
theorem kt_800 : Cond.code yX15_recordOf cX15_recordOf 5 (some .int) ∈ tb := tb_at (i := 1545) (by decide +kernel) (by decide +kernel)
theorem kt_801 : Cond.methodLink RX15 311 yX15_recordOf ∈ tb := tb_at (i := 1542) (by decide +kernel) (by decide +kernel)
theorem kt_802 : Cond.instanceMethod yX15_recordOf ∈ tb := tb_at (i := 1544) (by decide +kernel) (by decide +kernel)
theorem kt_803 : Cond.selects RX15 yX15_recordOf yX15_recordOf ∈ tb := tb_at (i := 46) (by decide +kernel) (by decide +kernel)
theorem kt_804 : Cond.code yX15_blankFrom cX15_blankFrom 3 (some .int) ∈ tb := tb_at (i := 1558) (by decide +kernel) (by decide +kernel)
theorem kt_805 : Cond.methodLink RX15 315 yX15_blankFrom ∈ tb := tb_at (i := 1556) (by decide +kernel) (by decide +kernel)
theorem kt_806 : Cond.static yX15_blankFrom ∈ tb := tb_at (i := 1557) (by decide +kernel) (by decide +kernel)
theorem kt_807 : Cond.code yX15_wordEnd cX15_wordEnd 3 (some .int) ∈ tb := tb_at (i := 1561) (by decide +kernel) (by decide +kernel)
theorem kt_808 : Cond.methodLink RX15 318 yX15_wordEnd ∈ tb := tb_at (i := 1559) (by decide +kernel) (by decide +kernel)
theorem kt_809 : Cond.static yX15_wordEnd ∈ tb := tb_at (i := 1560) (by decide +kernel) (by decide +kernel)
theorem kt_810 : Cond.code yX15_readTerm cX15_readTerm 7 none ∈ tb := tb_at (i := 1565) (by decide +kernel) (by decide +kernel)
theorem kt_811 : Cond.methodLink RX15 321 yX15_readTerm ∈ tb := tb_at (i := 1562) (by decide +kernel) (by decide +kernel)
theorem kt_812 : Cond.instanceMethod yX15_readTerm ∈ tb := tb_at (i := 1564) (by decide +kernel) (by decide +kernel)
theorem kt_813 : Cond.selects RX15 yX15_readTerm yX15_readTerm ∈ tb := tb_at (i := 47) (by decide +kernel) (by decide +kernel)
theorem kt_814 : Cond.code yX15_matches cX15_matches 10 (some .int) ∈ tb := tb_at (i := 1599) (by decide +kernel) (by decide +kernel)
theorem kt_815 : Cond.methodLink RX15 324 yX15_matches ∈ tb := tb_at (i := 1596) (by decide +kernel) (by decide +kernel)
theorem kt_816 : Cond.instanceMethod yX15_matches ∈ tb := tb_at (i := 1598) (by decide +kernel) (by decide +kernel)
theorem kt_817 : Cond.selects RX15 yX15_matches yX15_matches ∈ tb := tb_at (i := 50) (by decide +kernel) (by decide +kernel)
theorem rtp_dok {f : Nat → Int32} {a tt : Nat} {w u v : Int32} (h : RTP f a tt w u v) (c : w < 6) (ht : tt ≤ 700) : DOK f 700 u v := by
  rcases h.1 with q | q | q | q
  · rw [q] at c; exact absurd c (by decide)
  · rw [q] at c; exact absurd c (by decide)
  · rw [q] at c; exact absurd c (by decide)
  · rcases q with q | ⟨b, c9, h1, h2, h3, h4, h5⟩
    · exact Or.inl q
    · exact Or.inr ⟨b, c9, h1, h2, h3, by omega, h5⟩
def TRN (f : Nat → Int32) (z : Nat) (w : Int32) : Prop := w = (-1) ∨ ∃ tu te, w = nI tu ∧ tu < z ∧ tu ≤ te ∧ te ≤ z ∧ WE f z tu te ∧ RDP f tu te
theorem le1_6 {r : Int32} {cu : Nat} (h : cu = 11 → r = 6) (c : r ≤ 1) (hc : cu ≤ 11) : cu ≤ 10 := by
  rcases Nat.lt_or_ge cu 11 with q | q
  · omega
  · rw [h (by omega)] at c
    exact absurd c (by decide)
theorem rec0 {r : Int32} (h : r = (-1) ∨ r = (-2) ∨ ∃ j : Nat, j < 40 ∧ r = nI j) (c : 0 ≤ r) : ∃ j : Nat, j < 40 ∧ r = nI j := by
  rcases h with h | h | h
  · rw [h] at c; exact absurd c (by decide)
  · rw [h] at c; exact absurd c (by decide)
  · exact h
set_option maxHeartbeats 4000000 in
set_option maxRecDepth 100000 in
theorem s_X15_matches (l : Launch) (dC : Nat → ClassId) (dI : Nat → Nat → Nat) (cs : Nat → ClassId) (ty : TyM) (gm : Nat → Nat → Nat) (L : List Nat) (sz : Nat) (F : Nat → va_E) (h0 : Nat) (ρ : Nat) (ta : Nat) (ou : Nat) (so : Nat) (ad : Nat) (na : Nat) (va : Nat) (lc : Nat) (dm : Nat) (tg : Nat) (pe : Nat) (ml : Nat) (bg : Nat) (co : Nat) (sp : Nat) (nb0 : Nat) (nb1 : Nat) (nb2 : Nat) (pl : Nat) (se : Nat) (ke : Nat) (wi : Nat) (hs : Nat) (mo : Nat) (po : Nat) (nu : Nat) (pr : Nat) (sq : Nat) (xa : Nat) (sa : Nat) (n64 : Nat) (m64 : Nat) (ex : Nat) (wh : Nat) (sd : Nat) (tk : Nat) (hd : Nat) (ak : Nat) (ho : Nat) (ot : Nat) (sx : Nat) (s0 : Nat) (s1 : Nat) (s2 : Nat) (nf : Nat) (bd : Nat) (mm : Nat) (zt : Nat) (rp : Nat) (zo : Nat) (ze : Nat) (v11 : Int32) (v12 : Int32) (v15 : Int32) (v17 : Int32) (v18 : Int32) (v19 : Int32) (v20 : Int32) (v21 : Int32) (v22 : Int32) (v33 : Int32) (v52 : Int32) (v53 : Int32) (v54 : Int32) (dd : Nat) (τ : Nat) (rd : Nat) (nd : Nat) (tv : Nat) (rv : Nat) (fv : Nat → Int32) (lv : Nat) (c : Nat) (c0 : Nat) (fr : Nat) (lo : Nat) (hW : WTm ty gm L) (hL_h0 : h0 ∈ L) (hT_h0 : ty h0 = (15, ρ, [ta, ou, so, ad, na, va, lc, dm, tg, pe, ml, bg, co, sp, nb0, nb1, nb2, pl, se, ke, wi, hs, mo, po, nu, pr, sq, xa, sa, n64, m64, ex, wh, sd, tk, hd, ak, ho, ot, sx, s0, s1, s2, nf, bd, mm, zt])) (hL_pe : pe ∈ L) (hT_pe : ty pe = (14, ρ + 7, [rp, 100])) (hL_dd : dd ∈ L) (hT_dd : ty dd = (14, τ, [rd, nd])) (hL_tv : tv ∈ L) (hT_tv : ty tv = (14, ρ + 31, [rv, 700])) (hF0 : F h0 = .inr (15, [.ref ta, .int (nI zt), .int (nI zo), .int (nI ze), .ref ou, .ref so, .ref ad, .ref na, .ref va, .ref lc, .ref dm, .int v11, .int v12, .ref tg, .int (nI c), .int v15, .ref pe, .int v17, .int v18, .int v19, .int v20, .int v21, .int v22, .ref ml, .ref bg, .ref co, .ref sp, .ref nb0, .ref nb1, .ref nb2, .int (nI nf), .int (nI bd), .int (nI mm), .int v33, .ref pl, .ref se, .ref ke, .ref wi, .ref hs, .ref mo, .ref po, .ref nu, .ref pr, .ref sq, .ref xa, .ref sa, .ref n64, .ref m64, .ref ex, .ref wh, .ref sd, .ref tk, .int v52, .int v53, .int v54, .ref hd, .ref ak, .ref ho, .ref ot])) (hzo : zo ≤ 6000) (hze : ze ≤ 40) (h33 : (v33 = 0 ∨ 1 ≤ nf)) (h54 : (v54 = 0 ∨ v54 = 1)) (hFv : F rv = .inl (cs 17, 700, .inl fv)) (hlc : lv ≤ c) (hc10 : c ≤ 10) (hcc : c0 ≤ c) (hnd : nd ≤ 61) (hdok : DOK fv 700 v19 v20) (hC : ∀ (c : Nat), c0 < c → ∀ (sz : Nat) (F : Nat → va_E) (zo : Nat) (ze : Nat) (v11 : Int32) (v12 : Int32) (v15 : Int32) (v17 : Int32) (v18 : Int32) (v19 : Int32) (v20 : Int32) (v21 : Int32) (v22 : Int32) (v33 : Int32) (v52 : Int32) (v53 : Int32) (v54 : Int32) (dd : Nat) (τ : Nat) (rd : Nat) (nd : Nat) (lv : Nat), dd ∈ L → ty dd = (14, τ, [rd, nd]) → (F h0 = .inr (15, [.ref ta, .int (nI zt), .int (nI zo), .int (nI ze), .ref ou, .ref so, .ref ad, .ref na, .ref va, .ref lc, .ref dm, .int v11, .int v12, .ref tg, .int (nI c), .int v15, .ref pe, .int v17, .int v18, .int v19, .int v20, .int v21, .int v22, .ref ml, .ref bg, .ref co, .ref sp, .ref nb0, .ref nb1, .ref nb2, .int (nI nf), .int (nI bd), .int (nI mm), .int v33, .ref pl, .ref se, .ref ke, .ref wi, .ref hs, .ref mo, .ref po, .ref nu, .ref pr, .ref sq, .ref xa, .ref sa, .ref n64, .ref m64, .ref ex, .ref wh, .ref sd, .ref tk, .int v52, .int v53, .int v54, .ref hd, .ref ak, .ref ho, .ref ot])) → (zo ≤ 6000) → (ze ≤ 40) → ((v33 = 0 ∨ 1 ≤ nf)) → ((v54 = 0 ∨ v54 = 1)) → (lv ≤ c) → (c ≤ 10) → (nd ≤ 61) → Met l yX15_check (.code yX15_check cX15_check 10 (some .int) :: tb) ({ frames := fr + 0, cells := 0, slots := 0, locals := lo + 0 }) (va_Pc [.ref h0, .ref dd, .int (nI lv)] (PTEm (dC, dI) cs ty gm L F sz [])) (va_Qi (fun (r : Int32) (cu : Nat) => (cu = 11 → r = 6)) (fun (cu : Nat) T9 => ∃ F2 : Nat → va_E, ∃ u15 : Int32, ∃ u17 : Int32, ∃ u18 : Int32, ∃ u19 : Int32, ∃ u20 : Int32, ∃ u21 : Int32, ∃ u22 : Int32, QTm (dC, dI) cs ty gm L [ρ, ρ + 6, ρ + 7] F F2 (va_A (va_pl L F) sz) T9 ∧ F2 h0 = .inr (15, [.ref ta, .int (nI zt), .int (nI zo), .int (nI ze), .ref ou, .ref so, .ref ad, .ref na, .ref va, .ref lc, .ref dm, .int v11, .int v12, .ref tg, .int (nI cu), .int u15, .ref pe, .int u17, .int u18, .int u19, .int u20, .int u21, .int u22, .ref ml, .ref bg, .ref co, .ref sp, .ref nb0, .ref nb1, .ref nb2, .int (nI nf), .int (nI bd), .int (nI mm), .int v33, .ref pl, .ref se, .ref ke, .ref wi, .ref hs, .ref mo, .ref po, .ref nu, .ref pr, .ref sq, .ref xa, .ref sa, .ref n64, .ref m64, .ref ex, .ref wh, .ref sd, .ref tk, .int v52, .int v53, .int v54, .ref hd, .ref ak, .ref ho, .ref ot]) ∧ c ≤ cu ∧ cu ≤ 11) (va_A (va_pl L F) sz)) 0 0 (va_A (va_pl L F) sz)) : Met l yX15_matches (.code yX15_matches cX15_matches 10 (some .int) :: tb) ({ frames := fr + 5, cells := 0, slots := 0, locals := lo + 129 }) (va_Pc [.ref h0, .ref tv, .ref dd, .int (nI lv)] (PTEm (dC, dI) cs ty gm L F sz [])) (va_Qi (fun (r : Int32) (cu : Nat) => (cu = 11 → r = 6)) (fun (cu : Nat) T9 => ∃ F2 : Nat → va_E, ∃ u15 : Int32, ∃ u17 : Int32, ∃ u18 : Int32, ∃ u19 : Int32, ∃ u20 : Int32, ∃ u21 : Int32, ∃ u22 : Int32, QTm (dC, dI) cs ty gm L [ρ, ρ + 6, ρ + 7] F F2 (va_A (va_pl L F) sz) T9 ∧ F2 h0 = .inr (15, [.ref ta, .int (nI zt), .int (nI zo), .int (nI ze), .ref ou, .ref so, .ref ad, .ref na, .ref va, .ref lc, .ref dm, .int v11, .int v12, .ref tg, .int (nI cu), .int u15, .ref pe, .int u17, .int u18, .int u19, .int u20, .int u21, .int u22, .ref ml, .ref bg, .ref co, .ref sp, .ref nb0, .ref nb1, .ref nb2, .int (nI nf), .int (nI bd), .int (nI mm), .int v33, .ref pl, .ref se, .ref ke, .ref wi, .ref hs, .ref mo, .ref po, .ref nu, .ref pr, .ref sq, .ref xa, .ref sa, .ref n64, .ref m64, .ref ex, .ref wh, .ref sd, .ref tk, .int v52, .int v53, .int v54, .ref hd, .ref ak, .ref ho, .ref ot]) ∧ c ≤ cu ∧ cu ≤ 11) (va_A (va_pl L F) sz)) 0 0 (va_A (va_pl L F) sz) := by
  refine Met.ofW (cc := cX15_matches) (maxL := 10) (ret := (some .int)) (by decide) rfl ?_
  intro p e s m args below meth c s₁ B hml hv
  obtain ⟨rfl, ⟨hsz, hP, hK, hD0, hE, hO⟩, hG, hX⟩ := hv
  have hx := B.exec
  have hb := B.bytes
  have hr := B.returns
  have hts : ∀ w ∈ tb, w.before _ s = true := fun w h => atoms_spec (ws := .code yX15_matches cX15_matches 10 (some .int) :: tb) B.pre w (List.mem_cons_of_mem _ h)
  have hown : s.vm.findClass RX15 = some m.cls := findClass_of_methodNamed B.named
  have hlocks := B.notSynchronized
  subst hsz
  have hD := hD0.self (sz := s.heap.size)
  generalize hAe : va_A (va_pl L F) s.heap.size = A at hD hG hX ⊢
  have hA : ∀ q : Nat, s.heap.size ≤ q → A q := fun q h => by rw [← hAe]; exact Or.inr h
  have hS : va_S A s.heap s.heap [] := va_S.rf
  have hR : FR ty [ρ, ρ + 6, ρ + 7] F F := FR.refl
  have hl := lv_entry ([.ref h0, .ref tv, .ref dd, .int (nI lv)]) (n := 10) (Nat.le_of_ble_eq_true rfl)
  rw [lg_entry_eq]
  generalize (lg_sl ([.ref h0, .ref tv, .ref dd, .int (nI lv)]) ++ List.replicate (10 - (lg_sl ([.ref h0, .ref tv, .ref dd, .int (nI lv)])).length) Slot.unset).toArray = ls at hl ⊢
  have hl : lv_has ls 10 [(0, .ref h0), (1, .ref tv), (2, .ref dd), (3, .int (nI lv))] := hl
  obtain ⟨hi_1, ht_2, hq_3⟩ := hW.txt hL_tv hT_tv
  refine lv_aload_n hx hb dX15_matches_0 rfl (lv_at hl 0 rfl) ?_
  obtain ⟨hi_4, ht_5, hi_6, ht_7, hi_8, ht_9, hi_10, ht_11, hi_12, ht_13, hi_14, ht_15, hi_16, ⟨r_17, ht_18⟩, hi_19, ⟨r_20, ht_21⟩, hi_22, ht_23, _, _, hi_24, ht_25, hi_26, ht_27, hi_28, ht_29, hi_30, ht_31, hi_32, ht_33, hi_34, ht_35, hi_36, ht_37, hi_38, ⟨r_39, ht_40⟩, hi_41, ht_42, hi_43, ⟨x_44, y0_45, y1_46, y2_47, ht_48⟩, hi_49, ⟨x_50, y0_51, y1_52, y2_53, ht_54⟩, hi_55, ⟨x_56, y_57, w_58, u_59, bl_60, ht_61⟩, hi_62, ht_63, hi_64, ht_65, hi_66, ht_67, hi_68, ht_69, hi_70, ht_71, hi_72, ht_73, hi_74, ht_75, hi_76, ht_77, hi_78, ht_79, hi_80, ht_81, hi_82, ⟨r_83, ht_84⟩, hi_85, ⟨r_86, ht_87⟩, hi_88, ht_89, hi_90, ht_91, hi_92, ⟨r_93, ht_94⟩, hi_95, ⟨r_96, ht_97⟩, hi_98, ⟨r_99, ht_100⟩, hq_101, hq_102, hq_103, hq_104, hq_105, hgO, hgA, hgB⟩ := hW.mod hL_h0 hT_h0
  refine pg_get (ci := 15) (v := .int v17) (C := RX15) (T := TX15) (N := 59) hx hb hts it_15 hown hK hP hL_h0 hF0 rfl 17 (by decide) (hts _ kt_750) (fun _ h9 => h9) rfl dX15_matches_1 ?_
  refine lv_if_ne (tgt := 9) hx hb dX15_matches_4 (by decide) (fun c_106 => ?_) (fun c_106 => ?_)
  ·
    refine lv_aload_n hx hb dX15_matches_9 rfl (lv_at hl 0 rfl) ?_
    refine pg_get (ci := 15) (v := .int v17) (C := RX15) (T := TX15) (N := 59) hx hb hts it_15 hown hK hP hL_h0 hF0 rfl 17 (by decide) (hts _ kt_750) (fun _ h9 => h9) rfl dX15_matches_10 ?_
    refine lv_iconst (v := 4) hx hb dX15_matches_13 (by decide) ?_
    refine lv_icmp_ne (tgt := 38) hx hb dX15_matches_14 (by decide) (fun c_107 => ?_) (fun c_107 => ?_)
    ·
      refine lv_aload_n hx hb dX15_matches_38 rfl (lv_at hl 0 rfl) ?_
      refine pg_get (ci := 15) (v := .int v17) (C := RX15) (T := TX15) (N := 59) hx hb hts it_15 hown hK hP hL_h0 hF0 rfl 17 (by decide) (hts _ kt_750) (fun _ h9 => h9) rfl dX15_matches_39 ?_
      refine lv_istore (lv' := [(4, .int v17), (0, .ref h0), (1, .ref tv), (2, .ref dd), (3, .int (nI lv))]) hx hb dX15_matches_42 hl (by decide) rfl (fun ls hl => ?_)
      refine lv_aload_n hx hb dX15_matches_44 rfl (lv_at hl 1 rfl) ?_
      refine pg_get (ci := 15) (v := .int v21) (C := RX15) (T := TX15) (N := 59) hx hb hts it_15 hown hK hP hL_h0 hF0 rfl 21 (by decide) (hts _ kt_749) (fun _ h9 => h9) rfl dX15_matches_45 ?_
      refine lv_istore (lv' := [(5, .int v21), (4, .int v17), (0, .ref h0), (1, .ref tv), (2, .ref dd), (3, .int (nI lv))]) hx hb dX15_matches_48 hl (by decide) rfl (fun ls hl => ?_)
      refine lv_aload_n hx hb dX15_matches_50 rfl (lv_at hl 2 rfl) ?_
      refine lv_dup hx hb dX15_matches_51 rfl ?_
      refine pg_get (ci := 15) (v := .int (nI c)) (C := RX15) (T := TX15) (N := 59) hx hb hts it_15 hown hK hP hL_h0 hF0 rfl 14 (by decide) (hts _ kt_731) (fun _ h9 => h9) rfl dX15_matches_52 ?_
      refine lv_iconst (v := 1) hx hb dX15_matches_55 (by decide) ?_
      refine lv_iadd hx hb dX15_matches_56 ?_
      refine lv_topi (fun x_108 ex_108 => ?_)
      obtain rfl : x_108 = (nI (c + 1)) := ex_108.trans (nI_1 c)
      refine pg_put (ci := 15) (v := .int (nI (c + 1))) (ty := .int) (C := RX15) (T := TX15) (N := 59) hx hb hts it_15 tyX15 tyX15_ok nmX15 hown hK hP hD hS hL_h0 hF0 rfl 14 (by decide) (hts _ kt_731) (fun _ h9 => h9) rfl (by decide +kernel) (rfl) (rfl) (Nat.le_of_ble_eq_true rfl) dX15_matches_57 (fun H locs hP hD hS => ?_)
      obtain ⟨F_109, he_110, hP, hD, hO, hR⟩ : ∃ G, G = va_up F h0 (.inr (15, [.ref ta, .int (nI zt), .int (nI zo), .int (nI ze), .ref ou, .ref so, .ref ad, .ref na, .ref va, .ref lc, .ref dm, .int v11, .int v12, .ref tg, .int (nI (c + 1)), .int v15, .ref pe, .int v17, .int v18, .int v19, .int v20, .int v21, .int v22, .ref ml, .ref bg, .ref co, .ref sp, .ref nb0, .ref nb1, .ref nb2, .int (nI nf), .int (nI bd), .int (nI mm), .int v33, .ref pl, .ref se, .ref ke, .ref wi, .ref hs, .ref mo, .ref po, .ref nu, .ref pr, .ref sq, .ref xa, .ref sa, .ref n64, .ref m64, .ref ex, .ref wh, .ref sd, .ref tk, .int v52, .int v53, .int v54, .ref hd, .ref ak, .ref ho, .ref ot])) ∧ va_P (dC, dI) vwCl (va_pl L G) H ∧ va_D A (va_pl L G) ∧ OKm cs ty gm L G ∧ FR ty [ρ, ρ + 6, ρ + 7] F G := ⟨_, rfl, hP, hD, hO.up (shm.mod hT_h0 ⟨zo, ze, v11, v12, (nI (c + 1)), v15, v17, v18, v19, v20, v21, v22, v33, v52, v53, v54, rfl, (by first | omega | assumption | exact Or.inl rfl | exact Or.inr rfl), (by first | omega | assumption | exact Or.inl rfl | exact Or.inr rfl), (by first | omega | assumption | exact Or.inl rfl | exact Or.inr rfl), (by first | omega | assumption | exact Or.inl rfl | exact Or.inr rfl)⟩), hR.up hT_h0 (by simp)⟩
      have hF_111 : F_109 h0 = .inr (15, [.ref ta, .int (nI zt), .int (nI zo), .int (nI ze), .ref ou, .ref so, .ref ad, .ref na, .ref va, .ref lc, .ref dm, .int v11, .int v12, .ref tg, .int (nI (c + 1)), .int v15, .ref pe, .int v17, .int v18, .int v19, .int v20, .int v21, .int v22, .ref ml, .ref bg, .ref co, .ref sp, .ref nb0, .ref nb1, .ref nb2, .int (nI nf), .int (nI bd), .int (nI mm), .int v33, .ref pl, .ref se, .ref ke, .ref wi, .ref hs, .ref mo, .ref po, .ref nu, .ref pr, .ref sq, .ref xa, .ref sa, .ref n64, .ref m64, .ref ex, .ref wh, .ref sd, .ref tk, .int v52, .int v53, .int v54, .ref hd, .ref ak, .ref ho, .ref ot]) := by rw [he_110]; exact up_self
      have hF_112 : F_109 rv = .inl (cs 17, 700, .inl fv) := by rw [he_110, up_ne (ne_ty ht_2 hT_h0 (by simp))]; exact hFv
      refine lv_aload_n hx hb dX15_matches_60 rfl (lv_at hl 2 rfl) ?_
      refine pg_get (ci := 15) (v := .int (nI (c + 1))) (C := RX15) (T := TX15) (N := 59) hx hb hts it_15 hown hK hP hL_h0 hF_111 rfl 14 (by decide) (hts _ kt_731) (fun _ h9 => h9) rfl dX15_matches_61 ?_
      refine lv_bipush (v := 10) hx hb dX15_matches_64 (by decide) ?_
      refine lv_icmp_le (tgt := 72) hx hb dX15_matches_66 (by decide) (fun c_113 => ?_) (fun c_113 => ?_)
      ·
        have hi_114 : (c + 1) ≤ 10 := (nI_leI (a := (c + 1)) (b := 10) (by omega) (by omega)).mp c_113
        refine lv_aload_n hx hb dX15_matches_72 rfl (lv_at hl 2 rfl) ?_
        refine pg_get (ci := 15) (v := .ref tg) (C := RX15) (T := TX15) (N := 59) hx hb hts it_15 hown hK hP hL_h0 hF_111 rfl 13 (by decide) (hts _ kt_783) (fun _ h9 => h9) rfl dX15_matches_73 ?_
        refine lv_iload_n hx hb dX15_matches_76 rfl (lv_at hl 5 rfl) ?_
        obtain ⟨f_115, hF_116, hq_117⟩ := hO.rtxt hi_22 ht_23
        obtain ⟨b_118, r_119, hbf_120, hi_121, ht_122⟩ := hq_117 lv (by omega)
        refine pg_aald (r := b_118) hx hb hK hP hi_22 7 hF_116 rfl (vp_in_nI (by omega) (by omega)) (show f_115 ((nI lv) : Int32).toNatClampNeg = _ from by rw [show ((nI lv) : Int32) = nI lv from rfl, nI_clamp (by omega)]; exact hbf_120) dX15_matches_77 ?_
        refine lv_astore (lv' := [(6, .ref b_118), (5, .int v21), (4, .int v17), (0, .ref h0), (1, .ref tv), (2, .ref dd), (3, .int (nI lv))]) hx hb dX15_matches_78 hl (by decide) rfl (fun ls hl => ?_)
        have hF_125 : F rv = .inl (cs 17, 700, .inl fv) := (hR rv (by rw [ht_2]; simp)).symm.trans hF_112
        refine W.widen (k := 0) (n := 0) (by omega) (by omega) ?_
        refine pl_cutm (σ := Unit) A (dC, dI) cs ty gm L [ρ, ρ + 6, ρ + 7] F 123 10 (fun u0 => [(6, .ref b_118), (5, .int v21), (4, .int v17), (0, .ref h0), (1, .ref tv), (2, .ref dd), (3, .int (nI lv))]) (fun u0 => []) (fun u0 FF => FF h0 = .inr (15, [.ref ta, .int (nI zt), .int (nI zo), .int (nI ze), .ref ou, .ref so, .ref ad, .ref na, .ref va, .ref lc, .ref dm, .int v11, .int v12, .ref tg, .int (nI (c + 1)), .int v15, .ref pe, .int v17, .int v18, .int v19, .int v20, .int v21, .int v22, .ref ml, .ref bg, .ref co, .ref sp, .ref nb0, .ref nb1, .ref nb2, .int (nI nf), .int (nI bd), .int (nI mm), .int v33, .ref pl, .ref se, .ref ke, .ref wi, .ref hs, .ref mo, .ref po, .ref nu, .ref pr, .ref sq, .ref xa, .ref sa, .ref n64, .ref m64, .ref ex, .ref wh, .ref sd, .ref tk, .int v52, .int v53, .int v54, .ref hd, .ref ak, .ref ho, .ref ot])) ?_ (fun jn_123 => ?_)
        ·
          rintro u0 F_124 hv_126 hO hR H locs hP hD hS ls hl
          have hl : lv_has ls 10 [(6, .ref b_118), (5, .int v21), (4, .int v17), (0, .ref h0), (1, .ref tv), (2, .ref dd), (3, .int (nI lv))] := hl
          have hv_126 : F_124 h0 = .inr (15, [.ref ta, .int (nI zt), .int (nI zo), .int (nI ze), .ref ou, .ref so, .ref ad, .ref na, .ref va, .ref lc, .ref dm, .int v11, .int v12, .ref tg, .int (nI (c + 1)), .int v15, .ref pe, .int v17, .int v18, .int v19, .int v20, .int v21, .int v22, .ref ml, .ref bg, .ref co, .ref sp, .ref nb0, .ref nb1, .ref nb2, .int (nI nf), .int (nI bd), .int (nI mm), .int v33, .ref pl, .ref se, .ref ke, .ref wi, .ref hs, .ref mo, .ref po, .ref nu, .ref pr, .ref sq, .ref xa, .ref sa, .ref n64, .ref m64, .ref ex, .ref wh, .ref sd, .ref tk, .int v52, .int v53, .int v54, .ref hd, .ref ak, .ref ho, .ref ot]) := hv_126
          refine W.eq (g2 := F0 m 123 ls []) rfl ?_
          have hF_127 : F_124 rv = .inl (cs 17, 700, .inl fv) := (hR rv (by rw [ht_2]; simp)).trans hF_125
          refine lv_iload hx hb dX15_matches_123 (lv_at hl 2 rfl) ?_
          refine lv_iconst (v := 1) hx hb dX15_matches_125 (by decide) ?_
          refine lv_icmp_ne (tgt := 179) hx hb dX15_matches_126 (by decide) (fun c_128 => ?_) (fun c_128 => ?_)
          ·
            refine lv_aload_n hx hb dX15_matches_179 rfl (lv_at hl 3 rfl) ?_
            refine lv_aload hx hb dX15_matches_180 (lv_at hl 0 rfl) ?_
            obtain ⟨hi_129, ht_130, hq_131⟩ := hW.txt hi_121 ht_122
            have hFc := pg_free hD hS hA
            refine va_calli (va_runV (As := [.ref b_118]) (rest := []) ⟨hx, hb, hml, hown, hts⟩ (s_X15_isTrouble l dC dI cs ty gm L H.size F_124 h0 ρ ta ou so ad na va lc dm tg pe ml bg co sp nb0 nb1 nb2 pl se ke wi hs mo po nu pr sq xa sa n64 m64 ex wh sd tk hd ak ho ot sx s0 s1 s2 nf bd mm zt b_118 (ρ + 6) r_119 61 hW hL_h0 hT_h0 hi_121 ht_122) ⟨callB_of 1 hts (gi kt_736) rfl rfl rfl (hts _ kt_669) (hts _ kt_737) (by decide +kernel) ⟨Nat.le_of_ble_eq_true rfl, Nat.le_of_ble_eq_true rfl⟩, (hts _ kt_738), (hts _ kt_739)⟩ ⟨fun a U g mk q => ⟨q.1, PTm.calling q.2⟩, pg_recv hK hP hL_h0 hv_126 (q := (RX15, TX15, 59)) rfl, fun U hU hWm => ⟨rfl, PTm.mk hU hWm hP hK hD hE hO⟩⟩ rfl rfl hl.1 rfl (lv_room (Nat.le_of_ble_eq_true rfl)) dX15_matches_182 ⟨by show _ + 0 ≤ 0; omega, by show _ + 0 ≤ 0; omega⟩) hS (fun q _ h => hFc q h) hFc (fun r_132 u t H1 locs ht hvm hw hB hz1 hk1 hS => ?_)
            obtain ⟨F_133, hB1⟩ := hB
            obtain rfl : F_124 = F_133 := (funext (fun a => hB1.2.2.2 a List.not_mem_nil)).symm
            obtain ⟨hP, hD, hO, hR⟩ := QTm.back hB1 ht hFc hR (fun q h => absurd h List.not_mem_nil)
            generalize H1 = H at hP hS ⊢
            have hw : (r_132 = 0 ∨ r_132 = 1) := hw
            have hw_134 := hw
            refine lv_if_eq (tgt := 190) hx hb dX15_matches_185 (by decide) (fun c_135 => ?_) (fun c_135 => ?_)
            ·
              refine lv_iconst (v := 0) hx hb dX15_matches_190 (by decide) ?_
              refine lv_istore (lv' := [(7, .int 0), (6, .ref b_118), (5, .int v21), (4, .int v17), (0, .ref h0), (1, .ref tv), (2, .ref dd), (3, .int (nI lv))]) hx hb dX15_matches_191 hl (by decide) rfl (fun ls hl => ?_)
              refine lv_iconst (v := 0) hx hb dX15_matches_193 (by decide) ?_
              refine lv_istore (lv' := [(8, .int 0), (7, .int 0), (6, .ref b_118), (5, .int v21), (4, .int v17), (0, .ref h0), (1, .ref tv), (2, .ref dd), (3, .int (nI lv))]) hx hb dX15_matches_194 hl (by decide) rfl (fun ls hl => ?_)
              refine lv_iconst (v := 0) hx hb dX15_matches_196 (by decide) ?_
              refine lv_istore (lv' := [(9, .int 0), (8, .int 0), (7, .int 0), (6, .ref b_118), (5, .int v21), (4, .int v17), (0, .ref h0), (1, .ref tv), (2, .ref dd), (3, .int (nI lv))]) hx hb dX15_matches_197 hl (by decide) rfl (fun ls hl => ?_)
              refine W.widen (k := 0) (n := 0) (by omega) (by omega) ?_
              have hF_137 : F rv = .inl (cs 17, 700, .inl fv) := (hR rv (by rw [ht_2]; simp)).symm.trans hF_127
              refine pl_loopm (σ := Nat × Int32 × Int32) A (dC, dI) cs ty gm L [ρ, ρ + 6, ρ + 7] F 199 10 (fun (j, w7, w8) => [(9, .int (nI j)), (8, .int w8), (7, .int w7), (6, .ref b_118), (5, .int v21), (4, .int v17), (0, .ref h0), (1, .ref tv), (2, .ref dd), (3, .int (nI lv))]) (fun (j, w7, w8) => []) (fun (j, w7, w8) FF => j ≤ 40 ∧ FF h0 = .inr (15, [.ref ta, .int (nI zt), .int (nI zo), .int (nI ze), .ref ou, .ref so, .ref ad, .ref na, .ref va, .ref lc, .ref dm, .int v11, .int v12, .ref tg, .int (nI (c + 1)), .int v15, .ref pe, .int v17, .int v18, .int v19, .int v20, .int v21, .int v22, .ref ml, .ref bg, .ref co, .ref sp, .ref nb0, .ref nb1, .ref nb2, .int (nI nf), .int (nI bd), .int (nI mm), .int v33, .ref pl, .ref se, .ref ke, .ref wi, .ref hs, .ref mo, .ref po, .ref nu, .ref pr, .ref sq, .ref xa, .ref sa, .ref n64, .ref m64, .ref ex, .ref wh, .ref sd, .ref tk, .int v52, .int v53, .int v54, .ref hd, .ref ak, .ref ho, .ref ot])) (fun (j, w7, w8) => 40 - j) ?_ (0, 0, 0) F_124 (⟨by omega, hv_126⟩) hO hR _ _ hP hD hS ls (lv_sub hl [0, 1, 2, 3, 4, 5, 6, 7, 8, 9] rfl)
              rintro ⟨j, w7, w8⟩ F_136 hv_138 hO hR ih_139 H locs hP hD hS ls hl
              have hl : lv_has ls 10 [(9, .int (nI j)), (8, .int w8), (7, .int w7), (6, .ref b_118), (5, .int v21), (4, .int v17), (0, .ref h0), (1, .ref tv), (2, .ref dd), (3, .int (nI lv))] := hl
              have hv_138 : j ≤ 40 ∧ F_136 h0 = .inr (15, [.ref ta, .int (nI zt), .int (nI zo), .int (nI ze), .ref ou, .ref so, .ref ad, .ref na, .ref va, .ref lc, .ref dm, .int v11, .int v12, .ref tg, .int (nI (c + 1)), .int v15, .ref pe, .int v17, .int v18, .int v19, .int v20, .int v21, .int v22, .ref ml, .ref bg, .ref co, .ref sp, .ref nb0, .ref nb1, .ref nb2, .int (nI nf), .int (nI bd), .int (nI mm), .int v33, .ref pl, .ref se, .ref ke, .ref wi, .ref hs, .ref mo, .ref po, .ref nu, .ref pr, .ref sq, .ref xa, .ref sa, .ref n64, .ref m64, .ref ex, .ref wh, .ref sd, .ref tk, .int v52, .int v53, .int v54, .ref hd, .ref ak, .ref ho, .ref ot]) := hv_138
              refine W.eq (g2 := F0 m 199 ls []) rfl ?_
              have hF_140 : F_136 rv = .inl (cs 17, 700, .inl fv) := (hR rv (by rw [ht_2]; simp)).trans hF_137
              obtain ⟨hv1, hv2⟩ := hv_138
              refine lv_iload hx hb dX15_matches_199 (lv_at hl 0 rfl) ?_
              refine lv_aload_n hx hb dX15_matches_201 rfl (lv_at hl 6 rfl) ?_
              refine pg_get (ci := 15) (v := .int (nI ze)) (C := RX15) (T := TX15) (N := 59) hx hb hts it_15 hown hK hP hL_h0 hv2 rfl 3 (by decide) (hts _ kt_724) (fun _ h9 => h9) rfl dX15_matches_202 ?_
              refine lv_icmp_ge (tgt := 273) hx hb dX15_matches_205 (by decide) (fun c_141 => ?_) (fun c_141 => ?_)
              ·
                have hi_142 : ze ≤ j := leN (N := ze) c_141
                refine lv_iload hx hb dX15_matches_273 (lv_at hl 2 rfl) ?_
                refine lv_if_ne (tgt := 299) hx hb dX15_matches_275 (by decide) (fun c_143 => ?_) (fun c_143 => ?_)
                ·
                  refine lv_iload hx hb dX15_matches_299 (lv_at hl 5 rfl) ?_
                  refine lv_iconst (v := 3) hx hb dX15_matches_301 (by decide) ?_
                  refine lv_icmp_ne (tgt := 316) hx hb dX15_matches_302 (by decide) (fun c_144 => ?_) (fun c_144 => ?_)
                  ·
                    refine lv_iload hx hb dX15_matches_316 (lv_at hl 1 rfl) ?_
                    refine W.widen (k := 0) (n := 0) (by omega) (by omega) ?_
                    exact W.iret (v := w8) hx hb hr (fun t ht hWm => ⟨⟨w8, (c + 1), rfl, (fun h => by omega), ⟨F_136, v15, v17, v18, v19, v20, v21, v22, QTm.mk ht hP hD hO hR, hv2, by omega, by omega⟩⟩, hS.F ht⟩) hS.2.2 dX15_matches_318
                  ·
                    refine lv_aload_n hx hb dX15_matches_305 rfl (lv_at hl 6 rfl) ?_
                    refine lv_aload hx hb dX15_matches_306 (lv_at hl 3 rfl) ?_
                    refine lv_iload hx hb dX15_matches_308 (lv_at hl 4 rfl) ?_
                    have hFc := pg_free hD hS hA
                    refine va_calli (va_runV (As := [.ref b_118, .int v21]) (rest := []) ⟨hx, hb, hml, hown, hts⟩ (s_X15_exchanges l dC dI cs ty gm L H.size F_136 h0 ρ ta ou so ad na va lc dm tg pe ml bg co sp nb0 nb1 nb2 pl se ke wi hs mo po nu pr sq xa sa n64 m64 ex wh sd tk hd ak ho ot sx s0 s1 s2 nf bd mm zt b_118 (ρ + 6) r_119 61 v21 hW hL_h0 hT_h0 hi_121 ht_122) ⟨callB_of 2 hts (gi kt_784) rfl rfl rfl (hts _ kt_669) (hts _ kt_785) (by decide +kernel) ⟨Nat.le_of_ble_eq_true rfl, Nat.le_of_ble_eq_true rfl⟩, (hts _ kt_786), (hts _ kt_787)⟩ ⟨fun a U g mk q => ⟨q.1, PTm.calling q.2⟩, pg_recv hK hP hL_h0 hv2 (q := (RX15, TX15, 59)) rfl, fun U hU hWm => ⟨rfl, PTm.mk hU hWm hP hK hD hE hO⟩⟩ rfl rfl hl.1 rfl (lv_room (Nat.le_of_ble_eq_true rfl)) dX15_matches_310 ⟨by show _ + 0 ≤ 0; omega, by show _ + 0 ≤ 0; omega⟩) hS (fun q _ h => hFc q h) hFc (fun r_145 u t H1 locs ht hvm hw hB hz1 hk1 hS => ?_)
                    obtain ⟨F_146, hB1⟩ := hB
                    obtain rfl : F_136 = F_146 := (funext (fun a => hB1.2.2.2 a List.not_mem_nil)).symm
                    obtain ⟨hP, hD, hO, hR⟩ := QTm.back hB1 ht hFc hR (fun q h => absurd h List.not_mem_nil)
                    generalize H1 = H at hP hS ⊢
                    have hw : True := hw
                    have hw_147 := hw
                    refine lv_goto (tgt := 318) hx hb dX15_matches_313 (by decide) ?_
                    refine W.widen (k := 0) (n := 0) (by omega) (by omega) ?_
                    exact W.iret (v := r_145) hx hb hr (fun t ht hWm => ⟨⟨r_145, (c + 1), rfl, (fun h => by omega), ⟨F_136, v15, v17, v18, v19, v20, v21, v22, QTm.mk ht hP hD hO hR, hv2, by omega, by omega⟩⟩, hS.F ht⟩) hS.2.2 dX15_matches_318
                ·
                  refine lv_aload_n hx hb dX15_matches_278 rfl (lv_at hl 6 rfl) ?_
                  refine lv_dup hx hb dX15_matches_279 rfl ?_
                  refine pg_get (ci := 15) (v := .int v15) (C := RX15) (T := TX15) (N := 59) hx hb hts it_15 hown hK hP hL_h0 hv2 rfl 15 (by decide) (hts _ kt_730) (fun _ h9 => h9) rfl dX15_matches_280 ?_
                  refine lv_iconst (v := 1) hx hb dX15_matches_283 (by decide) ?_
                  refine lv_iadd hx hb dX15_matches_284 ?_
                  refine lv_topi (fun x_148 _ => ?_)
                  refine pg_put (ci := 15) (v := .int x_148) (ty := .int) (C := RX15) (T := TX15) (N := 59) hx hb hts it_15 tyX15 tyX15_ok nmX15 hown hK hP hD hS hL_h0 hv2 rfl 15 (by decide) (hts _ kt_730) (fun _ h9 => h9) rfl (by decide +kernel) (rfl) (rfl) (Nat.le_of_ble_eq_true rfl) dX15_matches_285 (fun H locs hP hD hS => ?_)
                  obtain ⟨F_149, he_150, hP, hD, hO, hR⟩ : ∃ G, G = va_up F_136 h0 (.inr (15, [.ref ta, .int (nI zt), .int (nI zo), .int (nI ze), .ref ou, .ref so, .ref ad, .ref na, .ref va, .ref lc, .ref dm, .int v11, .int v12, .ref tg, .int (nI (c + 1)), .int x_148, .ref pe, .int v17, .int v18, .int v19, .int v20, .int v21, .int v22, .ref ml, .ref bg, .ref co, .ref sp, .ref nb0, .ref nb1, .ref nb2, .int (nI nf), .int (nI bd), .int (nI mm), .int v33, .ref pl, .ref se, .ref ke, .ref wi, .ref hs, .ref mo, .ref po, .ref nu, .ref pr, .ref sq, .ref xa, .ref sa, .ref n64, .ref m64, .ref ex, .ref wh, .ref sd, .ref tk, .int v52, .int v53, .int v54, .ref hd, .ref ak, .ref ho, .ref ot])) ∧ va_P (dC, dI) vwCl (va_pl L G) H ∧ va_D A (va_pl L G) ∧ OKm cs ty gm L G ∧ FR ty [ρ, ρ + 6, ρ + 7] F G := ⟨_, rfl, hP, hD, hO.up (shm.mod hT_h0 ⟨zo, ze, v11, v12, (nI (c + 1)), x_148, v17, v18, v19, v20, v21, v22, v33, v52, v53, v54, rfl, (by first | omega | assumption | exact Or.inl rfl | exact Or.inr rfl), (by first | omega | assumption | exact Or.inl rfl | exact Or.inr rfl), (by first | omega | assumption | exact Or.inl rfl | exact Or.inr rfl), (by first | omega | assumption | exact Or.inl rfl | exact Or.inr rfl)⟩), hR.up hT_h0 (by simp)⟩
                  have hF_151 : F_149 h0 = .inr (15, [.ref ta, .int (nI zt), .int (nI zo), .int (nI ze), .ref ou, .ref so, .ref ad, .ref na, .ref va, .ref lc, .ref dm, .int v11, .int v12, .ref tg, .int (nI (c + 1)), .int x_148, .ref pe, .int v17, .int v18, .int v19, .int v20, .int v21, .int v22, .ref ml, .ref bg, .ref co, .ref sp, .ref nb0, .ref nb1, .ref nb2, .int (nI nf), .int (nI bd), .int (nI mm), .int v33, .ref pl, .ref se, .ref ke, .ref wi, .ref hs, .ref mo, .ref po, .ref nu, .ref pr, .ref sq, .ref xa, .ref sa, .ref n64, .ref m64, .ref ex, .ref wh, .ref sd, .ref tk, .int v52, .int v53, .int v54, .ref hd, .ref ak, .ref ho, .ref ot]) := by rw [he_150]; exact up_self
                  have hF_152 : F_149 rv = .inl (cs 17, 700, .inl fv) := by rw [he_150, up_ne (ne_ty ht_2 hT_h0 (by simp))]; exact hF_140
                  refine lv_aload_n hx hb dX15_matches_288 rfl (lv_at hl 6 rfl) ?_
                  refine pg_get (ci := 15) (v := .int x_148) (C := RX15) (T := TX15) (N := 59) hx hb hts it_15 hown hK hP hL_h0 hF_151 rfl 15 (by decide) (hts _ kt_730) (fun _ h9 => h9) rfl dX15_matches_289 ?_
                  refine lv_iconst (v := 2) hx hb dX15_matches_292 (by decide) ?_
                  refine lv_icmp_le (tgt := 299) hx hb dX15_matches_293 (by decide) (fun c_153 => ?_) (fun c_153 => ?_)
                  ·
                    refine lv_iload hx hb dX15_matches_299 (lv_at hl 5 rfl) ?_
                    refine lv_iconst (v := 3) hx hb dX15_matches_301 (by decide) ?_
                    refine lv_icmp_ne (tgt := 316) hx hb dX15_matches_302 (by decide) (fun c_154 => ?_) (fun c_154 => ?_)
                    ·
                      refine lv_iload hx hb dX15_matches_316 (lv_at hl 1 rfl) ?_
                      refine W.widen (k := 0) (n := 0) (by omega) (by omega) ?_
                      exact W.iret (v := w8) hx hb hr (fun t ht hWm => ⟨⟨w8, (c + 1), rfl, (fun h => by omega), ⟨F_149, x_148, v17, v18, v19, v20, v21, v22, QTm.mk ht hP hD hO hR, hF_151, by omega, by omega⟩⟩, hS.F ht⟩) hS.2.2 dX15_matches_318
                    ·
                      refine lv_aload_n hx hb dX15_matches_305 rfl (lv_at hl 6 rfl) ?_
                      refine lv_aload hx hb dX15_matches_306 (lv_at hl 3 rfl) ?_
                      refine lv_iload hx hb dX15_matches_308 (lv_at hl 4 rfl) ?_
                      have hFc := pg_free hD hS hA
                      refine va_calli (va_runV (As := [.ref b_118, .int v21]) (rest := []) ⟨hx, hb, hml, hown, hts⟩ (s_X15_exchanges l dC dI cs ty gm L H.size F_149 h0 ρ ta ou so ad na va lc dm tg pe ml bg co sp nb0 nb1 nb2 pl se ke wi hs mo po nu pr sq xa sa n64 m64 ex wh sd tk hd ak ho ot sx s0 s1 s2 nf bd mm zt b_118 (ρ + 6) r_119 61 v21 hW hL_h0 hT_h0 hi_121 ht_122) ⟨callB_of 2 hts (gi kt_784) rfl rfl rfl (hts _ kt_669) (hts _ kt_785) (by decide +kernel) ⟨Nat.le_of_ble_eq_true rfl, Nat.le_of_ble_eq_true rfl⟩, (hts _ kt_786), (hts _ kt_787)⟩ ⟨fun a U g mk q => ⟨q.1, PTm.calling q.2⟩, pg_recv hK hP hL_h0 hF_151 (q := (RX15, TX15, 59)) rfl, fun U hU hWm => ⟨rfl, PTm.mk hU hWm hP hK hD hE hO⟩⟩ rfl rfl hl.1 rfl (lv_room (Nat.le_of_ble_eq_true rfl)) dX15_matches_310 ⟨by show _ + 0 ≤ 0; omega, by show _ + 0 ≤ 0; omega⟩) hS (fun q _ h => hFc q h) hFc (fun r_155 u t H1 locs ht hvm hw hB hz1 hk1 hS => ?_)
                      obtain ⟨F_156, hB1⟩ := hB
                      obtain rfl : F_149 = F_156 := (funext (fun a => hB1.2.2.2 a List.not_mem_nil)).symm
                      obtain ⟨hP, hD, hO, hR⟩ := QTm.back hB1 ht hFc hR (fun q h => absurd h List.not_mem_nil)
                      generalize H1 = H at hP hS ⊢
                      have hw : True := hw
                      have hw_157 := hw
                      refine lv_goto (tgt := 318) hx hb dX15_matches_313 (by decide) ?_
                      refine W.widen (k := 0) (n := 0) (by omega) (by omega) ?_
                      exact W.iret (v := r_155) hx hb hr (fun t ht hWm => ⟨⟨r_155, (c + 1), rfl, (fun h => by omega), ⟨F_149, x_148, v17, v18, v19, v20, v21, v22, QTm.mk ht hP hD hO hR, hF_151, by omega, by omega⟩⟩, hS.F ht⟩) hS.2.2 dX15_matches_318
                  ·
                    refine lv_bipush (v := 6) hx hb dX15_matches_296 (by decide) ?_
                    refine W.widen (k := 0) (n := 0) (by omega) (by omega) ?_
                    exact W.iret (v := 6) hx hb hr (fun t ht hWm => ⟨⟨6, (c + 1), rfl, (fun _ => rfl), ⟨F_149, x_148, v17, v18, v19, v20, v21, v22, QTm.mk ht hP hD hO hR, hF_151, by omega, by omega⟩⟩, hS.F ht⟩) hS.2.2 dX15_matches_298
              ·
                have hi_158 : j < ze := ltN (N := ze) c_141
                refine lv_aload_n hx hb dX15_matches_208 rfl (lv_at hl 6 rfl) ?_
                refine lv_iload hx hb dX15_matches_209 (lv_at hl 0 rfl) ?_
                have hF_161 : F rv = .inl (cs 17, 700, .inl fv) := (hR rv (by rw [ht_2]; simp)).symm.trans hF_140
                refine W.widen (k := 0) (n := 0) (by omega) (by omega) ?_
                refine pl_cutm (σ := Int32) A (dC, dI) cs ty gm L [ρ, ρ + 6, ρ + 7] F 222 10 (fun s0 => [(9, .int (nI j)), (8, .int w8), (7, .int w7), (6, .ref b_118), (5, .int v21), (4, .int v17), (0, .ref h0), (1, .ref tv), (2, .ref dd), (3, .int (nI lv))]) (fun s0 => [.int s0, .int (nI j), .ref h0]) (fun s0 FF => FF h0 = .inr (15, [.ref ta, .int (nI zt), .int (nI zo), .int (nI ze), .ref ou, .ref so, .ref ad, .ref na, .ref va, .ref lc, .ref dm, .int v11, .int v12, .ref tg, .int (nI (c + 1)), .int v15, .ref pe, .int v17, .int v18, .int v19, .int v20, .int v21, .int v22, .ref ml, .ref bg, .ref co, .ref sp, .ref nb0, .ref nb1, .ref nb2, .int (nI nf), .int (nI bd), .int (nI mm), .int v33, .ref pl, .ref se, .ref ke, .ref wi, .ref hs, .ref mo, .ref po, .ref nu, .ref pr, .ref sq, .ref xa, .ref sa, .ref n64, .ref m64, .ref ex, .ref wh, .ref sd, .ref tk, .int v52, .int v53, .int v54, .ref hd, .ref ak, .ref ho, .ref ot])) ?_ (fun jn_159 => ?_)
                ·
                  rintro s0 F_160 hv_162 hO hR H locs hP hD hS ls hl
                  have hl : lv_has ls 10 [(9, .int (nI j)), (8, .int w8), (7, .int w7), (6, .ref b_118), (5, .int v21), (4, .int v17), (0, .ref h0), (1, .ref tv), (2, .ref dd), (3, .int (nI lv))] := hl
                  have hv_162 : F_160 h0 = .inr (15, [.ref ta, .int (nI zt), .int (nI zo), .int (nI ze), .ref ou, .ref so, .ref ad, .ref na, .ref va, .ref lc, .ref dm, .int v11, .int v12, .ref tg, .int (nI (c + 1)), .int v15, .ref pe, .int v17, .int v18, .int v19, .int v20, .int v21, .int v22, .ref ml, .ref bg, .ref co, .ref sp, .ref nb0, .ref nb1, .ref nb2, .int (nI nf), .int (nI bd), .int (nI mm), .int v33, .ref pl, .ref se, .ref ke, .ref wi, .ref hs, .ref mo, .ref po, .ref nu, .ref pr, .ref sq, .ref xa, .ref sa, .ref n64, .ref m64, .ref ex, .ref wh, .ref sd, .ref tk, .int v52, .int v53, .int v54, .ref hd, .ref ak, .ref ho, .ref ot]) := hv_162
                  refine W.eq (g2 := F0 m 222 ls [.int s0, .int (nI j), .ref h0]) rfl ?_
                  have hF_163 : F_160 rv = .inl (cs 17, 700, .inl fv) := (hR rv (by rw [ht_2]; simp)).trans hF_161
                  refine lv_aload hx hb dX15_matches_222 (lv_at hl 3 rfl) ?_
                  have hFc := pg_free hD hS hA
                  refine va_calli (va_runV (As := [.int (nI j), .int s0, .ref b_118]) (rest := []) ⟨hx, hb, hml, hown, hts⟩ (s_X15_isOf l dC dI cs ty gm L H.size F_160 h0 ρ ta ou so ad na va lc dm tg pe ml bg co sp nb0 nb1 nb2 pl se ke wi hs mo po nu pr sq xa sa n64 m64 ex wh sd tk hd ak ho ot sx s0 s1 s2 nf bd mm zt j b_118 (ρ + 6) r_119 61 s0 hW hL_h0 hT_h0 hi_121 ht_122 (by first | omega | assumption)) ⟨callB_of 3 hts (gi kt_725) rfl rfl rfl (hts _ kt_669) (hts _ kt_726) (by decide +kernel) ⟨Nat.le_of_ble_eq_true rfl, Nat.le_of_ble_eq_true rfl⟩, (hts _ kt_727), (hts _ kt_728)⟩ ⟨fun a U g mk q => ⟨q.1, PTm.calling q.2⟩, pg_recv hK hP hL_h0 hv_162 (q := (RX15, TX15, 59)) rfl, fun U hU hWm => ⟨rfl, PTm.mk hU hWm hP hK hD hE hO⟩⟩ rfl rfl hl.1 rfl (lv_room (Nat.le_of_ble_eq_true rfl)) dX15_matches_224 ⟨by show _ + 0 ≤ 0; omega, by show _ + 0 ≤ 0; omega⟩) hS (fun q _ h => hFc q h) hFc (fun r_164 u t H1 locs ht hvm hw hB hz1 hk1 hS => ?_)
                  obtain ⟨F_165, hB1⟩ := hB
                  obtain rfl : F_160 = F_165 := (funext (fun a => hB1.2.2.2 a List.not_mem_nil)).symm
                  obtain ⟨hP, hD, hO, hR⟩ := QTm.back hB1 ht hFc hR (fun q h => absurd h List.not_mem_nil)
                  generalize H1 = H at hP hS ⊢
                  have hw : (r_164 = 0 ∨ r_164 = 1) := hw
                  have hw_166 := hw
                  refine lv_if_ne (tgt := 233) hx hb dX15_matches_227 (by decide) (fun c_167 => ?_) (fun c_167 => ?_)
                  ·
                    obtain ⟨x_168, ex_168⟩ : ∃ y : Int32, y = w7 + Int32.ofInt 1 := ⟨_, rfl⟩
                    refine lv_iinc (v := x_168) (lv' := [(7, .int x_168), (9, .int (nI j)), (8, .int w8), (6, .ref b_118), (5, .int v21), (4, .int v17), (0, .ref h0), (1, .ref tv), (2, .ref dd), (3, .int (nI lv))]) hx hb dX15_matches_233 hl (k := 2) rfl (ex_168.symm) (by decide) rfl (fun ls hl => ?_)
                    refine lv_iload hx hb dX15_matches_236 (lv_at hl 5 rfl) ?_
                    refine lv_iconst (v := 3) hx hb dX15_matches_238 (by decide) ?_
                    refine lv_icmp_eq (tgt := 267) hx hb dX15_matches_239 (by decide) (fun c_169 => ?_) (fun c_169 => ?_)
                    ·
                      refine lv_iinc (v := (nI (j + 1))) (lv' := [(9, .int (nI (j + 1))), (7, .int x_168), (8, .int w8), (6, .ref b_118), (5, .int v21), (4, .int v17), (0, .ref h0), (1, .ref tv), (2, .ref dd), (3, .int (nI lv))]) hx hb dX15_matches_267 hl (k := 1) rfl (nI_1 _) (by decide) rfl (fun ls hl => ?_)
                      refine lv_goto (tgt := 199) hx hb dX15_matches_270 (by decide) ?_
                      refine W.widen (k := 0) (n := 0) (by omega) (by omega) ?_
                      exact ih_139 ((j + 1), x_168, w8) F_160 (⟨by omega, hv_162⟩) (by show 40 - (j + 1) < 40 - j; omega) hO hR _ _ hP hD hS ls (lv_sub hl [0, 2, 1, 3, 4, 5, 6, 7, 8, 9] rfl)
                    ·
                      refine lv_iload hx hb dX15_matches_242 (lv_at hl 5 rfl) ?_
                      refine lv_iconst (v := 5) hx hb dX15_matches_244 (by decide) ?_
                      refine lv_icmp_eq (tgt := 264) hx hb dX15_matches_245 (by decide) (fun c_170 => ?_) (fun c_170 => ?_)
                      ·
                        refine lv_iconst (v := 1) hx hb dX15_matches_264 (by decide) ?_
                        refine lv_istore (lv' := [(8, .int 1), (7, .int x_168), (9, .int (nI j)), (6, .ref b_118), (5, .int v21), (4, .int v17), (0, .ref h0), (1, .ref tv), (2, .ref dd), (3, .int (nI lv))]) hx hb dX15_matches_265 hl (by decide) rfl (fun ls hl => ?_)
                        refine lv_iinc (v := (nI (j + 1))) (lv' := [(9, .int (nI (j + 1))), (8, .int 1), (7, .int x_168), (6, .ref b_118), (5, .int v21), (4, .int v17), (0, .ref h0), (1, .ref tv), (2, .ref dd), (3, .int (nI lv))]) hx hb dX15_matches_267 hl (k := 2) rfl (nI_1 _) (by decide) rfl (fun ls hl => ?_)
                        refine lv_goto (tgt := 199) hx hb dX15_matches_270 (by decide) ?_
                        refine W.widen (k := 0) (n := 0) (by omega) (by omega) ?_
                        exact ih_139 ((j + 1), x_168, 1) F_160 (⟨by omega, hv_162⟩) (by show 40 - (j + 1) < 40 - j; omega) hO hR _ _ hP hD hS ls (lv_sub hl [0, 1, 2, 3, 4, 5, 6, 7, 8, 9] rfl)
                      ·
                        refine lv_aload_n hx hb dX15_matches_248 rfl (lv_at hl 6 rfl) ?_
                        refine lv_aload_n hx hb dX15_matches_249 rfl (lv_at hl 6 rfl) ?_
                        refine pg_get (ci := 15) (v := .ref ad) (C := RX15) (T := TX15) (N := 59) hx hb hts it_15 hown hK hP hL_h0 hv_162 rfl 6 (by decide) (hts _ kt_740) (fun _ h9 => h9) rfl dX15_matches_250 ?_
                        refine lv_iload hx hb dX15_matches_253 (lv_at hl 1 rfl) ?_
                        obtain ⟨hq_171, hq_172⟩ := hW.ints hi_10 ht_11
                        obtain ⟨f_173, hF_174⟩ := hO.ints hi_10 ht_11
                        refine pg_iald hx hb hK hP hi_10 0 hF_174 rfl (vp_in_nI (by omega) (by omega)) dX15_matches_255 ?_
                        refine lv_topi (fun x_175 _ => ?_)
                        refine lv_iload hx hb dX15_matches_256 (lv_at hl 4 rfl) ?_
                        have hFc := pg_free hD hS hA
                        refine va_calli (va_runV (As := [.int x_175, .int v21]) (rest := []) ⟨hx, hb, hml, hown, hts⟩ (s_X15_isSender l dC dI cs ty gm L H.size F_160 h0 ρ ta ou so ad na va lc dm tg pe ml bg co sp nb0 nb1 nb2 pl se ke wi hs mo po nu pr sq xa sa n64 m64 ex wh sd tk hd ak ho ot sx s0 s1 s2 nf bd mm zt x_175 v21 hW hL_h0 hT_h0) ⟨callB_of 2 hts (gi kt_741) rfl rfl rfl (hts _ kt_669) (hts _ kt_742) (by decide +kernel) ⟨Nat.le_of_ble_eq_true rfl, Nat.le_of_ble_eq_true rfl⟩, (hts _ kt_743), (hts _ kt_744)⟩ ⟨fun a U g mk q => ⟨q.1, PTm.calling q.2⟩, pg_recv hK hP hL_h0 hv_162 (q := (RX15, TX15, 59)) rfl, fun U hU hWm => ⟨rfl, PTm.mk hU hWm hP hK hD hE hO⟩⟩ rfl rfl hl.1 rfl (lv_room (Nat.le_of_ble_eq_true rfl)) dX15_matches_258 ⟨by show _ + 0 ≤ 0; omega, by show _ + 0 ≤ 0; omega⟩) hS (fun q _ h => hFc q h) hFc (fun r_176 u t H1 locs ht hvm hw hB hz1 hk1 hS => ?_)
                        obtain ⟨F_177, hB1⟩ := hB
                        obtain rfl : F_160 = F_177 := (funext (fun a => hB1.2.2.2 a List.not_mem_nil)).symm
                        obtain ⟨hP, hD, hO, hR⟩ := QTm.back hB1 ht hFc hR (fun q h => absurd h List.not_mem_nil)
                        generalize H1 = H at hP hS ⊢
                        have hw : (r_176 = 0 ∨ r_176 = 1) := hw
                        have hw_178 := hw
                        refine lv_if_eq (tgt := 267) hx hb dX15_matches_261 (by decide) (fun c_179 => ?_) (fun c_179 => ?_)
                        ·
                          refine lv_iinc (v := (nI (j + 1))) (lv' := [(9, .int (nI (j + 1))), (7, .int x_168), (8, .int w8), (6, .ref b_118), (5, .int v21), (4, .int v17), (0, .ref h0), (1, .ref tv), (2, .ref dd), (3, .int (nI lv))]) hx hb dX15_matches_267 hl (k := 1) rfl (nI_1 _) (by decide) rfl (fun ls hl => ?_)
                          refine lv_goto (tgt := 199) hx hb dX15_matches_270 (by decide) ?_
                          refine W.widen (k := 0) (n := 0) (by omega) (by omega) ?_
                          exact ih_139 ((j + 1), x_168, w8) F_160 (⟨by omega, hv_162⟩) (by show 40 - (j + 1) < 40 - j; omega) hO hR _ _ hP hD hS ls (lv_sub hl [0, 2, 1, 3, 4, 5, 6, 7, 8, 9] rfl)
                        ·
                          refine lv_iconst (v := 1) hx hb dX15_matches_264 (by decide) ?_
                          refine lv_istore (lv' := [(8, .int 1), (7, .int x_168), (9, .int (nI j)), (6, .ref b_118), (5, .int v21), (4, .int v17), (0, .ref h0), (1, .ref tv), (2, .ref dd), (3, .int (nI lv))]) hx hb dX15_matches_265 hl (by decide) rfl (fun ls hl => ?_)
                          refine lv_iinc (v := (nI (j + 1))) (lv' := [(9, .int (nI (j + 1))), (8, .int 1), (7, .int x_168), (6, .ref b_118), (5, .int v21), (4, .int v17), (0, .ref h0), (1, .ref tv), (2, .ref dd), (3, .int (nI lv))]) hx hb dX15_matches_267 hl (k := 2) rfl (nI_1 _) (by decide) rfl (fun ls hl => ?_)
                          refine lv_goto (tgt := 199) hx hb dX15_matches_270 (by decide) ?_
                          refine W.widen (k := 0) (n := 0) (by omega) (by omega) ?_
                          exact ih_139 ((j + 1), x_168, 1) F_160 (⟨by omega, hv_162⟩) (by show 40 - (j + 1) < 40 - j; omega) hO hR _ _ hP hD hS ls (lv_sub hl [0, 1, 2, 3, 4, 5, 6, 7, 8, 9] rfl)
                  ·
                    refine lv_goto (tgt := 267) hx hb dX15_matches_230 (by decide) ?_
                    refine lv_iinc (v := (nI (j + 1))) (lv' := [(9, .int (nI (j + 1))), (8, .int w8), (7, .int w7), (6, .ref b_118), (5, .int v21), (4, .int v17), (0, .ref h0), (1, .ref tv), (2, .ref dd), (3, .int (nI lv))]) hx hb dX15_matches_267 hl (k := 0) rfl (nI_1 _) (by decide) rfl (fun ls hl => ?_)
                    refine lv_goto (tgt := 199) hx hb dX15_matches_270 (by decide) ?_
                    refine W.widen (k := 0) (n := 0) (by omega) (by omega) ?_
                    exact ih_139 ((j + 1), w7, w8) F_160 (⟨by omega, hv_162⟩) (by show 40 - (j + 1) < 40 - j; omega) hO hR _ _ hP hD hS ls (lv_sub hl [0, 1, 2, 3, 4, 5, 6, 7, 8, 9] rfl)
                ·
                  refine lv_iload hx hb dX15_matches_211 (lv_at hl 5 rfl) ?_
                  refine lv_iconst (v := 3) hx hb dX15_matches_213 (by decide) ?_
                  refine lv_icmp_ne (tgt := 221) hx hb dX15_matches_214 (by decide) (fun c_180 => ?_) (fun c_180 => ?_)
                  ·
                    refine lv_iconst (v := 1) hx hb dX15_matches_221 (by decide) ?_
                    refine W.widen (k := 0) (n := 0) (by omega) (by omega) ?_
                    exact jn_159 1 F_136 (hv2) hO hR _ _ hP hD hS ls (lv_sub hl [0, 1, 2, 3, 4, 5, 6, 7, 8, 9] rfl)
                  ·
                    refine lv_iconst (v := 2) hx hb dX15_matches_217 (by decide) ?_
                    refine lv_goto (tgt := 222) hx hb dX15_matches_218 (by decide) ?_
                    refine W.widen (k := 0) (n := 0) (by omega) (by omega) ?_
                    exact jn_159 2 F_136 (hv2) hO hR _ _ hP hD hS ls (lv_sub hl [0, 1, 2, 3, 4, 5, 6, 7, 8, 9] rfl)
            ·
              refine lv_iconst (v := 5) hx hb dX15_matches_188 (by decide) ?_
              refine W.widen (k := 0) (n := 0) (by omega) (by omega) ?_
              exact W.iret (v := 5) hx hb hr (fun t ht hWm => ⟨⟨5, (c + 1), rfl, (fun h => by omega), ⟨F_124, v15, v17, v18, v19, v20, v21, v22, QTm.mk ht hP hD hO hR, hv_126, by omega, by omega⟩⟩, hS.F ht⟩) hS.2.2 dX15_matches_189
          ·
            refine lv_aload_n hx hb dX15_matches_129 rfl (lv_at hl 3 rfl) ?_
            refine lv_aload hx hb dX15_matches_130 (lv_at hl 0 rfl) ?_
            refine lv_iload_n hx hb dX15_matches_132 rfl (lv_at hl 6 rfl) ?_
            refine lv_iconst (v := 1) hx hb dX15_matches_133 (by decide) ?_
            refine lv_iadd hx hb dX15_matches_134 ?_
            refine lv_topi (fun x_181 ex_181 => ?_)
            obtain rfl : x_181 = (nI (lv + 1)) := ex_181.trans (nI_1 lv)
            obtain ⟨hi_182, ht_183, hq_184⟩ := hW.txt hL_pe hT_pe
            obtain ⟨hi_185, ht_186, hq_187⟩ := hW.txt hi_121 ht_122
            have hFc := pg_free hD hS hA
            refine va_calli (va_runV (As := [.ref b_118, .int (nI (lv + 1))]) (rest := []) ⟨hx, hb, hml, hown, hts⟩ (hC (c + 1) (by omega) H.size F_124 zo ze v11 v12 v15 v17 v18 v19 v20 v21 v22 v33 v52 v53 v54 b_118 (ρ + 6) r_119 61 (lv + 1) hi_121 ht_122 hv_126 (by omega) (by omega) (by assumption) (by assumption) (by omega) (by omega) (by omega)) ⟨callB_of 2 hts (gi kt_788) rfl rfl rfl (hts _ kt_669) (hts _ kt_789) (by decide +kernel) ⟨by show fr + 0 + 1 ≤ fr + 5; omega, by show 8 + (10 + 11) + (lo + 0) ≤ lo + 129; omega⟩, (hts _ kt_790), (hts _ kt_791)⟩ ⟨fun a U g mk q => ⟨q.1, PTEm.calling q.2⟩, pg_recv hK hP hL_h0 hv_126 (q := (RX15, TX15, 59)) rfl, fun U hU hWm => ⟨rfl, PTEm.mk hU hWm hP hK hD hE hO hG (fun x hx => absurd hx List.not_mem_nil) hS hFc⟩⟩ rfl rfl hl.1 rfl (lv_room (Nat.le_of_ble_eq_true rfl)) dX15_matches_135 ⟨by show _ + 0 ≤ 0; omega, by show _ + 0 ≤ 0; omega⟩) hS (fun q _ h => hFc q h) hFc (fun r_189 cu_188 t H1 locs ht hvm hw hB hz1 hk1 hS => ?_)
            obtain ⟨F_190, u15_191, u17_192, u18_193, u19_194, u20_195, u21_196, u22_197, hB1, hq_198, hq_199, hq_200⟩ := hB
            obtain ⟨hP, hD, hO, hR⟩ := QTm.back hB1 ht hFc hR (fun q h => by simp only [List.mem_cons, List.not_mem_nil, or_false] at h ⊢; omega)
            have hF_201 : F_190 rv = .inl (cs 17, 700, .inl fv) := (hB1.2.2.2 rv (by rw [ht_2]; simp)).trans hF_127
            generalize H1 = H at hP hS ⊢
            have hw : (cu_188 = 11 → r_189 = 6) := hw
            have hw_202 := hw
            refine lv_istore (lv' := [(7, .int r_189), (6, .ref b_118), (5, .int v21), (4, .int v17), (0, .ref h0), (1, .ref tv), (2, .ref dd), (3, .int (nI lv))]) hx hb dX15_matches_138 hl (by decide) rfl (fun ls hl => ?_)
            refine lv_iload hx hb dX15_matches_140 (lv_at hl 0 rfl) ?_
            refine lv_iconst (v := 2) hx hb dX15_matches_142 (by decide) ?_
            refine lv_icmp_ne (tgt := 150) hx hb dX15_matches_143 (by decide) (fun c_203 => ?_) (fun c_203 => ?_)
            ·
              refine lv_iload hx hb dX15_matches_150 (lv_at hl 0 rfl) ?_
              refine lv_iconst (v := 5) hx hb dX15_matches_152 (by decide) ?_
              refine lv_icmp_ne (tgt := 160) hx hb dX15_matches_153 (by decide) (fun c_204 => ?_) (fun c_204 => ?_)
              ·
                refine lv_iload hx hb dX15_matches_160 (lv_at hl 0 rfl) ?_
                refine lv_bipush (v := 6) hx hb dX15_matches_162 (by decide) ?_
                refine lv_icmp_eq (tgt := 172) hx hb dX15_matches_164 (by decide) (fun c_205 => ?_) (fun c_205 => ?_)
                ·
                  refine lv_bipush (v := 6) hx hb dX15_matches_172 (by decide) ?_
                  refine lv_goto (tgt := 178) hx hb dX15_matches_174 (by decide) ?_
                  refine W.widen (k := 0) (n := 0) (by omega) (by omega) ?_
                  exact W.iret (v := 6) hx hb hr (fun t ht hWm => ⟨⟨6, cu_188, rfl, (fun _ => rfl), ⟨F_190, u15_191, u17_192, u18_193, u19_194, u20_195, u21_196, u22_197, QTm.mk ht hP hD hO hR, hq_198, by omega, by omega⟩⟩, hS.F ht⟩) hS.2.2 dX15_matches_178
                ·
                  refine lv_iload hx hb dX15_matches_167 (lv_at hl 0 rfl) ?_
                  refine lv_if_ne (tgt := 177) hx hb dX15_matches_169 (by decide) (fun c_206 => ?_) (fun c_206 => ?_)
                  ·
                    refine lv_iconst (v := 0) hx hb dX15_matches_177 (by decide) ?_
                    refine W.widen (k := 0) (n := 0) (by omega) (by omega) ?_
                    exact W.iret (v := 0) hx hb hr (fun t ht hWm => ⟨⟨0, cu_188, rfl, (fun h => absurd (hw_202 h) c_205), ⟨F_190, u15_191, u17_192, u18_193, u19_194, u20_195, u21_196, u22_197, QTm.mk ht hP hD hO hR, hq_198, by omega, by omega⟩⟩, hS.F ht⟩) hS.2.2 dX15_matches_178
                  ·
                    refine lv_bipush (v := 6) hx hb dX15_matches_172 (by decide) ?_
                    refine lv_goto (tgt := 178) hx hb dX15_matches_174 (by decide) ?_
                    refine W.widen (k := 0) (n := 0) (by omega) (by omega) ?_
                    exact W.iret (v := 6) hx hb hr (fun t ht hWm => ⟨⟨6, cu_188, rfl, (fun _ => rfl), ⟨F_190, u15_191, u17_192, u18_193, u19_194, u20_195, u21_196, u22_197, QTm.mk ht hP hD hO hR, hq_198, by omega, by omega⟩⟩, hS.F ht⟩) hS.2.2 dX15_matches_178
              ·
                refine lv_iconst (v := 5) hx hb dX15_matches_156 (by decide) ?_
                refine lv_goto (tgt := 178) hx hb dX15_matches_157 (by decide) ?_
                refine W.widen (k := 0) (n := 0) (by omega) (by omega) ?_
                exact W.iret (v := 5) hx hb hr (fun t ht hWm => ⟨⟨5, cu_188, rfl, (fun h => absurd ((hw_202 h).symm.trans c_204) (by decide)), ⟨F_190, u15_191, u17_192, u18_193, u19_194, u20_195, u21_196, u22_197, QTm.mk ht hP hD hO hR, hq_198, by omega, by omega⟩⟩, hS.F ht⟩) hS.2.2 dX15_matches_178
            ·
              refine lv_iconst (v := 1) hx hb dX15_matches_146 (by decide) ?_
              refine lv_goto (tgt := 178) hx hb dX15_matches_147 (by decide) ?_
              refine W.widen (k := 0) (n := 0) (by omega) (by omega) ?_
              exact W.iret (v := 1) hx hb hr (fun t ht hWm => ⟨⟨1, cu_188, rfl, (fun h => absurd ((hw_202 h).symm.trans c_203) (by decide)), ⟨F_190, u15_191, u17_192, u18_193, u19_194, u20_195, u21_196, u22_197, QTm.mk ht hP hD hO hR, hq_198, by omega, by omega⟩⟩, hS.F ht⟩) hS.2.2 dX15_matches_178
        ·
          refine lv_aload_n hx hb dX15_matches_80 rfl (lv_at hl 3 rfl) ?_
          refine pg_get (ci := 15) (v := .int v19) (C := RX15) (T := TX15) (N := 59) hx hb hts it_15 hown hK hP hL_h0 hF_111 rfl 19 (by decide) (hts _ kt_751) (fun _ h9 => h9) rfl dX15_matches_81 ?_
          refine lv_if_ge (tgt := 104) hx hb dX15_matches_84 (by decide) (fun c_207 => ?_) (fun c_207 => ?_)
          ·
            obtain ⟨b9, c9, e19, e20, hd1, hd2, hd3⟩ := hdok.resolve_left (fun h => absurd (h ▸ c_207) (by decide))
            refine lv_aload_n hx hb dX15_matches_104 rfl (lv_at hl 3 rfl) ?_
            refine lv_aload_n hx hb dX15_matches_105 rfl (lv_at hl 4 rfl) ?_
            obtain ⟨z_208, hF_209, hq_210⟩ := hO.txt hL_tv hT_tv
            refine pg_get (ci := 14) (v := .ref rv) (C := RX14) (T := TX14) (N := 2) hx hb hts it_14 hown hK hP hL_tv hF_209 rfl 0 (by decide) (hts _ kt_710) (fun _ h9 => h9) rfl dX15_matches_106 ?_
            refine lv_aload_n hx hb dX15_matches_109 rfl (lv_at hl 3 rfl) ?_
            refine pg_get (ci := 15) (v := .int v19) (C := RX15) (T := TX15) (N := 59) hx hb hts it_15 hown hK hP hL_h0 hF_111 rfl 19 (by decide) (hts _ kt_751) (fun _ h9 => h9) rfl dX15_matches_110 ?_
            refine lv_topi (fun x9 ex9 => ?_)
            obtain rfl : x9 = nI b9 := ex9.trans e19
            refine lv_aload_n hx hb dX15_matches_113 rfl (lv_at hl 3 rfl) ?_
            refine pg_get (ci := 15) (v := .int v20) (C := RX15) (T := TX15) (N := 59) hx hb hts it_15 hown hK hP hL_h0 hF_111 rfl 20 (by decide) (hts _ kt_752) (fun _ h9 => h9) rfl dX15_matches_114 ?_
            refine lv_topi (fun x9 ex9 => ?_)
            obtain rfl : x9 = nI c9 := ex9.trans e20
            refine lv_aload_n hx hb dX15_matches_117 rfl (lv_at hl 5 rfl) ?_
            refine lv_aload hx hb dX15_matches_118 (lv_at hl 0 rfl) ?_
            obtain ⟨hi_211, ht_212, hq_213⟩ := hW.txt hL_pe hT_pe
            obtain ⟨hi_214, ht_215, hq_216⟩ := hW.txt hi_121 ht_122
            obtain ⟨hq_217, hq_218⟩ := hW.octs hi_1 ht_2
            obtain ⟨hi_219, ht_220, hq_221⟩ := hW.txt hL_dd hT_dd
            have hFc := pg_free hD hS hA
            refine va_callv (va_runV (As := [.ref rv, .int (nI b9), .int (nI c9), .ref dd, .ref b_118]) (rest := []) ⟨hx, hb, hml, hown, hts⟩ (s_X15_expand l dC dI cs ty gm L H.size F_109 h0 ρ ta ou so ad na va lc dm tg pe ml bg co sp nb0 nb1 nb2 pl se ke wi hs mo po nu pr sq xa sa n64 m64 ex wh sd tk hd ak ho ot sx s0 s1 s2 nf bd mm zt rp b_118 r_119 rv fv dd τ rd nd b9 c9 hW hL_h0 hT_h0 hL_pe hT_pe hi_121 ht_122 hi_1 ht_2 hL_dd hT_dd hF_112 (by first | omega | assumption) (by first | omega | assumption) (by first | omega | assumption) (by first | omega | assumption)) ⟨callB_of 5 hts (gi kt_792) rfl rfl rfl (hts _ kt_669) (hts _ kt_793) (by decide +kernel) ⟨Nat.le_of_ble_eq_true rfl, Nat.le_of_ble_eq_true rfl⟩, (hts _ kt_794), (hts _ kt_795)⟩ ⟨fun a U g mk q => ⟨q.1, PTm.calling q.2⟩, pg_recv hK hP hL_h0 hF_111 (q := (RX15, TX15, 59)) rfl, fun U hU hWm => ⟨rfl, PTm.mk hU hWm hP hK hD hE hO⟩⟩ rfl rfl hl.1 rfl (lv_room (Nat.le_of_ble_eq_true rfl)) dX15_matches_120 ⟨by show _ + 0 ≤ 0; omega, by show _ + 0 ≤ 0; omega⟩) hS (fun q _ h => hFc q h) hFc (fun u t H1 locs ht hvm hw hB hz1 hk1 hS => ?_)
            obtain ⟨F_223, hB1⟩ := hB
            obtain ⟨hP, hD, hO, hR⟩ := QTm.back hB1 ht hFc hR (fun q h => by simp only [List.mem_cons, List.not_mem_nil, or_false] at h ⊢; omega)
            have hF_224 : F_223 h0 = .inr (15, [.ref ta, .int (nI zt), .int (nI zo), .int (nI ze), .ref ou, .ref so, .ref ad, .ref na, .ref va, .ref lc, .ref dm, .int v11, .int v12, .ref tg, .int (nI (c + 1)), .int v15, .ref pe, .int v17, .int v18, .int v19, .int v20, .int v21, .int v22, .ref ml, .ref bg, .ref co, .ref sp, .ref nb0, .ref nb1, .ref nb2, .int (nI nf), .int (nI bd), .int (nI mm), .int v33, .ref pl, .ref se, .ref ke, .ref wi, .ref hs, .ref mo, .ref po, .ref nu, .ref pr, .ref sq, .ref xa, .ref sa, .ref n64, .ref m64, .ref ex, .ref wh, .ref sd, .ref tk, .int v52, .int v53, .int v54, .ref hd, .ref ak, .ref ho, .ref ot]) := (hB1.2.2.2 h0 (by rw [hT_h0]; simp)).trans hF_111
            have hF_225 : F_223 rv = .inl (cs 17, 700, .inl fv) := (hB1.2.2.2 rv (by rw [ht_2]; simp)).trans hF_112
            have hF_226 : F_223 tv = .inr (14, [.ref rv, .int (nI z_208)]) := (hB1.2.2.2 tv (by rw [hT_tv]; simp)).trans hF_209
            generalize H1 = H at hP hS ⊢
            refine W.widen (k := 0) (n := 0) (by omega) (by omega) ?_
            exact jn_123 () F_223 (hF_224) hO hR _ _ hP hD hS ls (lv_sub hl [0, 1, 2, 3, 4, 5, 6] rfl)
          ·
            refine lv_aload hx hb dX15_matches_87 (lv_at hl 0 rfl) ?_
            refine lv_aload_n hx hb dX15_matches_89 rfl (lv_at hl 5 rfl) ?_
            obtain ⟨hi_227, ht_228, hq_229⟩ := hW.txt hL_dd hT_dd
            obtain ⟨z_230, hF_231, hq_232⟩ := hO.txt hL_dd hT_dd
            refine pg_get (ci := 14) (v := .ref rd) (C := RX14) (T := TX14) (N := 2) hx hb hts it_14 hown hK hP hL_dd hF_231 rfl 0 (by decide) (hts _ kt_710) (fun _ h9 => h9) rfl dX15_matches_90 ?_
            refine lv_iconst (v := 0) hx hb dX15_matches_93 (by decide) ?_
            refine lv_aload_n hx hb dX15_matches_94 rfl (lv_at hl 5 rfl) ?_
            refine pg_get (ci := 14) (v := .int (nI z_230)) (C := RX14) (T := TX14) (N := 2) hx hb hts it_14 hown hK hP hL_dd hF_231 rfl 1 (by decide) (hts _ kt_709) (fun _ h9 => h9) rfl dX15_matches_95 ?_
            refine W.eq (g2 := F0 m 98 ls [.int (nI z_230), .int (nI 0), .ref rd, .ref b_118]) rfl ?_
            obtain ⟨hi_233, ht_234, hq_235⟩ := hW.txt hi_121 ht_122
            obtain ⟨hq_236, hq_237⟩ := hW.octs hi_227 ht_228
            have hFc := pg_free hD hS hA
            obtain ⟨z_238, hF_239, hq_240⟩ := hO.txt hi_121 ht_122
            refine va_callv (va_runV (As := [.ref rd, .int (nI 0), .int (nI z_230)]) (rest := []) ⟨hx, hb, hml, hown, hts⟩ (s_X14_set l dC dI cs ty gm L H.size F_109 b_118 (ρ + 6) r_119 61 rd τ nd 0 z_230 hW hi_121 ht_122 hi_227 ht_228 (by first | omega | assumption) (by first | omega | assumption) (by first | omega | assumption)) ⟨callB_of 3 hts (gi kt_796) rfl rfl rfl (hts _ kt_676) (hts _ kt_797) (by decide +kernel) ⟨Nat.le_of_ble_eq_true rfl, Nat.le_of_ble_eq_true rfl⟩, (hts _ kt_798), (hts _ kt_799)⟩ ⟨fun a U g mk q => ⟨q.1, PTm.calling q.2⟩, pg_recv hK hP hi_121 hF_239 (q := (RX14, TX14, 2)) rfl, fun U hU hWm => ⟨rfl, PTm.mk hU hWm hP hK hD hE hO⟩⟩ rfl rfl hl.1 rfl (lv_room (Nat.le_of_ble_eq_true rfl)) dX15_matches_98 ⟨by show _ + 0 ≤ 0; omega, by show _ + 0 ≤ 0; omega⟩) hS (fun q _ h => hFc q h) hFc (fun u t H1 locs ht hvm hw hB hz1 hk1 hS => ?_)
            obtain ⟨F_242, hB1, hq_243⟩ := hB
            obtain ⟨hP, hD, hO, hR⟩ := QTm.back hB1 ht hFc hR (fun q h => by simp only [List.mem_cons, List.not_mem_nil, or_false] at h ⊢; omega)
            have hF_244 : F_242 h0 = .inr (15, [.ref ta, .int (nI zt), .int (nI zo), .int (nI ze), .ref ou, .ref so, .ref ad, .ref na, .ref va, .ref lc, .ref dm, .int v11, .int v12, .ref tg, .int (nI (c + 1)), .int v15, .ref pe, .int v17, .int v18, .int v19, .int v20, .int v21, .int v22, .ref ml, .ref bg, .ref co, .ref sp, .ref nb0, .ref nb1, .ref nb2, .int (nI nf), .int (nI bd), .int (nI mm), .int v33, .ref pl, .ref se, .ref ke, .ref wi, .ref hs, .ref mo, .ref po, .ref nu, .ref pr, .ref sq, .ref xa, .ref sa, .ref n64, .ref m64, .ref ex, .ref wh, .ref sd, .ref tk, .int v52, .int v53, .int v54, .ref hd, .ref ak, .ref ho, .ref ot]) := (hB1.2.2.2 h0 (by rw [hT_h0]; simp)).trans hF_111
            have hF_245 : F_242 rv = .inl (cs 17, 700, .inl fv) := (hB1.2.2.2 rv (by rw [ht_2]; simp)).trans hF_112
            generalize H1 = H at hP hS ⊢
            refine lv_goto (tgt := 123) hx hb dX15_matches_101 (by decide) ?_
            refine W.widen (k := 0) (n := 0) (by omega) (by omega) ?_
            exact jn_123 () F_242 (hF_244) hO hR _ _ hP hD hS ls (lv_sub hl [0, 1, 2, 3, 4, 5, 6] rfl)
      ·
        have hi_246 : 10 < (c + 1) := Nat.not_le.mp (fun q => c_113 ((nI_leI (a := (c + 1)) (b := 10) (by omega) (by omega)).mpr q))
        refine lv_bipush (v := 6) hx hb dX15_matches_69 (by decide) ?_
        refine W.widen (k := 0) (n := 0) (by omega) (by omega) ?_
        exact W.iret (v := 6) hx hb hr (fun t ht hWm => ⟨⟨6, (c + 1), rfl, (fun _ => rfl), ⟨F_109, v15, v17, v18, v19, v20, v21, v22, QTm.mk ht hP hD hO hR, hF_111, by omega, by omega⟩⟩, hS.F ht⟩) hS.2.2 dX15_matches_71
    ·
      refine lv_aload_n hx hb dX15_matches_17 rfl (lv_at hl 0 rfl) ?_
      refine lv_aload_n hx hb dX15_matches_18 rfl (lv_at hl 0 rfl) ?_
      refine pg_get (ci := 15) (v := .int v22) (C := RX15) (T := TX15) (N := 59) hx hb hts it_15 hown hK hP hL_h0 hF0 rfl 22 (by decide) (hts _ kt_745) (fun _ h9 => h9) rfl dX15_matches_19 ?_
      refine lv_aload_n hx hb dX15_matches_22 rfl (lv_at hl 0 rfl) ?_
      refine pg_get (ci := 15) (v := .int v21) (C := RX15) (T := TX15) (N := 59) hx hb hts it_15 hown hK hP hL_h0 hF0 rfl 21 (by decide) (hts _ kt_749) (fun _ h9 => h9) rfl dX15_matches_23 ?_
      have hFc := pg_free hD hS hA
      refine va_calli (va_runV (As := [.int v22, .int v21]) (rest := []) ⟨hx, hb, hml, hown, hts⟩ (s_X15_isSender l dC dI cs ty gm L s.heap.size F h0 ρ ta ou so ad na va lc dm tg pe ml bg co sp nb0 nb1 nb2 pl se ke wi hs mo po nu pr sq xa sa n64 m64 ex wh sd tk hd ak ho ot sx s0 s1 s2 nf bd mm zt v22 v21 hW hL_h0 hT_h0) ⟨callB_of 2 hts (gi kt_741) rfl rfl rfl (hts _ kt_669) (hts _ kt_742) (by decide +kernel) ⟨Nat.le_of_ble_eq_true rfl, Nat.le_of_ble_eq_true rfl⟩, (hts _ kt_743), (hts _ kt_744)⟩ ⟨fun a U g mk q => ⟨q.1, PTm.calling q.2⟩, pg_recv hK hP hL_h0 hF0 (q := (RX15, TX15, 59)) rfl, fun U hU hWm => ⟨rfl, PTm.mk hU hWm hP hK hD hE hO⟩⟩ rfl rfl hl.1 rfl (lv_room (Nat.le_of_ble_eq_true rfl)) dX15_matches_26 ⟨by show _ + 0 ≤ 0; omega, by show _ + 0 ≤ 0; omega⟩) hS (fun q _ h => hFc q h) hFc (fun r_247 u t H1 locs ht hvm hw hB hz1 hk1 hS => ?_)
      obtain ⟨F_248, hB1⟩ := hB
      obtain rfl : F = F_248 := (funext (fun a => hB1.2.2.2 a List.not_mem_nil)).symm
      obtain ⟨hP, hD, hO, hR⟩ := QTm.back hB1 ht hFc hR (fun q h => absurd h List.not_mem_nil)
      generalize H1 = H at hP hS ⊢
      have hw : (r_247 = 0 ∨ r_247 = 1) := hw
      have hw_249 := hw
      refine lv_if_eq (tgt := 36) hx hb dX15_matches_29 (by decide) (fun c_250 => ?_) (fun c_250 => ?_)
      ·
        refine lv_iconst (v := 0) hx hb dX15_matches_36 (by decide) ?_
        refine W.widen (k := 0) (n := 0) (by omega) (by omega) ?_
        exact W.iret (v := 0) hx hb hr (fun t ht hWm => ⟨⟨0, c, rfl, (fun h => by omega), ⟨F, v15, v17, v18, v19, v20, v21, v22, QTm.mk ht hP hD hO hR, hF0, by omega, by omega⟩⟩, hS.F ht⟩) hS.2.2 dX15_matches_37
      ·
        refine lv_iconst (v := 1) hx hb dX15_matches_32 (by decide) ?_
        refine lv_goto (tgt := 37) hx hb dX15_matches_33 (by decide) ?_
        refine W.widen (k := 0) (n := 0) (by omega) (by omega) ?_
        exact W.iret (v := 1) hx hb hr (fun t ht hWm => ⟨⟨1, c, rfl, (fun h => by omega), ⟨F, v15, v17, v18, v19, v20, v21, v22, QTm.mk ht hP hD hO hR, hF0, by omega, by omega⟩⟩, hS.F ht⟩) hS.2.2 dX15_matches_37
  ·
    refine lv_iconst (v := 1) hx hb dX15_matches_7 (by decide) ?_
    refine W.widen (k := 0) (n := 0) (by omega) (by omega) ?_
    exact W.iret (v := 1) hx hb hr (fun t ht hWm => ⟨⟨1, c, rfl, (fun h => by omega), ⟨F, v15, v17, v18, v19, v20, v21, v22, QTm.mk ht hP hD hO hR, hF0, by omega, by omega⟩⟩, hS.F ht⟩) hS.2.2 dX15_matches_8
set_option maxHeartbeats 4000000 in
set_option maxRecDepth 100000 in
theorem s_X15_check (l : Launch) (dC : Nat → ClassId) (dI : Nat → Nat → Nat) (cs : Nat → ClassId) (ty : TyM) (gm : Nat → Nat → Nat) (L : List Nat) (sz : Nat) (F : Nat → va_E) (h0 : Nat) (ρ : Nat) (ta : Nat) (ou : Nat) (so : Nat) (ad : Nat) (na : Nat) (va : Nat) (lc : Nat) (dm : Nat) (tg : Nat) (pe : Nat) (ml : Nat) (bg : Nat) (co : Nat) (sp : Nat) (nb0 : Nat) (nb1 : Nat) (nb2 : Nat) (pl : Nat) (se : Nat) (ke : Nat) (wi : Nat) (hs : Nat) (mo : Nat) (po : Nat) (nu : Nat) (pr : Nat) (sq : Nat) (xa : Nat) (sa : Nat) (n64 : Nat) (m64 : Nat) (ex : Nat) (wh : Nat) (sd : Nat) (tk : Nat) (hd : Nat) (ak : Nat) (ho : Nat) (ot : Nat) (sx : Nat) (s0 : Nat) (s1 : Nat) (s2 : Nat) (nf : Nat) (bd : Nat) (mm : Nat) (zt : Nat) (rp : Nat) (zo : Nat) (ze : Nat) (v11 : Int32) (v12 : Int32) (v15 : Int32) (v17 : Int32) (v18 : Int32) (v19 : Int32) (v20 : Int32) (v21 : Int32) (v22 : Int32) (v33 : Int32) (v52 : Int32) (v53 : Int32) (v54 : Int32) (dd : Nat) (τ : Nat) (rd : Nat) (nd : Nat) (lv : Nat) (c : Nat) (fr : Nat) (lo : Nat) (hW : WTm ty gm L) (hL_h0 : h0 ∈ L) (hT_h0 : ty h0 = (15, ρ, [ta, ou, so, ad, na, va, lc, dm, tg, pe, ml, bg, co, sp, nb0, nb1, nb2, pl, se, ke, wi, hs, mo, po, nu, pr, sq, xa, sa, n64, m64, ex, wh, sd, tk, hd, ak, ho, ot, sx, s0, s1, s2, nf, bd, mm, zt])) (hL_pe : pe ∈ L) (hT_pe : ty pe = (14, ρ + 7, [rp, 100])) (hL_dd : dd ∈ L) (hT_dd : ty dd = (14, τ, [rd, nd])) (hF0 : F h0 = .inr (15, [.ref ta, .int (nI zt), .int (nI zo), .int (nI ze), .ref ou, .ref so, .ref ad, .ref na, .ref va, .ref lc, .ref dm, .int v11, .int v12, .ref tg, .int (nI c), .int v15, .ref pe, .int v17, .int v18, .int v19, .int v20, .int v21, .int v22, .ref ml, .ref bg, .ref co, .ref sp, .ref nb0, .ref nb1, .ref nb2, .int (nI nf), .int (nI bd), .int (nI mm), .int v33, .ref pl, .ref se, .ref ke, .ref wi, .ref hs, .ref mo, .ref po, .ref nu, .ref pr, .ref sq, .ref xa, .ref sa, .ref n64, .ref m64, .ref ex, .ref wh, .ref sd, .ref tk, .int v52, .int v53, .int v54, .ref hd, .ref ak, .ref ho, .ref ot])) (hzo : zo ≤ 6000) (hze : ze ≤ 40) (h33 : (v33 = 0 ∨ 1 ≤ nf)) (h54 : (v54 = 0 ∨ v54 = 1)) (hlc : lv ≤ c) (hc10 : c ≤ 10) (hnd : nd ≤ 61) (hC : ∀ (c1 : Nat), c < c1 → ∀ (sz : Nat) (F : Nat → va_E) (zo : Nat) (ze : Nat) (v11 : Int32) (v12 : Int32) (v15 : Int32) (v17 : Int32) (v18 : Int32) (v19 : Int32) (v20 : Int32) (v21 : Int32) (v22 : Int32) (v33 : Int32) (v52 : Int32) (v53 : Int32) (v54 : Int32) (dd : Nat) (τ : Nat) (rd : Nat) (nd : Nat) (lv : Nat), dd ∈ L → ty dd = (14, τ, [rd, nd]) → (F h0 = .inr (15, [.ref ta, .int (nI zt), .int (nI zo), .int (nI ze), .ref ou, .ref so, .ref ad, .ref na, .ref va, .ref lc, .ref dm, .int v11, .int v12, .ref tg, .int (nI c1), .int v15, .ref pe, .int v17, .int v18, .int v19, .int v20, .int v21, .int v22, .ref ml, .ref bg, .ref co, .ref sp, .ref nb0, .ref nb1, .ref nb2, .int (nI nf), .int (nI bd), .int (nI mm), .int v33, .ref pl, .ref se, .ref ke, .ref wi, .ref hs, .ref mo, .ref po, .ref nu, .ref pr, .ref sq, .ref xa, .ref sa, .ref n64, .ref m64, .ref ex, .ref wh, .ref sd, .ref tk, .int v52, .int v53, .int v54, .ref hd, .ref ak, .ref ho, .ref ot])) → (zo ≤ 6000) → (ze ≤ 40) → ((v33 = 0 ∨ 1 ≤ nf)) → ((v54 = 0 ∨ v54 = 1)) → (lv ≤ c1) → (c1 ≤ 10) → (nd ≤ 61) → Met l yX15_check (.code yX15_check cX15_check 10 (some .int) :: tb) ({ frames := fr + 0, cells := 0, slots := 0, locals := lo + 0 }) (va_Pc [.ref h0, .ref dd, .int (nI lv)] (PTEm (dC, dI) cs ty gm L F sz [])) (va_Qi (fun (r : Int32) (cu : Nat) => (cu = 11 → r = 6)) (fun (cu : Nat) T9 => ∃ F2 : Nat → va_E, ∃ u15 : Int32, ∃ u17 : Int32, ∃ u18 : Int32, ∃ u19 : Int32, ∃ u20 : Int32, ∃ u21 : Int32, ∃ u22 : Int32, QTm (dC, dI) cs ty gm L [ρ, ρ + 6, ρ + 7] F F2 (va_A (va_pl L F) sz) T9 ∧ F2 h0 = .inr (15, [.ref ta, .int (nI zt), .int (nI zo), .int (nI ze), .ref ou, .ref so, .ref ad, .ref na, .ref va, .ref lc, .ref dm, .int v11, .int v12, .ref tg, .int (nI cu), .int u15, .ref pe, .int u17, .int u18, .int u19, .int u20, .int u21, .int u22, .ref ml, .ref bg, .ref co, .ref sp, .ref nb0, .ref nb1, .ref nb2, .int (nI nf), .int (nI bd), .int (nI mm), .int v33, .ref pl, .ref se, .ref ke, .ref wi, .ref hs, .ref mo, .ref po, .ref nu, .ref pr, .ref sq, .ref xa, .ref sa, .ref n64, .ref m64, .ref ex, .ref wh, .ref sd, .ref tk, .int v52, .int v53, .int v54, .ref hd, .ref ak, .ref ho, .ref ot]) ∧ c1 ≤ cu ∧ cu ≤ 11) (va_A (va_pl L F) sz)) 0 0 (va_A (va_pl L F) sz)) : Met l yX15_check (.code yX15_check cX15_check 10 (some .int) :: tb) ({ frames := fr + 7, cells := 0, slots := 0, locals := lo + 158 }) (va_Pc [.ref h0, .ref dd, .int (nI lv)] (PTEm (dC, dI) cs ty gm L F sz [])) (va_Qi (fun (r : Int32) (cu : Nat) => (cu = 11 → r = 6)) (fun (cu : Nat) T9 => ∃ F2 : Nat → va_E, ∃ u15 : Int32, ∃ u17 : Int32, ∃ u18 : Int32, ∃ u19 : Int32, ∃ u20 : Int32, ∃ u21 : Int32, ∃ u22 : Int32, QTm (dC, dI) cs ty gm L [ρ, ρ + 6, ρ + 7] F F2 (va_A (va_pl L F) sz) T9 ∧ F2 h0 = .inr (15, [.ref ta, .int (nI zt), .int (nI zo), .int (nI ze), .ref ou, .ref so, .ref ad, .ref na, .ref va, .ref lc, .ref dm, .int v11, .int v12, .ref tg, .int (nI cu), .int u15, .ref pe, .int u17, .int u18, .int u19, .int u20, .int u21, .int u22, .ref ml, .ref bg, .ref co, .ref sp, .ref nb0, .ref nb1, .ref nb2, .int (nI nf), .int (nI bd), .int (nI mm), .int v33, .ref pl, .ref se, .ref ke, .ref wi, .ref hs, .ref mo, .ref po, .ref nu, .ref pr, .ref sq, .ref xa, .ref sa, .ref n64, .ref m64, .ref ex, .ref wh, .ref sd, .ref tk, .int v52, .int v53, .int v54, .ref hd, .ref ak, .ref ho, .ref ot]) ∧ c ≤ cu ∧ cu ≤ 11) (va_A (va_pl L F) sz)) 0 0 (va_A (va_pl L F) sz) := by
  refine Met.ofW (cc := cX15_check) (maxL := 10) (ret := (some .int)) (by decide) rfl ?_
  intro p e s m args below meth c s₁ B hml hv
  obtain ⟨rfl, ⟨hsz, hP, hK, hD0, hE, hO⟩, hG, hX⟩ := hv
  have hx := B.exec
  have hb := B.bytes
  have hr := B.returns
  have hts : ∀ w ∈ tb, w.before _ s = true := fun w h => atoms_spec (ws := .code yX15_check cX15_check 10 (some .int) :: tb) B.pre w (List.mem_cons_of_mem _ h)
  have hown : s.vm.findClass RX15 = some m.cls := findClass_of_methodNamed B.named
  have hlocks := B.notSynchronized
  subst hsz
  have hD := hD0.self (sz := s.heap.size)
  generalize hAe : va_A (va_pl L F) s.heap.size = A at hD hG hX ⊢
  have hA : ∀ q : Nat, s.heap.size ≤ q → A q := fun q h => by rw [← hAe]; exact Or.inr h
  have hS : va_S A s.heap s.heap [] := va_S.rf
  have hR : FR ty [ρ, ρ + 6, ρ + 7] F F := FR.refl
  have hl := lv_entry ([.ref h0, .ref dd, .int (nI lv)]) (n := 10) (Nat.le_of_ble_eq_true rfl)
  rw [lg_entry_eq]
  generalize (lg_sl ([.ref h0, .ref dd, .int (nI lv)]) ++ List.replicate (10 - (lg_sl ([.ref h0, .ref dd, .int (nI lv)])).length) Slot.unset).toArray = ls at hl ⊢
  have hl : lv_has ls 10 [(0, .ref h0), (1, .ref dd), (2, .int (nI lv))] := hl
  refine lv_aload_n hx hb dX15_check_0 rfl (lv_at hl 0 rfl) ?_
  refine lv_aload_n hx hb dX15_check_1 rfl (lv_at hl 1 rfl) ?_
  obtain ⟨hi_1, ht_2, hi_3, ht_4, hi_5, ht_6, hi_7, ht_8, hi_9, ht_10, hi_11, ht_12, hi_13, ⟨r_14, ht_15⟩, hi_16, ⟨r_17, ht_18⟩, hi_19, ht_20, _, _, hi_21, ht_22, hi_23, ht_24, hi_25, ht_26, hi_27, ht_28, hi_29, ht_30, hi_31, ht_32, hi_33, ht_34, hi_35, ⟨r_36, ht_37⟩, hi_38, ht_39, hi_40, ⟨x_41, y0_42, y1_43, y2_44, ht_45⟩, hi_46, ⟨x_47, y0_48, y1_49, y2_50, ht_51⟩, hi_52, ⟨x_53, y_54, w_55, u_56, bl_57, ht_58⟩, hi_59, ht_60, hi_61, ht_62, hi_63, ht_64, hi_65, ht_66, hi_67, ht_68, hi_69, ht_70, hi_71, ht_72, hi_73, ht_74, hi_75, ht_76, hi_77, ht_78, hi_79, ⟨r_80, ht_81⟩, hi_82, ⟨r_83, ht_84⟩, hi_85, ht_86, hi_87, ht_88, hi_89, ⟨r_90, ht_91⟩, hi_92, ⟨r_93, ht_94⟩, hi_95, ⟨r_96, ht_97⟩, hq_98, hq_99, hq_100, hq_101, hq_102, hgO, hgA, hgB⟩ := hW.mod hL_h0 hT_h0
  obtain ⟨hi_103, ht_104, hq_105⟩ := hW.txt hL_dd hT_dd
  have hFc := pg_free hD hS hA
  refine va_calli (va_runV (As := [.ref dd]) (rest := []) ⟨hx, hb, hml, hown, hts⟩ (s_X15_isTrouble l dC dI cs ty gm L s.heap.size F h0 ρ ta ou so ad na va lc dm tg pe ml bg co sp nb0 nb1 nb2 pl se ke wi hs mo po nu pr sq xa sa n64 m64 ex wh sd tk hd ak ho ot sx s0 s1 s2 nf bd mm zt dd τ rd nd hW hL_h0 hT_h0 hL_dd hT_dd) ⟨callB_of 1 hts (gi kt_736) rfl rfl rfl (hts _ kt_669) (hts _ kt_737) (by decide +kernel) ⟨Nat.le_of_ble_eq_true rfl, Nat.le_of_ble_eq_true rfl⟩, (hts _ kt_738), (hts _ kt_739)⟩ ⟨fun a U g mk q => ⟨q.1, PTm.calling q.2⟩, pg_recv hK hP hL_h0 hF0 (q := (RX15, TX15, 59)) rfl, fun U hU hWm => ⟨rfl, PTm.mk hU hWm hP hK hD hE hO⟩⟩ rfl rfl hl.1 rfl (lv_room (Nat.le_of_ble_eq_true rfl)) dX15_check_2 ⟨by show _ + 0 ≤ 0; omega, by show _ + 0 ≤ 0; omega⟩) hS (fun q _ h => hFc q h) hFc (fun r_106 u t H1 locs ht hvm hw hB hz1 hk1 hS => ?_)
  obtain ⟨F_107, hB1⟩ := hB
  obtain rfl : F = F_107 := (funext (fun a => hB1.2.2.2 a List.not_mem_nil)).symm
  obtain ⟨hP, hD, hO, hR⟩ := QTm.back hB1 ht hFc hR (fun q h => absurd h List.not_mem_nil)
  generalize H1 = H at hP hS ⊢
  have hw : (r_106 = 0 ∨ r_106 = 1) := hw
  have hw_108 := hw
  refine lv_if_eq (tgt := 10) hx hb dX15_check_5 (by decide) (fun c_109 => ?_) (fun c_109 => ?_)
  ·
    refine lv_aload_n hx hb dX15_check_10 rfl (lv_at hl 0 rfl) ?_
    refine lv_aload_n hx hb dX15_check_11 rfl (lv_at hl 1 rfl) ?_
    have hFc := pg_free hD hS hA
    refine va_calli (va_runV (As := [.ref dd]) (rest := []) ⟨hx, hb, hml, hown, hts⟩ (s_X15_recordOf l dC dI cs ty gm L H.size F h0 ρ ta ou so ad na va lc dm tg pe ml bg co sp nb0 nb1 nb2 pl se ke wi hs mo po nu pr sq xa sa n64 m64 ex wh sd tk hd ak ho ot sx s0 s1 s2 nf bd mm zt dd τ rd nd hW hL_h0 hT_h0 hL_dd hT_dd) ⟨callB_of 1 hts (gi kt_800) rfl rfl rfl (hts _ kt_669) (hts _ kt_801) (by decide +kernel) ⟨Nat.le_of_ble_eq_true rfl, Nat.le_of_ble_eq_true rfl⟩, (hts _ kt_802), (hts _ kt_803)⟩ ⟨fun a U g mk q => ⟨q.1, PTEm.calling q.2⟩, pg_recv hK hP hL_h0 hF0 (q := (RX15, TX15, 59)) rfl, fun U hU hWm => ⟨rfl, PTEm.mk hU hWm hP hK hD hE hO hG (fun x hx => absurd hx List.not_mem_nil) hS hFc⟩⟩ rfl rfl hl.1 rfl (lv_room (Nat.le_of_ble_eq_true rfl)) dX15_check_12 ⟨by show _ + 0 ≤ 0; omega, by show _ + 0 ≤ 0; omega⟩) hS (fun q _ h => hFc q h) hFc (fun r_110 u t H1 locs ht hvm hw hB hz1 hk1 hS => ?_)
    obtain ⟨F_111, hB1⟩ := hB
    obtain rfl : F = F_111 := (funext (fun a => hB1.2.2.2 a List.not_mem_nil)).symm
    obtain ⟨hP, hD, hO, hR⟩ := QTm.back hB1 ht hFc hR (fun q h => absurd h List.not_mem_nil)
    generalize H1 = H at hP hS ⊢
    have hw : (r_110 = (-1) ∨ r_110 = (-2) ∨ ∃ j : Nat, j < 40 ∧ r_110 = nI j) := hw
    have hw_112 := hw
    refine lv_istore_n (lv' := [(3, .int r_110), (0, .ref h0), (1, .ref dd), (2, .int (nI lv))]) hx hb dX15_check_15 rfl hl (by decide) rfl (fun ls hl => ?_)
    refine lv_iload_n hx hb dX15_check_16 rfl (lv_at hl 0 rfl) ?_
    refine lv_if_ge (tgt := 32) hx hb dX15_check_17 (by decide) (fun c_113 => ?_) (fun c_113 => ?_)
    ·
      obtain ⟨jr, hjr, ejr⟩ := rec0 hw_112 c_113
      subst ejr
      refine lv_aload_n hx hb dX15_check_32 rfl (lv_at hl 1 rfl) ?_
      refine pg_get (ci := 15) (v := .ref va) (C := RX15) (T := TX15) (N := 59) hx hb hts it_15 hown hK hP hL_h0 hF0 rfl 8 (by decide) (hts _ kt_732) (fun _ h9 => h9) rfl dX15_check_33 ?_
      refine lv_iload_n hx hb dX15_check_36 rfl (lv_at hl 0 rfl) ?_
      obtain ⟨f_114, hF_115, hq_116⟩ := hO.rtxt hi_11 ht_12
      obtain ⟨b_117, r_118, hbf_119, hi_120, ht_121⟩ := hq_116 jr (by omega)
      refine pg_aald (r := b_117) hx hb hK hP hi_11 7 hF_115 rfl (vp_in_nI (by omega) (by omega)) (show f_114 ((nI jr) : Int32).toNatClampNeg = _ from by rw [show ((nI jr) : Int32) = nI jr from rfl, nI_clamp (by omega)]; exact hbf_119) dX15_check_37 ?_
      refine lv_astore (lv' := [(4, .ref b_117), (3, .int (nI jr)), (0, .ref h0), (1, .ref dd), (2, .int (nI lv))]) hx hb dX15_check_38 hl (by decide) rfl (fun ls hl => ?_)
      obtain ⟨hi_122, ht_123, hq_124⟩ := hW.txt hi_120 ht_121
      obtain ⟨z_125, hF_126, hq_127⟩ := hO.txt hi_120 ht_121
      obtain ⟨hq_128, hq_129⟩ := hW.octs hi_122 ht_123
      obtain ⟨f_130, hF_131, hq_132⟩ := hO.octs hi_122 ht_123
      refine lv_iconst (v := 0) hx hb dX15_check_40 (by decide) ?_
      refine lv_istore (lv' := [(5, .int 0), (4, .ref b_117), (3, .int (nI jr)), (0, .ref h0), (1, .ref dd), (2, .int (nI lv))]) hx hb dX15_check_41 hl (by decide) rfl (fun ls hl => ?_)
      refine lv_iconst (v := (-1)) hx hb dX15_check_43 (by decide) ?_
      refine lv_istore (lv' := [(6, .int (-1)), (5, .int 0), (4, .ref b_117), (3, .int (nI jr)), (0, .ref h0), (1, .ref dd), (2, .int (nI lv))]) hx hb dX15_check_44 hl (by decide) rfl (fun ls hl => ?_)
      refine lv_aload hx hb dX15_check_46 (lv_at hl 2 rfl) ?_
      refine lv_bipush (v := 6) hx hb dX15_check_48 (by decide) ?_
      refine W.eq (g2 := F0 m 50 ls [.int (nI 6), .ref b_117]) rfl ?_
      have hFc := pg_free hD hS hA
      refine va_calli (va_runS (As := [.ref b_117, .int (nI 6)]) (rest := []) ⟨hx, hb, hml, hown, hts⟩ (s_X15_blankFrom l dC dI cs ty gm L H.size F b_117 (ρ + 31) r_118 700 z_125 6 hW hi_120 ht_121 hF_126 (by first | omega | assumption) (by first | omega | assumption)) ⟨callB_of 2 hts (gi kt_804) rfl rfl rfl (hts _ kt_669) (hts _ kt_805) (by decide +kernel) ⟨Nat.le_of_ble_eq_true rfl, Nat.le_of_ble_eq_true rfl⟩, (hts _ kt_806)⟩ ⟨fun a U g mk q => ⟨q.1, PTm.calling q.2⟩, fun U hU hWm => ⟨rfl, PTm.mk hU hWm hP hK hD hE hO⟩⟩ rfl rfl hl.1 rfl (lv_room (Nat.le_of_ble_eq_true rfl)) dX15_check_50 ⟨by show _ + 0 ≤ 0; omega, by show _ + 0 ≤ 0; omega⟩) hS (fun q _ h => hFc q h) hFc (fun r_133 u t H1 locs ht hvm hw hB hz1 hk1 hS => ?_)
      obtain ⟨F_134, hB1⟩ := hB
      obtain rfl : F = F_134 := (funext (fun a => hB1.2.2.2 a List.not_mem_nil)).symm
      obtain ⟨hP, hD, hO, hR⟩ := QTm.back hB1 ht hFc hR (fun q h => absurd h List.not_mem_nil)
      generalize H1 = H at hP hS ⊢
      have hw : (∃ k : Nat, 6 ≤ k ∧ k ≤ max 6 z_125 ∧ r_133 = nI k ∧ (k < z_125 → gA (F r_118) k ≠ 32)) := hw
      have hw_135 := hw
      obtain ⟨k_136, hk_136a, hk_136b, ek_136, hk_136c⟩ := hw_135
      subst ek_136
      rw [gA_fun hF_131] at hk_136c
      refine lv_istore (lv' := [(7, .int (nI k_136)), (6, .int (-1)), (5, .int 0), (4, .ref b_117), (3, .int (nI jr)), (0, .ref h0), (1, .ref dd), (2, .int (nI lv))]) hx hb dX15_check_53 hl (by decide) rfl (fun ls hl => ?_)
      refine W.widen (k := 0) (n := 0) (by omega) (by omega) ?_
      have hF_138 : F va = .inl (cs 23, 40, .inr (.inr (.inr (.inr f_114)))) := (hR va (by rw [ht_12]; simp)).symm.trans hF_115
      have hF_139 : F b_117 = .inr (14, [.ref r_118, .int (nI z_125)]) := (hR b_117 (by rw [ht_121]; simp)).symm.trans hF_126
      have hF_140 : F r_118 = .inl (cs 17, 700, .inl f_130) := (hR r_118 (by rw [ht_123]; simp)).symm.trans hF_131
      refine pl_loopm (σ := Nat × Int32 × Int32 × Int32 × Int32 × Int32 × Int32 × Int32 × Int32) A (dC, dI) cs ty gm L [ρ, ρ + 6, ρ + 7] F 55 10 (fun (j, w5, w6, q17, q18, q19, q20, q21, q22) => [(7, .int (nI j)), (6, .int w6), (5, .int w5), (4, .ref b_117), (3, .int (nI jr)), (0, .ref h0), (1, .ref dd), (2, .int (nI lv))]) (fun (j, w5, w6, q17, q18, q19, q20, q21, q22) => []) (fun (j, w5, w6, q17, q18, q19, q20, q21, q22) FF => j ≤ 700 ∧ (j < z_125 → f_130 j ≠ 32) ∧ TRN f_130 z_125 w6 ∧ FF h0 = .inr (15, [.ref ta, .int (nI zt), .int (nI zo), .int (nI ze), .ref ou, .ref so, .ref ad, .ref na, .ref va, .ref lc, .ref dm, .int v11, .int v12, .ref tg, .int (nI c), .int v15, .ref pe, .int q17, .int q18, .int q19, .int q20, .int q21, .int q22, .ref ml, .ref bg, .ref co, .ref sp, .ref nb0, .ref nb1, .ref nb2, .int (nI nf), .int (nI bd), .int (nI mm), .int v33, .ref pl, .ref se, .ref ke, .ref wi, .ref hs, .ref mo, .ref po, .ref nu, .ref pr, .ref sq, .ref xa, .ref sa, .ref n64, .ref m64, .ref ex, .ref wh, .ref sd, .ref tk, .int v52, .int v53, .int v54, .ref hd, .ref ak, .ref ho, .ref ot])) (fun (j, w5, w6, q17, q18, q19, q20, q21, q22) => 701 - j) ?_ (k_136, 0, (-1), v17, v18, v19, v20, v21, v22) F (⟨by omega, hk_136c, Or.inl rfl, hF0⟩) hO hR _ _ hP hD hS ls (lv_sub hl [0, 1, 2, 3, 4, 5, 6, 7] rfl)
      rintro ⟨j, w5, w6, q17, q18, q19, q20, q21, q22⟩ F_137 hv_141 hO hR ih_142 H locs hP hD hS ls hl
      have hl : lv_has ls 10 [(7, .int (nI j)), (6, .int w6), (5, .int w5), (4, .ref b_117), (3, .int (nI jr)), (0, .ref h0), (1, .ref dd), (2, .int (nI lv))] := hl
      have hv_141 : j ≤ 700 ∧ (j < z_125 → f_130 j ≠ 32) ∧ TRN f_130 z_125 w6 ∧ F_137 h0 = .inr (15, [.ref ta, .int (nI zt), .int (nI zo), .int (nI ze), .ref ou, .ref so, .ref ad, .ref na, .ref va, .ref lc, .ref dm, .int v11, .int v12, .ref tg, .int (nI c), .int v15, .ref pe, .int q17, .int q18, .int q19, .int q20, .int q21, .int q22, .ref ml, .ref bg, .ref co, .ref sp, .ref nb0, .ref nb1, .ref nb2, .int (nI nf), .int (nI bd), .int (nI mm), .int v33, .ref pl, .ref se, .ref ke, .ref wi, .ref hs, .ref mo, .ref po, .ref nu, .ref pr, .ref sq, .ref xa, .ref sa, .ref n64, .ref m64, .ref ex, .ref wh, .ref sd, .ref tk, .int v52, .int v53, .int v54, .ref hd, .ref ak, .ref ho, .ref ot]) := hv_141
      refine W.eq (g2 := F0 m 55 ls []) rfl ?_
      have hF_143 : F_137 va = .inl (cs 23, 40, .inr (.inr (.inr (.inr f_114)))) := (hR va (by rw [ht_12]; simp)).trans hF_138
      have hF_144 : F_137 b_117 = .inr (14, [.ref r_118, .int (nI z_125)]) := (hR b_117 (by rw [ht_121]; simp)).trans hF_139
      have hF_145 : F_137 r_118 = .inl (cs 17, 700, .inl f_130) := (hR r_118 (by rw [ht_123]; simp)).trans hF_140
      obtain ⟨hv1, hv2, hv3, hv4⟩ := hv_141
      refine lv_iload hx hb dX15_check_55 (lv_at hl 0 rfl) ?_
      refine lv_aload hx hb dX15_check_57 (lv_at hl 3 rfl) ?_
      refine pg_get (ci := 14) (v := .int (nI z_125)) (C := RX14) (T := TX14) (N := 2) hx hb hts it_14 hown hK hP hi_120 hF_144 rfl 1 (by decide) (hts _ kt_709) (fun _ h9 => h9) rfl dX15_check_59 ?_
      refine lv_icmp_ge (tgt := 156) hx hb dX15_check_62 (by decide) (fun c_146 => ?_) (fun c_146 => ?_)
      ·
        have hi_147 : z_125 ≤ j := leN (N := z_125) c_146
        refine lv_aload hx hb dX15_check_156 (lv_at hl 3 rfl) ?_
        refine lv_bipush (v := 6) hx hb dX15_check_158 (by decide) ?_
        refine W.eq (g2 := F0 m 160 ls [.int (nI 6), .ref b_117]) rfl ?_
        have hFc := pg_free hD hS hA
        refine va_calli (va_runS (As := [.ref b_117, .int (nI 6)]) (rest := []) ⟨hx, hb, hml, hown, hts⟩ (s_X15_blankFrom l dC dI cs ty gm L H.size F_137 b_117 (ρ + 31) r_118 700 z_125 6 hW hi_120 ht_121 hF_144 (by first | omega | assumption) (by first | omega | assumption)) ⟨callB_of 2 hts (gi kt_804) rfl rfl rfl (hts _ kt_669) (hts _ kt_805) (by decide +kernel) ⟨Nat.le_of_ble_eq_true rfl, Nat.le_of_ble_eq_true rfl⟩, (hts _ kt_806)⟩ ⟨fun a U g mk q => ⟨q.1, PTm.calling q.2⟩, fun U hU hWm => ⟨rfl, PTm.mk hU hWm hP hK hD hE hO⟩⟩ rfl rfl hl.1 rfl (lv_room (Nat.le_of_ble_eq_true rfl)) dX15_check_160 ⟨by show _ + 0 ≤ 0; omega, by show _ + 0 ≤ 0; omega⟩) hS (fun q _ h => hFc q h) hFc (fun r_148 u t H1 locs ht hvm hw hB hz1 hk1 hS => ?_)
        obtain ⟨F_149, hB1⟩ := hB
        obtain rfl : F_137 = F_149 := (funext (fun a => hB1.2.2.2 a List.not_mem_nil)).symm
        obtain ⟨hP, hD, hO, hR⟩ := QTm.back hB1 ht hFc hR (fun q h => absurd h List.not_mem_nil)
        generalize H1 = H at hP hS ⊢
        have hw : (∃ k : Nat, 6 ≤ k ∧ k ≤ max 6 z_125 ∧ r_148 = nI k ∧ (k < z_125 → gA (F_137 r_118) k ≠ 32)) := hw
        have hw_150 := hw
        obtain ⟨k_151, hk_151a, hk_151b, ek_151, hk_151c⟩ := hw_150
        subst ek_151
        rw [gA_fun hF_145] at hk_151c
        refine lv_istore (lv' := [(7, .int (nI k_151)), (6, .int w6), (5, .int w5), (4, .ref b_117), (3, .int (nI jr)), (0, .ref h0), (1, .ref dd), (2, .int (nI lv))]) hx hb dX15_check_163 hl (by decide) rfl (fun ls hl => ?_)
        refine W.widen (k := 0) (n := 0) (by omega) (by omega) ?_
        have hF_153 : F va = .inl (cs 23, 40, .inr (.inr (.inr (.inr f_114)))) := (hR va (by rw [ht_12]; simp)).symm.trans hF_143
        have hF_154 : F b_117 = .inr (14, [.ref r_118, .int (nI z_125)]) := (hR b_117 (by rw [ht_121]; simp)).symm.trans hF_144
        have hF_155 : F r_118 = .inl (cs 17, 700, .inl f_130) := (hR r_118 (by rw [ht_123]; simp)).symm.trans hF_145
        refine pl_loopm (σ := Nat × Nat × Int32 × Int32 × Int32 × Int32 × Int32 × Int32 × Int32) A (dC, dI) cs ty gm L [ρ, ρ + 6, ρ + 7] F 165 10 (fun (i, cc, q15, q17, q18, q19, q20, q21, q22) => [(7, .int (nI i)), (6, .int w6), (5, .int w5), (4, .ref b_117), (3, .int (nI jr)), (0, .ref h0), (1, .ref dd), (2, .int (nI lv))]) (fun (i, cc, q15, q17, q18, q19, q20, q21, q22) => []) (fun (i, cc, q15, q17, q18, q19, q20, q21, q22) FF => i ≤ 700 ∧ (i < z_125 → f_130 i ≠ 32) ∧ c ≤ cc ∧ cc ≤ 10 ∧ FF h0 = .inr (15, [.ref ta, .int (nI zt), .int (nI zo), .int (nI ze), .ref ou, .ref so, .ref ad, .ref na, .ref va, .ref lc, .ref dm, .int v11, .int v12, .ref tg, .int (nI cc), .int q15, .ref pe, .int q17, .int q18, .int q19, .int q20, .int q21, .int q22, .ref ml, .ref bg, .ref co, .ref sp, .ref nb0, .ref nb1, .ref nb2, .int (nI nf), .int (nI bd), .int (nI mm), .int v33, .ref pl, .ref se, .ref ke, .ref wi, .ref hs, .ref mo, .ref po, .ref nu, .ref pr, .ref sq, .ref xa, .ref sa, .ref n64, .ref m64, .ref ex, .ref wh, .ref sd, .ref tk, .int v52, .int v53, .int v54, .ref hd, .ref ak, .ref ho, .ref ot])) (fun (i, cc, q15, q17, q18, q19, q20, q21, q22) => 701 - i) ?_ (k_151, c, v15, q17, q18, q19, q20, q21, q22) F_137 (⟨by omega, hk_151c, by omega, by omega, hv4⟩) hO hR _ _ hP hD hS ls (lv_sub hl [0, 1, 2, 3, 4, 5, 6, 7] rfl)
        rintro ⟨i, cc, q15, q17, q18, q19, q20, q21, q22⟩ F_152 hv_156 hO hR ih_157 H locs hP hD hS ls hl
        have hl : lv_has ls 10 [(7, .int (nI i)), (6, .int w6), (5, .int w5), (4, .ref b_117), (3, .int (nI jr)), (0, .ref h0), (1, .ref dd), (2, .int (nI lv))] := hl
        have hv_156 : i ≤ 700 ∧ (i < z_125 → f_130 i ≠ 32) ∧ c ≤ cc ∧ cc ≤ 10 ∧ F_152 h0 = .inr (15, [.ref ta, .int (nI zt), .int (nI zo), .int (nI ze), .ref ou, .ref so, .ref ad, .ref na, .ref va, .ref lc, .ref dm, .int v11, .int v12, .ref tg, .int (nI cc), .int q15, .ref pe, .int q17, .int q18, .int q19, .int q20, .int q21, .int q22, .ref ml, .ref bg, .ref co, .ref sp, .ref nb0, .ref nb1, .ref nb2, .int (nI nf), .int (nI bd), .int (nI mm), .int v33, .ref pl, .ref se, .ref ke, .ref wi, .ref hs, .ref mo, .ref po, .ref nu, .ref pr, .ref sq, .ref xa, .ref sa, .ref n64, .ref m64, .ref ex, .ref wh, .ref sd, .ref tk, .int v52, .int v53, .int v54, .ref hd, .ref ak, .ref ho, .ref ot]) := hv_156
        refine W.eq (g2 := F0 m 165 ls []) rfl ?_
        have hF_158 : F_152 va = .inl (cs 23, 40, .inr (.inr (.inr (.inr f_114)))) := (hR va (by rw [ht_12]; simp)).trans hF_153
        have hF_159 : F_152 b_117 = .inr (14, [.ref r_118, .int (nI z_125)]) := (hR b_117 (by rw [ht_121]; simp)).trans hF_154
        have hF_160 : F_152 r_118 = .inl (cs 17, 700, .inl f_130) := (hR r_118 (by rw [ht_123]; simp)).trans hF_155
        obtain ⟨hu1, hu2, hu3, hu4, hu5⟩ := hv_156
        refine lv_iload hx hb dX15_check_165 (lv_at hl 0 rfl) ?_
        refine lv_aload hx hb dX15_check_167 (lv_at hl 3 rfl) ?_
        refine pg_get (ci := 14) (v := .int (nI z_125)) (C := RX14) (T := TX14) (N := 2) hx hb hts it_14 hown hK hP hi_120 hF_159 rfl 1 (by decide) (hts _ kt_709) (fun _ h9 => h9) rfl dX15_check_169 ?_
        refine lv_icmp_ge (tgt := 288) hx hb dX15_check_172 (by decide) (fun c_161 => ?_) (fun c_161 => ?_)
        ·
          have hi_162 : z_125 ≤ i := leN (N := z_125) c_161
          refine lv_iload hx hb dX15_check_288 (lv_at hl 1 rfl) ?_
          refine lv_if_lt (tgt := 298) hx hb dX15_check_290 (by decide) (fun c_163 => ?_) (fun c_163 => ?_)
          ·
            refine lv_iconst (v := 1) hx hb dX15_check_298 (by decide) ?_
            refine W.widen (k := 0) (n := 0) (by omega) (by omega) ?_
            exact W.iret (v := 1) hx hb hr (fun t ht hWm => ⟨⟨1, cc, rfl, (fun h => by omega), ⟨F_152, q15, q17, q18, q19, q20, q21, q22, QTm.mk ht hP hD hO hR, hu5, by omega, by omega⟩⟩, hS.F ht⟩) hS.2.2 dX15_check_299
          ·
            obtain ⟨tu, te, ew, ht1, ht2, ht3, ht4, ht5⟩ := hv3.resolve_left (fun h => absurd (h ▸ c_163) (by decide))
            subst ew
            refine lv_iload hx hb dX15_check_293 (lv_at hl 2 rfl) ?_
            refine lv_if_eq (tgt := 300) hx hb dX15_check_295 (by decide) (fun c_164 => ?_) (fun c_164 => ?_)
            ·
              refine lv_aload_n hx hb dX15_check_300 rfl (lv_at hl 5 rfl) ?_
              refine lv_aload hx hb dX15_check_301 (lv_at hl 3 rfl) ?_
              refine pg_get (ci := 14) (v := .ref r_118) (C := RX14) (T := TX14) (N := 2) hx hb hts it_14 hown hK hP hi_120 hF_159 rfl 0 (by decide) (hts _ kt_710) (fun _ h9 => h9) rfl dX15_check_303 ?_
              refine lv_iload hx hb dX15_check_306 (lv_at hl 1 rfl) ?_
              refine lv_aload hx hb dX15_check_308 (lv_at hl 3 rfl) ?_
              refine lv_iload hx hb dX15_check_310 (lv_at hl 1 rfl) ?_
              have hFc := pg_free hD hS hA
              refine va_calli (va_runS (As := [.ref b_117, .int (nI tu)]) (rest := [.int (nI tu), .ref r_118, .ref h0]) ⟨hx, hb, hml, hown, hts⟩ (s_X15_wordEnd l dC dI cs ty gm L H.size F_152 b_117 (ρ + 31) r_118 700 z_125 tu hW hi_120 ht_121 hF_159 (by first | omega | assumption) (by first | omega | assumption)) ⟨callB_of 2 hts (gi kt_807) rfl rfl rfl (hts _ kt_669) (hts _ kt_808) (by decide +kernel) ⟨Nat.le_of_ble_eq_true rfl, Nat.le_of_ble_eq_true rfl⟩, (hts _ kt_809)⟩ ⟨fun a U g mk q => ⟨q.1, PTm.calling q.2⟩, fun U hU hWm => ⟨rfl, PTm.mk hU hWm hP hK hD hE hO⟩⟩ rfl rfl hl.1 rfl (lv_room (Nat.le_of_ble_eq_true rfl)) dX15_check_312 ⟨by show _ + 0 ≤ 0; omega, by show _ + 0 ≤ 0; omega⟩) hS (fun q _ h => hFc q h) hFc (fun r_165 u t H1 locs ht hvm hw hB hz1 hk1 hS => ?_)
              obtain ⟨F_166, hB1⟩ := hB
              obtain rfl : F_152 = F_166 := (funext (fun a => hB1.2.2.2 a List.not_mem_nil)).symm
              obtain ⟨hP, hD, hO, hR⟩ := QTm.back hB1 ht hFc hR (fun q h => absurd h List.not_mem_nil)
              generalize H1 = H at hP hS ⊢
              have hw : (∃ k : Nat, tu ≤ k ∧ k ≤ max tu z_125 ∧ r_165 = nI k ∧ WE (gA (F_152 r_118)) z_125 tu k) := hw
              have hw_167 := hw
              obtain ⟨k_168, hk_168a, hk_168b, ek_168, hk_168c⟩ := hw_167
              subst ek_168
              rw [gA_fun hF_160] at hk_168c
              obtain rfl : k_168 = te := WE.uniq hk_168c ht4 (by omega) ht2 (by omega) (by omega)
              have hFc := pg_free hD hS hA
              refine va_callv (va_runV (As := [.ref r_118, .int (nI tu), .int (nI k_168)]) (rest := []) ⟨hx, hb, hml, hown, hts⟩ (s_X15_readTerm l dC dI cs ty gm L H.size F_152 h0 ρ ta ou so ad na va lc dm tg pe ml bg co sp nb0 nb1 nb2 pl se ke wi hs mo po nu pr sq xa sa n64 m64 ex wh sd tk hd ak ho ot sx s0 s1 s2 nf bd mm zt zo ze v11 v12 (nI cc) q15 q17 q18 q19 q20 q21 q22 v33 v52 v53 v54 r_118 f_130 tu k_168 hW hL_h0 hT_h0 hi_122 ht_123 hu5 (by first | omega | assumption) (by first | omega | assumption) (by first | omega | assumption) (by first | omega | assumption) hF_160 (by first | omega | assumption) (by have h9 := ht5.1.1; omega)) ⟨callB_of 3 hts (gi kt_810) rfl rfl rfl (hts _ kt_669) (hts _ kt_811) (by decide +kernel) ⟨Nat.le_of_ble_eq_true rfl, Nat.le_of_ble_eq_true rfl⟩, (hts _ kt_812), (hts _ kt_813)⟩ ⟨fun a U g mk q => ⟨q.1, PTEm.calling q.2⟩, pg_recv hK hP hL_h0 hu5 (q := (RX15, TX15, 59)) rfl, fun U hU hWm => ⟨rfl, PTEm.mk hU hWm hP hK hD hE hO hG (fun x hx => absurd hx List.not_mem_nil) hS hFc⟩⟩ rfl rfl hl.1 rfl (lv_room (Nat.le_of_ble_eq_true rfl)) dX15_check_315 ⟨by show _ + 0 ≤ 0; omega, by show _ + 0 ≤ 0; omega⟩) hS (fun q _ h => hFc q h) hFc (fun u t H1 locs ht hvm hw hB hz1 hk1 hS => ?_)
              obtain ⟨F_170, u17_171, u18_172, u19_173, u20_174, u21_175, u22_176, hB1, hq_177, hq_178⟩ := hB
              obtain ⟨hP, hD, hO, hR⟩ := QTm.back hB1 ht hFc hR (fun q h => by simp only [List.mem_cons, List.not_mem_nil, or_false] at h ⊢; omega)
              have hF_179 : F_170 va = .inl (cs 23, 40, .inr (.inr (.inr (.inr f_114)))) := (hB1.2.2.2 va (by rw [ht_12]; simp)).trans hF_158
              have hF_180 : F_170 b_117 = .inr (14, [.ref r_118, .int (nI z_125)]) := (hB1.2.2.2 b_117 (by rw [ht_121]; simp)).trans hF_159
              have hF_181 : F_170 r_118 = .inl (cs 17, 700, .inl f_130) := (hB1.2.2.2 r_118 (by rw [ht_123]; simp)).trans hF_160
              generalize H1 = H at hP hS ⊢
              obtain ⟨e19, e20⟩ := (hq_178).2.2 ht5
              refine lv_aload_n hx hb dX15_check_318 rfl (lv_at hl 5 rfl) ?_
              refine lv_dup hx hb dX15_check_319 rfl ?_
              refine pg_get (ci := 15) (v := .int (nI cc)) (C := RX15) (T := TX15) (N := 59) hx hb hts it_15 hown hK hP hL_h0 hq_177 rfl 14 (by decide) (hts _ kt_731) (fun _ h9 => h9) rfl dX15_check_320 ?_
              refine lv_iconst (v := 1) hx hb dX15_check_323 (by decide) ?_
              refine lv_iadd hx hb dX15_check_324 ?_
              refine lv_topi (fun x_182 ex_182 => ?_)
              obtain rfl : x_182 = (nI (cc + 1)) := ex_182.trans (nI_1 cc)
              refine pg_put (ci := 15) (v := .int (nI (cc + 1))) (ty := .int) (C := RX15) (T := TX15) (N := 59) hx hb hts it_15 tyX15 tyX15_ok nmX15 hown hK hP hD hS hL_h0 hq_177 rfl 14 (by decide) (hts _ kt_731) (fun _ h9 => h9) rfl (by decide +kernel) (rfl) (rfl) (Nat.le_of_ble_eq_true rfl) dX15_check_325 (fun H locs hP hD hS => ?_)
              obtain ⟨F_183, he_184, hP, hD, hO, hR⟩ : ∃ G, G = va_up F_170 h0 (.inr (15, [.ref ta, .int (nI zt), .int (nI zo), .int (nI ze), .ref ou, .ref so, .ref ad, .ref na, .ref va, .ref lc, .ref dm, .int v11, .int v12, .ref tg, .int (nI (cc + 1)), .int q15, .ref pe, .int u17_171, .int u18_172, .int u19_173, .int u20_174, .int u21_175, .int u22_176, .ref ml, .ref bg, .ref co, .ref sp, .ref nb0, .ref nb1, .ref nb2, .int (nI nf), .int (nI bd), .int (nI mm), .int v33, .ref pl, .ref se, .ref ke, .ref wi, .ref hs, .ref mo, .ref po, .ref nu, .ref pr, .ref sq, .ref xa, .ref sa, .ref n64, .ref m64, .ref ex, .ref wh, .ref sd, .ref tk, .int v52, .int v53, .int v54, .ref hd, .ref ak, .ref ho, .ref ot])) ∧ va_P (dC, dI) vwCl (va_pl L G) H ∧ va_D A (va_pl L G) ∧ OKm cs ty gm L G ∧ FR ty [ρ, ρ + 6, ρ + 7] F G := ⟨_, rfl, hP, hD, hO.up (shm.mod hT_h0 ⟨zo, ze, v11, v12, (nI (cc + 1)), q15, u17_171, u18_172, u19_173, u20_174, u21_175, u22_176, v33, v52, v53, v54, rfl, (by first | omega | assumption | exact Or.inl rfl | exact Or.inr rfl), (by first | omega | assumption | exact Or.inl rfl | exact Or.inr rfl), (by first | omega | assumption | exact Or.inl rfl | exact Or.inr rfl), (by first | omega | assumption | exact Or.inl rfl | exact Or.inr rfl)⟩), hR.up hT_h0 (by simp)⟩
              have hF_185 : F_183 h0 = .inr (15, [.ref ta, .int (nI zt), .int (nI zo), .int (nI ze), .ref ou, .ref so, .ref ad, .ref na, .ref va, .ref lc, .ref dm, .int v11, .int v12, .ref tg, .int (nI (cc + 1)), .int q15, .ref pe, .int u17_171, .int u18_172, .int u19_173, .int u20_174, .int u21_175, .int u22_176, .ref ml, .ref bg, .ref co, .ref sp, .ref nb0, .ref nb1, .ref nb2, .int (nI nf), .int (nI bd), .int (nI mm), .int v33, .ref pl, .ref se, .ref ke, .ref wi, .ref hs, .ref mo, .ref po, .ref nu, .ref pr, .ref sq, .ref xa, .ref sa, .ref n64, .ref m64, .ref ex, .ref wh, .ref sd, .ref tk, .int v52, .int v53, .int v54, .ref hd, .ref ak, .ref ho, .ref ot]) := by rw [he_184]; exact up_self
              have hF_186 : F_183 va = .inl (cs 23, 40, .inr (.inr (.inr (.inr f_114)))) := by rw [he_184, up_ne (ne_ty ht_12 hT_h0 (by simp))]; exact hF_179
              have hF_187 : F_183 b_117 = .inr (14, [.ref r_118, .int (nI z_125)]) := by rw [he_184, up_ne (ne_ty ht_121 hT_h0 (by simp))]; exact hF_180
              have hF_188 : F_183 r_118 = .inl (cs 17, 700, .inl f_130) := by rw [he_184, up_ne (ne_ty ht_123 hT_h0 (by simp))]; exact hF_181
              refine lv_aload_n hx hb dX15_check_328 rfl (lv_at hl 5 rfl) ?_
              refine pg_get (ci := 15) (v := .int (nI (cc + 1))) (C := RX15) (T := TX15) (N := 59) hx hb hts it_15 hown hK hP hL_h0 hF_185 rfl 14 (by decide) (hts _ kt_731) (fun _ h9 => h9) rfl dX15_check_329 ?_
              refine lv_bipush (v := 10) hx hb dX15_check_332 (by decide) ?_
              refine lv_icmp_le (tgt := 340) hx hb dX15_check_334 (by decide) (fun c_189 => ?_) (fun c_189 => ?_)
              ·
                have hi_190 : (cc + 1) ≤ 10 := (nI_leI (a := (cc + 1)) (b := 10) (by omega) (by omega)).mp c_189
                refine lv_aload_n hx hb dX15_check_340 rfl (lv_at hl 5 rfl) ?_
                refine lv_aload hx hb dX15_check_341 (lv_at hl 3 rfl) ?_
                refine pg_get (ci := 14) (v := .ref r_118) (C := RX14) (T := TX14) (N := 2) hx hb hts it_14 hown hK hP hi_120 hF_187 rfl 0 (by decide) (hts _ kt_710) (fun _ h9 => h9) rfl dX15_check_343 ?_
                refine lv_aload_n hx hb dX15_check_346 rfl (lv_at hl 5 rfl) ?_
                refine pg_get (ci := 15) (v := .int u19_173) (C := RX15) (T := TX15) (N := 59) hx hb hts it_15 hown hK hP hL_h0 hF_185 rfl 19 (by decide) (hts _ kt_751) (fun _ h9 => h9) rfl dX15_check_347 ?_
                refine lv_topi (fun x9 ex9 => ?_)
                obtain rfl : x9 = nI (tu + 9) := ex9.trans e19
                refine lv_aload_n hx hb dX15_check_350 rfl (lv_at hl 5 rfl) ?_
                refine pg_get (ci := 15) (v := .int u20_174) (C := RX15) (T := TX15) (N := 59) hx hb hts it_15 hown hK hP hL_h0 hF_185 rfl 20 (by decide) (hts _ kt_752) (fun _ h9 => h9) rfl dX15_check_351 ?_
                refine lv_topi (fun x9 ex9 => ?_)
                obtain rfl : x9 = nI k_168 := ex9.trans e20
                refine lv_aload_n hx hb dX15_check_354 rfl (lv_at hl 6 rfl) ?_
                refine lv_aload_n hx hb dX15_check_355 rfl (lv_at hl 5 rfl) ?_
                refine pg_get (ci := 15) (v := .ref tg) (C := RX15) (T := TX15) (N := 59) hx hb hts it_15 hown hK hP hL_h0 hF_185 rfl 13 (by decide) (hts _ kt_783) (fun _ h9 => h9) rfl dX15_check_356 ?_
                refine lv_iload_n hx hb dX15_check_359 rfl (lv_at hl 7 rfl) ?_
                obtain ⟨f_191, hF_192, hq_193⟩ := hO.rtxt hi_19 ht_20
                obtain ⟨b_194, r_195, hbf_196, hi_197, ht_198⟩ := hq_193 lv (by omega)
                refine pg_aald (r := b_194) hx hb hK hP hi_19 7 hF_192 rfl (vp_in_nI (by omega) (by omega)) (show f_191 ((nI lv) : Int32).toNatClampNeg = _ from by rw [show ((nI lv) : Int32) = nI lv from rfl, nI_clamp (by omega)]; exact hbf_196) dX15_check_360 ?_
                obtain ⟨hi_199, ht_200, hq_201⟩ := hW.txt hL_pe hT_pe
                obtain ⟨hi_202, ht_203, hq_204⟩ := hW.txt hi_197 ht_198
                have hFc := pg_free hD hS hA
                refine va_callv (va_runV (As := [.ref r_118, .int (nI (tu + 9)), .int (nI k_168), .ref dd, .ref b_194]) (rest := []) ⟨hx, hb, hml, hown, hts⟩ (s_X15_expand l dC dI cs ty gm L H.size F_183 h0 ρ ta ou so ad na va lc dm tg pe ml bg co sp nb0 nb1 nb2 pl se ke wi hs mo po nu pr sq xa sa n64 m64 ex wh sd tk hd ak ho ot sx s0 s1 s2 nf bd mm zt rp b_194 r_195 r_118 f_130 dd τ rd nd (tu + 9) k_168 hW hL_h0 hT_h0 hL_pe hT_pe hi_197 ht_198 hi_122 ht_123 hL_dd hT_dd hF_188 (by have h9 := ht5.1.1; omega) (by omega) (by first | omega | assumption) (ht5.2)) ⟨callB_of 5 hts (gi kt_792) rfl rfl rfl (hts _ kt_669) (hts _ kt_793) (by decide +kernel) ⟨Nat.le_of_ble_eq_true rfl, Nat.le_of_ble_eq_true rfl⟩, (hts _ kt_794), (hts _ kt_795)⟩ ⟨fun a U g mk q => ⟨q.1, PTm.calling q.2⟩, pg_recv hK hP hL_h0 hF_185 (q := (RX15, TX15, 59)) rfl, fun U hU hWm => ⟨rfl, PTm.mk hU hWm hP hK hD hE hO⟩⟩ rfl rfl hl.1 rfl (lv_room (Nat.le_of_ble_eq_true rfl)) dX15_check_361 ⟨by show _ + 0 ≤ 0; omega, by show _ + 0 ≤ 0; omega⟩) hS (fun q _ h => hFc q h) hFc (fun u t H1 locs ht hvm hw hB hz1 hk1 hS => ?_)
                obtain ⟨F_206, hB1⟩ := hB
                obtain ⟨hP, hD, hO, hR⟩ := QTm.back hB1 ht hFc hR (fun q h => by simp only [List.mem_cons, List.not_mem_nil, or_false] at h ⊢; omega)
                have hF_207 : F_206 h0 = .inr (15, [.ref ta, .int (nI zt), .int (nI zo), .int (nI ze), .ref ou, .ref so, .ref ad, .ref na, .ref va, .ref lc, .ref dm, .int v11, .int v12, .ref tg, .int (nI (cc + 1)), .int q15, .ref pe, .int u17_171, .int u18_172, .int u19_173, .int u20_174, .int u21_175, .int u22_176, .ref ml, .ref bg, .ref co, .ref sp, .ref nb0, .ref nb1, .ref nb2, .int (nI nf), .int (nI bd), .int (nI mm), .int v33, .ref pl, .ref se, .ref ke, .ref wi, .ref hs, .ref mo, .ref po, .ref nu, .ref pr, .ref sq, .ref xa, .ref sa, .ref n64, .ref m64, .ref ex, .ref wh, .ref sd, .ref tk, .int v52, .int v53, .int v54, .ref hd, .ref ak, .ref ho, .ref ot]) := (hB1.2.2.2 h0 (by rw [hT_h0]; simp)).trans hF_185
                have hF_208 : F_206 va = .inl (cs 23, 40, .inr (.inr (.inr (.inr f_114)))) := (hB1.2.2.2 va (by rw [ht_12]; simp)).trans hF_186
                have hF_209 : F_206 b_117 = .inr (14, [.ref r_118, .int (nI z_125)]) := (hB1.2.2.2 b_117 (by rw [ht_121]; simp)).trans hF_187
                have hF_210 : F_206 r_118 = .inl (cs 17, 700, .inl f_130) := (hB1.2.2.2 r_118 (by rw [ht_123]; simp)).trans hF_188
                generalize H1 = H at hP hS ⊢
                refine lv_aload_n hx hb dX15_check_364 rfl (lv_at hl 5 rfl) ?_
                refine lv_aload_n hx hb dX15_check_365 rfl (lv_at hl 5 rfl) ?_
                refine pg_get (ci := 15) (v := .ref tg) (C := RX15) (T := TX15) (N := 59) hx hb hts it_15 hown hK hP hL_h0 hF_207 rfl 13 (by decide) (hts _ kt_783) (fun _ h9 => h9) rfl dX15_check_366 ?_
                refine lv_iload_n hx hb dX15_check_369 rfl (lv_at hl 7 rfl) ?_
                obtain ⟨f_211, hF_212, hq_213⟩ := hO.rtxt hi_19 ht_20
                obtain ⟨b_214, r_215, hbf_216, hi_217, ht_218⟩ := hq_213 lv (by omega)
                refine pg_aald (r := b_214) hx hb hK hP hi_19 7 hF_212 rfl (vp_in_nI (by omega) (by omega)) (show f_211 ((nI lv) : Int32).toNatClampNeg = _ from by rw [show ((nI lv) : Int32) = nI lv from rfl, nI_clamp (by omega)]; exact hbf_216) dX15_check_370 ?_
                refine lv_iload_n hx hb dX15_check_371 rfl (lv_at hl 7 rfl) ?_
                refine lv_iconst (v := 1) hx hb dX15_check_372 (by decide) ?_
                refine lv_iadd hx hb dX15_check_373 ?_
                refine lv_topi (fun x_219 ex_219 => ?_)
                obtain rfl : x_219 = (nI (lv + 1)) := ex_219.trans (nI_1 lv)
                obtain ⟨hi_220, ht_221, hq_222⟩ := hW.txt hi_217 ht_218
                have hFc := pg_free hD hS hA
                refine va_calli (va_runV (As := [.ref b_214, .int (nI (lv + 1))]) (rest := []) ⟨hx, hb, hml, hown, hts⟩ (hC (cc + 1) (by omega) H.size F_206 zo ze v11 v12 q15 u17_171 u18_172 u19_173 u20_174 u21_175 u22_176 v33 v52 v53 v54 b_214 (ρ + 6) r_215 61 (lv + 1) hi_217 ht_218 hF_207 (by omega) (by omega) (by assumption) (by assumption) (by omega) (by omega) (by omega)) ⟨callB_of 2 hts (gi kt_788) rfl rfl rfl (hts _ kt_669) (hts _ kt_789) (by decide +kernel) ⟨by show fr + 0 + 1 ≤ fr + 7; omega, by show 8 + (10 + 11) + (lo + 0) ≤ lo + 158; omega⟩, (hts _ kt_790), (hts _ kt_791)⟩ ⟨fun a U g mk q => ⟨q.1, PTEm.calling q.2⟩, pg_recv hK hP hL_h0 hF_207 (q := (RX15, TX15, 59)) rfl, fun U hU hWm => ⟨rfl, PTEm.mk hU hWm hP hK hD hE hO hG (fun x hx => absurd hx List.not_mem_nil) hS hFc⟩⟩ rfl rfl hl.1 rfl (lv_room (Nat.le_of_ble_eq_true rfl)) dX15_check_374 ⟨by show _ + 0 ≤ 0; omega, by show _ + 0 ≤ 0; omega⟩) hS (fun q _ h => hFc q h) hFc (fun r_224 cu_223 t H1 locs ht hvm hw hB hz1 hk1 hS => ?_)
                obtain ⟨F_225, u15_226, u17_227, u18_228, u19_229, u20_230, u21_231, u22_232, hB1, hq_233, hq_234, hq_235⟩ := hB
                obtain ⟨hP, hD, hO, hR⟩ := QTm.back hB1 ht hFc hR (fun q h => by simp only [List.mem_cons, List.not_mem_nil, or_false] at h ⊢; omega)
                have hF_236 : F_225 va = .inl (cs 23, 40, .inr (.inr (.inr (.inr f_114)))) := (hB1.2.2.2 va (by rw [ht_12]; simp)).trans hF_208
                have hF_237 : F_225 b_117 = .inr (14, [.ref r_118, .int (nI z_125)]) := (hB1.2.2.2 b_117 (by rw [ht_121]; simp)).trans hF_209
                have hF_238 : F_225 r_118 = .inl (cs 17, 700, .inl f_130) := (hB1.2.2.2 r_118 (by rw [ht_123]; simp)).trans hF_210
                generalize H1 = H at hP hS ⊢
                have hw : (cu_223 = 11 → r_224 = 6) := hw
                have hw_239 := hw
                refine lv_istore (lv' := [(7, .int r_224), (6, .int (nI tu)), (5, .int w5), (4, .ref b_117), (3, .int (nI jr)), (0, .ref h0), (1, .ref dd), (2, .int (nI lv))]) hx hb dX15_check_377 hl (by decide) rfl (fun ls hl => ?_)
                refine lv_iload hx hb dX15_check_379 (lv_at hl 0 rfl) ?_
                refine lv_if_ne (tgt := 389) hx hb dX15_check_381 (by decide) (fun c_240 => ?_) (fun c_240 => ?_)
                ·
                  refine lv_iload hx hb dX15_check_389 (lv_at hl 0 rfl) ?_
                  refine W.widen (k := 0) (n := 0) (by omega) (by omega) ?_
                  exact W.iret (v := r_224) hx hb hr (fun t ht hWm => ⟨⟨r_224, cu_223, rfl, hw_239, ⟨F_225, u15_226, u17_227, u18_228, u19_229, u20_230, u21_231, u22_232, QTm.mk ht hP hD hO hR, hq_233, by omega, by omega⟩⟩, hS.F ht⟩) hS.2.2 dX15_check_391
                ·
                  refine lv_bipush (v := 6) hx hb dX15_check_384 (by decide) ?_
                  refine lv_goto (tgt := 391) hx hb dX15_check_386 (by decide) ?_
                  refine W.widen (k := 0) (n := 0) (by omega) (by omega) ?_
                  exact W.iret (v := 6) hx hb hr (fun t ht hWm => ⟨⟨6, cu_223, rfl, (fun _ => rfl), ⟨F_225, u15_226, u17_227, u18_228, u19_229, u20_230, u21_231, u22_232, QTm.mk ht hP hD hO hR, hq_233, by omega, by omega⟩⟩, hS.F ht⟩) hS.2.2 dX15_check_391
              ·
                have hi_241 : 10 < (cc + 1) := Nat.not_le.mp (fun q => c_189 ((nI_leI (a := (cc + 1)) (b := 10) (by omega) (by omega)).mpr q))
                refine lv_bipush (v := 6) hx hb dX15_check_337 (by decide) ?_
                refine W.widen (k := 0) (n := 0) (by omega) (by omega) ?_
                exact W.iret (v := 6) hx hb hr (fun t ht hWm => ⟨⟨6, (cc + 1), rfl, (fun _ => rfl), ⟨F_183, q15, u17_171, u18_172, u19_173, u20_174, u21_175, u22_176, QTm.mk ht hP hD hO hR, hF_185, by omega, by omega⟩⟩, hS.F ht⟩) hS.2.2 dX15_check_339
            ·
              refine lv_iconst (v := 1) hx hb dX15_check_298 (by decide) ?_
              refine W.widen (k := 0) (n := 0) (by omega) (by omega) ?_
              exact W.iret (v := 1) hx hb hr (fun t ht hWm => ⟨⟨1, cc, rfl, (fun h => by omega), ⟨F_152, q15, q17, q18, q19, q20, q21, q22, QTm.mk ht hP hD hO hR, hu5, by omega, by omega⟩⟩, hS.F ht⟩) hS.2.2 dX15_check_299
        ·
          have hi_242 : i < z_125 := ltN (N := z_125) c_161
          refine lv_aload_n hx hb dX15_check_175 rfl (lv_at hl 5 rfl) ?_
          refine lv_aload hx hb dX15_check_176 (lv_at hl 3 rfl) ?_
          refine pg_get (ci := 14) (v := .ref r_118) (C := RX14) (T := TX14) (N := 2) hx hb hts it_14 hown hK hP hi_120 hF_159 rfl 0 (by decide) (hts _ kt_710) (fun _ h9 => h9) rfl dX15_check_178 ?_
          refine lv_iload hx hb dX15_check_181 (lv_at hl 0 rfl) ?_
          refine lv_aload hx hb dX15_check_183 (lv_at hl 3 rfl) ?_
          refine lv_iload hx hb dX15_check_185 (lv_at hl 0 rfl) ?_
          have hFc := pg_free hD hS hA
          refine va_calli (va_runS (As := [.ref b_117, .int (nI i)]) (rest := [.int (nI i), .ref r_118, .ref h0]) ⟨hx, hb, hml, hown, hts⟩ (s_X15_wordEnd l dC dI cs ty gm L H.size F_152 b_117 (ρ + 31) r_118 700 z_125 i hW hi_120 ht_121 hF_159 (by first | omega | assumption) (by first | omega | assumption)) ⟨callB_of 2 hts (gi kt_807) rfl rfl rfl (hts _ kt_669) (hts _ kt_808) (by decide +kernel) ⟨Nat.le_of_ble_eq_true rfl, Nat.le_of_ble_eq_true rfl⟩, (hts _ kt_809)⟩ ⟨fun a U g mk q => ⟨q.1, PTm.calling q.2⟩, fun U hU hWm => ⟨rfl, PTm.mk hU hWm hP hK hD hE hO⟩⟩ rfl rfl hl.1 rfl (lv_room (Nat.le_of_ble_eq_true rfl)) dX15_check_187 ⟨by show _ + 0 ≤ 0; omega, by show _ + 0 ≤ 0; omega⟩) hS (fun q _ h => hFc q h) hFc (fun r_243 u t H1 locs ht hvm hw hB hz1 hk1 hS => ?_)
          obtain ⟨F_244, hB1⟩ := hB
          obtain rfl : F_152 = F_244 := (funext (fun a => hB1.2.2.2 a List.not_mem_nil)).symm
          obtain ⟨hP, hD, hO, hR⟩ := QTm.back hB1 ht hFc hR (fun q h => absurd h List.not_mem_nil)
          generalize H1 = H at hP hS ⊢
          have hw : (∃ k : Nat, i ≤ k ∧ k ≤ max i z_125 ∧ r_243 = nI k ∧ WE (gA (F_152 r_118)) z_125 i k) := hw
          have hw_245 := hw
          obtain ⟨k_246, hk_246a, hk_246b, ek_246, hk_246c⟩ := hw_245
          subst ek_246
          rw [gA_fun hF_160] at hk_246c
          have hlt := WE.lt hk_246c (by omega) (by omega) (hu2 (by omega))
          have hFc := pg_free hD hS hA
          refine va_callv (va_runV (As := [.ref r_118, .int (nI i), .int (nI k_246)]) (rest := []) ⟨hx, hb, hml, hown, hts⟩ (s_X15_readTerm l dC dI cs ty gm L H.size F_152 h0 ρ ta ou so ad na va lc dm tg pe ml bg co sp nb0 nb1 nb2 pl se ke wi hs mo po nu pr sq xa sa n64 m64 ex wh sd tk hd ak ho ot sx s0 s1 s2 nf bd mm zt zo ze v11 v12 (nI cc) q15 q17 q18 q19 q20 q21 q22 v33 v52 v53 v54 r_118 f_130 i k_246 hW hL_h0 hT_h0 hi_122 ht_123 hu5 (by first | omega | assumption) (by first | omega | assumption) (by first | omega | assumption) (by first | omega | assumption) hF_160 (by first | omega | assumption) (hlt)) ⟨callB_of 3 hts (gi kt_810) rfl rfl rfl (hts _ kt_669) (hts _ kt_811) (by decide +kernel) ⟨Nat.le_of_ble_eq_true rfl, Nat.le_of_ble_eq_true rfl⟩, (hts _ kt_812), (hts _ kt_813)⟩ ⟨fun a U g mk q => ⟨q.1, PTEm.calling q.2⟩, pg_recv hK hP hL_h0 hu5 (q := (RX15, TX15, 59)) rfl, fun U hU hWm => ⟨rfl, PTEm.mk hU hWm hP hK hD hE hO hG (fun x hx => absurd hx List.not_mem_nil) hS hFc⟩⟩ rfl rfl hl.1 rfl (lv_room (Nat.le_of_ble_eq_true rfl)) dX15_check_190 ⟨by show _ + 0 ≤ 0; omega, by show _ + 0 ≤ 0; omega⟩) hS (fun q _ h => hFc q h) hFc (fun u t H1 locs ht hvm hw hB hz1 hk1 hS => ?_)
          obtain ⟨F_248, u17_249, u18_250, u19_251, u20_252, u21_253, u22_254, hB1, hq_255, hq_256⟩ := hB
          obtain ⟨hP, hD, hO, hR⟩ := QTm.back hB1 ht hFc hR (fun q h => by simp only [List.mem_cons, List.not_mem_nil, or_false] at h ⊢; omega)
          have hF_257 : F_248 va = .inl (cs 23, 40, .inr (.inr (.inr (.inr f_114)))) := (hB1.2.2.2 va (by rw [ht_12]; simp)).trans hF_158
          have hF_258 : F_248 b_117 = .inr (14, [.ref r_118, .int (nI z_125)]) := (hB1.2.2.2 b_117 (by rw [ht_121]; simp)).trans hF_159
          have hF_259 : F_248 r_118 = .inl (cs 17, 700, .inl f_130) := (hB1.2.2.2 r_118 (by rw [ht_123]; simp)).trans hF_160
          generalize H1 = H at hP hS ⊢
          refine lv_aload_n hx hb dX15_check_193 rfl (lv_at hl 5 rfl) ?_
          refine pg_get (ci := 15) (v := .int u17_249) (C := RX15) (T := TX15) (N := 59) hx hb hts it_15 hown hK hP hL_h0 hq_255 rfl 17 (by decide) (hts _ kt_750) (fun _ h9 => h9) rfl dX15_check_194 ?_
          refine lv_bipush (v := 6) hx hb dX15_check_197 (by decide) ?_
          refine lv_icmp_lt (tgt := 205) hx hb dX15_check_199 (by decide) (fun c_260 => ?_) (fun c_260 => ?_)
          ·
            refine lv_aload_n hx hb dX15_check_205 rfl (lv_at hl 5 rfl) ?_
            refine pg_get (ci := 15) (v := .int u18_250) (C := RX15) (T := TX15) (N := 59) hx hb hts it_15 hown hK hP hL_h0 hq_255 rfl 18 (by decide) (hts _ kt_759) (fun _ h9 => h9) rfl dX15_check_206 ?_
            refine lv_istore (lv' := [(8, .int u18_250), (7, .int (nI i)), (6, .int w6), (5, .int w5), (4, .ref b_117), (3, .int (nI jr)), (0, .ref h0), (1, .ref dd), (2, .int (nI lv))]) hx hb dX15_check_209 hl (by decide) rfl (fun ls hl => ?_)
            refine lv_aload_n hx hb dX15_check_211 rfl (lv_at hl 6 rfl) ?_
            refine lv_aload hx hb dX15_check_212 (lv_at hl 4 rfl) ?_
            refine lv_aload_n hx hb dX15_check_214 rfl (lv_at hl 7 rfl) ?_
            refine lv_iload_n hx hb dX15_check_215 rfl (lv_at hl 8 rfl) ?_
            obtain ⟨hi_261, ht_262, hq_263⟩ := hW.txt hL_pe hT_pe
            have hFc := pg_free hD hS hA
            refine va_calli (va_runV (As := [.ref b_117, .ref dd, .int (nI lv)]) (rest := []) ⟨hx, hb, hml, hown, hts⟩ (s_X15_matches l dC dI cs ty gm L H.size F_248 h0 ρ ta ou so ad na va lc dm tg pe ml bg co sp nb0 nb1 nb2 pl se ke wi hs mo po nu pr sq xa sa n64 m64 ex wh sd tk hd ak ho ot sx s0 s1 s2 nf bd mm zt rp zo ze v11 v12 q15 u17_249 u18_250 u19_251 u20_252 u21_253 u22_254 v33 v52 v53 v54 dd τ rd nd b_117 r_118 f_130 lv cc c fr lo hW hL_h0 hT_h0 hL_pe hT_pe hL_dd hT_dd hi_120 ht_121 hq_255 (by first | omega | assumption) (by first | omega | assumption) (by first | omega | assumption) (by first | omega | assumption) hF_259 (by first | omega | assumption) (by first | omega | assumption) (by omega) (by first | omega | assumption) (rtp_dok hq_256 c_260 (by omega)) (hC)) ⟨callB_of 3 hts (gi kt_814) rfl rfl rfl (hts _ kt_669) (hts _ kt_815) (by decide +kernel) ⟨by show fr + 5 + 1 ≤ fr + 7; omega, by show 8 + (10 + 11) + (lo + 129) ≤ lo + 158; omega⟩, (hts _ kt_816), (hts _ kt_817)⟩ ⟨fun a U g mk q => ⟨q.1, PTEm.calling q.2⟩, pg_recv hK hP hL_h0 hq_255 (q := (RX15, TX15, 59)) rfl, fun U hU hWm => ⟨rfl, PTEm.mk hU hWm hP hK hD hE hO hG (fun x hx => absurd hx List.not_mem_nil) hS hFc⟩⟩ rfl rfl hl.1 rfl (lv_room (Nat.le_of_ble_eq_true rfl)) dX15_check_216 ⟨by show _ + 0 ≤ 0; omega, by show _ + 0 ≤ 0; omega⟩) hS (fun q _ h => hFc q h) hFc (fun r_265 cu_264 t H1 locs ht hvm hw hB hz1 hk1 hS => ?_)
            obtain ⟨F_266, u15_267, u17_268, u18_269, u19_270, u20_271, u21_272, u22_273, hB1, hq_274, hq_275, hq_276⟩ := hB
            obtain ⟨hP, hD, hO, hR⟩ := QTm.back hB1 ht hFc hR (fun q h => by simp only [List.mem_cons, List.not_mem_nil, or_false] at h ⊢; omega)
            have hF_277 : F_266 va = .inl (cs 23, 40, .inr (.inr (.inr (.inr f_114)))) := (hB1.2.2.2 va (by rw [ht_12]; simp)).trans hF_257
            have hF_278 : F_266 b_117 = .inr (14, [.ref r_118, .int (nI z_125)]) := (hB1.2.2.2 b_117 (by rw [ht_121]; simp)).trans hF_258
            have hF_279 : F_266 r_118 = .inl (cs 17, 700, .inl f_130) := (hB1.2.2.2 r_118 (by rw [ht_123]; simp)).trans hF_259
            generalize H1 = H at hP hS ⊢
            have hw : (cu_264 = 11 → r_265 = 6) := hw
            have hw_280 := hw
            refine lv_istore (lv' := [(9, .int r_265), (8, .int u18_250), (7, .int (nI i)), (6, .int w6), (5, .int w5), (4, .ref b_117), (3, .int (nI jr)), (0, .ref h0), (1, .ref dd), (2, .int (nI lv))]) hx hb dX15_check_219 hl (by decide) rfl (fun ls hl => ?_)
            refine lv_iload hx hb dX15_check_221 (lv_at hl 0 rfl) ?_
            refine lv_iconst (v := 1) hx hb dX15_check_223 (by decide) ?_
            refine lv_icmp_le (tgt := 230) hx hb dX15_check_224 (by decide) (fun c_281 => ?_) (fun c_281 => ?_)
            ·
              have hle := le1_6 hw_280 c_281 (by omega)
              refine lv_iload hx hb dX15_check_230 (lv_at hl 0 rfl) ?_
              refine lv_iconst (v := 1) hx hb dX15_check_232 (by decide) ?_
              refine lv_icmp_ne (tgt := 271) hx hb dX15_check_233 (by decide) (fun c_282 => ?_) (fun c_282 => ?_)
              ·
                refine lv_aload hx hb dX15_check_271 (lv_at hl 5 rfl) ?_
                refine lv_aload hx hb dX15_check_273 (lv_at hl 5 rfl) ?_
                refine lv_iload hx hb dX15_check_275 (lv_at hl 2 rfl) ?_
                have hFc := pg_free hD hS hA
                refine va_calli (va_runS (As := [.ref b_117, .int (nI i)]) (rest := [.ref b_117]) ⟨hx, hb, hml, hown, hts⟩ (s_X15_wordEnd l dC dI cs ty gm L H.size F_266 b_117 (ρ + 31) r_118 700 z_125 i hW hi_120 ht_121 hF_278 (by first | omega | assumption) (by first | omega | assumption)) ⟨callB_of 2 hts (gi kt_807) rfl rfl rfl (hts _ kt_669) (hts _ kt_808) (by decide +kernel) ⟨Nat.le_of_ble_eq_true rfl, Nat.le_of_ble_eq_true rfl⟩, (hts _ kt_809)⟩ ⟨fun a U g mk q => ⟨q.1, PTm.calling q.2⟩, fun U hU hWm => ⟨rfl, PTm.mk hU hWm hP hK hD hE hO⟩⟩ rfl rfl hl.1 rfl (lv_room (Nat.le_of_ble_eq_true rfl)) dX15_check_277 ⟨by show _ + 0 ≤ 0; omega, by show _ + 0 ≤ 0; omega⟩) hS (fun q _ h => hFc q h) hFc (fun r_283 u t H1 locs ht hvm hw hB hz1 hk1 hS => ?_)
                obtain ⟨F_284, hB1⟩ := hB
                obtain rfl : F_266 = F_284 := (funext (fun a => hB1.2.2.2 a List.not_mem_nil)).symm
                obtain ⟨hP, hD, hO, hR⟩ := QTm.back hB1 ht hFc hR (fun q h => absurd h List.not_mem_nil)
                generalize H1 = H at hP hS ⊢
                have hw : (∃ k : Nat, i ≤ k ∧ k ≤ max i z_125 ∧ r_283 = nI k ∧ WE (gA (F_266 r_118)) z_125 i k) := hw
                have hw_285 := hw
                obtain ⟨k_286, hk_286a, hk_286b, ek_286, hk_286c⟩ := hw_285
                subst ek_286
                rw [gA_fun hF_279] at hk_286c
                have hlt2 := WE.lt hk_286c (by omega) (by omega) (hu2 (by omega))
                have hFc := pg_free hD hS hA
                refine va_calli (va_runS (As := [.ref b_117, .int (nI k_286)]) (rest := []) ⟨hx, hb, hml, hown, hts⟩ (s_X15_blankFrom l dC dI cs ty gm L H.size F_266 b_117 (ρ + 31) r_118 700 z_125 k_286 hW hi_120 ht_121 hF_278 (by first | omega | assumption) (by first | omega | assumption)) ⟨callB_of 2 hts (gi kt_804) rfl rfl rfl (hts _ kt_669) (hts _ kt_805) (by decide +kernel) ⟨Nat.le_of_ble_eq_true rfl, Nat.le_of_ble_eq_true rfl⟩, (hts _ kt_806)⟩ ⟨fun a U g mk q => ⟨q.1, PTm.calling q.2⟩, fun U hU hWm => ⟨rfl, PTm.mk hU hWm hP hK hD hE hO⟩⟩ rfl rfl hl.1 rfl (lv_room (Nat.le_of_ble_eq_true rfl)) dX15_check_280 ⟨by show _ + 0 ≤ 0; omega, by show _ + 0 ≤ 0; omega⟩) hS (fun q _ h => hFc q h) hFc (fun r_287 u t H1 locs ht hvm hw hB hz1 hk1 hS => ?_)
                obtain ⟨F_288, hB1⟩ := hB
                obtain rfl : F_266 = F_288 := (funext (fun a => hB1.2.2.2 a List.not_mem_nil)).symm
                obtain ⟨hP, hD, hO, hR⟩ := QTm.back hB1 ht hFc hR (fun q h => absurd h List.not_mem_nil)
                generalize H1 = H at hP hS ⊢
                have hw : (∃ k : Nat, k_286 ≤ k ∧ k ≤ max k_286 z_125 ∧ r_287 = nI k ∧ (k < z_125 → gA (F_266 r_118) k ≠ 32)) := hw
                have hw_289 := hw
                obtain ⟨k_290, hk_290a, hk_290b, ek_290, hk_290c⟩ := hw_289
                subst ek_290
                rw [gA_fun hF_279] at hk_290c
                refine lv_istore (lv' := [(7, .int (nI k_290)), (9, .int r_265), (8, .int u18_250), (6, .int w6), (5, .int w5), (4, .ref b_117), (3, .int (nI jr)), (0, .ref h0), (1, .ref dd), (2, .int (nI lv))]) hx hb dX15_check_283 hl (by decide) rfl (fun ls hl => ?_)
                refine lv_goto (tgt := 165) hx hb dX15_check_285 (by decide) ?_
                refine W.widen (k := 0) (n := 0) (by omega) (by omega) ?_
                exact ih_157 (k_290, cu_264, u15_267, u17_268, u18_269, u19_270, u20_271, u21_272, u22_273) F_266 (⟨by omega, hk_290c, by omega, by omega, hq_274⟩) (by show 701 - k_290 < 701 - i; omega) hO hR _ _ hP hD hS ls (lv_sub hl [0, 3, 4, 5, 6, 7, 8, 9] rfl)
              ·
                refine lv_iload hx hb dX15_check_236 (lv_at hl 1 rfl) ?_
                refine lv_bipush (v := 43) hx hb dX15_check_238 (by decide) ?_
                refine lv_icmp_ne (tgt := 247) hx hb dX15_check_240 (by decide) (fun c_291 => ?_) (fun c_291 => ?_)
                ·
                  refine lv_iload hx hb dX15_check_247 (lv_at hl 1 rfl) ?_
                  refine lv_bipush (v := 63) hx hb dX15_check_249 (by decide) ?_
                  refine lv_icmp_ne (tgt := 258) hx hb dX15_check_251 (by decide) (fun c_292 => ?_) (fun c_292 => ?_)
                  ·
                    refine lv_iload hx hb dX15_check_258 (lv_at hl 1 rfl) ?_
                    refine lv_bipush (v := 126) hx hb dX15_check_260 (by decide) ?_
                    refine lv_icmp_ne (tgt := 269) hx hb dX15_check_262 (by decide) (fun c_293 => ?_) (fun c_293 => ?_)
                    ·
                      refine lv_iconst (v := 3) hx hb dX15_check_269 (by decide) ?_
                      refine W.widen (k := 0) (n := 0) (by omega) (by omega) ?_
                      exact W.iret (v := 3) hx hb hr (fun t ht hWm => ⟨⟨3, cu_264, rfl, (fun h => by omega), ⟨F_266, u15_267, u17_268, u18_269, u19_270, u20_271, u21_272, u22_273, QTm.mk ht hP hD hO hR, hq_274, by omega, by omega⟩⟩, hS.F ht⟩) hS.2.2 dX15_check_270
                    ·
                      refine lv_iconst (v := 4) hx hb dX15_check_265 (by decide) ?_
                      refine lv_goto (tgt := 270) hx hb dX15_check_266 (by decide) ?_
                      refine W.widen (k := 0) (n := 0) (by omega) (by omega) ?_
                      exact W.iret (v := 4) hx hb hr (fun t ht hWm => ⟨⟨4, cu_264, rfl, (fun h => by omega), ⟨F_266, u15_267, u17_268, u18_269, u19_270, u20_271, u21_272, u22_273, QTm.mk ht hP hD hO hR, hq_274, by omega, by omega⟩⟩, hS.F ht⟩) hS.2.2 dX15_check_270
                  ·
                    refine lv_iconst (v := 1) hx hb dX15_check_254 (by decide) ?_
                    refine lv_goto (tgt := 270) hx hb dX15_check_255 (by decide) ?_
                    refine W.widen (k := 0) (n := 0) (by omega) (by omega) ?_
                    exact W.iret (v := 1) hx hb hr (fun t ht hWm => ⟨⟨1, cu_264, rfl, (fun h => by omega), ⟨F_266, u15_267, u17_268, u18_269, u19_270, u20_271, u21_272, u22_273, QTm.mk ht hP hD hO hR, hq_274, by omega, by omega⟩⟩, hS.F ht⟩) hS.2.2 dX15_check_270
                ·
                  refine lv_iconst (v := 2) hx hb dX15_check_243 (by decide) ?_
                  refine lv_goto (tgt := 270) hx hb dX15_check_244 (by decide) ?_
                  refine W.widen (k := 0) (n := 0) (by omega) (by omega) ?_
                  exact W.iret (v := 2) hx hb hr (fun t ht hWm => ⟨⟨2, cu_264, rfl, (fun h => by omega), ⟨F_266, u15_267, u17_268, u18_269, u19_270, u20_271, u21_272, u22_273, QTm.mk ht hP hD hO hR, hq_274, by omega, by omega⟩⟩, hS.F ht⟩) hS.2.2 dX15_check_270
            ·
              refine lv_iload hx hb dX15_check_227 (lv_at hl 0 rfl) ?_
              refine W.widen (k := 0) (n := 0) (by omega) (by omega) ?_
              exact W.iret (v := r_265) hx hb hr (fun t ht hWm => ⟨⟨r_265, cu_264, rfl, hw_280, ⟨F_266, u15_267, u17_268, u18_269, u19_270, u20_271, u21_272, u22_273, QTm.mk ht hP hD hO hR, hq_274, by omega, by omega⟩⟩, hS.F ht⟩) hS.2.2 dX15_check_229
          ·
            refine lv_goto (tgt := 271) hx hb dX15_check_202 (by decide) ?_
            refine lv_aload hx hb dX15_check_271 (lv_at hl 3 rfl) ?_
            refine lv_aload hx hb dX15_check_273 (lv_at hl 3 rfl) ?_
            refine lv_iload hx hb dX15_check_275 (lv_at hl 0 rfl) ?_
            have hFc := pg_free hD hS hA
            refine va_calli (va_runS (As := [.ref b_117, .int (nI i)]) (rest := [.ref b_117]) ⟨hx, hb, hml, hown, hts⟩ (s_X15_wordEnd l dC dI cs ty gm L H.size F_248 b_117 (ρ + 31) r_118 700 z_125 i hW hi_120 ht_121 hF_258 (by first | omega | assumption) (by first | omega | assumption)) ⟨callB_of 2 hts (gi kt_807) rfl rfl rfl (hts _ kt_669) (hts _ kt_808) (by decide +kernel) ⟨Nat.le_of_ble_eq_true rfl, Nat.le_of_ble_eq_true rfl⟩, (hts _ kt_809)⟩ ⟨fun a U g mk q => ⟨q.1, PTm.calling q.2⟩, fun U hU hWm => ⟨rfl, PTm.mk hU hWm hP hK hD hE hO⟩⟩ rfl rfl hl.1 rfl (lv_room (Nat.le_of_ble_eq_true rfl)) dX15_check_277 ⟨by show _ + 0 ≤ 0; omega, by show _ + 0 ≤ 0; omega⟩) hS (fun q _ h => hFc q h) hFc (fun r_294 u t H1 locs ht hvm hw hB hz1 hk1 hS => ?_)
            obtain ⟨F_295, hB1⟩ := hB
            obtain rfl : F_248 = F_295 := (funext (fun a => hB1.2.2.2 a List.not_mem_nil)).symm
            obtain ⟨hP, hD, hO, hR⟩ := QTm.back hB1 ht hFc hR (fun q h => absurd h List.not_mem_nil)
            generalize H1 = H at hP hS ⊢
            have hw : (∃ k : Nat, i ≤ k ∧ k ≤ max i z_125 ∧ r_294 = nI k ∧ WE (gA (F_248 r_118)) z_125 i k) := hw
            have hw_296 := hw
            obtain ⟨k_297, hk_297a, hk_297b, ek_297, hk_297c⟩ := hw_296
            subst ek_297
            rw [gA_fun hF_259] at hk_297c
            have hlt2 := WE.lt hk_297c (by omega) (by omega) (hu2 (by omega))
            have hFc := pg_free hD hS hA
            refine va_calli (va_runS (As := [.ref b_117, .int (nI k_297)]) (rest := []) ⟨hx, hb, hml, hown, hts⟩ (s_X15_blankFrom l dC dI cs ty gm L H.size F_248 b_117 (ρ + 31) r_118 700 z_125 k_297 hW hi_120 ht_121 hF_258 (by first | omega | assumption) (by first | omega | assumption)) ⟨callB_of 2 hts (gi kt_804) rfl rfl rfl (hts _ kt_669) (hts _ kt_805) (by decide +kernel) ⟨Nat.le_of_ble_eq_true rfl, Nat.le_of_ble_eq_true rfl⟩, (hts _ kt_806)⟩ ⟨fun a U g mk q => ⟨q.1, PTm.calling q.2⟩, fun U hU hWm => ⟨rfl, PTm.mk hU hWm hP hK hD hE hO⟩⟩ rfl rfl hl.1 rfl (lv_room (Nat.le_of_ble_eq_true rfl)) dX15_check_280 ⟨by show _ + 0 ≤ 0; omega, by show _ + 0 ≤ 0; omega⟩) hS (fun q _ h => hFc q h) hFc (fun r_298 u t H1 locs ht hvm hw hB hz1 hk1 hS => ?_)
            obtain ⟨F_299, hB1⟩ := hB
            obtain rfl : F_248 = F_299 := (funext (fun a => hB1.2.2.2 a List.not_mem_nil)).symm
            obtain ⟨hP, hD, hO, hR⟩ := QTm.back hB1 ht hFc hR (fun q h => absurd h List.not_mem_nil)
            generalize H1 = H at hP hS ⊢
            have hw : (∃ k : Nat, k_297 ≤ k ∧ k ≤ max k_297 z_125 ∧ r_298 = nI k ∧ (k < z_125 → gA (F_248 r_118) k ≠ 32)) := hw
            have hw_300 := hw
            obtain ⟨k_301, hk_301a, hk_301b, ek_301, hk_301c⟩ := hw_300
            subst ek_301
            rw [gA_fun hF_259] at hk_301c
            refine lv_istore (lv' := [(7, .int (nI k_301)), (6, .int w6), (5, .int w5), (4, .ref b_117), (3, .int (nI jr)), (0, .ref h0), (1, .ref dd), (2, .int (nI lv))]) hx hb dX15_check_283 hl (by decide) rfl (fun ls hl => ?_)
            refine lv_goto (tgt := 165) hx hb dX15_check_285 (by decide) ?_
            refine W.widen (k := 0) (n := 0) (by omega) (by omega) ?_
            exact ih_157 (k_301, cc, q15, u17_249, u18_250, u19_251, u20_252, u21_253, u22_254) F_248 (⟨by omega, hk_301c, by omega, by omega, hq_255⟩) (by show 701 - k_301 < 701 - i; omega) hO hR _ _ hP hD hS ls (lv_sub hl [0, 1, 2, 3, 4, 5, 6, 7] rfl)
      ·
        have hi_302 : j < z_125 := ltN (N := z_125) c_146
        refine lv_aload_n hx hb dX15_check_65 rfl (lv_at hl 5 rfl) ?_
        refine lv_aload hx hb dX15_check_66 (lv_at hl 3 rfl) ?_
        refine pg_get (ci := 14) (v := .ref r_118) (C := RX14) (T := TX14) (N := 2) hx hb hts it_14 hown hK hP hi_120 hF_144 rfl 0 (by decide) (hts _ kt_710) (fun _ h9 => h9) rfl dX15_check_68 ?_
        refine lv_iload hx hb dX15_check_71 (lv_at hl 0 rfl) ?_
        refine lv_aload hx hb dX15_check_73 (lv_at hl 3 rfl) ?_
        refine lv_iload hx hb dX15_check_75 (lv_at hl 0 rfl) ?_
        have hFc := pg_free hD hS hA
        refine va_calli (va_runS (As := [.ref b_117, .int (nI j)]) (rest := [.int (nI j), .ref r_118, .ref h0]) ⟨hx, hb, hml, hown, hts⟩ (s_X15_wordEnd l dC dI cs ty gm L H.size F_137 b_117 (ρ + 31) r_118 700 z_125 j hW hi_120 ht_121 hF_144 (by first | omega | assumption) (by first | omega | assumption)) ⟨callB_of 2 hts (gi kt_807) rfl rfl rfl (hts _ kt_669) (hts _ kt_808) (by decide +kernel) ⟨Nat.le_of_ble_eq_true rfl, Nat.le_of_ble_eq_true rfl⟩, (hts _ kt_809)⟩ ⟨fun a U g mk q => ⟨q.1, PTm.calling q.2⟩, fun U hU hWm => ⟨rfl, PTm.mk hU hWm hP hK hD hE hO⟩⟩ rfl rfl hl.1 rfl (lv_room (Nat.le_of_ble_eq_true rfl)) dX15_check_77 ⟨by show _ + 0 ≤ 0; omega, by show _ + 0 ≤ 0; omega⟩) hS (fun q _ h => hFc q h) hFc (fun r_303 u t H1 locs ht hvm hw hB hz1 hk1 hS => ?_)
        obtain ⟨F_304, hB1⟩ := hB
        obtain rfl : F_137 = F_304 := (funext (fun a => hB1.2.2.2 a List.not_mem_nil)).symm
        obtain ⟨hP, hD, hO, hR⟩ := QTm.back hB1 ht hFc hR (fun q h => absurd h List.not_mem_nil)
        generalize H1 = H at hP hS ⊢
        have hw : (∃ k : Nat, j ≤ k ∧ k ≤ max j z_125 ∧ r_303 = nI k ∧ WE (gA (F_137 r_118)) z_125 j k) := hw
        have hw_305 := hw
        obtain ⟨k_306, hk_306a, hk_306b, ek_306, hk_306c⟩ := hw_305
        subst ek_306
        rw [gA_fun hF_145] at hk_306c
        have hlt := WE.lt hk_306c (by omega) (by omega) (hv2 (by omega))
        have hFc := pg_free hD hS hA
        refine va_callv (va_runV (As := [.ref r_118, .int (nI j), .int (nI k_306)]) (rest := []) ⟨hx, hb, hml, hown, hts⟩ (s_X15_readTerm l dC dI cs ty gm L H.size F_137 h0 ρ ta ou so ad na va lc dm tg pe ml bg co sp nb0 nb1 nb2 pl se ke wi hs mo po nu pr sq xa sa n64 m64 ex wh sd tk hd ak ho ot sx s0 s1 s2 nf bd mm zt zo ze v11 v12 (nI c) v15 q17 q18 q19 q20 q21 q22 v33 v52 v53 v54 r_118 f_130 j k_306 hW hL_h0 hT_h0 hi_122 ht_123 hv4 (by first | omega | assumption) (by first | omega | assumption) (by first | omega | assumption) (by first | omega | assumption) hF_145 (by first | omega | assumption) (hlt)) ⟨callB_of 3 hts (gi kt_810) rfl rfl rfl (hts _ kt_669) (hts _ kt_811) (by decide +kernel) ⟨Nat.le_of_ble_eq_true rfl, Nat.le_of_ble_eq_true rfl⟩, (hts _ kt_812), (hts _ kt_813)⟩ ⟨fun a U g mk q => ⟨q.1, PTEm.calling q.2⟩, pg_recv hK hP hL_h0 hv4 (q := (RX15, TX15, 59)) rfl, fun U hU hWm => ⟨rfl, PTEm.mk hU hWm hP hK hD hE hO hG (fun x hx => absurd hx List.not_mem_nil) hS hFc⟩⟩ rfl rfl hl.1 rfl (lv_room (Nat.le_of_ble_eq_true rfl)) dX15_check_80 ⟨by show _ + 0 ≤ 0; omega, by show _ + 0 ≤ 0; omega⟩) hS (fun q _ h => hFc q h) hFc (fun u t H1 locs ht hvm hw hB hz1 hk1 hS => ?_)
        obtain ⟨F_308, u17_309, u18_310, u19_311, u20_312, u21_313, u22_314, hB1, hq_315, hq_316⟩ := hB
        obtain ⟨hP, hD, hO, hR⟩ := QTm.back hB1 ht hFc hR (fun q h => by simp only [List.mem_cons, List.not_mem_nil, or_false] at h ⊢; omega)
        have hF_317 : F_308 va = .inl (cs 23, 40, .inr (.inr (.inr (.inr f_114)))) := (hB1.2.2.2 va (by rw [ht_12]; simp)).trans hF_143
        have hF_318 : F_308 b_117 = .inr (14, [.ref r_118, .int (nI z_125)]) := (hB1.2.2.2 b_117 (by rw [ht_121]; simp)).trans hF_144
        have hF_319 : F_308 r_118 = .inl (cs 17, 700, .inl f_130) := (hB1.2.2.2 r_118 (by rw [ht_123]; simp)).trans hF_145
        generalize H1 = H at hP hS ⊢
        refine lv_aload_n hx hb dX15_check_83 rfl (lv_at hl 5 rfl) ?_
        refine pg_get (ci := 15) (v := .int u17_309) (C := RX15) (T := TX15) (N := 59) hx hb hts it_15 hown hK hP hL_h0 hq_315 rfl 17 (by decide) (hts _ kt_750) (fun _ h9 => h9) rfl dX15_check_84 ?_
        refine lv_bipush (v := 8) hx hb dX15_check_87 (by decide) ?_
        refine lv_icmp_eq (tgt := 106) hx hb dX15_check_89 (by decide) (fun c_320 => ?_) (fun c_320 => ?_)
        ·
          refine lv_bipush (v := 6) hx hb dX15_check_106 (by decide) ?_
          refine W.widen (k := 0) (n := 0) (by omega) (by omega) ?_
          exact W.iret (v := 6) hx hb hr (fun t ht hWm => ⟨⟨6, c, rfl, (fun _ => rfl), ⟨F_308, v15, u17_309, u18_310, u19_311, u20_312, u21_313, u22_314, QTm.mk ht hP hD hO hR, hq_315, by omega, by omega⟩⟩, hS.F ht⟩) hS.2.2 dX15_check_108
        ·
          refine lv_aload_n hx hb dX15_check_92 rfl (lv_at hl 5 rfl) ?_
          refine pg_get (ci := 15) (v := .int u17_309) (C := RX15) (T := TX15) (N := 59) hx hb hts it_15 hown hK hP hL_h0 hq_315 rfl 17 (by decide) (hts _ kt_750) (fun _ h9 => h9) rfl dX15_check_93 ?_
          refine lv_bipush (v := 6) hx hb dX15_check_96 (by decide) ?_
          refine lv_icmp_ne (tgt := 109) hx hb dX15_check_98 (by decide) (fun c_321 => ?_) (fun c_321 => ?_)
          ·
            refine lv_aload_n hx hb dX15_check_109 rfl (lv_at hl 5 rfl) ?_
            refine pg_get (ci := 15) (v := .int u17_309) (C := RX15) (T := TX15) (N := 59) hx hb hts it_15 hown hK hP hL_h0 hq_315 rfl 17 (by decide) (hts _ kt_750) (fun _ h9 => h9) rfl dX15_check_110 ?_
            refine lv_bipush (v := 6) hx hb dX15_check_113 (by decide) ?_
            refine lv_icmp_ne (tgt := 122) hx hb dX15_check_115 (by decide) (fun c_322 => ?_) (fun c_322 => ?_)
            ·
              refine lv_iload hx hb dX15_check_122 (lv_at hl 2 rfl) ?_
              refine lv_aload_n hx hb dX15_check_124 rfl (lv_at hl 5 rfl) ?_
              refine pg_get (ci := 15) (v := .int u17_309) (C := RX15) (T := TX15) (N := 59) hx hb hts it_15 hown hK hP hL_h0 hq_315 rfl 17 (by decide) (hts _ kt_750) (fun _ h9 => h9) rfl dX15_check_125 ?_
              refine lv_if_ne (tgt := 135) hx hb dX15_check_128 (by decide) (fun c_323 => ?_) (fun c_323 => ?_)
              ·
                refine lv_iconst (v := 0) hx hb dX15_check_135 (by decide) ?_
                refine lv_ior hx hb dX15_check_136 ?_
                refine lv_topi (fun x_324 _ => ?_)
                refine lv_istore (lv' := [(5, .int x_324), (7, .int (nI j)), (6, .int w6), (4, .ref b_117), (3, .int (nI jr)), (0, .ref h0), (1, .ref dd), (2, .int (nI lv))]) hx hb dX15_check_137 hl (by decide) rfl (fun ls hl => ?_)
                refine lv_aload hx hb dX15_check_139 (lv_at hl 3 rfl) ?_
                refine lv_aload hx hb dX15_check_141 (lv_at hl 3 rfl) ?_
                refine lv_iload hx hb dX15_check_143 (lv_at hl 1 rfl) ?_
                have hFc := pg_free hD hS hA
                refine va_calli (va_runS (As := [.ref b_117, .int (nI j)]) (rest := [.ref b_117]) ⟨hx, hb, hml, hown, hts⟩ (s_X15_wordEnd l dC dI cs ty gm L H.size F_308 b_117 (ρ + 31) r_118 700 z_125 j hW hi_120 ht_121 hF_318 (by first | omega | assumption) (by first | omega | assumption)) ⟨callB_of 2 hts (gi kt_807) rfl rfl rfl (hts _ kt_669) (hts _ kt_808) (by decide +kernel) ⟨Nat.le_of_ble_eq_true rfl, Nat.le_of_ble_eq_true rfl⟩, (hts _ kt_809)⟩ ⟨fun a U g mk q => ⟨q.1, PTm.calling q.2⟩, fun U hU hWm => ⟨rfl, PTm.mk hU hWm hP hK hD hE hO⟩⟩ rfl rfl hl.1 rfl (lv_room (Nat.le_of_ble_eq_true rfl)) dX15_check_145 ⟨by show _ + 0 ≤ 0; omega, by show _ + 0 ≤ 0; omega⟩) hS (fun q _ h => hFc q h) hFc (fun r_325 u t H1 locs ht hvm hw hB hz1 hk1 hS => ?_)
                obtain ⟨F_326, hB1⟩ := hB
                obtain rfl : F_308 = F_326 := (funext (fun a => hB1.2.2.2 a List.not_mem_nil)).symm
                obtain ⟨hP, hD, hO, hR⟩ := QTm.back hB1 ht hFc hR (fun q h => absurd h List.not_mem_nil)
                generalize H1 = H at hP hS ⊢
                have hw : (∃ k : Nat, j ≤ k ∧ k ≤ max j z_125 ∧ r_325 = nI k ∧ WE (gA (F_308 r_118)) z_125 j k) := hw
                have hw_327 := hw
                obtain ⟨k_328, hk_328a, hk_328b, ek_328, hk_328c⟩ := hw_327
                subst ek_328
                rw [gA_fun hF_319] at hk_328c
                have hlt2 := WE.lt hk_328c (by omega) (by omega) (hv2 (by omega))
                have hFc := pg_free hD hS hA
                refine va_calli (va_runS (As := [.ref b_117, .int (nI k_328)]) (rest := []) ⟨hx, hb, hml, hown, hts⟩ (s_X15_blankFrom l dC dI cs ty gm L H.size F_308 b_117 (ρ + 31) r_118 700 z_125 k_328 hW hi_120 ht_121 hF_318 (by first | omega | assumption) (by first | omega | assumption)) ⟨callB_of 2 hts (gi kt_804) rfl rfl rfl (hts _ kt_669) (hts _ kt_805) (by decide +kernel) ⟨Nat.le_of_ble_eq_true rfl, Nat.le_of_ble_eq_true rfl⟩, (hts _ kt_806)⟩ ⟨fun a U g mk q => ⟨q.1, PTm.calling q.2⟩, fun U hU hWm => ⟨rfl, PTm.mk hU hWm hP hK hD hE hO⟩⟩ rfl rfl hl.1 rfl (lv_room (Nat.le_of_ble_eq_true rfl)) dX15_check_148 ⟨by show _ + 0 ≤ 0; omega, by show _ + 0 ≤ 0; omega⟩) hS (fun q _ h => hFc q h) hFc (fun r_329 u t H1 locs ht hvm hw hB hz1 hk1 hS => ?_)
                obtain ⟨F_330, hB1⟩ := hB
                obtain rfl : F_308 = F_330 := (funext (fun a => hB1.2.2.2 a List.not_mem_nil)).symm
                obtain ⟨hP, hD, hO, hR⟩ := QTm.back hB1 ht hFc hR (fun q h => absurd h List.not_mem_nil)
                generalize H1 = H at hP hS ⊢
                have hw : (∃ k : Nat, k_328 ≤ k ∧ k ≤ max k_328 z_125 ∧ r_329 = nI k ∧ (k < z_125 → gA (F_308 r_118) k ≠ 32)) := hw
                have hw_331 := hw
                obtain ⟨k_332, hk_332a, hk_332b, ek_332, hk_332c⟩ := hw_331
                subst ek_332
                rw [gA_fun hF_319] at hk_332c
                refine lv_istore (lv' := [(7, .int (nI k_332)), (5, .int x_324), (6, .int w6), (4, .ref b_117), (3, .int (nI jr)), (0, .ref h0), (1, .ref dd), (2, .int (nI lv))]) hx hb dX15_check_151 hl (by decide) rfl (fun ls hl => ?_)
                refine lv_goto (tgt := 55) hx hb dX15_check_153 (by decide) ?_
                refine W.widen (k := 0) (n := 0) (by omega) (by omega) ?_
                exact ih_142 (k_332, x_324, w6, u17_309, u18_310, u19_311, u20_312, u21_313, u22_314) F_308 (⟨by omega, hk_332c, hv3, hq_315⟩) (by show 701 - k_332 < 701 - j; omega) hO hR _ _ hP hD hS ls (lv_sub hl [0, 2, 1, 3, 4, 5, 6, 7] rfl)
              ·
                refine lv_iconst (v := 1) hx hb dX15_check_131 (by decide) ?_
                refine lv_goto (tgt := 136) hx hb dX15_check_132 (by decide) ?_
                refine lv_ior hx hb dX15_check_136 ?_
                refine lv_topi (fun x_333 _ => ?_)
                refine lv_istore (lv' := [(5, .int x_333), (7, .int (nI j)), (6, .int w6), (4, .ref b_117), (3, .int (nI jr)), (0, .ref h0), (1, .ref dd), (2, .int (nI lv))]) hx hb dX15_check_137 hl (by decide) rfl (fun ls hl => ?_)
                refine lv_aload hx hb dX15_check_139 (lv_at hl 3 rfl) ?_
                refine lv_aload hx hb dX15_check_141 (lv_at hl 3 rfl) ?_
                refine lv_iload hx hb dX15_check_143 (lv_at hl 1 rfl) ?_
                have hFc := pg_free hD hS hA
                refine va_calli (va_runS (As := [.ref b_117, .int (nI j)]) (rest := [.ref b_117]) ⟨hx, hb, hml, hown, hts⟩ (s_X15_wordEnd l dC dI cs ty gm L H.size F_308 b_117 (ρ + 31) r_118 700 z_125 j hW hi_120 ht_121 hF_318 (by first | omega | assumption) (by first | omega | assumption)) ⟨callB_of 2 hts (gi kt_807) rfl rfl rfl (hts _ kt_669) (hts _ kt_808) (by decide +kernel) ⟨Nat.le_of_ble_eq_true rfl, Nat.le_of_ble_eq_true rfl⟩, (hts _ kt_809)⟩ ⟨fun a U g mk q => ⟨q.1, PTm.calling q.2⟩, fun U hU hWm => ⟨rfl, PTm.mk hU hWm hP hK hD hE hO⟩⟩ rfl rfl hl.1 rfl (lv_room (Nat.le_of_ble_eq_true rfl)) dX15_check_145 ⟨by show _ + 0 ≤ 0; omega, by show _ + 0 ≤ 0; omega⟩) hS (fun q _ h => hFc q h) hFc (fun r_334 u t H1 locs ht hvm hw hB hz1 hk1 hS => ?_)
                obtain ⟨F_335, hB1⟩ := hB
                obtain rfl : F_308 = F_335 := (funext (fun a => hB1.2.2.2 a List.not_mem_nil)).symm
                obtain ⟨hP, hD, hO, hR⟩ := QTm.back hB1 ht hFc hR (fun q h => absurd h List.not_mem_nil)
                generalize H1 = H at hP hS ⊢
                have hw : (∃ k : Nat, j ≤ k ∧ k ≤ max j z_125 ∧ r_334 = nI k ∧ WE (gA (F_308 r_118)) z_125 j k) := hw
                have hw_336 := hw
                obtain ⟨k_337, hk_337a, hk_337b, ek_337, hk_337c⟩ := hw_336
                subst ek_337
                rw [gA_fun hF_319] at hk_337c
                have hlt2 := WE.lt hk_337c (by omega) (by omega) (hv2 (by omega))
                have hFc := pg_free hD hS hA
                refine va_calli (va_runS (As := [.ref b_117, .int (nI k_337)]) (rest := []) ⟨hx, hb, hml, hown, hts⟩ (s_X15_blankFrom l dC dI cs ty gm L H.size F_308 b_117 (ρ + 31) r_118 700 z_125 k_337 hW hi_120 ht_121 hF_318 (by first | omega | assumption) (by first | omega | assumption)) ⟨callB_of 2 hts (gi kt_804) rfl rfl rfl (hts _ kt_669) (hts _ kt_805) (by decide +kernel) ⟨Nat.le_of_ble_eq_true rfl, Nat.le_of_ble_eq_true rfl⟩, (hts _ kt_806)⟩ ⟨fun a U g mk q => ⟨q.1, PTm.calling q.2⟩, fun U hU hWm => ⟨rfl, PTm.mk hU hWm hP hK hD hE hO⟩⟩ rfl rfl hl.1 rfl (lv_room (Nat.le_of_ble_eq_true rfl)) dX15_check_148 ⟨by show _ + 0 ≤ 0; omega, by show _ + 0 ≤ 0; omega⟩) hS (fun q _ h => hFc q h) hFc (fun r_338 u t H1 locs ht hvm hw hB hz1 hk1 hS => ?_)
                obtain ⟨F_339, hB1⟩ := hB
                obtain rfl : F_308 = F_339 := (funext (fun a => hB1.2.2.2 a List.not_mem_nil)).symm
                obtain ⟨hP, hD, hO, hR⟩ := QTm.back hB1 ht hFc hR (fun q h => absurd h List.not_mem_nil)
                generalize H1 = H at hP hS ⊢
                have hw : (∃ k : Nat, k_337 ≤ k ∧ k ≤ max k_337 z_125 ∧ r_338 = nI k ∧ (k < z_125 → gA (F_308 r_118) k ≠ 32)) := hw
                have hw_340 := hw
                obtain ⟨k_341, hk_341a, hk_341b, ek_341, hk_341c⟩ := hw_340
                subst ek_341
                rw [gA_fun hF_319] at hk_341c
                refine lv_istore (lv' := [(7, .int (nI k_341)), (5, .int x_333), (6, .int w6), (4, .ref b_117), (3, .int (nI jr)), (0, .ref h0), (1, .ref dd), (2, .int (nI lv))]) hx hb dX15_check_151 hl (by decide) rfl (fun ls hl => ?_)
                refine lv_goto (tgt := 55) hx hb dX15_check_153 (by decide) ?_
                refine W.widen (k := 0) (n := 0) (by omega) (by omega) ?_
                exact ih_142 (k_341, x_333, w6, u17_309, u18_310, u19_311, u20_312, u21_313, u22_314) F_308 (⟨by omega, hk_341c, hv3, hq_315⟩) (by show 701 - k_341 < 701 - j; omega) hO hR _ _ hP hD hS ls (lv_sub hl [0, 2, 1, 3, 4, 5, 6, 7] rfl)
            ·
              refine lv_iload hx hb dX15_check_118 (lv_at hl 0 rfl) ?_
              refine lv_istore (lv' := [(6, .int (nI j)), (7, .int (nI j)), (5, .int w5), (4, .ref b_117), (3, .int (nI jr)), (0, .ref h0), (1, .ref dd), (2, .int (nI lv))]) hx hb dX15_check_120 hl (by decide) rfl (fun ls hl => ?_)
              refine lv_iload hx hb dX15_check_122 (lv_at hl 2 rfl) ?_
              refine lv_aload_n hx hb dX15_check_124 rfl (lv_at hl 5 rfl) ?_
              refine pg_get (ci := 15) (v := .int u17_309) (C := RX15) (T := TX15) (N := 59) hx hb hts it_15 hown hK hP hL_h0 hq_315 rfl 17 (by decide) (hts _ kt_750) (fun _ h9 => h9) rfl dX15_check_125 ?_
              refine lv_if_ne (tgt := 135) hx hb dX15_check_128 (by decide) (fun c_342 => ?_) (fun c_342 => ?_)
              ·
                refine lv_iconst (v := 0) hx hb dX15_check_135 (by decide) ?_
                refine lv_ior hx hb dX15_check_136 ?_
                refine lv_topi (fun x_343 _ => ?_)
                refine lv_istore (lv' := [(5, .int x_343), (6, .int (nI j)), (7, .int (nI j)), (4, .ref b_117), (3, .int (nI jr)), (0, .ref h0), (1, .ref dd), (2, .int (nI lv))]) hx hb dX15_check_137 hl (by decide) rfl (fun ls hl => ?_)
                refine lv_aload hx hb dX15_check_139 (lv_at hl 3 rfl) ?_
                refine lv_aload hx hb dX15_check_141 (lv_at hl 3 rfl) ?_
                refine lv_iload hx hb dX15_check_143 (lv_at hl 2 rfl) ?_
                have hFc := pg_free hD hS hA
                refine va_calli (va_runS (As := [.ref b_117, .int (nI j)]) (rest := [.ref b_117]) ⟨hx, hb, hml, hown, hts⟩ (s_X15_wordEnd l dC dI cs ty gm L H.size F_308 b_117 (ρ + 31) r_118 700 z_125 j hW hi_120 ht_121 hF_318 (by first | omega | assumption) (by first | omega | assumption)) ⟨callB_of 2 hts (gi kt_807) rfl rfl rfl (hts _ kt_669) (hts _ kt_808) (by decide +kernel) ⟨Nat.le_of_ble_eq_true rfl, Nat.le_of_ble_eq_true rfl⟩, (hts _ kt_809)⟩ ⟨fun a U g mk q => ⟨q.1, PTm.calling q.2⟩, fun U hU hWm => ⟨rfl, PTm.mk hU hWm hP hK hD hE hO⟩⟩ rfl rfl hl.1 rfl (lv_room (Nat.le_of_ble_eq_true rfl)) dX15_check_145 ⟨by show _ + 0 ≤ 0; omega, by show _ + 0 ≤ 0; omega⟩) hS (fun q _ h => hFc q h) hFc (fun r_344 u t H1 locs ht hvm hw hB hz1 hk1 hS => ?_)
                obtain ⟨F_345, hB1⟩ := hB
                obtain rfl : F_308 = F_345 := (funext (fun a => hB1.2.2.2 a List.not_mem_nil)).symm
                obtain ⟨hP, hD, hO, hR⟩ := QTm.back hB1 ht hFc hR (fun q h => absurd h List.not_mem_nil)
                generalize H1 = H at hP hS ⊢
                have hw : (∃ k : Nat, j ≤ k ∧ k ≤ max j z_125 ∧ r_344 = nI k ∧ WE (gA (F_308 r_118)) z_125 j k) := hw
                have hw_346 := hw
                obtain ⟨k_347, hk_347a, hk_347b, ek_347, hk_347c⟩ := hw_346
                subst ek_347
                rw [gA_fun hF_319] at hk_347c
                have hlt2 := WE.lt hk_347c (by omega) (by omega) (hv2 (by omega))
                have hFc := pg_free hD hS hA
                refine va_calli (va_runS (As := [.ref b_117, .int (nI k_347)]) (rest := []) ⟨hx, hb, hml, hown, hts⟩ (s_X15_blankFrom l dC dI cs ty gm L H.size F_308 b_117 (ρ + 31) r_118 700 z_125 k_347 hW hi_120 ht_121 hF_318 (by first | omega | assumption) (by first | omega | assumption)) ⟨callB_of 2 hts (gi kt_804) rfl rfl rfl (hts _ kt_669) (hts _ kt_805) (by decide +kernel) ⟨Nat.le_of_ble_eq_true rfl, Nat.le_of_ble_eq_true rfl⟩, (hts _ kt_806)⟩ ⟨fun a U g mk q => ⟨q.1, PTm.calling q.2⟩, fun U hU hWm => ⟨rfl, PTm.mk hU hWm hP hK hD hE hO⟩⟩ rfl rfl hl.1 rfl (lv_room (Nat.le_of_ble_eq_true rfl)) dX15_check_148 ⟨by show _ + 0 ≤ 0; omega, by show _ + 0 ≤ 0; omega⟩) hS (fun q _ h => hFc q h) hFc (fun r_348 u t H1 locs ht hvm hw hB hz1 hk1 hS => ?_)
                obtain ⟨F_349, hB1⟩ := hB
                obtain rfl : F_308 = F_349 := (funext (fun a => hB1.2.2.2 a List.not_mem_nil)).symm
                obtain ⟨hP, hD, hO, hR⟩ := QTm.back hB1 ht hFc hR (fun q h => absurd h List.not_mem_nil)
                generalize H1 = H at hP hS ⊢
                have hw : (∃ k : Nat, k_347 ≤ k ∧ k ≤ max k_347 z_125 ∧ r_348 = nI k ∧ (k < z_125 → gA (F_308 r_118) k ≠ 32)) := hw
                have hw_350 := hw
                obtain ⟨k_351, hk_351a, hk_351b, ek_351, hk_351c⟩ := hw_350
                subst ek_351
                rw [gA_fun hF_319] at hk_351c
                refine lv_istore (lv' := [(7, .int (nI k_351)), (5, .int x_343), (6, .int (nI j)), (4, .ref b_117), (3, .int (nI jr)), (0, .ref h0), (1, .ref dd), (2, .int (nI lv))]) hx hb dX15_check_151 hl (by decide) rfl (fun ls hl => ?_)
                refine lv_goto (tgt := 55) hx hb dX15_check_153 (by decide) ?_
                refine W.widen (k := 0) (n := 0) (by omega) (by omega) ?_
                exact ih_142 (k_351, x_343, (nI j), u17_309, u18_310, u19_311, u20_312, u21_313, u22_314) F_308 (⟨by omega, hk_351c, (Or.inr ⟨j, k_306, rfl, by omega, by omega, by omega, hk_306c, (hq_316).2.1 c_322⟩), hq_315⟩) (by show 701 - k_351 < 701 - j; omega) hO hR _ _ hP hD hS ls (lv_sub hl [0, 2, 1, 3, 4, 5, 6, 7] rfl)
              ·
                refine lv_iconst (v := 1) hx hb dX15_check_131 (by decide) ?_
                refine lv_goto (tgt := 136) hx hb dX15_check_132 (by decide) ?_
                refine lv_ior hx hb dX15_check_136 ?_
                refine lv_topi (fun x_352 _ => ?_)
                refine lv_istore (lv' := [(5, .int x_352), (6, .int (nI j)), (7, .int (nI j)), (4, .ref b_117), (3, .int (nI jr)), (0, .ref h0), (1, .ref dd), (2, .int (nI lv))]) hx hb dX15_check_137 hl (by decide) rfl (fun ls hl => ?_)
                refine lv_aload hx hb dX15_check_139 (lv_at hl 3 rfl) ?_
                refine lv_aload hx hb dX15_check_141 (lv_at hl 3 rfl) ?_
                refine lv_iload hx hb dX15_check_143 (lv_at hl 2 rfl) ?_
                have hFc := pg_free hD hS hA
                refine va_calli (va_runS (As := [.ref b_117, .int (nI j)]) (rest := [.ref b_117]) ⟨hx, hb, hml, hown, hts⟩ (s_X15_wordEnd l dC dI cs ty gm L H.size F_308 b_117 (ρ + 31) r_118 700 z_125 j hW hi_120 ht_121 hF_318 (by first | omega | assumption) (by first | omega | assumption)) ⟨callB_of 2 hts (gi kt_807) rfl rfl rfl (hts _ kt_669) (hts _ kt_808) (by decide +kernel) ⟨Nat.le_of_ble_eq_true rfl, Nat.le_of_ble_eq_true rfl⟩, (hts _ kt_809)⟩ ⟨fun a U g mk q => ⟨q.1, PTm.calling q.2⟩, fun U hU hWm => ⟨rfl, PTm.mk hU hWm hP hK hD hE hO⟩⟩ rfl rfl hl.1 rfl (lv_room (Nat.le_of_ble_eq_true rfl)) dX15_check_145 ⟨by show _ + 0 ≤ 0; omega, by show _ + 0 ≤ 0; omega⟩) hS (fun q _ h => hFc q h) hFc (fun r_353 u t H1 locs ht hvm hw hB hz1 hk1 hS => ?_)
                obtain ⟨F_354, hB1⟩ := hB
                obtain rfl : F_308 = F_354 := (funext (fun a => hB1.2.2.2 a List.not_mem_nil)).symm
                obtain ⟨hP, hD, hO, hR⟩ := QTm.back hB1 ht hFc hR (fun q h => absurd h List.not_mem_nil)
                generalize H1 = H at hP hS ⊢
                have hw : (∃ k : Nat, j ≤ k ∧ k ≤ max j z_125 ∧ r_353 = nI k ∧ WE (gA (F_308 r_118)) z_125 j k) := hw
                have hw_355 := hw
                obtain ⟨k_356, hk_356a, hk_356b, ek_356, hk_356c⟩ := hw_355
                subst ek_356
                rw [gA_fun hF_319] at hk_356c
                have hlt2 := WE.lt hk_356c (by omega) (by omega) (hv2 (by omega))
                have hFc := pg_free hD hS hA
                refine va_calli (va_runS (As := [.ref b_117, .int (nI k_356)]) (rest := []) ⟨hx, hb, hml, hown, hts⟩ (s_X15_blankFrom l dC dI cs ty gm L H.size F_308 b_117 (ρ + 31) r_118 700 z_125 k_356 hW hi_120 ht_121 hF_318 (by first | omega | assumption) (by first | omega | assumption)) ⟨callB_of 2 hts (gi kt_804) rfl rfl rfl (hts _ kt_669) (hts _ kt_805) (by decide +kernel) ⟨Nat.le_of_ble_eq_true rfl, Nat.le_of_ble_eq_true rfl⟩, (hts _ kt_806)⟩ ⟨fun a U g mk q => ⟨q.1, PTm.calling q.2⟩, fun U hU hWm => ⟨rfl, PTm.mk hU hWm hP hK hD hE hO⟩⟩ rfl rfl hl.1 rfl (lv_room (Nat.le_of_ble_eq_true rfl)) dX15_check_148 ⟨by show _ + 0 ≤ 0; omega, by show _ + 0 ≤ 0; omega⟩) hS (fun q _ h => hFc q h) hFc (fun r_357 u t H1 locs ht hvm hw hB hz1 hk1 hS => ?_)
                obtain ⟨F_358, hB1⟩ := hB
                obtain rfl : F_308 = F_358 := (funext (fun a => hB1.2.2.2 a List.not_mem_nil)).symm
                obtain ⟨hP, hD, hO, hR⟩ := QTm.back hB1 ht hFc hR (fun q h => absurd h List.not_mem_nil)
                generalize H1 = H at hP hS ⊢
                have hw : (∃ k : Nat, k_356 ≤ k ∧ k ≤ max k_356 z_125 ∧ r_357 = nI k ∧ (k < z_125 → gA (F_308 r_118) k ≠ 32)) := hw
                have hw_359 := hw
                obtain ⟨k_360, hk_360a, hk_360b, ek_360, hk_360c⟩ := hw_359
                subst ek_360
                rw [gA_fun hF_319] at hk_360c
                refine lv_istore (lv' := [(7, .int (nI k_360)), (5, .int x_352), (6, .int (nI j)), (4, .ref b_117), (3, .int (nI jr)), (0, .ref h0), (1, .ref dd), (2, .int (nI lv))]) hx hb dX15_check_151 hl (by decide) rfl (fun ls hl => ?_)
                refine lv_goto (tgt := 55) hx hb dX15_check_153 (by decide) ?_
                refine W.widen (k := 0) (n := 0) (by omega) (by omega) ?_
                exact ih_142 (k_360, x_352, (nI j), u17_309, u18_310, u19_311, u20_312, u21_313, u22_314) F_308 (⟨by omega, hk_360c, (Or.inr ⟨j, k_306, rfl, by omega, by omega, by omega, hk_306c, (hq_316).2.1 c_322⟩), hq_315⟩) (by show 701 - k_360 < 701 - j; omega) hO hR _ _ hP hD hS ls (lv_sub hl [0, 2, 1, 3, 4, 5, 6, 7] rfl)
          ·
            refine lv_iload hx hb dX15_check_101 (lv_at hl 1 rfl) ?_
            refine lv_if_lt (tgt := 109) hx hb dX15_check_103 (by decide) (fun c_361 => ?_) (fun c_361 => ?_)
            ·
              refine lv_aload_n hx hb dX15_check_109 rfl (lv_at hl 5 rfl) ?_
              refine pg_get (ci := 15) (v := .int u17_309) (C := RX15) (T := TX15) (N := 59) hx hb hts it_15 hown hK hP hL_h0 hq_315 rfl 17 (by decide) (hts _ kt_750) (fun _ h9 => h9) rfl dX15_check_110 ?_
              refine lv_bipush (v := 6) hx hb dX15_check_113 (by decide) ?_
              refine lv_icmp_ne (tgt := 122) hx hb dX15_check_115 (by decide) (fun c_362 => ?_) (fun c_362 => ?_)
              ·
                refine lv_iload hx hb dX15_check_122 (lv_at hl 2 rfl) ?_
                refine lv_aload_n hx hb dX15_check_124 rfl (lv_at hl 5 rfl) ?_
                refine pg_get (ci := 15) (v := .int u17_309) (C := RX15) (T := TX15) (N := 59) hx hb hts it_15 hown hK hP hL_h0 hq_315 rfl 17 (by decide) (hts _ kt_750) (fun _ h9 => h9) rfl dX15_check_125 ?_
                refine lv_if_ne (tgt := 135) hx hb dX15_check_128 (by decide) (fun c_363 => ?_) (fun c_363 => ?_)
                ·
                  refine lv_iconst (v := 0) hx hb dX15_check_135 (by decide) ?_
                  refine lv_ior hx hb dX15_check_136 ?_
                  refine lv_topi (fun x_364 _ => ?_)
                  refine lv_istore (lv' := [(5, .int x_364), (7, .int (nI j)), (6, .int w6), (4, .ref b_117), (3, .int (nI jr)), (0, .ref h0), (1, .ref dd), (2, .int (nI lv))]) hx hb dX15_check_137 hl (by decide) rfl (fun ls hl => ?_)
                  refine lv_aload hx hb dX15_check_139 (lv_at hl 3 rfl) ?_
                  refine lv_aload hx hb dX15_check_141 (lv_at hl 3 rfl) ?_
                  refine lv_iload hx hb dX15_check_143 (lv_at hl 1 rfl) ?_
                  have hFc := pg_free hD hS hA
                  refine va_calli (va_runS (As := [.ref b_117, .int (nI j)]) (rest := [.ref b_117]) ⟨hx, hb, hml, hown, hts⟩ (s_X15_wordEnd l dC dI cs ty gm L H.size F_308 b_117 (ρ + 31) r_118 700 z_125 j hW hi_120 ht_121 hF_318 (by first | omega | assumption) (by first | omega | assumption)) ⟨callB_of 2 hts (gi kt_807) rfl rfl rfl (hts _ kt_669) (hts _ kt_808) (by decide +kernel) ⟨Nat.le_of_ble_eq_true rfl, Nat.le_of_ble_eq_true rfl⟩, (hts _ kt_809)⟩ ⟨fun a U g mk q => ⟨q.1, PTm.calling q.2⟩, fun U hU hWm => ⟨rfl, PTm.mk hU hWm hP hK hD hE hO⟩⟩ rfl rfl hl.1 rfl (lv_room (Nat.le_of_ble_eq_true rfl)) dX15_check_145 ⟨by show _ + 0 ≤ 0; omega, by show _ + 0 ≤ 0; omega⟩) hS (fun q _ h => hFc q h) hFc (fun r_365 u t H1 locs ht hvm hw hB hz1 hk1 hS => ?_)
                  obtain ⟨F_366, hB1⟩ := hB
                  obtain rfl : F_308 = F_366 := (funext (fun a => hB1.2.2.2 a List.not_mem_nil)).symm
                  obtain ⟨hP, hD, hO, hR⟩ := QTm.back hB1 ht hFc hR (fun q h => absurd h List.not_mem_nil)
                  generalize H1 = H at hP hS ⊢
                  have hw : (∃ k : Nat, j ≤ k ∧ k ≤ max j z_125 ∧ r_365 = nI k ∧ WE (gA (F_308 r_118)) z_125 j k) := hw
                  have hw_367 := hw
                  obtain ⟨k_368, hk_368a, hk_368b, ek_368, hk_368c⟩ := hw_367
                  subst ek_368
                  rw [gA_fun hF_319] at hk_368c
                  have hlt2 := WE.lt hk_368c (by omega) (by omega) (hv2 (by omega))
                  have hFc := pg_free hD hS hA
                  refine va_calli (va_runS (As := [.ref b_117, .int (nI k_368)]) (rest := []) ⟨hx, hb, hml, hown, hts⟩ (s_X15_blankFrom l dC dI cs ty gm L H.size F_308 b_117 (ρ + 31) r_118 700 z_125 k_368 hW hi_120 ht_121 hF_318 (by first | omega | assumption) (by first | omega | assumption)) ⟨callB_of 2 hts (gi kt_804) rfl rfl rfl (hts _ kt_669) (hts _ kt_805) (by decide +kernel) ⟨Nat.le_of_ble_eq_true rfl, Nat.le_of_ble_eq_true rfl⟩, (hts _ kt_806)⟩ ⟨fun a U g mk q => ⟨q.1, PTm.calling q.2⟩, fun U hU hWm => ⟨rfl, PTm.mk hU hWm hP hK hD hE hO⟩⟩ rfl rfl hl.1 rfl (lv_room (Nat.le_of_ble_eq_true rfl)) dX15_check_148 ⟨by show _ + 0 ≤ 0; omega, by show _ + 0 ≤ 0; omega⟩) hS (fun q _ h => hFc q h) hFc (fun r_369 u t H1 locs ht hvm hw hB hz1 hk1 hS => ?_)
                  obtain ⟨F_370, hB1⟩ := hB
                  obtain rfl : F_308 = F_370 := (funext (fun a => hB1.2.2.2 a List.not_mem_nil)).symm
                  obtain ⟨hP, hD, hO, hR⟩ := QTm.back hB1 ht hFc hR (fun q h => absurd h List.not_mem_nil)
                  generalize H1 = H at hP hS ⊢
                  have hw : (∃ k : Nat, k_368 ≤ k ∧ k ≤ max k_368 z_125 ∧ r_369 = nI k ∧ (k < z_125 → gA (F_308 r_118) k ≠ 32)) := hw
                  have hw_371 := hw
                  obtain ⟨k_372, hk_372a, hk_372b, ek_372, hk_372c⟩ := hw_371
                  subst ek_372
                  rw [gA_fun hF_319] at hk_372c
                  refine lv_istore (lv' := [(7, .int (nI k_372)), (5, .int x_364), (6, .int w6), (4, .ref b_117), (3, .int (nI jr)), (0, .ref h0), (1, .ref dd), (2, .int (nI lv))]) hx hb dX15_check_151 hl (by decide) rfl (fun ls hl => ?_)
                  refine lv_goto (tgt := 55) hx hb dX15_check_153 (by decide) ?_
                  refine W.widen (k := 0) (n := 0) (by omega) (by omega) ?_
                  exact ih_142 (k_372, x_364, w6, u17_309, u18_310, u19_311, u20_312, u21_313, u22_314) F_308 (⟨by omega, hk_372c, hv3, hq_315⟩) (by show 701 - k_372 < 701 - j; omega) hO hR _ _ hP hD hS ls (lv_sub hl [0, 2, 1, 3, 4, 5, 6, 7] rfl)
                ·
                  refine lv_iconst (v := 1) hx hb dX15_check_131 (by decide) ?_
                  refine lv_goto (tgt := 136) hx hb dX15_check_132 (by decide) ?_
                  refine lv_ior hx hb dX15_check_136 ?_
                  refine lv_topi (fun x_373 _ => ?_)
                  refine lv_istore (lv' := [(5, .int x_373), (7, .int (nI j)), (6, .int w6), (4, .ref b_117), (3, .int (nI jr)), (0, .ref h0), (1, .ref dd), (2, .int (nI lv))]) hx hb dX15_check_137 hl (by decide) rfl (fun ls hl => ?_)
                  refine lv_aload hx hb dX15_check_139 (lv_at hl 3 rfl) ?_
                  refine lv_aload hx hb dX15_check_141 (lv_at hl 3 rfl) ?_
                  refine lv_iload hx hb dX15_check_143 (lv_at hl 1 rfl) ?_
                  have hFc := pg_free hD hS hA
                  refine va_calli (va_runS (As := [.ref b_117, .int (nI j)]) (rest := [.ref b_117]) ⟨hx, hb, hml, hown, hts⟩ (s_X15_wordEnd l dC dI cs ty gm L H.size F_308 b_117 (ρ + 31) r_118 700 z_125 j hW hi_120 ht_121 hF_318 (by first | omega | assumption) (by first | omega | assumption)) ⟨callB_of 2 hts (gi kt_807) rfl rfl rfl (hts _ kt_669) (hts _ kt_808) (by decide +kernel) ⟨Nat.le_of_ble_eq_true rfl, Nat.le_of_ble_eq_true rfl⟩, (hts _ kt_809)⟩ ⟨fun a U g mk q => ⟨q.1, PTm.calling q.2⟩, fun U hU hWm => ⟨rfl, PTm.mk hU hWm hP hK hD hE hO⟩⟩ rfl rfl hl.1 rfl (lv_room (Nat.le_of_ble_eq_true rfl)) dX15_check_145 ⟨by show _ + 0 ≤ 0; omega, by show _ + 0 ≤ 0; omega⟩) hS (fun q _ h => hFc q h) hFc (fun r_374 u t H1 locs ht hvm hw hB hz1 hk1 hS => ?_)
                  obtain ⟨F_375, hB1⟩ := hB
                  obtain rfl : F_308 = F_375 := (funext (fun a => hB1.2.2.2 a List.not_mem_nil)).symm
                  obtain ⟨hP, hD, hO, hR⟩ := QTm.back hB1 ht hFc hR (fun q h => absurd h List.not_mem_nil)
                  generalize H1 = H at hP hS ⊢
                  have hw : (∃ k : Nat, j ≤ k ∧ k ≤ max j z_125 ∧ r_374 = nI k ∧ WE (gA (F_308 r_118)) z_125 j k) := hw
                  have hw_376 := hw
                  obtain ⟨k_377, hk_377a, hk_377b, ek_377, hk_377c⟩ := hw_376
                  subst ek_377
                  rw [gA_fun hF_319] at hk_377c
                  have hlt2 := WE.lt hk_377c (by omega) (by omega) (hv2 (by omega))
                  have hFc := pg_free hD hS hA
                  refine va_calli (va_runS (As := [.ref b_117, .int (nI k_377)]) (rest := []) ⟨hx, hb, hml, hown, hts⟩ (s_X15_blankFrom l dC dI cs ty gm L H.size F_308 b_117 (ρ + 31) r_118 700 z_125 k_377 hW hi_120 ht_121 hF_318 (by first | omega | assumption) (by first | omega | assumption)) ⟨callB_of 2 hts (gi kt_804) rfl rfl rfl (hts _ kt_669) (hts _ kt_805) (by decide +kernel) ⟨Nat.le_of_ble_eq_true rfl, Nat.le_of_ble_eq_true rfl⟩, (hts _ kt_806)⟩ ⟨fun a U g mk q => ⟨q.1, PTm.calling q.2⟩, fun U hU hWm => ⟨rfl, PTm.mk hU hWm hP hK hD hE hO⟩⟩ rfl rfl hl.1 rfl (lv_room (Nat.le_of_ble_eq_true rfl)) dX15_check_148 ⟨by show _ + 0 ≤ 0; omega, by show _ + 0 ≤ 0; omega⟩) hS (fun q _ h => hFc q h) hFc (fun r_378 u t H1 locs ht hvm hw hB hz1 hk1 hS => ?_)
                  obtain ⟨F_379, hB1⟩ := hB
                  obtain rfl : F_308 = F_379 := (funext (fun a => hB1.2.2.2 a List.not_mem_nil)).symm
                  obtain ⟨hP, hD, hO, hR⟩ := QTm.back hB1 ht hFc hR (fun q h => absurd h List.not_mem_nil)
                  generalize H1 = H at hP hS ⊢
                  have hw : (∃ k : Nat, k_377 ≤ k ∧ k ≤ max k_377 z_125 ∧ r_378 = nI k ∧ (k < z_125 → gA (F_308 r_118) k ≠ 32)) := hw
                  have hw_380 := hw
                  obtain ⟨k_381, hk_381a, hk_381b, ek_381, hk_381c⟩ := hw_380
                  subst ek_381
                  rw [gA_fun hF_319] at hk_381c
                  refine lv_istore (lv' := [(7, .int (nI k_381)), (5, .int x_373), (6, .int w6), (4, .ref b_117), (3, .int (nI jr)), (0, .ref h0), (1, .ref dd), (2, .int (nI lv))]) hx hb dX15_check_151 hl (by decide) rfl (fun ls hl => ?_)
                  refine lv_goto (tgt := 55) hx hb dX15_check_153 (by decide) ?_
                  refine W.widen (k := 0) (n := 0) (by omega) (by omega) ?_
                  exact ih_142 (k_381, x_373, w6, u17_309, u18_310, u19_311, u20_312, u21_313, u22_314) F_308 (⟨by omega, hk_381c, hv3, hq_315⟩) (by show 701 - k_381 < 701 - j; omega) hO hR _ _ hP hD hS ls (lv_sub hl [0, 2, 1, 3, 4, 5, 6, 7] rfl)
              ·
                refine lv_iload hx hb dX15_check_118 (lv_at hl 0 rfl) ?_
                refine lv_istore (lv' := [(6, .int (nI j)), (7, .int (nI j)), (5, .int w5), (4, .ref b_117), (3, .int (nI jr)), (0, .ref h0), (1, .ref dd), (2, .int (nI lv))]) hx hb dX15_check_120 hl (by decide) rfl (fun ls hl => ?_)
                refine lv_iload hx hb dX15_check_122 (lv_at hl 2 rfl) ?_
                refine lv_aload_n hx hb dX15_check_124 rfl (lv_at hl 5 rfl) ?_
                refine pg_get (ci := 15) (v := .int u17_309) (C := RX15) (T := TX15) (N := 59) hx hb hts it_15 hown hK hP hL_h0 hq_315 rfl 17 (by decide) (hts _ kt_750) (fun _ h9 => h9) rfl dX15_check_125 ?_
                refine lv_if_ne (tgt := 135) hx hb dX15_check_128 (by decide) (fun c_382 => ?_) (fun c_382 => ?_)
                ·
                  refine lv_iconst (v := 0) hx hb dX15_check_135 (by decide) ?_
                  refine lv_ior hx hb dX15_check_136 ?_
                  refine lv_topi (fun x_383 _ => ?_)
                  refine lv_istore (lv' := [(5, .int x_383), (6, .int (nI j)), (7, .int (nI j)), (4, .ref b_117), (3, .int (nI jr)), (0, .ref h0), (1, .ref dd), (2, .int (nI lv))]) hx hb dX15_check_137 hl (by decide) rfl (fun ls hl => ?_)
                  refine lv_aload hx hb dX15_check_139 (lv_at hl 3 rfl) ?_
                  refine lv_aload hx hb dX15_check_141 (lv_at hl 3 rfl) ?_
                  refine lv_iload hx hb dX15_check_143 (lv_at hl 2 rfl) ?_
                  have hFc := pg_free hD hS hA
                  refine va_calli (va_runS (As := [.ref b_117, .int (nI j)]) (rest := [.ref b_117]) ⟨hx, hb, hml, hown, hts⟩ (s_X15_wordEnd l dC dI cs ty gm L H.size F_308 b_117 (ρ + 31) r_118 700 z_125 j hW hi_120 ht_121 hF_318 (by first | omega | assumption) (by first | omega | assumption)) ⟨callB_of 2 hts (gi kt_807) rfl rfl rfl (hts _ kt_669) (hts _ kt_808) (by decide +kernel) ⟨Nat.le_of_ble_eq_true rfl, Nat.le_of_ble_eq_true rfl⟩, (hts _ kt_809)⟩ ⟨fun a U g mk q => ⟨q.1, PTm.calling q.2⟩, fun U hU hWm => ⟨rfl, PTm.mk hU hWm hP hK hD hE hO⟩⟩ rfl rfl hl.1 rfl (lv_room (Nat.le_of_ble_eq_true rfl)) dX15_check_145 ⟨by show _ + 0 ≤ 0; omega, by show _ + 0 ≤ 0; omega⟩) hS (fun q _ h => hFc q h) hFc (fun r_384 u t H1 locs ht hvm hw hB hz1 hk1 hS => ?_)
                  obtain ⟨F_385, hB1⟩ := hB
                  obtain rfl : F_308 = F_385 := (funext (fun a => hB1.2.2.2 a List.not_mem_nil)).symm
                  obtain ⟨hP, hD, hO, hR⟩ := QTm.back hB1 ht hFc hR (fun q h => absurd h List.not_mem_nil)
                  generalize H1 = H at hP hS ⊢
                  have hw : (∃ k : Nat, j ≤ k ∧ k ≤ max j z_125 ∧ r_384 = nI k ∧ WE (gA (F_308 r_118)) z_125 j k) := hw
                  have hw_386 := hw
                  obtain ⟨k_387, hk_387a, hk_387b, ek_387, hk_387c⟩ := hw_386
                  subst ek_387
                  rw [gA_fun hF_319] at hk_387c
                  have hlt2 := WE.lt hk_387c (by omega) (by omega) (hv2 (by omega))
                  have hFc := pg_free hD hS hA
                  refine va_calli (va_runS (As := [.ref b_117, .int (nI k_387)]) (rest := []) ⟨hx, hb, hml, hown, hts⟩ (s_X15_blankFrom l dC dI cs ty gm L H.size F_308 b_117 (ρ + 31) r_118 700 z_125 k_387 hW hi_120 ht_121 hF_318 (by first | omega | assumption) (by first | omega | assumption)) ⟨callB_of 2 hts (gi kt_804) rfl rfl rfl (hts _ kt_669) (hts _ kt_805) (by decide +kernel) ⟨Nat.le_of_ble_eq_true rfl, Nat.le_of_ble_eq_true rfl⟩, (hts _ kt_806)⟩ ⟨fun a U g mk q => ⟨q.1, PTm.calling q.2⟩, fun U hU hWm => ⟨rfl, PTm.mk hU hWm hP hK hD hE hO⟩⟩ rfl rfl hl.1 rfl (lv_room (Nat.le_of_ble_eq_true rfl)) dX15_check_148 ⟨by show _ + 0 ≤ 0; omega, by show _ + 0 ≤ 0; omega⟩) hS (fun q _ h => hFc q h) hFc (fun r_388 u t H1 locs ht hvm hw hB hz1 hk1 hS => ?_)
                  obtain ⟨F_389, hB1⟩ := hB
                  obtain rfl : F_308 = F_389 := (funext (fun a => hB1.2.2.2 a List.not_mem_nil)).symm
                  obtain ⟨hP, hD, hO, hR⟩ := QTm.back hB1 ht hFc hR (fun q h => absurd h List.not_mem_nil)
                  generalize H1 = H at hP hS ⊢
                  have hw : (∃ k : Nat, k_387 ≤ k ∧ k ≤ max k_387 z_125 ∧ r_388 = nI k ∧ (k < z_125 → gA (F_308 r_118) k ≠ 32)) := hw
                  have hw_390 := hw
                  obtain ⟨k_391, hk_391a, hk_391b, ek_391, hk_391c⟩ := hw_390
                  subst ek_391
                  rw [gA_fun hF_319] at hk_391c
                  refine lv_istore (lv' := [(7, .int (nI k_391)), (5, .int x_383), (6, .int (nI j)), (4, .ref b_117), (3, .int (nI jr)), (0, .ref h0), (1, .ref dd), (2, .int (nI lv))]) hx hb dX15_check_151 hl (by decide) rfl (fun ls hl => ?_)
                  refine lv_goto (tgt := 55) hx hb dX15_check_153 (by decide) ?_
                  refine W.widen (k := 0) (n := 0) (by omega) (by omega) ?_
                  exact ih_142 (k_391, x_383, (nI j), u17_309, u18_310, u19_311, u20_312, u21_313, u22_314) F_308 (⟨by omega, hk_391c, (Or.inr ⟨j, k_306, rfl, by omega, by omega, by omega, hk_306c, (hq_316).2.1 c_362⟩), hq_315⟩) (by show 701 - k_391 < 701 - j; omega) hO hR _ _ hP hD hS ls (lv_sub hl [0, 2, 1, 3, 4, 5, 6, 7] rfl)
                ·
                  refine lv_iconst (v := 1) hx hb dX15_check_131 (by decide) ?_
                  refine lv_goto (tgt := 136) hx hb dX15_check_132 (by decide) ?_
                  refine lv_ior hx hb dX15_check_136 ?_
                  refine lv_topi (fun x_392 _ => ?_)
                  refine lv_istore (lv' := [(5, .int x_392), (6, .int (nI j)), (7, .int (nI j)), (4, .ref b_117), (3, .int (nI jr)), (0, .ref h0), (1, .ref dd), (2, .int (nI lv))]) hx hb dX15_check_137 hl (by decide) rfl (fun ls hl => ?_)
                  refine lv_aload hx hb dX15_check_139 (lv_at hl 3 rfl) ?_
                  refine lv_aload hx hb dX15_check_141 (lv_at hl 3 rfl) ?_
                  refine lv_iload hx hb dX15_check_143 (lv_at hl 2 rfl) ?_
                  have hFc := pg_free hD hS hA
                  refine va_calli (va_runS (As := [.ref b_117, .int (nI j)]) (rest := [.ref b_117]) ⟨hx, hb, hml, hown, hts⟩ (s_X15_wordEnd l dC dI cs ty gm L H.size F_308 b_117 (ρ + 31) r_118 700 z_125 j hW hi_120 ht_121 hF_318 (by first | omega | assumption) (by first | omega | assumption)) ⟨callB_of 2 hts (gi kt_807) rfl rfl rfl (hts _ kt_669) (hts _ kt_808) (by decide +kernel) ⟨Nat.le_of_ble_eq_true rfl, Nat.le_of_ble_eq_true rfl⟩, (hts _ kt_809)⟩ ⟨fun a U g mk q => ⟨q.1, PTm.calling q.2⟩, fun U hU hWm => ⟨rfl, PTm.mk hU hWm hP hK hD hE hO⟩⟩ rfl rfl hl.1 rfl (lv_room (Nat.le_of_ble_eq_true rfl)) dX15_check_145 ⟨by show _ + 0 ≤ 0; omega, by show _ + 0 ≤ 0; omega⟩) hS (fun q _ h => hFc q h) hFc (fun r_393 u t H1 locs ht hvm hw hB hz1 hk1 hS => ?_)
                  obtain ⟨F_394, hB1⟩ := hB
                  obtain rfl : F_308 = F_394 := (funext (fun a => hB1.2.2.2 a List.not_mem_nil)).symm
                  obtain ⟨hP, hD, hO, hR⟩ := QTm.back hB1 ht hFc hR (fun q h => absurd h List.not_mem_nil)
                  generalize H1 = H at hP hS ⊢
                  have hw : (∃ k : Nat, j ≤ k ∧ k ≤ max j z_125 ∧ r_393 = nI k ∧ WE (gA (F_308 r_118)) z_125 j k) := hw
                  have hw_395 := hw
                  obtain ⟨k_396, hk_396a, hk_396b, ek_396, hk_396c⟩ := hw_395
                  subst ek_396
                  rw [gA_fun hF_319] at hk_396c
                  have hlt2 := WE.lt hk_396c (by omega) (by omega) (hv2 (by omega))
                  have hFc := pg_free hD hS hA
                  refine va_calli (va_runS (As := [.ref b_117, .int (nI k_396)]) (rest := []) ⟨hx, hb, hml, hown, hts⟩ (s_X15_blankFrom l dC dI cs ty gm L H.size F_308 b_117 (ρ + 31) r_118 700 z_125 k_396 hW hi_120 ht_121 hF_318 (by first | omega | assumption) (by first | omega | assumption)) ⟨callB_of 2 hts (gi kt_804) rfl rfl rfl (hts _ kt_669) (hts _ kt_805) (by decide +kernel) ⟨Nat.le_of_ble_eq_true rfl, Nat.le_of_ble_eq_true rfl⟩, (hts _ kt_806)⟩ ⟨fun a U g mk q => ⟨q.1, PTm.calling q.2⟩, fun U hU hWm => ⟨rfl, PTm.mk hU hWm hP hK hD hE hO⟩⟩ rfl rfl hl.1 rfl (lv_room (Nat.le_of_ble_eq_true rfl)) dX15_check_148 ⟨by show _ + 0 ≤ 0; omega, by show _ + 0 ≤ 0; omega⟩) hS (fun q _ h => hFc q h) hFc (fun r_397 u t H1 locs ht hvm hw hB hz1 hk1 hS => ?_)
                  obtain ⟨F_398, hB1⟩ := hB
                  obtain rfl : F_308 = F_398 := (funext (fun a => hB1.2.2.2 a List.not_mem_nil)).symm
                  obtain ⟨hP, hD, hO, hR⟩ := QTm.back hB1 ht hFc hR (fun q h => absurd h List.not_mem_nil)
                  generalize H1 = H at hP hS ⊢
                  have hw : (∃ k : Nat, k_396 ≤ k ∧ k ≤ max k_396 z_125 ∧ r_397 = nI k ∧ (k < z_125 → gA (F_308 r_118) k ≠ 32)) := hw
                  have hw_399 := hw
                  obtain ⟨k_400, hk_400a, hk_400b, ek_400, hk_400c⟩ := hw_399
                  subst ek_400
                  rw [gA_fun hF_319] at hk_400c
                  refine lv_istore (lv' := [(7, .int (nI k_400)), (5, .int x_392), (6, .int (nI j)), (4, .ref b_117), (3, .int (nI jr)), (0, .ref h0), (1, .ref dd), (2, .int (nI lv))]) hx hb dX15_check_151 hl (by decide) rfl (fun ls hl => ?_)
                  refine lv_goto (tgt := 55) hx hb dX15_check_153 (by decide) ?_
                  refine W.widen (k := 0) (n := 0) (by omega) (by omega) ?_
                  exact ih_142 (k_400, x_392, (nI j), u17_309, u18_310, u19_311, u20_312, u21_313, u22_314) F_308 (⟨by omega, hk_400c, (Or.inr ⟨j, k_306, rfl, by omega, by omega, by omega, hk_306c, (hq_316).2.1 c_362⟩), hq_315⟩) (by show 701 - k_400 < 701 - j; omega) hO hR _ _ hP hD hS ls (lv_sub hl [0, 2, 1, 3, 4, 5, 6, 7] rfl)
            ·
              refine lv_bipush (v := 6) hx hb dX15_check_106 (by decide) ?_
              refine W.widen (k := 0) (n := 0) (by omega) (by omega) ?_
              exact W.iret (v := 6) hx hb hr (fun t ht hWm => ⟨⟨6, c, rfl, (fun _ => rfl), ⟨F_308, v15, u17_309, u18_310, u19_311, u20_312, u21_313, u22_314, QTm.mk ht hP hD hO hR, hq_315, by omega, by omega⟩⟩, hS.F ht⟩) hS.2.2 dX15_check_108
    ·
      refine lv_iload_n hx hb dX15_check_20 rfl (lv_at hl 0 rfl) ?_
      refine lv_iconst (v := (-1)) hx hb dX15_check_21 (by decide) ?_
      refine lv_icmp_ne (tgt := 29) hx hb dX15_check_22 (by decide) (fun c_401 => ?_) (fun c_401 => ?_)
      ·
        refine lv_bipush (v := 6) hx hb dX15_check_29 (by decide) ?_
        refine W.widen (k := 0) (n := 0) (by omega) (by omega) ?_
        exact W.iret (v := 6) hx hb hr (fun t ht hWm => ⟨⟨6, c, rfl, (fun _ => rfl), ⟨F, v15, v17, v18, v19, v20, v21, v22, QTm.mk ht hP hD hO hR, hF0, by omega, by omega⟩⟩, hS.F ht⟩) hS.2.2 dX15_check_31
      ·
        refine lv_iconst (v := 0) hx hb dX15_check_25 (by decide) ?_
        refine lv_goto (tgt := 31) hx hb dX15_check_26 (by decide) ?_
        refine W.widen (k := 0) (n := 0) (by omega) (by omega) ?_
        exact W.iret (v := 0) hx hb hr (fun t ht hWm => ⟨⟨0, c, rfl, (fun h => by omega), ⟨F, v15, v17, v18, v19, v20, v21, v22, QTm.mk ht hP hD hO hR, hF0, by omega, by omega⟩⟩, hS.F ht⟩) hS.2.2 dX15_check_31
  ·
    refine lv_iconst (v := 5) hx hb dX15_check_8 (by decide) ?_
    refine W.widen (k := 0) (n := 0) (by omega) (by omega) ?_
    exact W.iret (v := 5) hx hb hr (fun t ht hWm => ⟨⟨5, c, rfl, (fun h => by omega), ⟨F, v15, v17, v18, v19, v20, v21, v22, QTm.mk ht hP hD hO hR, hF0, by omega, by omega⟩⟩, hS.F ht⟩) hS.2.2 dX15_check_9
